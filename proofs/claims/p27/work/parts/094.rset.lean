section
def nxe (T : Nat → Int) (N : Int) (s : Int × Nat × List (Int × List (Int × Nat × Int))) : Int × Nat × List (Int × List (Int × Nat × Int)) := if s.1 = 0 then (if N ≤ ((s.2.1 : Nat) : Int) then s else (if T s.2.1 = 94 then (2, s.2.1 + 1, (1, []) :: s.2.2) else (1, s.2.1, (1, []) :: s.2.2))) else (if (TWF T N ((s.2.1 : Nat) : Int)).2.length = 0 then (0, (TWF T N ((s.2.1 : Nat) : Int)).1 + 1, (if s.1 = 2 then 4 else 3, []) :: s.2.2) else (s.1, (TWF T N ((s.2.1 : Nat) : Int)).1, (2, (TWF T N ((s.2.1 : Nat) : Int)).2) :: s.2.2))
def evs (T : Nat → Int) (N : Int) : Nat → Int × Nat × List (Int × List (Int × Nat × Int))
  | 0 => (0, 0, [])
  | k + 1 => nxe T N (evs T N k)
def RNE (T : Nat → Int) (N m : Int) (p : Int) (es : List (Int × List (Int × Nat × Int))) : Prop := 0 ≤ p ∧ ∃ k, evs T N k = (m, p.toNat, es)
def ENDV (T : Nat → Int) (N : Int) (es : List (Int × List (Int × Nat × Int))) : Prop := ∃ p, RNE T N 0 p es ∧ N ≤ p
def WSS (a : Nat → Nat → Int) (t : Int) (w : List (Int × Nat × Int)) (cs : List Int) (st : Nat → Int) : Prop := WST a t w cs ∧ (a 6 t.toNat ≠ 5 → ∃ ps, SPS a (lts w) t 0 ((w.length : Nat) : Int) 0 ps ∧ cs = cls ps ∧ st = fun j => bgn ps 0 j (-1)) ∧ (a 6 t.toNat = 5 → st = fun _ => -1)
def STV (a : Nat → Nat → Int) (t wd hy : Int) (e : (Int × List (Int × Nat × Int))) (D0 : List (List Int)) (b0 : Nat) (D : List (List Int)) (b : Nat) : Prop := (e.1 = 1 ∧ D0.length < 200 ∧ D = D0 ++ [[]] ∧ b = D0.length) ∨ (e.1 = 2 ∧ (∃ D1 x1 cs st, D0 = D1 ++ [x1] ∧ WSS a t e.2 cs st ∧ flw (brk a t e.2 st) wd hy cs 201 0 D1 x1 = some D) ∧ b = b0) ∨ (e.1 = 3 ∧ D = D0 ∧ b = b0) ∨ (e.1 = 4 ∧ D = cnl wd b0 D0 ∧ b = b0)
def drs (a : Nat → Nat → Int) (t wd hy : Int) : List (Int × List (Int × Nat × Int)) → List (List Int) → Nat → Prop
  | [], D, b => D = [] ∧ b = 0
  | e :: es, D, b => ∃ D0 b0, drs a t wd hy es D0 b0 ∧ STV a t wd hy e D0 b0 D b
def BADV (T : Nat → Int) (N : Int) (a : Nat → Nat → Int) (t wd hy : Int) : Prop := ∃ m p es, RNE T N m p es ∧ ¬ ∃ D b, drs a t wd hy es D b
def SHH (v : Nat → Int) (a : Nat → Nat → Int) (D : List (List Int)) : Prop := v 36 = ((D.length : Nat) : Int) ∧ ∀ (l : Nat) (xs : List Int), D[l]? = some xs → a 34 l = ((xs.length : Nat) : Int) ∧ ∀ (j : Nat) (x : Int), xs[j]? = some x → a 35 (200 * l + j) = x
def SETD (v : Nat → Int) (a : Nat → Nat → Int) (t f : Int) (D : List (List Int)) : Prop := WHL v a t ∧ ∃ es b, ENDV (a 29) (v 30) es ∧ drs a t (v 31) (v 33) es D b ∧ f = ((D.length : Nat) : Int)
def SETN (v : Nat → Int) (a : Nat → Nat → Int) (t f : Int) : Prop := f = -1 ∧ (¬ WHL v a t ∨ (WHL v a t ∧ BADV (a 29) (v 30) a t (v 31) (v 33)))
def KSH (v : Nat → Int) (a : Nat → Nat → Int) (v2 : Nat → Int) (a2 : Nat → Nat → Int) : Prop := v2 36 = v 36 ∧ a2 34 = a 34 ∧ a2 35 = a 35
def SETX (v : Nat → Int) (a : Nat → Nat → Int) (v2 : Nat → Int) (a2 : Nat → Nat → Int) (t f : Int) : Prop := (SETN v a t f ∧ KSH v a v2 a2) ∨ ∃ D, SETD v a t f D ∧ SHH v2 a2 D
section EVNS
variable {v v1 v2 v3 : Nat → Int} {a a1 a2 a3 : Nat → Nat → Int} {T W : Nat → Int} {N q u p b f f1 f2 z x y m t n wd hy l r k : Int} {w : List (Int × Nat × Int)} {es es2 : List (Int × List (Int × Nat × Int))} {D D2 D0 : List (List Int)} {b0 b1 b2 : Nat} {cs ds xs : List Int} {st st2 : Nat → Int} {ps : List (Int × List Int)}
theorem snocx {α : Type} : ∀ D : List α, D.length ≠ 0 → ∃ D1 u, D = D1 ++ [u] := by
  intro D
  induction D with
  | nil => intro h; exact absurd rfl h
  | cons x D ih =>
    intro _
    by_cases c : D.length = 0
    · have e := List.length_eq_zero_iff.mp c
      subst e
      exact ⟨[], x, rfl⟩
    · obtain ⟨D1, u, e⟩ := ih c
      exact ⟨x :: D1, u, by rw [e]; rfl⟩
theorem app_inj {α : Type} {D1 D2 : List α} {u m : α} (h : D1 ++ [u] = D2 ++ [m]) : D1 = D2 ∧ u = m := by
  have h1 := congrArg List.length h
  rw [len1, len1] at h1
  have e := List.append_inj h (by omega)
  exact ⟨e.1, by have e2 := e.2; injection e2⟩
theorem evs_s (k : Nat) : evs T N (k + 1) = nxe T N (evs T N k) := rfl
theorem nxe_ext (s : Int × Nat × List (Int × List (Int × Nat × Int))) : ∃ r, (nxe T N s).2.2 = r ++ s.2.2 := by
  unfold nxe
  split
  · split
    · exact ⟨[], rfl⟩
    · split
      · exact ⟨[_], rfl⟩
      · exact ⟨[_], rfl⟩
  · split
    · exact ⟨[_], rfl⟩
    · exact ⟨[_], rfl⟩
theorem evs_ext (k : Nat) : ∀ d : Nat, ∃ r, (evs T N (k + d)).2.2 = r ++ (evs T N k).2.2 := by
  intro d
  induction d with
  | zero => exact ⟨[], rfl⟩
  | succ d ih =>
    obtain ⟨r, h⟩ := ih
    obtain ⟨r2, h2⟩ := nxe_ext (T := T) (N := N) (evs T N (k + d))
    refine ⟨r2 ++ r, ?_⟩
    rw [← Nat.add_assoc, evs_s, h2, h, List.append_assoc]
theorem evs_end {P k : Nat} (h : evs T N k = (0, P, es)) (hN : N ≤ ((P : Nat) : Int)) : ∀ d : Nat, evs T N (k + d) = (0, P, es) := by
  intro d
  induction d with
  | zero => exact h
  | succ d ih =>
    rw [← Nat.add_assoc, evs_s, ih]
    unfold nxe
    rw [if_pos (by show (0 : Int) = 0; rfl), if_pos (by show N ≤ ((P : Nat) : Int); exact hN)]
theorem RNE.sub (h : RNE T N m p es) (h2 : ENDV T N es2) : ∃ r, es2 = r ++ es := by
  obtain ⟨_, k, e⟩ := h
  obtain ⟨p2, ⟨_, k2, e2⟩, hN⟩ := h2
  have e3 := evs_end e2 (by omega) k
  obtain ⟨r, h4⟩ := evs_ext (T := T) (N := N) k k2
  rw [Nat.add_comm k k2, e3, e] at h4
  exact ⟨r, h4⟩
theorem ENDV.uni (h : ENDV T N es) (h2 : ENDV T N es2) : es = es2 := by
  obtain ⟨p, g, gN⟩ := h
  obtain ⟨p2, g2, gN2⟩ := h2
  obtain ⟨r, e⟩ := g.sub ⟨p2, g2, gN2⟩
  obtain ⟨r2, e2⟩ := g2.sub ⟨p, g, gN⟩
  refine hv2 (congrArg List.length e) (congrArg List.length e2) (fun l1 l2 => ?_)
  rw [List.length_append] at l1 l2
  have e0 : r = [] := List.length_eq_zero_iff.mp (by omega)
  rw [e, e0]
  rfl
theorem RNE.zero : RNE T N 0 0 [] := ⟨Int.le_refl _, 0, rfl⟩
theorem nxe0 (P : Nat) (hP : ((P : Nat) : Int) < N) : nxe T N (0, P, es) = if T P = 94 then (2, P + 1, (1, []) :: es) else (1, P, (1, []) :: es) := by
  unfold nxe
  rw [if_pos (by show (0 : Int) = 0; rfl), if_neg (by show ¬ N ≤ ((P : Nat) : Int); omega)]
theorem nxe1 (P : Nat) (hP : ((P : Nat) : Int) = p) (hm : m ≠ 0) : nxe T N (m, P, es) = if (TWF T N p).2.length = 0 then (0, (TWF T N p).1 + 1, (if m = 2 then 4 else 3, []) :: es) else (m, (TWF T N p).1, (2, (TWF T N p).2) :: es) := by
  subst hP
  unfold nxe
  rw [if_neg (by show ¬ m = 0; exact hm)]
theorem RNE.enter (h : RNE T N 0 p es) (hp : p < N) (hz : (T p.toNat = 94 ∧ z = p + 1 ∧ m = 2) ∨ (T p.toNat ≠ 94 ∧ z = p ∧ m = 1)) : RNE T N m z ((1, []) :: es) := by
  obtain ⟨h0, k, e⟩ := h
  refine ⟨by omega, k + 1, ?_⟩
  rw [evs_s, e, nxe0 (N := N) p.toNat (by omega)]
  rcases hz with ⟨e1, e2, e3⟩ | ⟨e1, e2, e3⟩
  · rw [if_pos e1, e3, show z.toNat = p.toNat + 1 by omega]
  · rw [if_neg e1, e3, e2]
theorem RNE.word (h : RNE T N m p es) (hm : m ≠ 0) (hr : TWF T N p = (z.toNat, w)) (hz : 0 ≤ z) (hw : w.length ≠ 0) : RNE T N m z ((2, w) :: es) := by
  obtain ⟨h0, k, e⟩ := h
  refine hv2 (show (TWF T N p).2 = w from congrArg Prod.snd hr) (show (TWF T N p).1 = z.toNat from congrArg Prod.fst hr) (fun e3 e4 => ?_)
  refine ⟨hz, k + 1, ?_⟩
  rw [evs_s, e, nxe1 (p := p) p.toNat (by omega) hm, e3, e4, if_neg hw]
theorem RNE.line (h : RNE T N m p es) (hm : m ≠ 0) (hr : TWF T N p = (z.toNat, w)) (hz : 0 ≤ z) (hw : w.length = 0) : RNE T N 0 (z + 1) ((if m = 2 then 4 else 3, []) :: es) := by
  obtain ⟨h0, k, e⟩ := h
  refine hv2 (show (TWF T N p).2 = w from congrArg Prod.snd hr) (show (TWF T N p).1 = z.toNat from congrArg Prod.fst hr) (fun e3 e4 => ?_)
  refine ⟨by omega, k + 1, ?_⟩
  rw [evs_s, e, nxe1 (p := p) p.toNat (by omega) hm, e3, e4, if_pos hw, show (z + 1).toNat = z.toNat + 1 by omega]
theorem ptp.uni2 (hT : TBL v a) (ht : 0 ≤ t ∧ t < v 4) {qs : List (Int × List Int)} (h : SPS a W t 0 n 0 ps) (h2 : SPS a W t 0 n 0 qs) : ps = qs := by
  obtain ⟨⟨y, h1, h3⟩, _⟩ := h
  obtain ⟨⟨z, g1, g3⟩, _⟩ := h2
  exact ptp.uni hT ht.1 ht.2 h1 h3 g1 g3
theorem WSS.uni (hT : TBL v a) (ht : 0 ≤ t ∧ t < v 4) (h : WSS a t w cs st) (h2 : WSS a t w ds st2) : cs = ds ∧ st = st2 := by
  obtain ⟨p1, p2, p3⟩ := h
  obtain ⟨q1, q2, q3⟩ := h2
  refine ⟨SWC.uni hT ht p1 q1, ?_⟩
  by_cases c : a 6 t.toNat = 5
  · rw [p3 c, q3 c]
  · obtain ⟨ps, k1, _, k3⟩ := p2 c
    obtain ⟨qs, j1, _, j3⟩ := q2 c
    rw [k3, j3, ptp.uni2 hT ht k1 j1]
theorem STV.uni {e : (Int × List (Int × Nat × Int))} {B1 B2 : Nat} (hT : TBL v a) (ht : 0 ≤ t ∧ t < v 4) (h : STV a t wd hy e D0 b0 D B1) (h2 : STV a t wd hy e D0 b0 D2 B2) : D = D2 ∧ B1 = B2 := by
  rcases h with ⟨e1, _, e2, e3⟩ | ⟨e1, ⟨D1, x1, cs, st, k1, k2, k3⟩, e3⟩ | ⟨e1, e2, e3⟩ | ⟨e1, e2, e3⟩ <;> rcases h2 with ⟨d1, _, d2, d3⟩ | ⟨d1, ⟨D3, x3, ds, st3, j1, j2, j3⟩, d3⟩ | ⟨d1, d2, d3⟩ | ⟨d1, d2, d3⟩
  · exact ⟨e2.trans d2.symm, e3.trans d3.symm⟩
  · omega
  · omega
  · omega
  · omega
  · obtain ⟨i1, i2⟩ := app_inj (k1.symm.trans j1)
    obtain ⟨c1, c2⟩ := WSS.uni hT ht k2 j2
    subst i1
    subst i2
    subst c1
    subst c2
    rw [k3] at j3
    injection j3 with j4
    exact ⟨j4, e3.trans d3.symm⟩
  · omega
  · omega
  · omega
  · omega
  · exact ⟨e2.trans d2.symm, e3.trans d3.symm⟩
  · omega
  · omega
  · omega
  · omega
  · exact ⟨e2.trans d2.symm, e3.trans d3.symm⟩
theorem drs.uni (hT : TBL v a) (ht : 0 ≤ t ∧ t < v 4) : ∀ (es : List (Int × List (Int × Nat × Int))) (D D2 : List (List Int)) (B1 B2 : Nat), drs a t wd hy es D B1 → drs a t wd hy es D2 B2 → D = D2 ∧ B1 = B2 := by
  intro es
  induction es with
  | nil =>
    intro D D2 B1 B2 h h2
    obtain ⟨e1, e2⟩ := h
    obtain ⟨d1, d2⟩ := h2
    exact ⟨e1.trans d1.symm, e2.trans d2.symm⟩
  | cons e es ih =>
    intro D D2 B1 B2 h h2
    obtain ⟨D3, b3, g1, g2⟩ := h
    obtain ⟨D4, b4, j1, j2⟩ := h2
    obtain ⟨i1, i2⟩ := ih D3 D4 b3 b4 g1 j1
    subst i1
    subst i2
    exact STV.uni hT ht g2 j2
theorem drs.tail : ∀ (rs : List (Int × List (Int × Nat × Int))) (es : List (Int × List (Int × Nat × Int))) (D : List (List Int)) (B : Nat), drs a t wd hy (rs ++ es) D B → ∃ D2 B2, drs a t wd hy es D2 B2 := by
  intro rs
  induction rs with
  | nil => intro es D B h; exact ⟨D, B, h⟩
  | cons e rs ih =>
    intro es D B h
    obtain ⟨D3, b3, g1, _⟩ := h
    exact ih es D3 b3 g1
theorem BADV.no {B : Nat} (h : BADV T N a t wd hy) (h2 : ENDV T N es) (h3 : drs a t wd hy es D B) : False := by
  obtain ⟨m, p, es1, g1, g2⟩ := h
  obtain ⟨r, e⟩ := g1.sub h2
  subst e
  exact g2 (drs.tail r es1 D B h3)
theorem SETD.uni (hT : TBL v a) (h : SETD v a t f1 D) (h2 : SETD v a t f2 D2) : f1 = f2 ∧ D = D2 := by
  obtain ⟨w1, es1, b1, p1, p2, p3⟩ := h
  obtain ⟨_, es3, b3, q1, q2, q3⟩ := h2
  refine hv2 (WHL.tr w1) (p1.uni q1) (fun ht e => ?_)
  subst e
  obtain ⟨e1, _⟩ := drs.uni hT ⟨ht.1, ht.2.1⟩ es1 D D2 b1 b3 p2 q2
  subst e1
  exact ⟨p3.trans q3.symm, rfl⟩
theorem SETN.no (h : SETN v a t f1) (h2 : SETD v a t f2 D) : False := by
  obtain ⟨_, g⟩ := h
  obtain ⟨w1, es1, b1, p1, p2, _⟩ := h2
  rcases g with g | ⟨_, g⟩
  · exact g w1
  · exact g.no p1 p2
theorem fnd_rng (hT : TBL v a) (h30 : v 4 ≤ 30) (h10 : ∀ i, a 10 i ≤ 200) : ∀ (n : Nat) (W : Nat → Int) (t r : Int), 0 ≤ t → t < v 4 → fnd a q u x n W t r → FNP a u x r := by
  intro n
  induction n with
  | zero => intro W t r _ _ h; exact False.elim h
  | succ n ih =>
    intro W t r h0 h4 h
    have ht := hT.1 t h0 h4
    have t8 : 1 ≤ a 6 t.toNat → a 6 t.toNat ≤ 3 → 0 ≤ a 8 t.toNat ∧ a 8 t.toNat < v 4 := by omega
    have t6 : a 6 t.toNat ≠ 1 → a 6 t.toNat ≠ 2 → a 6 t.toNat ≠ 3 → a 6 t.toNat < 1 ∨ 3 < a 6 t.toNat := by omega
    clear ht
    rw [fnd_s] at h
    obtain ⟨p1, p2, p3, p4⟩ := h
    by_cases k1 : a 6 t.toNat = 1
    · obtain ⟨y, z, e1, e2, e3⟩ := p1 k1
      rw [e3]
      exact cmb_rg (P := FNP a u x) (own_rg hT h30 h0 h4 (h10 _) e1) (ih W _ z (t8 (by omega) (by omega)).1 (t8 (by omega) (by omega)).2 e2)
    · by_cases k2 : a 6 t.toNat = 2
      · by_cases c : isD (W x.toNat)
        · exact own_rg hT h30 h0 h4 (h10 _) ((p2 k2).1 c)
        · exact ih W _ r (t8 (by omega) (by omega)).1 (t8 (by omega) (by omega)).2 ((p2 k2).2 c)
      · by_cases k3 : a 6 t.toNat = 3
        · obtain ⟨y, z, e1, e2, e3⟩ := p3 k3
          rw [e3]
          exact cmb_rg (P := FNP a u x) (own_rg hT h30 h0 h4 (h10 _) e1) (ih _ _ z (t8 (by omega) (by omega)).1 (t8 (by omega) (by omega)).2 e2)
        · exact own_rg hT h30 h0 h4 (h10 _) (p4 (t6 k1 k2 k3))
theorem PC1.rg (hT : TBL v a) (h30 : v 4 ≤ 30) (h10 : ∀ i, a 10 i ≤ 200) (ht : 0 ≤ t ∧ t < v 4) (h : PC1 a W t q u x l cs) : 1 ≤ l ∧ 1 ≤ cs.length := by
  obtain ⟨r, ⟨r0, e⟩, p⟩ := h
  rcases p with ⟨p4, p5⟩ | ⟨_, _, p6, p7⟩
  · have g := fnd_rng hT h30 h10 _ _ _ _ ht.1 ht.2 p4
    rcases g with g | ⟨g1, g2, g3, g4, g5⟩
    · omega
    · have e2 := RCL.len (a := a) (r := r) (by omega)
      rw [p5, List.length_append]
      omega
  · have g := fnd_rng hT h30 h10 _ _ _ _ ht.1 ht.2 p6
    rcases g with g | ⟨g1, g2, g3, g4, g5⟩
    · omega
    · have e2 := RCL.len (a := a) (r := r) (by omega)
      rw [p7, List.length_append]
      omega
theorem bgn_lt {i : Nat} : ∀ (ps : List (Int × List Int)) (m d : Int), (∀ p ∈ ps, 1 ≤ p.2.length) → d < m + (((cls ps).length : Nat) : Int) → bgn ps m i d < m + (((cls ps).length : Nat) : Int) := by
  intro ps
  induction ps with
  | nil => intro m d _ h; exact h
  | cons p ps ih =>
    intro m d hp h
    have e := hp p List.mem_cons_self
    rw [cls_cons, List.length_append] at h ⊢
    have g := ih (m + ((p.2.length : Nat) : Int)) (if i = p.1.toNat then m else d) (fun q hq => hp q (List.mem_cons_of_mem _ hq)) (by push_cast at h; split <;> omega)
    show bgn ps (m + ((p.2.length : Nat) : Int)) i (if i = p.1.toNat then m else d) < _
    push_cast
    omega
theorem ptp.ne (hl : ∀ x l cs, PC1 a W t q u x l cs → 1 ≤ l ∧ 1 ≤ cs.length) : ∀ (ps : List (Int × List Int)) (x y : Int), ptp a W t q u x ps y → ∀ p ∈ ps, 1 ≤ p.2.length := by
  intro ps
  induction ps with
  | nil => intro x y _ p hp; cases hp
  | cons p0 ps ih =>
    intro x y h p hp
    obtain ⟨_, _, l, h3, h4⟩ := h
    rcases List.mem_cons.mp hp with e | e
    · rw [e]; exact (hl x l _ h3).2
    · exact ih _ _ h4 p e
theorem ptp.mono (hl : ∀ x l cs, PC1 a W t q u x l cs → 1 ≤ l ∧ 1 ≤ cs.length) {i j : Nat} (hij : i < j) : ∀ (ps : List (Int × List Int)) (x m di dj : Int), ptp a W t q u x ps y → 0 ≤ x → 0 ≤ m → (0 ≤ di → 0 ≤ dj → di ≤ dj) → (x ≤ ((j : Nat) : Int) → dj = -1) → di ≤ m → dj ≤ m → 0 ≤ bgn ps m i di → 0 ≤ bgn ps m j dj → bgn ps m i di ≤ bgn ps m j dj := by
  intro ps
  induction ps with
  | nil => intro x m di dj _ _ _ c1 _ _ _ h1 h2; exact c1 h1 h2
  | cons p ps ih =>
    intro x m di dj h h0 hm c1 c2 c3 c4 h1 h2
    obtain ⟨_, e, l, h3, h4⟩ := h
    refine hv2 ((hl x l _ h3).1) (show p.1.toNat = x.toNat from by rw [e]) (fun l1 ex => ?_)
    refine ih (x + l) (m + ((p.2.length : Nat) : Int)) _ _ h4 (by omega) (by omega) ?_ ?_ ?_ ?_ h1 h2
    · intro g1 g2
      by_cases ci : i = p.1.toNat
      · rw [if_pos ci] at g1 ⊢
        rw [if_neg (by omega)] at g2 ⊢
        have := c2 (by omega)
        omega
      · rw [if_neg ci] at g1 ⊢
        by_cases cj : j = p.1.toNat
        · rw [if_pos cj]
          exact c3
        · rw [if_neg cj] at g2 ⊢
          exact c1 g1 g2
    · intro g
      rw [if_neg (by omega)]
      exact c2 (by omega)
    · split <;> omega
    · split <;> omega
theorem WSS.lt (hT : TBL v a) (h30 : v 4 ≤ 30) (h10 : ∀ i, a 10 i ≤ 200) (ht : 0 ≤ t ∧ t < v 4) (h : WSS a t w cs st) (h5 : a 6 t.toNat ≠ 5) (j : Nat) : st j < ((cs.length : Nat) : Int) := by
  obtain ⟨ps, ⟨⟨y, k1, _⟩, _⟩, k2, k3⟩ := h.2.1 h5
  rw [k3, k2]
  have g := bgn_lt (i := j) ps 0 (-1) (ptp.ne (fun x l cs hp => PC1.rg hT h30 h10 ht hp) ps 0 y k1) (by omega)
  rw [Int.zero_add] at g
  exact g
theorem WSS.mono (hT : TBL v a) (h30 : v 4 ≤ 30) (h10 : ∀ i, a 10 i ≤ 200) (ht : 0 ≤ t ∧ t < v 4) (h : WSS a t w cs st) (h5 : a 6 t.toNat ≠ 5) {i j : Nat} (hij : i < j) (h1 : 0 ≤ st i) (h2 : 0 ≤ st j) : st i ≤ st j := by
  obtain ⟨ps, ⟨⟨y, k1, _⟩, _⟩, k2, k3⟩ := h.2.1 h5
  rw [k3] at h1 h2 ⊢
  exact ptp.mono (fun x l cs hp => PC1.rg hT h30 h10 ht hp) hij ps 0 0 (-1) (-1) k1 (by omega) (by omega) (fun g => absurd g (by decide)) (fun _ => rfl) (by decide) (by decide) h1 h2
theorem SWT.wss (hs : SWT v1 a1 v2 a2 t f) (hb : SWB v1 a1 v2 a2 t f) (hf : f = 1) (hT : TBL v a) (h30 : v 4 ≤ 30) (h10 : ∀ i, a 10 i ≤ 200) (ht : 0 ≤ t ∧ t < v 4) (hE : TBE a1 a) (hw : WDH v1 a1 w) (h12 : ∀ i, 0 ≤ a 12 i) : ∃ cs st, WSS a t w cs st ∧ MDH v2 a2 cs ∧ (a 6 t.toNat ≠ 5 → ∀ j : Nat, j < w.length → a2 26 j = st j ∧ st j < ((cs.length : Nat) : Int)) := by
  refine hv3 (lts_w hw) (hw.1) (hE 6 (by decide)) (fun ag e e6 => ?_)
  obtain ⟨cs, g1, g2⟩ := hs.2.1 hf
  rw [e] at g1
  have ws : WST a t w cs := SWC_w ag h12 (SWC_cg hE g1)
  by_cases h5 : a 6 t.toNat = 5
  · exact ⟨cs, fun _ => -1, ⟨ws, fun c => absurd h5 c, fun _ => rfl⟩, g2, fun c => absurd h5 c⟩
  · obtain ⟨ps, k1, k2, k3⟩ := hb hf (by rw [e6]; exact h5)
    rw [e] at k1 k3
    have k4 := SPS_cg hE k1
    have k5 : SPS a (lts w) t 0 ((w.length : Nat) : Int) 0 ps := by
      obtain ⟨⟨y, j1, j2⟩, j3⟩ := k4
      exact ⟨⟨y, ptp_w ag (Int.le_refl _) h12 ps 0 y (Int.le_refl _) j1, j2⟩, j3⟩
    have ec : cs = cls ps := SWC.uni hT ht ws (Or.inl ⟨h5, ps, k5, rfl⟩)
    have wss : WSS a t w cs (fun j => bgn ps 0 j (-1)) := ⟨ws, fun _ => ⟨ps, k5, ec, rfl⟩, fun c => absurd c h5⟩
    exact ⟨cs, _, wss, g2, fun _ j hj => ⟨k3 j (by omega), wss.lt hT h30 h10 ht h5 j⟩⟩
theorem SWC.pos (hT : TBL v a) (h30 : v 4 ≤ 30) (h10 : ∀ i, a 10 i ≤ 200) (h16 : ∀ i, 0 ≤ a 16 i) (ht : 0 ≤ t ∧ t < v 4) (hn : 0 < n) (h : SWC a W n t cs) : 1 ≤ cs.length := by
  rcases h with ⟨_, ps, ⟨⟨y, k1, k2⟩, _⟩, k3⟩ | ⟨h5, _, js, ps, g, x, k1, k2, k3⟩
  · cases ps with
    | nil => cases k1; omega
    | cons p ps =>
      have g := ptp.ne (fun x l cs hp => PC1.rg hT h30 h10 ht hp) _ 0 y k1 p List.mem_cons_self
      rw [k3, cls_cons, List.length_append]
      omega
  · have tt := hT.1 t ht.1 ht.2
    cases js with
    | cons p js =>
      obtain ⟨_, _, k4, _⟩ := k1
      have e := ICL.len (a := a) (r := ind4 t 0) (h16 _)
      rw [k3]
      show 1 ≤ (((cls p.2 ++ ICL a (ind4 t 0)) ++ jcl a t (1 - 0) js) ++ cls ps).length
      rw [List.length_append, List.length_append, List.length_append]
      omega
    | nil =>
      obtain ⟨e1, e2⟩ := k1
      obtain ⟨_, _, _, z, j1, j2⟩ := k2
      cases ps with
      | nil => cases j1; omega
      | cons p ps =>
        have tp : 0 ≤ prt a t g ∧ prt a t g < v 4 := by
          unfold prt
          split <;> omega
        have g := ptp.ne (fun x l cs hp => PC1.rg hT h30 h10 tp hp) _ _ z j1 p List.mem_cons_self
        rw [k3, cls_cons, List.length_append, List.length_append]
        omega
theorem flw_len {br : Int → Int → Int} : ∀ (n d : Nat) (D : List (List Int)) (xs : List Int) (D2 : List (List Int)), flw br wd hy cs n d D xs = some D2 → D.length + 1 ≤ D2.length := by
  intro n
  induction n with
  | zero => intro d D xs D2 h; cases h
  | succ n ih =>
    intro d D xs D2 h
    rw [flw_s] at h
    split at h
    · injection h with h1
      rw [← h1, len1]
      exact Nat.le_refl _
    · split at h
      · split at h
        · have g := ih _ _ _ _ h
          rw [len1] at g
          omega
        · cases h
      · split at h
        · injection h with h1
          rw [← h1, len1]
          exact Nat.le_refl _
        · split at h
          · have g := ih _ _ _ _ h
            rw [len1] at g
            omega
          · cases h
end EVNS
def SE2 (v : Nat → Int) (a : Nat → Nat → Int) (v1 : Nat → Int) (a1 : Nat → Nat → Int) (t x : Int) : Prop := ∃ es D b, RNE (a 29) (v 30) 0 x es ∧ drs a t (v 31) (v 33) es D b ∧ DRH v1 a1 D
def SE3 (v : Nat → Int) (a : Nat → Nat → Int) (v1 : Nat → Int) (a1 : Nat → Nat → Int) (t g q p : Int) : Prop := ∃ es D b, RNE (a 29) (v 30) (1 + g) p es ∧ drs a t (v 31) (v 33) es D b ∧ DRH v1 a1 D ∧ ((b : Nat) : Int) = q ∧ b < D.length
def SE4 (v : Nat → Int) (a : Nat → Nat → Int) (v1 : Nat → Int) (a1 : Nat → Nat → Int) (t g q z : Int) : Prop := ∃ p w, SE3 v a v1 a1 t g q p ∧ TWF (a 29) (v 30) p = (z.toNat, w) ∧ WDH v1 a1 w
def SC1 (a1 : Nat → Nat → Int) (y : Int) : Prop := ∀ l : Nat, ((l : Nat) : Int) < y → a1 34 l = a1 37 l ∧ ∀ j : Nat, ((j : Nat) : Int) < a1 37 l → a1 35 (200 * l + j) = a1 38 (200 * l + j)
def SC2 (a1 : Nat → Nat → Int) (y z : Int) : Prop := SC1 a1 y ∧ a1 34 y.toNat = a1 37 y.toNat ∧ ∀ j : Nat, ((j : Nat) : Int) < z → a1 35 (200 * y.toNat + j) = a1 38 (200 * y.toNat + j)
def SE5 (v : Nat → Int) (a : Nat → Nat → Int) (v1 : Nat → Int) (a1 : Nat → Nat → Int) (t : Int) : Prop := ∃ es D b, ENDV (a 29) (v 30) es ∧ drs a t (v 31) (v 33) es D b ∧ DRH v1 a1 D ∧ v1 36 = v1 39
section RSET
variable {v v1 v2 v3 : Nat → Int} {a a1 a2 a3 : Nat → Nat → Int} {q u p b f f1 f2 z x y m t n g k c : Int} {w : List (Int × Nat × Int)} {es : List (Int × List (Int × Nat × Int))} {D : List (List Int)} {i i2 : Nat} {cs : List Int} {st : Nat → Int}
theorem SE2.init (h : v1 39 = 0) : SE2 v a v1 a1 t 0 := ⟨[], [], 0, RNE.zero, ⟨rfl, rfl⟩, h, fun l xs e => by simp at e⟩
theorem SE2.fr (h : SE2 v a v1 a1 t x) (hv : v2 39 = v1 39) (h37 : a2 37 = a1 37) (h38 : a2 38 = a1 38) : SE2 v a v2 a2 t x := by
  obtain ⟨es, D, b, h1, h2, h3⟩ := h
  exact ⟨es, D, b, h1, h2, h3.fr hv h37 h38⟩
theorem SE2.enter (h : SE2 v a v1 a1 t x) (hx : x < v 30) (hz : (a 29 x.toNat = 94 ∧ y = x + 1 ∧ g = 1) ∨ (a 29 x.toNat ≠ 94 ∧ y = x ∧ g = 0)) (hn : NLX v1 a1 v2 a2 f) (hf : f = 1) (h5 : q = v1 39) : SE3 v a v2 a2 t g q y := by
  obtain ⟨es, D, b, h1, h2, h3⟩ := h
  rcases hn D h3 with ⟨_, n2, n3⟩ | ⟨n1, _⟩
  · refine ⟨_, _, D.length, h1.enter hx (z := y) (m := 1 + g) (by omega), ⟨D, b, h2, Or.inl ⟨rfl, n2, rfl, rfl⟩⟩, n3, ?_, by rw [len1]; omega⟩
    rw [h5]
    exact h3.1.symm
  · omega
theorem SE2.nroom (h : SE2 v a v1 a1 t x) (hx : x < v 30) (hT : TBL v a) (ht : 0 ≤ t ∧ t < v 4) (hn : NLX v1 a1 v2 a2 f) (hf : f ≠ 1) : BADV (a 29) (v 30) a t (v 31) (v 33) := by
  obtain ⟨es, D, b, h1, h2, h3⟩ := h
  rcases hn D h3 with ⟨n1, _⟩ | ⟨_, n2⟩
  · exact absurd n1 hf
  · have no : ∀ D2 b2, ¬ drs a t (v 31) (v 33) ((1, []) :: es) D2 b2 := fun D2 b2 g => by
      obtain ⟨D0, b0, g1, g2⟩ := g
      obtain ⟨e1, _⟩ := drs.uni hT ht es D0 D b0 b g1 h2
      subst e1
      rcases g2 with ⟨_, q2, _⟩ | ⟨q1, _⟩ | ⟨q1, _⟩ | ⟨q1, _⟩
      · omega
      · exact absurd q1 (by decide)
      · exact absurd q1 (by decide)
      · exact absurd q1 (by decide)
    by_cases c : a 29 x.toNat = 94
    · exact ⟨2, x + 1, _, h1.enter hx (Or.inl ⟨c, rfl, rfl⟩), fun ⟨D2, b2, g⟩ => no D2 b2 g⟩
    · exact ⟨1, x, _, h1.enter hx (Or.inr ⟨c, rfl, rfl⟩), fun ⟨D2, b2, g⟩ => no D2 b2 g⟩
theorem SE3.take (h : SE3 v a v1 a1 t g q p) (hx : TKX (a 29) (v 30) v2 a2 p z) (hv : v2 39 = v1 39) (h37 : a2 37 = a1 37) (h38 : a2 38 = a1 38) : SE4 v a v2 a2 t g q z := by
  obtain ⟨w, h1, h2⟩ := hx
  obtain ⟨es, D, b, k1, k2, k3, k4, k5⟩ := h
  exact ⟨p, w, ⟨es, D, b, k1, k2, k3.fr hv h37 h38, k4, k5⟩, h1, h2⟩
theorem SE4.lineC (h : SE4 v a v1 a1 t g q z) (h23 : v1 23 = 0) (hz : 0 ≤ z) (hg : g = 1) (h31 : v1 31 = v 31) (hc : CNX v1 a1 v2 a2 q) : SE2 v a v2 a2 t (z + 1) := by
  obtain ⟨p, w, ⟨es, D, b, k1, k2, k3, k4, k5⟩, h1, h2⟩ := h
  have e := h2.1
  have g1 := k1.line (by omega) h1 hz (by omega)
  rw [if_pos (by omega)] at g1
  refine ⟨_, _, b, g1, ⟨D, b, k2, Or.inr (Or.inr (Or.inr ⟨rfl, rfl, rfl⟩))⟩, ?_⟩
  have g2 := hc D k3
  rw [h31, show q.toNat = b by omega] at g2
  exact g2
theorem SE4.lineN (h : SE4 v a v1 a1 t g q z) (h23 : v1 23 = 0) (hz : 0 ≤ z) (hg : g = 0) : SE2 v a v1 a1 t (z + 1) := by
  obtain ⟨p, w, ⟨es, D, b, k1, k2, k3, k4, k5⟩, h1, h2⟩ := h
  have e := h2.1
  have g1 := k1.line (by omega) h1 hz (by omega)
  rw [if_neg (by omega)] at g1
  exact ⟨_, _, b, g1, ⟨D, b, k2, Or.inr (Or.inr (Or.inl ⟨rfl, rfl, rfl⟩))⟩, k3⟩
theorem SE4.bad (h : SE4 v a v1 a1 t g q z) (hg : g = 0 ∨ g = 1) (hz : 0 ≤ z) (h23 : v1 23 ≠ 0) (hs : SWT v1 a1 v2 a2 t f) (hf : f ≠ 1) (hE : TBE a1 a) (h12 : ∀ i, 0 ≤ a 12 i) (h13 : ∀ i, 0 ≤ a1 12 i) : BADV (a 29) (v 30) a t (v 31) (v 33) := by
  obtain ⟨p, w, ⟨es, D, b, k1, k2, k3, k4, k5⟩, h1, h2⟩ := h
  have e := h2.1
  refine ⟨_, _, _, k1.word (by omega) h1 hz (by omega), fun ⟨D2, b2, D0, b0, _, j2⟩ => ?_⟩
  rcases j2 with ⟨q1, _⟩ | ⟨_, ⟨D1, x1, cs, st, _, j4, _⟩, _⟩ | ⟨q1, _⟩ | ⟨q1, _⟩
  · exact absurd (show (2 : Int) = 1 from q1) (by decide)
  · exact (hs.wst hE h2 h12 h13).2 hf ⟨cs, j4.1⟩
  · exact absurd (show (2 : Int) = 3 from q1) (by decide)
  · exact absurd (show (2 : Int) = 4 from q1) (by decide)
theorem SE4.flow (h : SE4 v a v1 a1 t g q z) (hg : g = 0 ∨ g = 1) (hz : 0 ≤ z) (h23 : v1 23 ≠ 0) (hT : TBL v a) (h30 : v 4 ≤ 30) (h10 : ∀ i, a 10 i ≤ 200) (ht : 0 ≤ t ∧ t < v 4) (hs : SWT v1 a1 v2 a2 t f1) (hb : SWB v1 a1 v2 a2 t f1) (hf : f1 = 1) (hE : TBE a1 a) (h12 : ∀ i, 0 ≤ a 12 i) (h6 : a2 6 = a 6) (h21 : a2 21 = a1 21) (h22 : a2 22 = a1 22) (v23 : v2 23 = v1 23) (v39 : v2 39 = v1 39) (h37 : a2 37 = a1 37) (h38 : a2 38 = a1 38) (v31 : v2 31 = v 31) (v33 : v2 33 = v 33) (hF : FLT v2 a2 v3 a3 t f2) : (f2 = 1 → SE3 v a v3 a3 t g q z) ∧ (f2 ≠ 1 → BADV (a 29) (v 30) a t (v 31) (v 33)) := by
  obtain ⟨p, w, ⟨es, D, b, k1, k2, k3, k4, k5⟩, h1, h2⟩ := h
  have e := h2.1
  obtain ⟨cs, st, w1, w2, w3⟩ := hs.wss hb hf hT h30 h10 ht hE h2 h12
  obtain ⟨D1, x1, eD⟩ := snocx D (by omega)
  have cx : FCX v2 a2 t D1 x1 cs w st := ⟨by rw [← eD]; exact k3.fr v39 h37 h38, w2, ⟨v23.trans e, fun j y ej => by rw [hs.1, h21, h22]; exact h2.2 j y ej⟩, by unfold BGT; rw [h6]; exact w3⟩
  obtain ⟨F1, F2⟩ := hF D1 x1 cs w st cx
  have eV : FLV v2 a2 t D1 x1 cs w st = flw (brk a t w st) (v 31) (v 33) cs 201 0 D1 x1 := by
    unfold FLV brk
    rw [h6, v31, v33]
  rw [eV] at F1 F2
  have rn := k1.word (by omega) h1 hz (by omega)
  refine ⟨fun c => ?_, fun c => ?_⟩
  · obtain ⟨D2, g1, g2⟩ := F1 c
    refine hv2 (flw_len _ _ _ _ _ g1) (congrArg List.length eD) (fun gl el => ?_)
    rw [len1] at el
    exact ⟨_, D2, b, rn, ⟨D, b, k2, Or.inr (Or.inl ⟨rfl, ⟨D1, x1, cs, st, eD, w1, g1⟩, rfl⟩)⟩, g2, k4, by omega⟩
  · have g1 := F2 c
    refine ⟨_, _, _, rn, fun ⟨D2, b2, D0, b0, j1, j2⟩ => ?_⟩
    obtain ⟨e1, _⟩ := drs.uni hT ht es D0 D b0 b j1 k2
    subst e1
    rcases j2 with ⟨q1, _⟩ | ⟨_, ⟨D3, x3, ds, s3, j3, j4, j5⟩, _⟩ | ⟨q1, _⟩ | ⟨q1, _⟩
    · exact absurd (show (2 : Int) = 1 from q1) (by decide)
    · obtain ⟨i1, i2⟩ := app_inj (eD.symm.trans j3)
      obtain ⟨c1, c2⟩ := WSS.uni hT ht w1 j4
      subst i1
      subst i2
      subst c1
      subst c2
      rw [g1] at j5
      cases j5
    · exact absurd (show (2 : Int) = 3 from q1) (by decide)
    · exact absurd (show (2 : Int) = 4 from q1) (by decide)
theorem SE2.fin (h : SE2 v a v1 a1 t x) (hx : v 30 ≤ x) (hv : v2 39 = v1 39) (h36 : v2 36 = v1 39) : SE5 v a v2 a1 t := by
  obtain ⟨es, D, b, h1, h2, h3⟩ := h
  exact ⟨es, D, b, ⟨x, h1, hx⟩, h2, h3.fr hv rfl rfl, by omega⟩
theorem SE5.fr (h : SE5 v a v1 a1 t) (h37 : a2 37 = a1 37) (h38 : a2 38 = a1 38) : SE5 v a v1 a2 t := by
  obtain ⟨es, D, b, h1, h2, h3, h4⟩ := h
  exact ⟨es, D, b, h1, h2, h3.fr rfl h37 h38, h4⟩
theorem SC1.init (hy : y = 0) : SC1 a1 y := fun l hl => absurd hl (by omega)
theorem SC1.go (h : SC1 a1 y) (hy : 0 ≤ y) (hi : i = y.toNat) (hz : z = a1 37 y.toNat) : SC2 (up2 a1 34 i z) y 0 := by
  subst hi
  refine ⟨fun l hl => ?_, ?_, fun j hj => absurd hj (by omega)⟩
  · obtain ⟨g1, g2⟩ := h l hl
    refine ⟨by rw [up2_j (by omega), up2_k (by decide)]; exact g1, fun j hj => ?_⟩
    rw [up2_k (by decide)] at hj
    rw [up2_k (by decide), up2_k (by decide)]
    exact g2 j hj
  · rw [up2_s, up2_k (by decide)]
    exact hz
theorem SC2.mv (h : SC2 a1 y k) (hb : ∀ l, a1 37 l ≤ 200) (hy : 0 ≤ y) (hk : 0 ≤ k ∧ k < 200) (hi : i = (200 * y + k).toNat) (hz : z = a1 38 (200 * y + k).toNat) : SC2 (up2 a1 35 i z) y (k + 1) := by
  obtain ⟨h1, h2, h3⟩ := h
  refine hv2 (show i = 200 * y.toNat + k.toNat from by omega) (show z = a1 38 i from by rw [hz, hi]) (fun ei ez => ?_)
  refine ⟨fun l hl => ?_, by rw [up2_k (by decide), up2_k (by decide)]; exact h2, fun j hj => ?_⟩
  · obtain ⟨g1, g2⟩ := h1 l hl
    have b1 := hb l
    refine ⟨by rw [up2_k (by decide), up2_k (by decide)]; exact g1, fun j hj => ?_⟩
    rw [up2_k (by decide)] at hj
    rw [up2_j (by omega), up2_k (by decide)]
    exact g2 j hj
  · by_cases c : ((j : Nat) : Int) = k
    · rw [show 200 * y.toNat + j = i by omega, up2_s, up2_k (by decide)]
      exact ez
    · rw [up2_j (by omega), up2_k (by decide)]
      exact h3 j (by omega)
theorem SC2.fin (h : SC2 a1 y k) (hy : 0 ≤ y) (hk : a1 37 y.toNat ≤ k) : SC1 a1 (y + 1) := fun l hl => by
  by_cases c : ((l : Nat) : Int) < y
  · exact h.1 l c
  · have e : l = y.toNat := by omega
    subst e
    exact ⟨h.2.1, fun j hj => h.2.2 j (by omega)⟩
theorem SETX.ok (hw : WHL v a t) (h : SE5 v a v1 a1 t) (hc : SC1 a1 y) (hy : v1 36 ≤ y) (hf : f = v1 36) (h36 : v2 36 = v1 36) (h34 : a2 34 = a1 34) (h35 : a2 35 = a1 35) : SETX v a v2 a2 t f := by
  obtain ⟨es, D, b, h1, h2, h3, h4⟩ := h
  have e := h3.1
  refine Or.inr ⟨D, ⟨hw, es, b, h1, h2, by omega⟩, by omega, fun l xs ex => ?_⟩
  have lt := gl3 ex
  obtain ⟨g1, g2⟩ := h3.2 l xs ex
  obtain ⟨c1, c2⟩ := hc l (by omega)
  rw [h34, h35]
  refine ⟨c1.trans g1, fun j z ej => ?_⟩
  have lj := gl3 ej
  rw [c2 j (by omega)]
  exact g2 j z ej
theorem SETX.n1 (h : ¬ WHL v a t) (hf : f = -1) (hk : KSH v a v2 a2) : SETX v a v2 a2 t f := Or.inl ⟨⟨hf, Or.inl h⟩, hk⟩
theorem SETX.n2 (hw : WHL v a t) (h : BADV (a 29) (v 30) a t (v 31) (v 33)) (hf : f = -1) (hk : KSH v a v2 a2) : SETX v a v2 a2 t f := Or.inl ⟨⟨hf, Or.inr ⟨hw, h⟩⟩, hk⟩
theorem KSH.refl : KSH v a v a := ⟨rfl, rfl, rfl⟩
theorem KSH.fr {V A : List Nat} (h : KSH v a v1 a1) (f1 : fr V A v1 a1 v2 a2) (h36 : V.contains 36 = false) (h34 : A.contains 34 = false) (h35 : A.contains 35 = false) : KSH v a v2 a2 := ⟨(f1.1 36 h36).trans h.1, (f1.2 34 h34).trans h.2.1, (f1.2 35 h35).trans h.2.2⟩
theorem SWT.pos (hs : SWT v1 a1 v2 a2 t f) (hf : f = 1) (hT : TBL v1 a1) (hB : BX v1 a1) (ht : 0 ≤ t ∧ t < v1 4) (hn : 0 < v1 23) : 1 ≤ v2 25 := by
  obtain ⟨cs, g1, g2⟩ := hs.2.1 hf
  refine hv2 (SWC.pos hT (hB.1 4).2 (fun i => (hB.2 10 i).2) (fun i => (hB.2 16 i).1) ht hn g1) (g2.1) (fun g e => ?_)
  omega
end RSET
set_option maxHeartbeats 4000000 in
set_option maxRecDepth 100000 in
theorem N2_set {l : Launch} {G : GT} {h0 : Nat} {ad ln : Nat → Nat} {v : Nat → Int} {a : Nat → Nat → Int}  {t : Int} (hB : BX v a) (hT : TBL v a) (ht : -2147483648 ≤ t ∧ t ≤ 2147483647) : Mm l G yX12_set cX12_set 7 (some .int) 66 [.int (iI t)] h0 ad ln v a 0 0 (fun r v2 a2 => ∃ f : Int, r = some (.int (iI f)) ∧ fr [0, 1, 23, 25, 28, 36, 39] [20, 21, 22, 24, 26, 27, 34, 35, 37, 38] v a v2 a2 ∧ BX v2 a2 ∧ (SETX v a v2 a2 t f)) := by
  refine Mm.mk (by decide) (Nat.le_of_ble_eq_true rfl) ?_
  intro p e s m args below meth c A C
  refine hv3 (show 0 ≤ v 4 ∧ v 4 ≤ 30 from hB.1 4) (show 0 ≤ v 30 ∧ v 30 ≤ 500 from hB.1 30) (show fr [0, 1, 23, 25, 28, 36, 39] [20, 21, 22, 24, 26, 27, 34, 35, 37, 38] v a v a from fr.refl) (fun h30 r30 fp0 => ?_)
  refine m_aload_n (j := 0) C dX12_set_0 rfl ?_
  refine m_iload_n (j := 1) C dX12_set_1 rfl ?_
  have rv1 : 0 ≤ v 4 ∧ v 4 ≤ 30 := hB.1 4
  refine m_call (mc2 := 0) (ms2 := 0) (As := [.int (iI t)]) (rest := []) C (E_isWhole (t := t) hB (hT.fr fp0 rfl rfl) (by show -2147483648 ≤ t ∧ t ≤ 2147483647; omega)) dX12_set_2 kV_X12_171 rfl ck_13 rfl (Nat.le_of_ble_eq_true rfl) ⟨Nat.le_of_ble_eq_true rfl, Nat.le_of_ble_eq_true rfl⟩ ⟨Nat.le_of_ble_eq_true rfl, Nat.le_of_ble_eq_true rfl⟩ (fun rh1 vh1 ah1 h1 => ?_)
  obtain ⟨f1, rfl, fn1, bn1, ex1⟩ := h1
  obtain ⟨rfl, rfl⟩ := fn1.eq
  obtain ⟨ex1, tl1⟩ := ex1
  have gf1 : f1 = 0 ∨ (f1 = 1 ∧ 0 ≤ t ∧ t < (v 4)) := ex1
  refine m_st (st2 := [.int (iI f1)]) rfl ?_
  refine m_if_ne (tgt := 14) C (r32_0p gf1) dX12_set_5 (by decide) (fun c1 => ?_) (fun c1 => ?_)
  · replace gf1 := (gf1.resolve_left c1)
    refine m_aload_n (j := 0) C dX12_set_14 rfl ?_
    refine m_iconst C dX12_set_15 ?_
    refine m_put (k := 39) (z := 0) C dX12_set_16 w6_98 (by decide) rfl rfl rfl ?_
    refine hv2 (show BX (va_up v 39 0) a from hB.put (k := 39) (z := 0) ⟨by decide, by decide⟩) (fp0.put (k := 39) (z := 0) rfl) (fun bq1 fq2 => ?_)
    refine m_iconst C dX12_set_19 ?_
    refine m_istore_n (lv2 := [(2, .int (iI 0)), (0, .ref h0), (1, .int (iI t))]) C dX12_set_20 (by decide) rfl ?_
    have Lp1 : ∀ (nn : Nat) (x : Int) (vb1 : Nat → Int) (ab1 : Nat → Nat → Int), 502 - x < (nn : Int) → BX vb1 ab1 → fr [0, 1, 23, 25, 28, 36, 39] [20, 21, 22, 24, 26, 27, 34, 35, 37, 38] v a vb1 ab1 → (0 ≤ x ∧ x ≤ 501) → (KSH v a vb1 ab1) → (SE2 v a vb1 ab1 t x) → mw p l e (rmq 66 0 0) s m args below meth c G A 7 (MQ below (Qm G A (fun rq Lq Eq => ∃ (vq : Nat → Int) (aq : Nat → Nat → Int), mI G h0 ad ln vq aq Lq Eq ∧ (fun r v2 a2 => ∃ f : Int, r = some (.int (iI f)) ∧ fr [0, 1, 23, 25, 28, 36, 39] [20, 21, 22, 24, 26, 27, 34, 35, 37, 38] v a v2 a2 ∧ BX v2 a2 ∧ (SETX v a v2 a2 t f)) rq vq aq)) args s 0 0 A) h0 ad ln vb1 ab1 0 0 21 [(2, .int (iI x)), (0, .ref h0), (1, .int (iI t))] [] := by
      intro nn
      induction nn with
      | zero =>
        intro x vb1 ab1 hm bxb1 fpb1 hx hK21 hS1
        exact absurd hm (by omega)
      | succ nn ih1 =>
        intro x vb1 ab1 hm bxb1 fpb1 hx hK21 hS1
        refine m_iload_n (j := 0) C dX12_set_21 rfl ?_
        refine m_aload_n (j := 1) C dX12_set_22 rfl ?_
        refine hv2 (show 0 ≤ vb1 30 ∧ vb1 30 ≤ 500 from bxb1.1 30) (show vb1 30 = v 30 from fpb1.1 30 rfl) (fun rv2 ve1 => ?_)
        refine m_get (k := 30) C dX12_set_23 w6_89 (by decide) rfl ?_
        refine m_st (st2 := [.int (iI (v 30)), .int (iI x)]) (congrArg (fun z => Value.int (iI z) :: [.int (iI x)]) (fpb1.1 30 rfl)) ?_
        refine m_icmp_ge (tgt := 157) C (r32_c (lo := 0) (hi := 501) hx.1 hx.2 (by decide) (by decide)) (r32_c (lo := 0) (hi := 500) (Int.le_trans rv2.1 (Int.le_of_eq ve1)) (Int.le_trans (Int.le_of_eq ve1.symm) rv2.2) (by decide) (by decide)) dX12_set_26 (by decide) (fun c2 => ?_) (fun c2 => ?_)
        · refine m_aload_n (j := 1) C dX12_set_157 rfl ?_
          refine m_aload_n (j := 1) C dX12_set_158 rfl ?_
          have rv3 : 0 ≤ vb1 39 ∧ vb1 39 ≤ 200 := bxb1.1 39
          refine m_get (k := 39) C dX12_set_159 w6_98 (by decide) rfl ?_
          refine m_put (k := 36) (z := vb1 39) C dX12_set_162 w6_95 (by decide) rfl rfl rfl ?_
          refine hv2 (show BX (va_up vb1 36 (vb1 39)) ab1 from bxb1.put (k := 36) (z := vb1 39) (show 0 ≤ (vb1 39) ∧ (vb1 39) ≤ 200 by omega)) (fpb1.put (k := 36) (z := vb1 39) rfl) (fun bq2 fq3 => ?_)
          refine m_iconst C dX12_set_165 ?_
          refine m_istore_n (lv2 := [(3, .int (iI 0)), (2, .int (iI x)), (0, .ref h0), (1, .int (iI t))]) C dX12_set_166 (by decide) rfl ?_
          have Lp2 : ∀ (nn : Nat) (y : Int) (vb2 : Nat → Int) (ab2 : Nat → Nat → Int), 201 - y < (nn : Int) → BX vb2 ab2 → fr [0, 1, 23, 25, 28, 36, 39] [20, 21, 22, 24, 26, 27, 34, 35, 37, 38] v a vb2 ab2 → (0 ≤ y ∧ y ≤ 200) → (SE5 v a vb2 ab2 t) → (SC1 ab2 y) → mw p l e (rmq 66 0 0) s m args below meth c G A 7 (MQ below (Qm G A (fun rq Lq Eq => ∃ (vq : Nat → Int) (aq : Nat → Nat → Int), mI G h0 ad ln vq aq Lq Eq ∧ (fun r v2 a2 => ∃ f : Int, r = some (.int (iI f)) ∧ fr [0, 1, 23, 25, 28, 36, 39] [20, 21, 22, 24, 26, 27, 34, 35, 37, 38] v a v2 a2 ∧ BX v2 a2 ∧ (SETX v a v2 a2 t f)) rq vq aq)) args s 0 0 A) h0 ad ln vb2 ab2 0 0 167 [(3, .int (iI y)), (2, .int (iI x)), (0, .ref h0), (1, .int (iI t))] [] := by
            intro nn
            induction nn with
            | zero =>
              intro y vb2 ab2 hm bxb2 fpb2 hy hS5 hC1
              exact absurd hm (by omega)
            | succ nn ih2 =>
              intro y vb2 ab2 hm bxb2 fpb2 hy hS5 hC1
              refine m_iload_n (j := 0) C dX12_set_167 rfl ?_
              refine m_aload_n (j := 2) C dX12_set_168 rfl ?_
              have rv4 : 0 ≤ vb2 36 ∧ vb2 36 ≤ 200 := bxb2.1 36
              refine m_get (k := 36) C dX12_set_169 w6_95 (by decide) rfl ?_
              refine m_icmp_ge (tgt := 239) C (r32_c (lo := 0) (hi := 200) hy.1 hy.2 (by decide) (by decide)) (r32_c (lo := 0) (hi := 200) rv4.1 rv4.2 (by decide) (by decide)) dX12_set_172 (by decide) (fun c3 => ?_) (fun c3 => ?_)
              · refine m_aload_n (j := 2) C dX12_set_239 rfl ?_
                refine m_aload_n (j := 2) C dX12_set_240 rfl ?_
                refine m_get (k := 36) C dX12_set_241 w6_95 (by decide) rfl ?_
                refine m_call (mc2 := 0) (ms2 := 0) (As := [.int (iI (vb2 36))]) (rest := []) C (B_fine (x := vb2 36) bxb2 (by show -2147483648 ≤ (vb2 36) ∧ (vb2 36) ≤ 2147483647; omega)) dX12_set_244 kV_X12_158 rfl ck_13 rfl (Nat.le_of_ble_eq_true rfl) ⟨Nat.le_of_ble_eq_true rfl, Nat.le_of_ble_eq_true rfl⟩ ⟨Nat.le_of_ble_eq_true rfl, Nat.le_of_ble_eq_true rfl⟩ (fun rh2 vh2 ah2 h2 => ?_)
                obtain ⟨f2, rfl, fn2, bn2, ex2⟩ := h2
                refine hv2 (fpb2.call fn2 rfl rfl) (show f2 = (vb2 36) from ex2) (fun fq4 gf2 => ?_)
                refine m_st (st2 := [.int (iI f2)]) rfl ?_
                exact m_iret C dX12_set_247 rfl (Nat.le_of_ble_eq_true rfl) (Nat.le_of_ble_eq_true rfl) ⟨f2, rfl, fq4, bn2, (SETX.ok (tl1.mp (by omega)) hS5 hC1 (by omega) (by omega) (fn2.1 36 rfl) (fn2.2 34 rfl) (fn2.2 35 rfl))⟩
              · refine m_aload_n (j := 2) C dX12_set_175 rfl ?_
                refine m_geta (k := 34) C dX12_set_176 w6_93 (by decide) rfl ?_
                refine m_iload_n (j := 0) C dX12_set_179 rfl ?_
                refine m_aload_n (j := 2) C dX12_set_180 rfl ?_
                refine m_geta (k := 37) C dX12_set_181 w6_96 (by decide) rfl ?_
                refine m_iload_n (j := 0) C dX12_set_184 rfl ?_
                refine m_ald (k := 37) C dX12_set_185 rfl rfl (by decide) (by omega) (by show _ < ((_ : Nat) : Int); simp only [mlen]; omega) (by decide) ?_
                have ra1 : 0 ≤ ab2 37 y.toNat ∧ ab2 37 y.toNat ≤ 200 := bxb2.2 37 (y.toNat)
                refine m_ast (k := 34) C dX12_set_186 rfl rfl (by decide) (by omega) (by show _ < ((_ : Nat) : Int); simp only [mlen]; omega) (by decide) ?_
                refine hv2 (show BX vb2 (up2 ab2 34 y.toNat (ab2 37 y.toNat)) from bxb2.set (k := 34) (i := y.toNat) (z := ab2 37 y.toNat) (show (-1) ≤ (ab2 37 y.toNat) ∧ (ab2 37 y.toNat) ≤ 200 by omega)) (fpb2.set (k := 34) (i := y.toNat) (z := ab2 37 y.toNat) rfl) (fun bq3 fq5 => ?_)
                refine m_iconst C dX12_set_187 ?_
                refine m_istore (lv2 := [(4, .int (iI 0)), (3, .int (iI y)), (2, .int (iI x)), (0, .ref h0), (1, .int (iI t))]) C dX12_set_188 (by decide) rfl ?_
                have Lp3 : ∀ (nn : Nat) (z : Int) (vb3 : Nat → Int) (ab3 : Nat → Nat → Int), 201 - z < (nn : Int) → BX vb3 ab3 → fr [0, 1, 23, 25, 28, 36, 39] [20, 21, 22, 24, 26, 27, 34, 35, 37, 38] v a vb3 ab3 → (0 ≤ z ∧ z ≤ 200) → (SE5 v a vb3 ab3 t) → (SC2 ab3 y z) → mw p l e (rmq 66 0 0) s m args below meth c G A 7 (MQ below (Qm G A (fun rq Lq Eq => ∃ (vq : Nat → Int) (aq : Nat → Nat → Int), mI G h0 ad ln vq aq Lq Eq ∧ (fun r v2 a2 => ∃ f : Int, r = some (.int (iI f)) ∧ fr [0, 1, 23, 25, 28, 36, 39] [20, 21, 22, 24, 26, 27, 34, 35, 37, 38] v a v2 a2 ∧ BX v2 a2 ∧ (SETX v a v2 a2 t f)) rq vq aq)) args s 0 0 A) h0 ad ln vb3 ab3 0 0 190 [(4, .int (iI z)), (3, .int (iI y)), (2, .int (iI x)), (0, .ref h0), (1, .int (iI t))] [] := by
                  intro nn
                  induction nn with
                  | zero =>
                    intro z vb3 ab3 hm bxb3 fpb3 hz hS6 hC2
                    exact absurd hm (by omega)
                  | succ nn ih3 =>
                    intro z vb3 ab3 hm bxb3 fpb3 hz hS6 hC2
                    refine m_iload (j := 0) C dX12_set_190 rfl ?_
                    refine m_aload_n (j := 3) C dX12_set_192 rfl ?_
                    refine m_geta (k := 37) C dX12_set_193 w6_96 (by decide) rfl ?_
                    refine m_iload_n (j := 1) C dX12_set_196 rfl ?_
                    refine m_ald (k := 37) C dX12_set_197 rfl rfl (by decide) (by omega) (by show _ < ((_ : Nat) : Int); simp only [mlen]; omega) (by decide) ?_
                    have ra2 : 0 ≤ ab3 37 y.toNat ∧ ab3 37 y.toNat ≤ 200 := bxb3.2 37 (y.toNat)
                    refine m_icmp_ge (tgt := 233) C (r32_c (lo := 0) (hi := 200) hz.1 hz.2 (by decide) (by decide)) (r32_c (lo := 0) (hi := 200) ra2.1 ra2.2 (by decide) (by decide)) dX12_set_198 (by decide) (fun c4 => ?_) (fun c4 => ?_)
                    · refine m_iinc (z := y) (j := 1) (lv2 := [(3, .int (iI (y + 1))), (4, .int (iI z)), (2, .int (iI x)), (0, .ref h0), (1, .int (iI t))]) C dX12_set_233 rfl (by decide) rfl ?_
                      refine m_goto (tgt := 167) C dX12_set_236 (by decide) ?_
                      refine m_lv (lv2 := [(3, .int (iI (y + 1))), (2, .int (iI x)), (0, .ref h0), (1, .int (iI t))]) [0, 2, 3, 4] rfl ?_
                      exact ih2  (y + 1) _ _ (by omega) bxb3 fpb3 (by omega) hS6 (SC2.fin hC2 (by omega) (by omega))
                    · refine m_aload_n (j := 3) C dX12_set_201 rfl ?_
                      refine m_geta (k := 35) C dX12_set_202 w6_94 (by decide) rfl ?_
                      refine m_sipush (z := 200) C dX12_set_205 (by decide) ?_
                      refine m_iload_n (j := 1) C dX12_set_208 rfl ?_
                      refine m_imul C dX12_set_209 ?_
                      refine m_iload (j := 0) C dX12_set_210 rfl ?_
                      refine m_iadd C dX12_set_212 ?_
                      refine m_aload_n (j := 3) C dX12_set_213 rfl ?_
                      refine m_geta (k := 38) C dX12_set_214 w6_97 (by decide) rfl ?_
                      refine m_sipush (z := 200) C dX12_set_217 (by decide) ?_
                      refine m_iload_n (j := 1) C dX12_set_220 rfl ?_
                      refine m_imul C dX12_set_221 ?_
                      refine m_iload (j := 0) C dX12_set_222 rfl ?_
                      refine m_iadd C dX12_set_224 ?_
                      refine m_ald (k := 38) C dX12_set_225 rfl rfl (by decide) (by omega) (by show _ < ((_ : Nat) : Int); simp only [mlen]; omega) (by decide) ?_
                      have ra3 : (-2147483648) ≤ ab3 38 ((200 * y) + z).toNat ∧ ab3 38 ((200 * y) + z).toNat ≤ 2147483647 := bxb3.2 38 (((200 * y) + z).toNat)
                      refine m_ast (k := 35) C dX12_set_226 rfl rfl (by decide) (by omega) (by show _ < ((_ : Nat) : Int); simp only [mlen]; omega) (by decide) ?_
                      refine hv2 (show BX vb3 (up2 ab3 35 ((200 * y) + z).toNat (ab3 38 ((200 * y) + z).toNat)) from bxb3.set (k := 35) (i := ((200 * y) + z).toNat) (z := ab3 38 ((200 * y) + z).toNat) (show (-2147483648) ≤ (ab3 38 ((200 * y) + z).toNat) ∧ (ab3 38 ((200 * y) + z).toNat) ≤ 2147483647 by omega)) (fpb3.set (k := 35) (i := ((200 * y) + z).toNat) (z := ab3 38 ((200 * y) + z).toNat) rfl) (fun bq4 fq6 => ?_)
                      refine m_iinc (z := z) (j := 0) (lv2 := [(4, .int (iI (z + 1))), (3, .int (iI y)), (2, .int (iI x)), (0, .ref h0), (1, .int (iI t))]) C dX12_set_227 rfl (by decide) rfl ?_
                      refine m_goto (tgt := 190) C dX12_set_230 (by decide) ?_
                      refine m_lv (lv2 := [(4, .int (iI (z + 1))), (3, .int (iI y)), (2, .int (iI x)), (0, .ref h0), (1, .int (iI t))]) [0, 1, 2, 3, 4] rfl ?_
                      exact ih3  (z + 1) _ _ (by omega) bq4 fq6 (by omega) (SE5.fr hS6 (funext fun _ => up2_k (by decide)) (funext fun _ => up2_k (by decide))) (SC2.mv hC2 (fun l => (bxb3.2 37 l).2) (by omega) ⟨by omega, by omega⟩ rfl rfl)
                refine m_lv (lv2 := [(4, .int (iI 0)), (3, .int (iI y)), (2, .int (iI x)), (0, .ref h0), (1, .int (iI t))]) [0, 1, 2, 3, 4] rfl ?_
                exact Lp3 202 0 _ _ (by omega) bq3 fq5 (by omega) (SE5.fr hS5 (funext fun _ => up2_k (by decide)) (funext fun _ => up2_k (by decide))) (SC1.go hC1 (by omega) rfl rfl)
          refine m_lv (lv2 := [(3, .int (iI 0)), (2, .int (iI x)), (0, .ref h0), (1, .int (iI t))]) [0, 1, 2, 3] rfl ?_
          exact Lp2 202 0 _ _ (by omega) bq2 fq3 (by omega) (SE2.fin hS1 (by omega) (va_up_ne _ _ (by decide)) (va_up_self _ _ _)) (SC1.init rfl)
        · refine m_aload_n (j := 1) C dX12_set_29 rfl ?_
          refine m_iload_n (j := 0) C dX12_set_30 rfl ?_
          refine m_call (mc2 := 0) (ms2 := 0) (As := [.int (iI x)]) (rest := []) C (E_lineEnd (q := x) bxb1 (by show 0 ≤ x ∧ x ≤ 1000; omega)) dX12_set_31 kV_X12_261 rfl ck_13 rfl (Nat.le_of_ble_eq_true rfl) ⟨Nat.le_of_ble_eq_true rfl, Nat.le_of_ble_eq_true rfl⟩ ⟨Nat.le_of_ble_eq_true rfl, Nat.le_of_ble_eq_true rfl⟩ (fun rh3 vh3 ah3 h3 => ?_)
          obtain ⟨f3, rfl, fn3, bn3, ex3⟩ := h3
          obtain ⟨rfl, rfl⟩ := fn3.eq
          obtain ⟨ex3, tl2⟩ := ex3
          refine hv2 (show x ≤ f3 ∧ (f3 = x ∨ f3 ≤ (vb1 30)) from ex3) (show LEX (a 29) (v 30) x f3 from (by have q1 := tl2; rw [fpb1.2 29 rfl, fpb1.1 30 rfl] at q1; exact q1)) (fun gf3 lef3 => ?_)
          refine m_st (st2 := [.int (iI f3)]) rfl ?_
          replace gf3 : x ≤ f3 ∧ f3 ≤ vb1 30 := by omega
          refine m_istore_n (lv2 := [(3, .int (iI f3)), (2, .int (iI x)), (0, .ref h0), (1, .int (iI t))]) C dX12_set_34 (by decide) rfl ?_
          refine m_aload_n (j := 2) C dX12_set_35 rfl ?_
          refine m_geta (k := 29) C dX12_set_36 w6_88 (by decide) rfl ?_
          refine m_iload_n (j := 1) C dX12_set_39 rfl ?_
          refine m_ald (k := 29) C dX12_set_40 rfl rfl (by decide) (by omega) (by show _ < ((_ : Nat) : Int); simp only [mlen]; omega) (by decide) ?_
          refine hv2 (show (-2147483648) ≤ ab1 29 x.toNat ∧ ab1 29 x.toNat ≤ 2147483647 from bxb1.2 29 (x.toNat)) (show ab1 29 (x.toNat) = a 29 (x.toNat) from congrFun (fpb1.2 29 rfl) (x.toNat)) (fun ra4 ae1 => ?_)
          refine m_st (st2 := [.int (iI (a 29 x.toNat))]) (congrArg (fun z => Value.int (iI z) :: []) (congrFun (fpb1.2 29 rfl) (x.toNat))) ?_
          refine m_bipush (z := 94) C dX12_set_41 (by decide) ?_
          have J1 : ∀ (g : Int) (vb4 : Nat → Int) (ab4 : Nat → Nat → Int), BX vb4 ab4 → fr [0, 1, 23, 25, 28, 36, 39] [20, 21, 22, 24, 26, 27, 34, 35, 37, 38] v a vb4 ab4 → (g = 0 ∨ g = 1) → (KSH v a vb4 ab4) → ((g = 1 ∧ a 29 x.toNat = 94) ∨ (g = 0 ∧ a 29 x.toNat ≠ 94)) → (SE2 v a vb4 ab4 t x) → mw p l e (rmq 66 0 0) s m args below meth c G A 7 (MQ below (Qm G A (fun rq Lq Eq => ∃ (vq : Nat → Int) (aq : Nat → Nat → Int), mI G h0 ad ln vq aq Lq Eq ∧ (fun r v2 a2 => ∃ f : Int, r = some (.int (iI f)) ∧ fr [0, 1, 23, 25, 28, 36, 39] [20, 21, 22, 24, 26, 27, 34, 35, 37, 38] v a v2 a2 ∧ BX v2 a2 ∧ (SETX v a v2 a2 t f)) rq vq aq)) args s 0 0 A) h0 ad ln vb4 ab4 0 0 51 [(3, .int (iI f3)), (2, .int (iI x)), (0, .ref h0), (1, .int (iI t))] [.int (iI g)] := by
            intro g vb4 ab4 bxb4 fpb4 hg hK51 hg2 hS2
            refine m_istore (lv2 := [(4, .int (iI g)), (3, .int (iI f3)), (2, .int (iI x)), (0, .ref h0), (1, .int (iI t))]) C dX12_set_51 (by decide) rfl ?_
            refine m_aload_n (j := 3) C dX12_set_53 rfl ?_
            have rv5 : 0 ≤ vb4 39 ∧ vb4 39 ≤ 200 := bxb4.1 39
            refine m_get (k := 39) C dX12_set_54 w6_98 (by decide) rfl ?_
            refine m_istore (lv2 := [(5, .int (iI (vb4 39))), (4, .int (iI g)), (3, .int (iI f3)), (2, .int (iI x)), (0, .ref h0), (1, .int (iI t))]) C dX12_set_57 (by decide) rfl ?_
            refine m_aload_n (j := 4) C dX12_set_59 rfl ?_
            refine m_call (mc2 := 0) (ms2 := 0) (As := []) (rest := []) C (M_newLine bxb4.rg (bxb4.1 39)) dX12_set_60 kV_X12_257 rfl ck_13 rfl (Nat.le_of_ble_eq_true rfl) ⟨Nat.le_of_ble_eq_true rfl, Nat.le_of_ble_eq_true rfl⟩ ⟨Nat.le_of_ble_eq_true rfl, Nat.le_of_ble_eq_true rfl⟩ (fun rh4 vh4 ah4 h4 => ?_)
            obtain ⟨f4, rfl, fn4, bn4, ex4, nx1⟩ := W_newLine2 bxb4 h4
            refine hv3 (fpb4.call fn4 rfl rfl) (show (f4 = 1 ∧ vh4 39 = vb4 39 + 1 ∧ ah4 37 (vh4 39 - 1).toNat = 0) ∨ f4 = 0 from ex4) (hK51.fr fn4 rfl rfl rfl) (fun fq8 gf4 ks1 => ?_)
            refine m_st (st2 := [.int (iI f4)]) rfl ?_
            refine m_if_ne (tgt := 73) C (r32_p0 gf4) dX12_set_63 (by decide) (fun c5 => ?_) (fun c5 => ?_)
            · replace gf4 := (gf4.resolve_right c5)
              refine m_aload_n (j := 4) C dX12_set_73 rfl ?_
              refine m_iload (j := 1) C dX12_set_74 rfl ?_
              have J2 : ∀ (y : Int) (vb5 : Nat → Int) (ab5 : Nat → Nat → Int), BX vb5 ab5 → fr [0, 1, 23, 25, 28, 36, 39] [20, 21, 22, 24, 26, 27, 34, 35, 37, 38] v a vb5 ab5 → (y = x ∨ y = x + 1) → (1 ≤ vb5 39) → (KSH v a vb5 ab5) → ((g = 1 ∧ y = x + 1) ∨ (g = 0 ∧ y = x)) → (SE3 v a vb5 ab5 t g (vb4 39) y) → mw p l e (rmq 66 0 0) s m args below meth c G A 7 (MQ below (Qm G A (fun rq Lq Eq => ∃ (vq : Nat → Int) (aq : Nat → Nat → Int), mI G h0 ad ln vq aq Lq Eq ∧ (fun r v2 a2 => ∃ f : Int, r = some (.int (iI f)) ∧ fr [0, 1, 23, 25, 28, 36, 39] [20, 21, 22, 24, 26, 27, 34, 35, 37, 38] v a v2 a2 ∧ BX v2 a2 ∧ (SETX v a v2 a2 t f)) rq vq aq)) args s 0 0 A) h0 ad ln vb5 ab5 0 0 86 [(5, .int (iI (vb4 39))), (4, .int (iI g)), (3, .int (iI f3)), (2, .int (iI x)), (0, .ref h0), (1, .int (iI t))] [.int (iI y), .ref h0] := by
                intro y vb5 ab5 bxb5 fpb5 hy hn hK86 hy2 hS3
                refine m_iload_n (j := 2) C dX12_set_86 rfl ?_
                refine hv4 (show 0 ≤ vb5 30 ∧ vb5 30 ≤ 500 from bxb5.1 30) (show vb5 30 = v 30 from fpb5.1 30 rfl) (show 0 ≤ vb5 23 ∧ vb5 23 ≤ 500 from bxb5.1 23) (show 0 ≤ vb5 39 ∧ vb5 39 ≤ 200 from bxb5.1 39) (fun rv6 ve2 rv7 rv8 => ?_)
                have tkp1 : TKP (a 29) (v 30) y f3 := LEX.tkp lef3 (by omega) (by omega) (by omega)
                refine m_call (mc2 := 0) (ms2 := 0) (As := [.int (iI y), .int (iI f3)]) (rest := []) C (E_takeWord (q := y) (u := f3) bxb5 (by omega) (by omega) (TKP.cg tkp1 (fpb5.2 29 rfl) (fpb5.1 30 rfl))) dX12_set_87 kV_X12_264 rfl ck_13 rfl (Nat.le_of_ble_eq_true rfl) ⟨Nat.le_of_ble_eq_true rfl, Nat.le_of_ble_eq_true rfl⟩ ⟨Nat.le_of_ble_eq_true rfl, Nat.le_of_ble_eq_true rfl⟩ (fun rh5 vh5 ah5 h5 => ?_)
                obtain ⟨f5, rfl, fn5, bn5, ex5, tl3⟩ := h5
                refine hv6 (fpb5.call fn5 rfl rfl) (show 0 ≤ vh5 23 ∧ vh5 23 ≤ 500 from bn5.1 23) (show (f5 = y ∨ (y ≤ f5 ∧ f5 ≤ f3)) ∧ (vh5 23) ≤ f5 - y from ex5) (show (vh5 23) ≠ 0 ∨ f5 = f3 from tl3.2) (show TKX (a 29) (v 30) vh5 ah5 y f5 from (by have q1 := tl3.1; rw [fpb5.2 29 rfl, fpb5.1 30 rfl] at q1; exact q1)) (hK86.fr fn5 rfl rfl rfl) (fun fq9 rv9 gf5 hf5 tk1 ks2 => ?_)
                have se1 := SE3.take hS3 tk1 (fn5.1 39 rfl) (fn5.2 37 rfl) (fn5.2 38 rfl)
                refine m_st (st2 := [.int (iI f5)]) rfl ?_
                refine m_istore (lv2 := [(6, .int (iI f5)), (5, .int (iI (vb4 39))), (4, .int (iI g)), (3, .int (iI f3)), (2, .int (iI x)), (0, .ref h0), (1, .int (iI t))]) C dX12_set_90 (by decide) rfl ?_
                have Lp4 : ∀ (nn : Nat) (w1 : Int) (vb6 : Nat → Int) (ab6 : Nat → Nat → Int), 1005 - 2 * w1 + min 1 (vb6 23) < (nn : Int) → BX vb6 ab6 → fr [0, 1, 23, 25, 28, 36, 39] [20, 21, 22, 24, 26, 27, 34, 35, 37, 38] v a vb6 ab6 → (0 ≤ w1 ∧ w1 ≤ 501) → (1 ≤ vb6 39) → (0 ≤ vb6 23 ∧ vb6 23 ≤ 500) → (y ≤ w1 ∧ w1 ≤ f3) → (vb6 23 ≠ 0 ∨ w1 = f3) → (KSH v a vb6 ab6) → (SE4 v a vb6 ab6 t g (vb4 39) w1) → mw p l e (rmq 66 0 0) s m args below meth c G A 7 (MQ below (Qm G A (fun rq Lq Eq => ∃ (vq : Nat → Int) (aq : Nat → Nat → Int), mI G h0 ad ln vq aq Lq Eq ∧ (fun r v2 a2 => ∃ f : Int, r = some (.int (iI f)) ∧ fr [0, 1, 23, 25, 28, 36, 39] [20, 21, 22, 24, 26, 27, 34, 35, 37, 38] v a v2 a2 ∧ BX v2 a2 ∧ (SETX v a v2 a2 t f)) rq vq aq)) args s 0 0 A) h0 ad ln vb6 ab6 0 0 92 [(6, .int (iI w1)), (5, .int (iI (vb4 39))), (4, .int (iI g)), (3, .int (iI f3)), (2, .int (iI x)), (0, .ref h0), (1, .int (iI t))] [] := by
                  intro nn
                  induction nn with
                  | zero =>
                    intro w1 vb6 ab6 hm bxb6 fpb6 hw hn2 h23 hwr hto hK92 hS4
                    clear hy hy2 hg2 gf5 hf5
                    exact absurd hm (by omega)
                  | succ nn ih4 =>
                    intro w1 vb6 ab6 hm bxb6 fpb6 hw hn2 h23 hwr hto hK92 hS4
                    clear hy hy2 hg2 gf5 hf5
                    refine m_aload_n (j := 5) C dX12_set_92 rfl ?_
                    have rv10 : 0 ≤ vb6 23 ∧ vb6 23 ≤ 500 := bxb6.1 23
                    refine m_get (k := 23) C dX12_set_93 w6_82 (by decide) rfl ?_
                    refine m_if_le (tgt := 139) C (r32_c (lo := 0) (hi := 500) rv10.1 rv10.2 (by decide) (by decide)) dX12_set_96 (by decide) (fun c6 => ?_) (fun c6 => ?_)
                    · refine m_iload (j := 2) C dX12_set_139 rfl ?_
                      refine m_if_eq (tgt := 150) C (r32_01 hg) dX12_set_141 (by decide) (fun c7 => ?_) (fun c7 => ?_)
                      · refine m_iload_n (j := 3) C dX12_set_150 rfl ?_
                        refine m_iconst C dX12_set_151 ?_
                        refine m_iadd C dX12_set_152 ?_
                        refine m_istore_n (lv2 := [(2, .int (iI (f3 + 1))), (6, .int (iI w1)), (5, .int (iI (vb4 39))), (4, .int (iI g)), (3, .int (iI f3)), (0, .ref h0), (1, .int (iI t))]) C dX12_set_153 (by decide) rfl ?_
                        refine m_goto (tgt := 21) C dX12_set_154 (by decide) ?_
                        refine m_lv (lv2 := [(2, .int (iI (f3 + 1))), (0, .ref h0), (1, .int (iI t))]) [0, 5, 6] rfl ?_
                        exact ih1  (f3 + 1) _ _ (by omega) bxb6 fpb6 (by omega) hK92 (by have e := SE4.lineN hS4 (by omega) (by omega) (by omega); rw [show w1 = f3 by omega] at e; exact e)
                      · refine m_aload_n (j := 5) C dX12_set_144 rfl ?_
                        refine m_iload (j := 1) C dX12_set_145 rfl ?_
                        refine m_call (mc2 := 0) (ms2 := 0) (As := [.int (iI (vb4 39))]) (rest := []) C (E_centre (q := vb4 39) bxb6 (by show 0 ≤ (vb4 39) ∧ (vb4 39) ≤ 200; omega)) dX12_set_147 kV_X12_276 rfl ck_13 rfl (Nat.le_of_ble_eq_true rfl) ⟨Nat.le_of_ble_eq_true rfl, Nat.le_of_ble_eq_true rfl⟩ ⟨Nat.le_of_ble_eq_true rfl, Nat.le_of_ble_eq_true rfl⟩ (fun rh6 vh6 ah6 h6 => ?_)
                        obtain ⟨rfl, fn6, bn6, ex6⟩ := h6
                        refine hv3 (fpb6.call fn6 rfl rfl) (ex6) (hK92.fr fn6 rfl rfl rfl) (fun fq10 tl4 ks3 => ?_)
                        refine m_st (st2 := []) rfl ?_
                        refine m_iload_n (j := 3) C dX12_set_150 rfl ?_
                        refine m_iconst C dX12_set_151 ?_
                        refine m_iadd C dX12_set_152 ?_
                        refine m_istore_n (lv2 := [(2, .int (iI (f3 + 1))), (6, .int (iI w1)), (5, .int (iI (vb4 39))), (4, .int (iI g)), (3, .int (iI f3)), (0, .ref h0), (1, .int (iI t))]) C dX12_set_153 (by decide) rfl ?_
                        refine m_goto (tgt := 21) C dX12_set_154 (by decide) ?_
                        refine m_lv (lv2 := [(2, .int (iI (f3 + 1))), (0, .ref h0), (1, .int (iI t))]) [0, 5, 6] rfl ?_
                        exact ih1  (f3 + 1) _ _ (by omega) bn6 fq10 (by omega) ks3 (by have e := SE4.lineC hS4 (by omega) (by omega) (by omega) (fpb6.1 31 rfl) tl4; rw [show w1 = f3 by omega] at e; exact e)
                    · refine m_aload_n (j := 5) C dX12_set_99 rfl ?_
                      refine m_iload_n (j := 6) C dX12_set_100 rfl ?_
                      refine hv2 (show 0 ≤ vb6 4 ∧ vb6 4 ≤ 30 from bxb6.1 4) (show vb6 4 = v 4 from fpb6.1 4 rfl) (fun rv11 ve3 => ?_)
                      refine m_call (mc2 := 0) (ms2 := 0) (As := [.int (iI t)]) (rest := []) C (E_setWord (t := t) bxb6 (hT.fr fpb6 rfl rfl) (by show 0 ≤ t ∧ t < (vb6 4); omega)) dX12_set_101 kV_X12_267 rfl ck_13 rfl (Nat.le_of_ble_eq_true rfl) ⟨Nat.le_of_ble_eq_true rfl, Nat.le_of_ble_eq_true rfl⟩ ⟨Nat.le_of_ble_eq_true rfl, Nat.le_of_ble_eq_true rfl⟩ (fun rh7 vh7 ah7 h7 => ?_)
                      obtain ⟨f7, rfl, fn7, bn7, ex7⟩ := h7
                      have fq11 := fpb6.call fn7 rfl rfl
                      obtain ⟨ex7, tl5⟩ := ex7
                      refine hv3 (show 0 ≤ vh7 25 ∧ vh7 25 ≤ 208 from bn7.1 25) (show f7 = 0 ∨ (f7 = 1 ∧ (vh7 25) ≤ 200) from ex7) (hK92.fr fn7 rfl rfl rfl) (fun rv12 gf7 ks4 => ?_)
                      have spf7 : f7 = 1 → 1 ≤ (vh7 25) := fun e => SWT.pos tl5.1 e (hT.fr fpb6 rfl rfl) bxb6 ⟨by omega, by have e4 := fpb6.1 4 rfl; omega⟩ (by omega)
                      refine m_st (st2 := [.int (iI f7)]) rfl ?_
                      refine m_if_ne (tgt := 112) C (r32_0p gf7) dX12_set_104 (by decide) (fun c8 => ?_) (fun c8 => ?_)
                      · replace gf7 := (gf7.resolve_left c8)
                        refine m_aload_n (j := 5) C dX12_set_112 rfl ?_
                        refine m_iload_n (j := 6) C dX12_set_113 rfl ?_
                        refine hv2 (show 0 ≤ vh7 39 ∧ vh7 39 ≤ 200 from bn7.1 39) (show vh7 39 = vb6 39 from fn7.1 39 rfl) (fun rv13 ve4 => ?_)
                        refine m_call (mc2 := 0) (ms2 := 0) (As := [.int (iI t)]) (rest := []) C (E_flow (t := t) bn7 (by show 0 ≤ t ∧ t < 30; omega) (by show 1 ≤ (vh7 39); omega) (by show 1 ≤ (vh7 25) ∧ (vh7 25) ≤ 200; omega)) dX12_set_114 kV_X12_273 rfl ck_13 rfl (Nat.le_of_ble_eq_true rfl) ⟨Nat.le_of_ble_eq_true rfl, Nat.le_of_ble_eq_true rfl⟩ ⟨Nat.le_of_ble_eq_true rfl, Nat.le_of_ble_eq_true rfl⟩ (fun rh8 vh8 ah8 h8 => ?_)
                        obtain ⟨f8, rfl, fn8, bn8, ex8⟩ := h8
                        have fq12 := fq11.call fn8 rfl rfl
                        obtain ⟨ex8, tl6⟩ := ex8
                        refine hv3 (show 0 ≤ vh8 39 ∧ vh8 39 ≤ 200 from bn8.1 39) (show f8 = 0 ∨ (f8 = 1 ∧ 1 ≤ (vh8 39)) from ex8) (ks4.fr fn8 rfl rfl rfl) (fun rv14 gf8 ks5 => ?_)
                        have fw1 := SE4.flow hS4 hg (by omega) (by omega) hT (hB.1 4).2 (fun i => (hB.2 10 i).2) ⟨by omega, by omega⟩ tl5.1 tl5.2 (by omega) (TBE.fr fpb6 rfl) (fun i => (hB.2 12 i).1) (fq11.2 6 rfl) (fn7.2 21 rfl) (fn7.2 22 rfl) (fn7.1 23 rfl) (fn7.1 39 rfl) (fn7.2 37 rfl) (fn7.2 38 rfl) (fq11.1 31 rfl) (fq11.1 33 rfl) tl6
                        refine m_st (st2 := [.int (iI f8)]) rfl ?_
                        refine m_if_ne (tgt := 127) C (r32_0p gf8) dX12_set_117 (by decide) (fun c9 => ?_) (fun c9 => ?_)
                        · replace gf8 := (gf8.resolve_left c9)
                          refine m_aload_n (j := 5) C dX12_set_127 rfl ?_
                          refine m_iload (j := 0) C dX12_set_128 rfl ?_
                          refine m_iload_n (j := 3) C dX12_set_130 rfl ?_
                          refine hv7 (show 0 ≤ vh8 30 ∧ vh8 30 ≤ 500 from bn8.1 30) (show vh8 30 = vh7 30 from fn8.1 30 rfl) (show vh7 30 = vb6 30 from fn7.1 30 rfl) (show vb6 30 = v 30 from fpb6.1 30 rfl) (show 0 ≤ vh8 23 ∧ vh8 23 ≤ 500 from bn8.1 23) (show vh8 23 = vh7 23 from fn8.1 23 rfl) (show vh7 23 = vb6 23 from fn7.1 23 rfl) (fun rv15 ve5 ve6 ve7 rv16 ve8 ve9 => ?_)
                          refine m_call (mc2 := 0) (ms2 := 0) (As := [.int (iI w1), .int (iI f3)]) (rest := []) C (E_takeWord (q := w1) (u := f3) bn8 (by omega) (by omega) (TKP.cg (tkp1.sub ⟨by omega, by omega⟩) (fq12.2 29 rfl) (fq12.1 30 rfl))) dX12_set_131 kV_X12_264 rfl ck_13 rfl (Nat.le_of_ble_eq_true rfl) ⟨Nat.le_of_ble_eq_true rfl, Nat.le_of_ble_eq_true rfl⟩ ⟨Nat.le_of_ble_eq_true rfl, Nat.le_of_ble_eq_true rfl⟩ (fun rh9 vh9 ah9 h9 => ?_)
                          obtain ⟨f9, rfl, fn9, bn9, ex9, tl7⟩ := h9
                          refine hv6 (fq12.call fn9 rfl rfl) (show 0 ≤ vh9 23 ∧ vh9 23 ≤ 500 from bn9.1 23) (show (f9 = w1 ∨ (w1 ≤ f9 ∧ f9 ≤ f3)) ∧ (vh9 23) ≤ f9 - w1 from ex9) (show (vh9 23) ≠ 0 ∨ f9 = f3 from tl7.2) (show TKX (a 29) (v 30) vh9 ah9 w1 f9 from (by have q1 := tl7.1; rw [fq12.2 29 rfl, fq12.1 30 rfl] at q1; exact q1)) (ks5.fr fn9 rfl rfl rfl) (fun fq13 rv17 gf9 hf9 tk2 ks6 => ?_)
                          have se2 := SE3.take (fw1.1 (by omega)) tk2 (fn9.1 39 rfl) (fn9.2 37 rfl) (fn9.2 38 rfl)
                          refine m_st (st2 := [.int (iI f9)]) rfl ?_
                          refine m_istore (lv2 := [(6, .int (iI f9)), (5, .int (iI (vb4 39))), (4, .int (iI g)), (3, .int (iI f3)), (2, .int (iI x)), (0, .ref h0), (1, .int (iI t))]) C dX12_set_134 (by decide) rfl ?_
                          refine m_goto (tgt := 92) C dX12_set_136 (by decide) ?_
                          refine hv2 (show 0 ≤ vh9 39 ∧ vh9 39 ≤ 200 from bn9.1 39) (show vh9 39 = vh8 39 from fn9.1 39 rfl) (fun rv18 ve10 => ?_)
                          refine m_lv (lv2 := [(6, .int (iI f9)), (5, .int (iI (vb4 39))), (4, .int (iI g)), (3, .int (iI f3)), (2, .int (iI x)), (0, .ref h0), (1, .int (iI t))]) [0, 1, 2, 3, 4, 5, 6] rfl ?_
                          exact ih4  f9 _ _ (by omega) bn9 fq13 (by omega) (by show 1 ≤ (vh9 39); omega) (by show 0 ≤ (vh9 23) ∧ (vh9 23) ≤ 500; omega) (by omega) (by show (vh9 23) ≠ 0 ∨ f9 = f3; omega) ks6 se2
                        · clear gf8
                          refine m_aload_n (j := 5) C dX12_set_120 rfl ?_
                          refine m_bipush (z := 6) C dX12_set_121 (by decide) ?_
                          refine m_call (mc2 := 0) (ms2 := 0) (As := [.int (iI 6)]) (rest := []) C (B_bad (x := 6) bn8 (by show -2147483648 ≤ (6 : Int) ∧ (6 : Int) ≤ 2147483647; omega)) dX12_set_123 kV_X12_154 rfl ck_13 rfl (Nat.le_of_ble_eq_true rfl) ⟨Nat.le_of_ble_eq_true rfl, Nat.le_of_ble_eq_true rfl⟩ ⟨Nat.le_of_ble_eq_true rfl, Nat.le_of_ble_eq_true rfl⟩ (fun rh10 vh10 ah10 h10 => ?_)
                          obtain ⟨f10, rfl, fn10, bn10, ex10⟩ := h10
                          refine hv2 (fq12.call fn10 rfl rfl) (show f10 = -1 from ex10) (fun fq14 gf10 => ?_)
                          refine m_st (st2 := [.int (iI f10)]) rfl ?_
                          exact m_iret C dX12_set_126 rfl (Nat.le_of_ble_eq_true rfl) (Nat.le_of_ble_eq_true rfl) ⟨f10, rfl, fq14, bn10, (SETX.n2 (tl1.mp (by omega)) (fw1.2 (by omega)) (by omega) (ks5.fr fn10 rfl rfl rfl))⟩
                      · clear gf7
                        refine m_aload_n (j := 5) C dX12_set_107 rfl ?_
                        refine m_call (mc2 := 0) (ms2 := 0) (As := []) (rest := []) C (B_notSet  bn7 ) dX12_set_108 kV_X12_270 rfl ck_13 rfl (Nat.le_of_ble_eq_true rfl) ⟨Nat.le_of_ble_eq_true rfl, Nat.le_of_ble_eq_true rfl⟩ ⟨Nat.le_of_ble_eq_true rfl, Nat.le_of_ble_eq_true rfl⟩ (fun rh11 vh11 ah11 h11 => ?_)
                        obtain ⟨f11, rfl, fn11, bn11, ex11⟩ := h11
                        refine hv2 (fq11.call fn11 rfl rfl) (show f11 = -1 from ex11) (fun fq15 gf11 => ?_)
                        refine m_st (st2 := [.int (iI f11)]) rfl ?_
                        exact m_iret C dX12_set_111 rfl (Nat.le_of_ble_eq_true rfl) (Nat.le_of_ble_eq_true rfl) ⟨f11, rfl, fq15, bn11, (SETX.n2 (tl1.mp (by omega)) (SE4.bad hS4 hg (by omega) (by omega) tl5.1 (by omega) (TBE.fr fpb6 rfl) (fun i => (hB.2 12 i).1) (fun i => (bxb6.2 12 i).1)) (by omega) (ks4.fr fn11 rfl rfl rfl))⟩
                refine hv2 (show 0 ≤ vh5 39 ∧ vh5 39 ≤ 200 from bn5.1 39) (show vh5 39 = vb5 39 from fn5.1 39 rfl) (fun rv19 ve11 => ?_)
                refine m_lv (lv2 := [(6, .int (iI f5)), (5, .int (iI (vb4 39))), (4, .int (iI g)), (3, .int (iI f3)), (2, .int (iI x)), (0, .ref h0), (1, .int (iI t))]) [0, 1, 2, 3, 4, 5, 6] rfl ?_
                exact Lp4 1010 f5 _ _ (by omega) bn5 fq9 (by omega) (by show 1 ≤ (vh5 39); omega) (by show 0 ≤ (vh5 23) ∧ (vh5 23) ≤ 500; omega) (by omega) (by show (vh5 23) ≠ 0 ∨ f5 = f3; omega) ks2 se1
              refine m_if_eq (tgt := 85) C (r32_01 hg) dX12_set_76 (by decide) (fun c10 => ?_) (fun c10 => ?_)
              · replace hg2 := (hg2.resolve_left (fun q => absurd (q.1.symm.trans c10) (by decide)))
                refine m_iload_n (j := 3) C dX12_set_85 rfl ?_
                have rv20 : 0 ≤ vh4 39 ∧ vh4 39 ≤ 200 := bn4.1 39
                refine m_lv (lv2 := [(5, .int (iI (vb4 39))), (4, .int (iI g)), (3, .int (iI f3)), (2, .int (iI x)), (0, .ref h0), (1, .int (iI t))]) [0, 1, 2, 3, 4, 5] rfl ?_
                exact J2  x _ _  bn4 fq8 (by omega) (by show 1 ≤ (vh4 39); omega) ks1 (by omega) (SE2.enter hS2 (by omega) (by omega) nx1 (by omega) rfl)
              · replace hg2 := (hg2.resolve_right (fun q => c10 q.1))
                refine m_iload_n (j := 3) C dX12_set_79 rfl ?_
                refine m_iconst C dX12_set_80 ?_
                refine m_iadd C dX12_set_81 ?_
                refine m_goto (tgt := 86) C dX12_set_82 (by decide) ?_
                have rv21 : 0 ≤ vh4 39 ∧ vh4 39 ≤ 200 := bn4.1 39
                refine m_lv (lv2 := [(5, .int (iI (vb4 39))), (4, .int (iI g)), (3, .int (iI f3)), (2, .int (iI x)), (0, .ref h0), (1, .int (iI t))]) [0, 1, 2, 3, 4, 5] rfl ?_
                exact J2  (x + 1) _ _  bn4 fq8 (by omega) (by show 1 ≤ (vh4 39); omega) ks1 (by omega) (SE2.enter hS2 (by omega) (by omega) nx1 (by omega) rfl)
            · clear gf4
              refine m_aload_n (j := 4) C dX12_set_66 rfl ?_
              refine m_bipush (z := 6) C dX12_set_67 (by decide) ?_
              refine m_call (mc2 := 0) (ms2 := 0) (As := [.int (iI 6)]) (rest := []) C (B_bad (x := 6) bn4 (by show -2147483648 ≤ (6 : Int) ∧ (6 : Int) ≤ 2147483647; omega)) dX12_set_69 kV_X12_154 rfl ck_13 rfl (Nat.le_of_ble_eq_true rfl) ⟨Nat.le_of_ble_eq_true rfl, Nat.le_of_ble_eq_true rfl⟩ ⟨Nat.le_of_ble_eq_true rfl, Nat.le_of_ble_eq_true rfl⟩ (fun rh12 vh12 ah12 h12 => ?_)
              obtain ⟨f12, rfl, fn12, bn12, ex12⟩ := h12
              refine hv2 (fq8.call fn12 rfl rfl) (show f12 = -1 from ex12) (fun fq16 gf12 => ?_)
              refine m_st (st2 := [.int (iI f12)]) rfl ?_
              exact m_iret C dX12_set_72 rfl (Nat.le_of_ble_eq_true rfl) (Nat.le_of_ble_eq_true rfl) ⟨f12, rfl, fq16, bn12, (SETX.n2 (tl1.mp (by omega)) (SE2.nroom hS2 (by omega) hT ⟨by omega, by omega⟩ nx1 (by omega)) (by omega) (ks1.fr fn12 rfl rfl rfl))⟩
          refine m_icmp_ne (tgt := 50) C ⟨by omega, by omega⟩ ⟨by decide, by decide⟩ dX12_set_43 (by decide) (fun c11 => ?_) (fun c11 => ?_)
          · refine m_iconst C dX12_set_50 ?_
            refine m_lv (lv2 := [(3, .int (iI f3)), (2, .int (iI x)), (0, .ref h0), (1, .int (iI t))]) [0, 1, 2, 3] rfl ?_
            exact J1  0 _ _  bxb1 fpb1 (by omega) hK21 (by omega) hS1
          · refine m_iconst C dX12_set_46 ?_
            refine m_goto (tgt := 51) C dX12_set_47 (by decide) ?_
            refine m_lv (lv2 := [(3, .int (iI f3)), (2, .int (iI x)), (0, .ref h0), (1, .int (iI t))]) [0, 1, 2, 3] rfl ?_
            exact J1  1 _ _  bxb1 fpb1 (by omega) hK21 (by omega) hS1
    refine m_lv (lv2 := [(2, .int (iI 0)), (0, .ref h0), (1, .int (iI t))]) [0, 1, 2] rfl ?_
    exact Lp1 503 0 _ _ (by omega) bq1 fq2 (by omega) ⟨va_up_ne _ _ (by decide), rfl, rfl⟩ (SE2.init (va_up_self _ _ _))
  · clear gf1
    refine m_aload_n (j := 0) C dX12_set_8 rfl ?_
    refine m_iconst C dX12_set_9 ?_
    refine m_call (mc2 := 0) (ms2 := 0) (As := [.int (iI 3)]) (rest := []) C (B_bad (x := 3) hB (by show -2147483648 ≤ (3 : Int) ∧ (3 : Int) ≤ 2147483647; omega)) dX12_set_10 kV_X12_154 rfl ck_13 rfl (Nat.le_of_ble_eq_true rfl) ⟨Nat.le_of_ble_eq_true rfl, Nat.le_of_ble_eq_true rfl⟩ ⟨Nat.le_of_ble_eq_true rfl, Nat.le_of_ble_eq_true rfl⟩ (fun rh13 vh13 ah13 h13 => ?_)
    obtain ⟨f13, rfl, fn13, bn13, ex13⟩ := h13
    refine hv2 (fp0.call fn13 rfl rfl) (show f13 = -1 from ex13) (fun fq17 gf13 => ?_)
    refine m_st (st2 := [.int (iI f13)]) rfl ?_
    exact m_iret C dX12_set_13 rfl (Nat.le_of_ble_eq_true rfl) (Nat.le_of_ble_eq_true rfl) ⟨f13, rfl, fq17, bn13, (SETX.n1 (fun q => absurd (tl1.mpr q) (by omega)) (by omega) ((KSH.refl (v := v) (a := a)).fr fn13 rfl rfl rfl))⟩
end
section
def rwe (E : List (Option (List Int))) (l : Int) : Option (Option (List Int)) := if 0 ≤ l then E[l.toNat]? else none
def RWA (a : Nat → Nat → Int) (l : Nat) (x : Option (List Int)) : Prop := (x = none ∧ a 34 l < 0) ∨ ∃ xs, x = some xs ∧ a 34 l = ((xs.length : Nat) : Int) ∧ ∀ (j : Nat) (y : Int), xs[j]? = some y → a 35 (200 * l + j) = y
def SHA (v : Nat → Int) (a : Nat → Nat → Int) (E : List (Option (List Int))) : Prop := v 36 = ((E.length : Nat) : Int) ∧ ∀ (l : Nat) (x : Option (List Int)), E[l]? = some x → RWA a l x
def mpr (n : Nat) (F : Nat → Int) : List Int := (List.range n).map F
def gd0 (xs : List Int) (j : Nat) : Int := (xs[j]?).getD 0
def LOSX (E : List (Option (List Int))) (l f : Int) (E2 : List (Option (List Int))) : Prop := ((∃ x, rwe E l = some x) ∧ E2 = E.set l.toNat none ∧ f = 1) ∨ (rwe E l = none ∧ E2 = E ∧ f = -1)
def CUTX (E : List (Option (List Int))) (l n f : Int) (E2 : List (Option (List Int))) : Prop := ((0 ≤ n ∧ n ≤ 200) ∧ ∃ xs, rwe E l = some (some xs) ∧ E2 = E.set l.toNat (some (mpr n.toNat (gd0 xs))) ∧ f = n) ∨ ((¬ ((0 ≤ n ∧ n ≤ 200) ∧ ∃ xs, rwe E l = some (some xs))) ∧ E2 = E ∧ f = -1)
def cpx (xs ys : List Int) (w x n : Nat) : List Int := mpr ys.length (fun j => if x ≤ j ∧ j < x + n then gd0 xs (w + (j - x)) else gd0 ys j)
def CPK (E : List (Option (List Int))) (q w u x n : Int) (xs ys : List Int) : Prop := rwe E q = some (some xs) ∧ rwe E u = some (some ys) ∧ 0 ≤ n ∧ 0 ≤ w ∧ 0 ≤ x ∧ w + n ≤ ((xs.length : Nat) : Int) ∧ x + n ≤ ((ys.length : Nat) : Int)
def CPRX (E : List (Option (List Int))) (q w u x n f : Int) (E2 : List (Option (List Int))) : Prop := (∃ xs ys, CPK E q w u x n xs ys ∧ E2 = E.set u.toNat (some (cpx xs ys w.toNat x.toNat n.toNat)) ∧ f = n) ∨ ((¬ ∃ xs ys, CPK E q w u x n xs ys) ∧ E2 = E ∧ f = -1)
def cst (E : List (Option (List Int))) (q u : Int) (E2 : List (Option (List Int))) : Prop := ∃ xs y, rwe E q = some (some xs) ∧ rwe E u = some y ∧ E2 = E.set u.toNat (some xs)
def cpn (E : List (Option (List Int))) (q u : Int) : Nat → List (Option (List Int)) → Prop
  | 0, E2 => E2 = E
  | k + 1, E2 => ∃ E1, cpn E q u k E1 ∧ cst E1 (q + ((k : Nat) : Int)) (u + ((k : Nat) : Int)) E2
def CPLX (E : List (Option (List Int))) (q u n c f : Int) (E2 : List (Option (List Int))) (c2 : Int) : Prop := ((n < 0 ∨ 10 < n) ∧ E2 = E ∧ f = -1 ∧ c2 = c) ∨ ((0 ≤ n ∧ n ≤ 10) ∧ ((cpn E q u n.toNat E2 ∧ f = n ∧ c2 = n) ∨ ∃ k : Nat, ((k : Nat) : Int) < n ∧ cpn E q u k E2 ∧ (¬ ∃ E3, cst E2 (q + ((k : Nat) : Int)) (u + ((k : Nat) : Int)) E3) ∧ f = -1 ∧ c2 = ((k : Nat) : Int)))
section CONT
variable {v v2 : Nat → Int} {a a2 : Nat → Nat → Int} {E E1 E2 E3 : List (Option (List Int))} {l i n q u w x f f1 f2 c c1 c2 : Int} {k : Nat} {xs ys : List Int}
theorem mpr_len {n : Nat} {F : Nat → Int} : (mpr n F).length = n := by
  unfold mpr
  rw [List.length_map, List.length_range]
theorem mpr_at {n j : Nat} {F : Nat → Int} {y : Int} (h : (mpr n F)[j]? = some y) : j < n ∧ y = F j := by
  have lt := gl3 h
  rw [mpr_len] at lt
  refine ⟨lt, ?_⟩
  unfold mpr at h
  rw [List.getElem?_map, List.getElem?_range lt] at h
  exact (Option.some.inj h).symm
theorem gd0_at {j : Nat} {y : Int} (h : xs[j]? = some y) : gd0 xs j = y := by
  unfold gd0
  rw [h]
  rfl
theorem gd0_out {j : Nat} (h : xs.length ≤ j) : gd0 xs j = 0 := by
  unfold gd0
  rw [List.getElem?_eq_none h]
  rfl
theorem gd0_lt {j : Nat} (h : j < xs.length) : xs[j]? = some (gd0 xs j) := by
  rw [gd0_at (List.getElem?_eq_getElem h)]
  exact List.getElem?_eq_getElem h
theorem rwl_lt {y : Option (List Int)} (h : rwe E l = some y) : 0 ≤ l ∧ l < ((E.length : Nat) : Int) ∧ E[l.toNat]? = some y := by
  unfold rwe at h
  by_cases c0 : 0 ≤ l
  · rw [if_pos c0] at h
    have lt := gl3 h
    exact ⟨c0, by omega, h⟩
  · rw [if_neg c0] at h
    cases h
theorem rwl_in (h0 : 0 ≤ l) (h : l < ((E.length : Nat) : Int)) : ∃ y, rwe E l = some y ∧ E[l.toNat]? = some y := by
  have lt : l.toNat < E.length := by omega
  refine ⟨_, ?_, List.getElem?_eq_getElem lt⟩
  unfold rwe
  rw [if_pos h0]
  exact List.getElem?_eq_getElem lt
theorem rwl_out (h : ¬ (0 ≤ l ∧ l < ((E.length : Nat) : Int))) : rwe E l = none := by
  unfold rwe
  by_cases c0 : 0 ≤ l
  · rw [if_pos c0]
    exact List.getElem?_eq_none (by omega)
  · rw [if_neg c0]
theorem SHA.off (h : SHA v a E) (hl : ¬ (0 ≤ l ∧ l < v 36)) : rwe E l = none := rwl_out (by have e := h.1; omega)
theorem SHA.on (h : SHA v a E) (h0 : 0 ≤ l) (hl : l < v 36) : ∃ y, rwe E l = some y ∧ RWA a l.toNat y := by
  obtain ⟨y, y1, y2⟩ := rwl_in (E := E) h0 (by have e := h.1; omega)
  exact ⟨y, y1, h.2 _ y y2⟩
theorem SHA.lack (h : SHA v a E) (h0 : 0 ≤ l) (hl : l < v 36) (hn : a 34 l.toNat < 0) : rwe E l = some none := by
  obtain ⟨y, y1, y2⟩ := h.on h0 hl
  rcases y2 with ⟨e, _⟩ | ⟨xs, _, e, _⟩
  · rw [y1, e]
  · omega
theorem SHA.have_ (h : SHA v a E) (h0 : 0 ≤ l) (hl : l < v 36) (hn : 0 ≤ a 34 l.toNat) : ∃ xs, rwe E l = some (some xs) ∧ a 34 l.toNat = ((xs.length : Nat) : Int) ∧ ∀ j : Nat, j < xs.length → a 35 (200 * l.toNat + j) = gd0 xs j := by
  obtain ⟨y, y1, y2⟩ := h.on h0 hl
  rcases y2 with ⟨_, e⟩ | ⟨xs, e1, e2, e3⟩
  · omega
  · exact ⟨xs, by rw [y1, e1], e2, fun j hj => e3 j _ (gd0_lt hj)⟩
theorem LOSX.uni (h : LOSX E l f1 E1) (h2 : LOSX E l f2 E2) : f1 = f2 ∧ E1 = E2 := by
  rcases h with ⟨⟨x, e1⟩, e2, e3⟩ | ⟨e1, e2, e3⟩ <;> rcases h2 with ⟨⟨y, d1⟩, d2, d3⟩ | ⟨d1, d2, d3⟩
  · exact ⟨e3.trans d3.symm, e2.trans d2.symm⟩
  · rw [e1] at d1
    cases d1
  · rw [e1] at d1
    cases d1
  · exact ⟨e3.trans d3.symm, e2.trans d2.symm⟩
theorem CUTX.uni (h : CUTX E l n f1 E1) (h2 : CUTX E l n f2 E2) : f1 = f2 ∧ E1 = E2 := by
  rcases h with ⟨e0, xs, e1, e2, e3⟩ | ⟨e1, e2, e3⟩ <;> rcases h2 with ⟨d0, ys, d1, d2, d3⟩ | ⟨d1, d2, d3⟩
  · rw [e1] at d1
    cases d1
    exact ⟨e3.trans d3.symm, e2.trans d2.symm⟩
  · exact absurd ⟨e0, xs, e1⟩ d1
  · exact absurd ⟨d0, ys, d1⟩ e1
  · exact ⟨e3.trans d3.symm, e2.trans d2.symm⟩
theorem CPRX.uni (h : CPRX E q w u x n f1 E1) (h2 : CPRX E q w u x n f2 E2) : f1 = f2 ∧ E1 = E2 := by
  rcases h with ⟨xs, ys, e1, e2, e3⟩ | ⟨e1, e2, e3⟩ <;> rcases h2 with ⟨zs, us, d1, d2, d3⟩ | ⟨d1, d2, d3⟩
  · have i1 := e1.1.symm.trans d1.1
    have i2 := e1.2.1.symm.trans d1.2.1
    cases i1
    cases i2
    exact ⟨e3.trans d3.symm, e2.trans d2.symm⟩
  · exact absurd ⟨xs, ys, e1⟩ d1
  · exact absurd ⟨zs, us, d1⟩ e1
  · exact ⟨e3.trans d3.symm, e2.trans d2.symm⟩
theorem cst.uni (h : cst E q u E1) (h2 : cst E q u E2) : E1 = E2 := by
  obtain ⟨xs, y, e1, e2, e3⟩ := h
  obtain ⟨ys, z, d1, d2, d3⟩ := h2
  rw [e1] at d1
  cases d1
  rw [e3, d3]
theorem cpn.uni : ∀ (k : Nat) (E1 E2 : List (Option (List Int))), cpn E q u k E1 → cpn E q u k E2 → E1 = E2 := by
  intro k
  induction k with
  | zero => intro E1 E2 h h2; exact h.trans h2.symm
  | succ k ih =>
    intro E1 E2 h h2
    obtain ⟨A, a1, a2⟩ := h
    obtain ⟨B, b1, b2⟩ := h2
    have e := ih A B a1 b1
    subst e
    exact cst.uni a2 b2
theorem cpn.less {m : Nat} (hm : k < m) : ∀ E1, cpn E q u m E1 → ∃ E2 E3, cpn E q u k E2 ∧ cst E2 (q + ((k : Nat) : Int)) (u + ((k : Nat) : Int)) E3 := by
  induction m with
  | zero => omega
  | succ m ih =>
    intro E1 h
    obtain ⟨A, a1, a2⟩ := h
    by_cases c0 : k = m
    · subst c0
      exact ⟨A, E1, a1, a2⟩
    · exact ih (by omega) A a1
theorem cpn.stop {m : Nat} (h1 : cpn E q u k E1) (n1 : ¬ ∃ E3, cst E1 (q + ((k : Nat) : Int)) (u + ((k : Nat) : Int)) E3) (h2 : cpn E q u m E2) (hm : k < m) : False := by
  obtain ⟨A, B, a1, a2⟩ := cpn.less hm E2 h2
  have e := cpn.uni k A E1 a1 h1
  subst e
  exact n1 ⟨B, a2⟩
theorem CPLX.uni (h : CPLX E q u n c f1 E1 c1) (h2 : CPLX E q u n c f2 E2 c2) : f1 = f2 ∧ E1 = E2 ∧ c1 = c2 := by
  rcases h with ⟨e0, e1, e2, e3⟩ | ⟨e0, ⟨e1, e2, e3⟩ | ⟨k, e1, e2, e3, e4, e5⟩⟩ <;> rcases h2 with ⟨d0, d1, d2, d3⟩ | ⟨d0, ⟨d1, d2, d3⟩ | ⟨m, d1, d2, d3, d4, d5⟩⟩
  · exact ⟨e2.trans d2.symm, e1.trans d1.symm, e3.trans d3.symm⟩
  · omega
  · omega
  · omega
  · exact ⟨e2.trans d2.symm, cpn.uni _ _ _ e1 d1, e3.trans d3.symm⟩
  · exact (cpn.stop d2 d3 e1 (by omega)).elim
  · omega
  · exact (cpn.stop e2 e3 d1 (by omega)).elim
  · by_cases c0 : k = m
    · subst c0
      exact ⟨e4.trans d4.symm, cpn.uni _ _ _ e2 d2, e5.trans d5.symm⟩
    · by_cases c3 : k < m
      · exact (cpn.stop e2 e3 d2 c3).elim
      · exact (cpn.stop d2 d3 e2 (by omega)).elim
end CONT
end
section
def LSA (v : Nat → Int) (a : Nat → Nat → Int) (v2 : Nat → Int) (a2 : Nat → Nat → Int) (l f : Int) : Prop := ∀ E, SHA v a E → ∃ E2, LOSX E l f E2 ∧ SHA v2 a2 E2
def CTA (v : Nat → Int) (a : Nat → Nat → Int) (v2 : Nat → Int) (a2 : Nat → Nat → Int) (l n f : Int) : Prop := ∀ E, SHA v a E → ∃ E2, CUTX E l n f E2 ∧ SHA v2 a2 E2
def CT1 (a : Nat → Nat → Int) (a1 : Nat → Nat → Int) (l k : Int) : Prop := a1 34 = a 34 ∧ ∀ j : Nat, a1 35 j = if 200 * l + a 34 l.toNat ≤ ((j : Nat) : Int) ∧ ((j : Nat) : Int) < 200 * l + k then 0 else a 35 j
def CRA (v : Nat → Int) (a : Nat → Nat → Int) (v2 : Nat → Int) (a2 : Nat → Nat → Int) (q w u x n f : Int) : Prop := ∀ E, SHA v a E → ∃ E2, CPRX E q w u x n f E2 ∧ SHA v2 a2 E2
def CR1 (a : Nat → Nat → Int) (a1 : Nat → Nat → Int) (p t n g k : Int) : Prop := a1 34 = a 34 ∧ ∀ j : Nat, a1 35 j = if (g = 0 ∧ t ≤ ((j : Nat) : Int) ∧ ((j : Nat) : Int) < t + k) ∨ (g ≠ 0 ∧ t + (n - k) ≤ ((j : Nat) : Int) ∧ ((j : Nat) : Int) < t + n) then a 35 (((j : Nat) : Int) - t + p).toNat else a 35 j
def KSA (v : Nat → Int) (a : Nat → Nat → Int) (v2 : Nat → Int) (a2 : Nat → Nat → Int) : Prop := v2 36 = v 36 ∧ a2 34 = a 34 ∧ a2 35 = a 35
section RSHT
variable {v v1 v2 : Nat → Int} {a a1 a2 a3 : Nat → Nat → Int} {E E2 : List (Option (List Int))} {l i n q u w x f k z p t g : Int} {m m2 : Nat} {y : Option (List Int)} {xs ys : List Int}
theorem SHA.cg (h : SHA v a E) (hk : KSA v a v2 a2) : SHA v2 a2 E := by
  obtain ⟨k1, k2, k3⟩ := hk
  refine ⟨k1.trans h.1, fun l x e => ?_⟩
  unfold RWA
  rw [k2, k3]
  exact h.2 l x e
theorem SHA.set (h : SHA v a E) (hb : ∀ j, a 34 j ≤ 200) (h0 : 0 ≤ l ∧ l < v 36) (h36 : v2 36 = v 36) (hr : RWA a2 l.toNat y) (ho : ∀ j : Nat, j ≠ l.toNat → a2 34 j = a 34 j ∧ ∀ o : Nat, o < 200 → a2 35 (200 * j + o) = a 35 (200 * j + o)) : SHA v2 a2 (E.set l.toNat y) := by
  obtain ⟨h1, h2⟩ := h
  refine ⟨by rw [List.length_set]; omega, fun j x e => ?_⟩
  rw [List.getElem?_set] at e
  by_cases c : l.toNat = j
  · rw [if_pos c] at e
    split at e
    · cases e
      rw [← c]
      exact hr
    · cases e
  · rw [if_neg c] at e
    obtain ⟨o1, o2⟩ := ho j (fun e2 => c e2.symm)
    rcases h2 j x e with ⟨d1, d2⟩ | ⟨xs, d1, d2, d3⟩
    · exact Or.inl ⟨d1, by omega⟩
    · refine Or.inr ⟨xs, d1, by omega, fun o z ez => ?_⟩
      refine hv2 (gl3 ez) (hb j) (fun lt b => ?_)
      rw [o2 o (by omega)]
      exact d3 o z ez
theorem SHA.fault (h : SHA v a E) (hl : ¬ (0 ≤ l ∧ l < v 36) ∨ ((0 ≤ l ∧ l < v 36) ∧ a 34 l.toNat < 0)) : ¬ ∃ xs, rwe E l = some (some xs) := fun e => by
  obtain ⟨xs, e⟩ := e
  rcases hl with c | ⟨c1, c2⟩
  · rw [h.off c] at e
    cases e
  · rw [h.lack c1.1 c1.2 c2] at e
    cases e
theorem LSA.bad (hl : ¬ (0 ≤ l ∧ l < v 36)) (hf : f = -1) (hk : KSA v a v2 a2) : LSA v a v2 a2 l f := fun E h => ⟨E, Or.inr ⟨h.off hl, rfl, hf⟩, h.cg hk⟩
theorem LSA.ok (hb : ∀ j, a 34 j ≤ 200) (h0 : 0 ≤ l ∧ l < v 36) (hf : f = 1) (h36 : v2 36 = v 36) (h34 : a2 34 = up2 a 34 l.toNat (-1) 34) (h35 : a2 35 = up2 a 34 l.toNat (-1) 35) : LSA v a v2 a2 l f := fun E h => by
  obtain ⟨y, y1, _⟩ := h.on h0.1 h0.2
  refine ⟨_, Or.inl ⟨⟨y, y1⟩, rfl, hf⟩, h.set hb h0 h36 (Or.inl ⟨rfl, ?_⟩) (fun j hj => ⟨?_, fun o _ => ?_⟩)⟩
  · rw [h34, up2_s]
    decide
  · rw [h34, up2_j hj]
  · rw [h35, up2_k (by decide)]
theorem CT1.zero (hk : k = a 34 l.toNat) : CT1 a a l k := ⟨rfl, fun j => by rw [if_neg (by omega)]⟩
theorem CT1.step (h : CT1 a a1 l k) (hk : a 34 l.toNat ≤ k ∧ 0 ≤ 200 * l + k) (hm : m = (200 * l + k).toNat) : CT1 a (up2 a1 35 m 0) l (k + 1) := by
  obtain ⟨h1, h2⟩ := h
  refine ⟨by rw [← h1]; funext j; exact up2_k (by decide), fun j => ?_⟩
  by_cases c : j = m
  · rw [c, up2_s, if_pos (by omega)]
  · rw [up2_j c, h2 j]
    by_cases c2 : 200 * l + a 34 l.toNat ≤ ((j : Nat) : Int) ∧ ((j : Nat) : Int) < 200 * l + k
    · rw [if_pos c2, if_pos (by omega)]
    · rw [if_neg c2, if_neg (by omega)]
theorem CTA.bad (hl : (n < 0 ∨ 200 < n) ∨ (¬ (0 ≤ l ∧ l < v 36) ∨ ((0 ≤ l ∧ l < v 36) ∧ a 34 l.toNat < 0))) (hf : f = -1) (hk : KSA v a v2 a2) : CTA v a v2 a2 l n f := fun E h => by
  refine ⟨E, Or.inr ⟨fun ⟨c, xs, e⟩ => ?_, rfl, hf⟩, h.cg hk⟩
  rcases hl with c2 | c2
  · omega
  · exact h.fault c2 ⟨xs, e⟩
theorem CTA.ok (hb : ∀ j, a 34 j ≤ 200) (h0 : 0 ≤ l ∧ l < v 36) (hn : 0 ≤ n ∧ n ≤ 200) (hp : 0 ≤ a 34 l.toNat) (hc : CT1 a a1 l k) (hk : (k = a 34 l.toNat ∨ k ≤ n) ∧ n ≤ k) (hf : f = n) (h36 : v2 36 = v 36) (h34 : a2 34 = up2 a1 34 l.toNat n 34) (h35 : a2 35 = up2 a1 34 l.toNat n 35) : CTA v a v2 a2 l n f := fun E h => by
  obtain ⟨xs, e1, e2, e3⟩ := h.have_ h0.1 h0.2 hp
  obtain ⟨c1, c2⟩ := hc
  have b := hb l.toNat
  refine ⟨_, Or.inl ⟨hn, xs, e1, rfl, hf⟩, h.set hb h0 h36 (Or.inr ⟨_, rfl, ?_, fun j y ey => ?_⟩) (fun j hj => ⟨?_, fun o ho => ?_⟩)⟩
  · rw [h34, up2_s, mpr_len]
    omega
  · obtain ⟨m1, m2⟩ := mpr_at ey
    rw [h35, up2_k (by decide), c2, m2]
    by_cases c : j < xs.length
    · rw [if_neg (by omega)]
      exact e3 j c
    · rw [if_pos (by omega), gd0_out (by omega)]
  · rw [h34, up2_j hj, c1]
  · rw [h35, up2_k (by decide), c2, if_neg (by omega)]
theorem CR1.zero (hk : k = 0) (h34 : a1 34 = a 34 ∧ a1 35 = a 35) : CR1 a a1 p t n g k := ⟨h34.1, fun j => by rw [if_neg (by omega), h34.2]⟩
theorem CR1.step (h : CR1 a a1 p t n g k) (hg : (g = 0 ∧ z = k) ∨ (g = 1 ∧ z = n - 1 - k)) (hk : 0 ≤ k ∧ k < n) (hp : 0 ≤ p ∧ 0 ≤ t) (ho : (g = 1 ∧ p < t) ∨ (g = 0 ∧ (t ≤ p ∨ t + n ≤ p ∨ p + n ≤ t))) (hm : m = (t + z).toNat) (hm2 : m2 = (p + z).toNat) : CR1 a (up2 a1 35 m (a1 35 m2)) p t n g (k + 1) := by
  obtain ⟨h1, h2⟩ := h
  refine ⟨by rw [← h1]; funext j; exact up2_k (by decide), fun j => ?_⟩
  by_cases c : j = m
  · rw [c, up2_s, if_pos (by omega), h2 m2, if_neg (by omega), show ((m : Nat) : Int) - t + p = ((m2 : Nat) : Int) by omega, Int.toNat_natCast]
  · rw [up2_j c, h2 j]
    by_cases c2 : (g = 0 ∧ t ≤ ((j : Nat) : Int) ∧ ((j : Nat) : Int) < t + k) ∨ (g ≠ 0 ∧ t + (n - k) ≤ ((j : Nat) : Int) ∧ ((j : Nat) : Int) < t + n)
    · rw [if_pos c2, if_pos (by omega)]
    · rw [if_neg c2, if_neg (by omega)]
theorem CRA.bad (hf : f = -1) (hk : KSA v a v2 a2) (hn : ¬ (((0 ≤ q ∧ q < v 36) ∧ 0 ≤ a 34 q.toNat) ∧ ((0 ≤ u ∧ u < v 36) ∧ 0 ≤ a 34 u.toNat) ∧ 0 ≤ n ∧ 0 ≤ w ∧ 0 ≤ x ∧ w + n ≤ a 34 q.toNat ∧ x + n ≤ a 34 u.toNat)) : CRA v a v2 a2 q w u x n f := fun E h => by
  refine ⟨E, Or.inr ⟨fun ⟨xs, ys, e1, e2, e3, e4, e5, e6, e7⟩ => hn ?_, rfl, hf⟩, h.cg hk⟩
  have k : ∀ l zs, rwe E l = some (some zs) → (0 ≤ l ∧ l < v 36) ∧ a 34 l.toNat = ((zs.length : Nat) : Int) := fun l zs e => by
    obtain ⟨r1, r2, r3⟩ := rwl_lt e
    refine ⟨⟨r1, by have q := h.1; omega⟩, ?_⟩
    rcases h.2 _ _ r3 with ⟨d, _⟩ | ⟨ws, d1, d2, _⟩
    · cases d
    · cases d1
      exact d2
  obtain ⟨a1, a2⟩ := k q xs e1
  obtain ⟨b1, b2⟩ := k u ys e2
  exact ⟨⟨a1, by omega⟩, ⟨b1, by omega⟩, e3, e4, e5, by omega, by omega⟩
theorem CRA.ok (hb : ∀ j, a 34 j ≤ 200) (hq : (0 ≤ q ∧ q < v 36) ∧ 0 ≤ a 34 q.toNat) (hu : (0 ≤ u ∧ u < v 36) ∧ 0 ≤ a 34 u.toNat) (hn : 0 ≤ n) (hw : 0 ≤ w) (hx : 0 ≤ x) (h1 : w + n ≤ a 34 q.toNat) (h2 : x + n ≤ a 34 u.toNat) (hc : CR1 a a1 (200 * q + w) (200 * u + x) n g k) (hk : k = n) (hf : f = n) (h36 : v2 36 = v 36) (h34 : a2 34 = a1 34) (h35 : a2 35 = a1 35) : CRA v a v2 a2 q w u x n f := fun E h => by
  obtain ⟨xs, e1, e2, e3⟩ := h.have_ hq.1.1 hq.1.2 hq.2
  obtain ⟨ys, d1, d2, d3⟩ := h.have_ hu.1.1 hu.1.2 hu.2
  obtain ⟨c1, c2⟩ := hc
  refine hv2 (hb u.toNat) (hb q.toNat) (fun b b3 => ?_)
  refine ⟨_, Or.inl ⟨xs, ys, ⟨e1, d1, hn, hw, hx, by omega, by omega⟩, rfl, hf⟩, h.set hb hu.1 h36 (Or.inr ⟨_, rfl, ?_, fun j y ey => ?_⟩) (fun j hj => ⟨?_, fun o ho => ?_⟩)⟩
  · unfold cpx
    rw [h34, c1, mpr_len]
    exact d2
  · unfold cpx at ey
    obtain ⟨m1, m2⟩ := mpr_at ey
    rw [h35, c2, m2]
    by_cases c : x.toNat ≤ j ∧ j < x.toNat + n.toNat
    · rw [if_pos (by omega), if_pos c, ← e3 _ (by omega)]
      congr 1
      omega
    · rw [if_neg (by omega), if_neg c]
      exact d3 j m1
  · rw [h34, c1]
  · rw [h35, c2, if_neg (by omega)]
end RSHT
set_option maxHeartbeats 4000000 in
set_option maxRecDepth 100000 in
theorem N2_lose {l : Launch} {G : GT} {h0 : Nat} {ad ln : Nat → Nat} {v : Nat → Int} {a : Nat → Nat → Int}  {l0 : Int} (hB : BX v a) (hl0 : -2147483648 ≤ l0 ∧ l0 ≤ 2147483647) : Mm l G yX12_lose cX12_lose 2 (some .int) 2 [.int (iI l0)] h0 ad ln v a 0 0 (fun r v2 a2 => ∃ f : Int, r = some (.int (iI f)) ∧ fr [0, 1] [34] v a v2 a2 ∧ BX v2 a2 ∧ (LSA v a v2 a2 l0 f)) := by
  refine Mm.mk (by decide) (Nat.le_of_ble_eq_true rfl) ?_
  intro p e s m args below meth c A C
  have fp0 : fr [0, 1] [34] v a v a := fr.refl
  refine m_iload_n (j := 1) C dX12_lose_0 rfl ?_
  refine m_iconst C dX12_lose_1 ?_
  refine m_aload_n (j := 0) C dX12_lose_2 rfl ?_
  have rv1 : 0 ≤ v 36 ∧ v 36 ≤ 200 := hB.1 36
  refine m_get (k := 36) C dX12_lose_3 w6_95 (by decide) rfl ?_
  refine m_iconst C dX12_lose_6 ?_
  refine m_isub C dX12_lose_7 ?_
  refine m_callS (As := [.int (iI l0), .int (iI 0), .int (iI ((v 36) - 1))]) (rest := []) C (fun L E => s_isIn (iI l0) (iI 0) (iI ((v 36) - 1))) dX12_lose_8 kS_X12_174 rfl rfl (Nat.le_of_ble_eq_true rfl) ⟨Nat.le_of_ble_eq_true rfl, Nat.le_of_ble_eq_true rfl⟩ ⟨Nat.le_of_ble_eq_true rfl, Nat.le_of_ble_eq_true rfl⟩ ?_
  rcases inn_c (x := l0) (lo := 0) (hi := (v 36) - 1) ⟨by omega, by omega⟩ ⟨by decide, by decide⟩ ⟨by omega, by omega⟩ with ⟨h1a, h1b, h1e⟩ | ⟨h1a, h1e⟩
  · refine m_st (st2 := [.int (iI 1)]) (by rw [h1e]) ?_
    refine m_if_ne (tgt := 20) C ⟨by decide, by decide⟩ dX12_lose_11 (by decide) (fun _ => ?_) (fun z => absurd z (by omega))
    refine m_aload_n (j := 0) C dX12_lose_20 rfl ?_
    refine m_geta (k := 34) C dX12_lose_21 w6_93 (by decide) rfl ?_
    refine m_iload_n (j := 1) C dX12_lose_24 rfl ?_
    refine m_iconst C dX12_lose_25 ?_
    refine m_ast (k := 34) C dX12_lose_26 rfl rfl (by decide) (by omega) (by show _ < ((_ : Nat) : Int); simp only [mlen]; omega) (by decide) ?_
    refine hv2 (show BX v (up2 a 34 l0.toNat (-1)) from hB.set (k := 34) (i := l0.toNat) (z := (-1)) ⟨by decide, by decide⟩) (fp0.set (k := 34) (i := l0.toNat) (z := (-1)) rfl) (fun bq1 fq1 => ?_)
    refine m_aload_n (j := 0) C dX12_lose_27 rfl ?_
    refine m_iconst C dX12_lose_28 ?_
    refine m_call (mc2 := 0) (ms2 := 0) (As := [.int (iI 1)]) (rest := []) C (B_fine (x := 1) bq1 (by show -2147483648 ≤ (1 : Int) ∧ (1 : Int) ≤ 2147483647; omega)) dX12_lose_29 kV_X12_158 rfl ck_13 rfl (Nat.le_of_ble_eq_true rfl) ⟨Nat.le_of_ble_eq_true rfl, Nat.le_of_ble_eq_true rfl⟩ ⟨Nat.le_of_ble_eq_true rfl, Nat.le_of_ble_eq_true rfl⟩ (fun rh2 vh2 ah2 h2 => ?_)
    obtain ⟨f1, rfl, fn1, bn1, ex1⟩ := h2
    refine hv2 (fq1.call fn1 rfl rfl) (show f1 = (1 : Int) from ex1) (fun fq2 gf1 => ?_)
    refine m_st (st2 := [.int (iI f1)]) rfl ?_
    exact m_iret C dX12_lose_32 rfl (Nat.le_of_ble_eq_true rfl) (Nat.le_of_ble_eq_true rfl) ⟨f1, rfl, fq2, bn1, (LSA.ok (fun j => (hB.2 34 j).2) ⟨by omega, by omega⟩ (by omega) (fn1.1 36 rfl) (fn1.2 34 rfl) (fn1.2 35 rfl))⟩
  · refine m_st (st2 := [.int (iI 0)]) (by rw [h1e]) ?_
    refine m_if_ne (tgt := 20) C ⟨by decide, by decide⟩ dX12_lose_11 (by decide) (fun z => absurd z (by omega)) (fun _ => ?_)
    refine m_aload_n (j := 0) C dX12_lose_14 rfl ?_
    refine m_iconst C dX12_lose_15 ?_
    refine m_call (mc2 := 0) (ms2 := 0) (As := [.int (iI 2)]) (rest := []) C (B_bad (x := 2) hB (by show -2147483648 ≤ (2 : Int) ∧ (2 : Int) ≤ 2147483647; omega)) dX12_lose_16 kV_X12_154 rfl ck_13 rfl (Nat.le_of_ble_eq_true rfl) ⟨Nat.le_of_ble_eq_true rfl, Nat.le_of_ble_eq_true rfl⟩ ⟨Nat.le_of_ble_eq_true rfl, Nat.le_of_ble_eq_true rfl⟩ (fun rh3 vh3 ah3 h3 => ?_)
    obtain ⟨f2, rfl, fn2, bn2, ex2⟩ := h3
    refine hv2 (fp0.call fn2 rfl rfl) (show f2 = -1 from ex2) (fun fq3 gf2 => ?_)
    refine m_st (st2 := [.int (iI f2)]) rfl ?_
    exact m_iret C dX12_lose_19 rfl (Nat.le_of_ble_eq_true rfl) (Nat.le_of_ble_eq_true rfl) ⟨f2, rfl, fq3, bn2, (LSA.bad (by omega) (by omega) ⟨fn2.1 36 rfl, fn2.2 34 rfl, fn2.2 35 rfl⟩)⟩
set_option maxHeartbeats 4000000 in
set_option maxRecDepth 100000 in
theorem N2_cut {l : Launch} {G : GT} {h0 : Nat} {ad ln : Nat → Nat} {v : Nat → Int} {a : Nat → Nat → Int}  {l0 n1 : Int} (hB : BX v a) (hl0 : -2147483648 ≤ l0 ∧ l0 ≤ 2147483647) (hn1 : -2147483648 ≤ n1 ∧ n1 ≤ 2147483647) : Mm l G yX12_cut cX12_cut 4 (some .int) 2 [.int (iI l0), .int (iI n1)] h0 ad ln v a 0 0 (fun r v2 a2 => ∃ f : Int, r = some (.int (iI f)) ∧ fr [0, 1] [34, 35] v a v2 a2 ∧ BX v2 a2 ∧ (CTA v a v2 a2 l0 n1 f)) := by
  refine Mm.mk (by decide) (Nat.le_of_ble_eq_true rfl) ?_
  intro p e s m args below meth c A C
  refine hv2 (show 0 ≤ v 36 ∧ v 36 ≤ 200 from hB.1 36) (show fr [0, 1] [34, 35] v a v a from fr.refl) (fun r36 fp0 => ?_)
  refine m_iload_n (j := 2) C dX12_cut_0 rfl ?_
  refine m_sipush (z := 200) C dX12_cut_1 (by decide) ?_
  refine m_icmp_le (tgt := 14) C ⟨by omega, by omega⟩ ⟨by decide, by decide⟩ dX12_cut_4 (by decide) (fun c1 => ?_) (fun c1 => ?_)
  · refine m_iload_n (j := 2) C dX12_cut_14 rfl ?_
    refine m_if_ge (tgt := 24) C ⟨by omega, by omega⟩ dX12_cut_15 (by decide) (fun c2 => ?_) (fun c2 => ?_)
    · refine m_aload_n (j := 0) C dX12_cut_24 rfl ?_
      refine m_iload_n (j := 1) C dX12_cut_25 rfl ?_
      have rv1 : 0 ≤ v 36 ∧ v 36 ≤ 200 := hB.1 36
      refine m_call (mc2 := 0) (ms2 := 0) (As := [.int (iI l0)]) (rest := []) C (M_lineFault (l0 := l0) hB.rg ⟨by omega, by omega⟩ ⟨hB.1 36, hB.2 34⟩) dX12_cut_26 kV_X12_294 rfl ck_13 rfl (Nat.le_of_ble_eq_true rfl) ⟨Nat.le_of_ble_eq_true rfl, Nat.le_of_ble_eq_true rfl⟩ ⟨Nat.le_of_ble_eq_true rfl, Nat.le_of_ble_eq_true rfl⟩ (fun rh1 vh1 ah1 h1 => ?_)
      obtain ⟨f1, rfl, hf1, rfl, rfl⟩ := h1
      refine hv2 (show (f1 = 2 ∧ ¬ (0 ≤ l0 ∧ l0 < (v 36))) ∨ (f1 = 1 ∧ 0 ≤ l0 ∧ l0 < (v 36) ∧ a 34 l0.toNat < 0) ∨ (f1 = 0 ∧ 0 ≤ l0 ∧ l0 < (v 36) ∧ 0 ≤ a 34 l0.toNat) from hf1) (show (-1) ≤ a 34 l0.toNat ∧ a 34 l0.toNat ≤ 200 from hB.2 34 (l0.toNat)) (fun gf1 ra1 => ?_)
      refine m_st (st2 := [.int (iI f1)]) rfl ?_
      refine m_if_le (tgt := 42) C ⟨by omega, by omega⟩ dX12_cut_29 (by decide) (fun c3 => ?_) (fun c3 => ?_)
      · refine m_aload_n (j := 0) C dX12_cut_42 rfl ?_
        refine m_geta (k := 34) C dX12_cut_43 w6_93 (by decide) rfl ?_
        refine m_iload_n (j := 1) C dX12_cut_46 rfl ?_
        refine m_ald (k := 34) C dX12_cut_47 rfl rfl (by decide) (by omega) (by show _ < ((_ : Nat) : Int); simp only [mlen]; omega) (by decide) ?_
        refine m_istore_n (lv2 := [(3, .int (iI (a 34 l0.toNat))), (0, .ref h0), (1, .int (iI l0)), (2, .int (iI n1))]) C dX12_cut_48 (by decide) rfl ?_
        have Lp1 : ∀ (nn : Nat) (k : Int) (vb1 : Nat → Int) (ab1 : Nat → Nat → Int), 201 - k < (nn : Int) → BX vb1 ab1 → fr [0, 1] [34, 35] v a vb1 ab1 → (0 ≤ k ∧ (k ≤ n1 ∨ k ≤ 200)) → ((k = a 34 l0.toNat ∨ k ≤ n1) ∧ a 34 l0.toNat ≤ k) → (CT1 a ab1 l0 k) → mw p l e (rmq 2 0 0) s m args below meth c G A 4 (MQ below (Qm G A (fun rq Lq Eq => ∃ (vq : Nat → Int) (aq : Nat → Nat → Int), mI G h0 ad ln vq aq Lq Eq ∧ (fun r v2 a2 => ∃ f : Int, r = some (.int (iI f)) ∧ fr [0, 1] [34, 35] v a v2 a2 ∧ BX v2 a2 ∧ (CTA v a v2 a2 l0 n1 f)) rq vq aq)) args s 0 0 A) h0 ad ln vb1 ab1 0 0 49 [(3, .int (iI k)), (0, .ref h0), (1, .int (iI l0)), (2, .int (iI n1))] [] := by
          intro nn
          induction nn with
          | zero =>
            intro k vb1 ab1 hm bxb1 fpb1 hk hk2 hC
            exact absurd hm (by omega)
          | succ nn ih1 =>
            intro k vb1 ab1 hm bxb1 fpb1 hk hk2 hC
            refine m_iload_n (j := 0) C dX12_cut_49 rfl ?_
            refine m_iload_n (j := 3) C dX12_cut_50 rfl ?_
            refine m_icmp_ge (tgt := 73) C ⟨by omega, by omega⟩ ⟨by omega, by omega⟩ dX12_cut_51 (by decide) (fun c4 => ?_) (fun c4 => ?_)
            · refine m_aload_n (j := 1) C dX12_cut_73 rfl ?_
              refine m_geta (k := 34) C dX12_cut_74 w6_93 (by decide) rfl ?_
              refine m_iload_n (j := 2) C dX12_cut_77 rfl ?_
              refine m_iload_n (j := 3) C dX12_cut_78 rfl ?_
              refine m_ast (k := 34) C dX12_cut_79 rfl rfl (by decide) (by omega) (by show _ < ((_ : Nat) : Int); simp only [mlen]; omega) (by decide) ?_
              refine hv2 (show BX vb1 (up2 ab1 34 l0.toNat n1) from bxb1.set (k := 34) (i := l0.toNat) (z := n1) (show (-1) ≤ n1 ∧ n1 ≤ 200 by omega)) (fpb1.set (k := 34) (i := l0.toNat) (z := n1) rfl) (fun bq1 fq1 => ?_)
              refine m_aload_n (j := 1) C dX12_cut_80 rfl ?_
              refine m_iload_n (j := 3) C dX12_cut_81 rfl ?_
              refine m_call (mc2 := 0) (ms2 := 0) (As := [.int (iI n1)]) (rest := []) C (B_fine (x := n1) bq1 (by show -2147483648 ≤ n1 ∧ n1 ≤ 2147483647; omega)) dX12_cut_82 kV_X12_158 rfl ck_13 rfl (Nat.le_of_ble_eq_true rfl) ⟨Nat.le_of_ble_eq_true rfl, Nat.le_of_ble_eq_true rfl⟩ ⟨Nat.le_of_ble_eq_true rfl, Nat.le_of_ble_eq_true rfl⟩ (fun rh2 vh2 ah2 h2 => ?_)
              obtain ⟨f2, rfl, fn1, bn1, ex1⟩ := h2
              refine hv2 (fq1.call fn1 rfl rfl) (show f2 = n1 from ex1) (fun fq2 gf2 => ?_)
              refine m_st (st2 := [.int (iI f2)]) rfl ?_
              exact m_iret C dX12_cut_85 rfl (Nat.le_of_ble_eq_true rfl) (Nat.le_of_ble_eq_true rfl) ⟨f2, rfl, fq2, bn1, (CTA.ok (fun j => (hB.2 34 j).2) ⟨by omega, by omega⟩ ⟨by omega, by omega⟩ (by omega) hC (by omega) (by omega) (fq2.1 36 rfl) (fn1.2 34 rfl) (fn1.2 35 rfl))⟩
            · refine m_aload_n (j := 1) C dX12_cut_54 rfl ?_
              refine m_geta (k := 35) C dX12_cut_55 w6_94 (by decide) rfl ?_
              refine m_sipush (z := 200) C dX12_cut_58 (by decide) ?_
              refine m_iload_n (j := 2) C dX12_cut_61 rfl ?_
              refine m_imul C dX12_cut_62 ?_
              refine m_iload_n (j := 0) C dX12_cut_63 rfl ?_
              refine m_iadd C dX12_cut_64 ?_
              refine m_iconst C dX12_cut_65 ?_
              refine m_ast (k := 35) C dX12_cut_66 rfl rfl (by decide) (by omega) (by show _ < ((_ : Nat) : Int); simp only [mlen]; omega) (by decide) ?_
              refine hv2 (show BX vb1 (up2 ab1 35 ((200 * l0) + k).toNat 0) from bxb1.set (k := 35) (i := ((200 * l0) + k).toNat) (z := 0) ⟨by decide, by decide⟩) (fpb1.set (k := 35) (i := ((200 * l0) + k).toNat) (z := 0) rfl) (fun bq2 fq3 => ?_)
              refine m_iinc (z := k) (j := 0) (lv2 := [(3, .int (iI (k + 1))), (0, .ref h0), (1, .int (iI l0)), (2, .int (iI n1))]) C dX12_cut_67 rfl (by decide) rfl ?_
              refine m_goto (tgt := 49) C dX12_cut_70 (by decide) ?_
              refine m_lv (lv2 := [(3, .int (iI (k + 1))), (0, .ref h0), (1, .int (iI l0)), (2, .int (iI n1))]) [0, 1, 2, 3] rfl ?_
              exact ih1  (k + 1) _ _ (by omega) bq2 fq3 (by omega) (by omega) (CT1.step hC ⟨by omega, by omega⟩ rfl)
        refine m_lv (lv2 := [(3, .int (iI (a 34 l0.toNat))), (0, .ref h0), (1, .int (iI l0)), (2, .int (iI n1))]) [0, 1, 2, 3] rfl ?_
        exact Lp1 202 (a 34 l0.toNat) _ _ (by omega) hB fp0 (by omega) (by omega) (CT1.zero rfl)
      · refine m_aload_n (j := 0) C dX12_cut_32 rfl ?_
        refine m_aload_n (j := 0) C dX12_cut_33 rfl ?_
        refine m_iload_n (j := 1) C dX12_cut_34 rfl ?_
        refine m_call (mc2 := 0) (ms2 := 0) (As := [.int (iI l0)]) (rest := [.ref h0]) C (M_lineFault (l0 := l0) hB.rg ⟨by omega, by omega⟩ ⟨hB.1 36, hB.2 34⟩) dX12_cut_35 kV_X12_294 rfl ck_13 rfl (Nat.le_of_ble_eq_true rfl) ⟨Nat.le_of_ble_eq_true rfl, Nat.le_of_ble_eq_true rfl⟩ ⟨Nat.le_of_ble_eq_true rfl, Nat.le_of_ble_eq_true rfl⟩ (fun rh3 vh3 ah3 h3 => ?_)
        obtain ⟨f3, rfl, hf3, rfl, rfl⟩ := h3
        have gf3 : (f3 = 2 ∧ ¬ (0 ≤ l0 ∧ l0 < (v 36))) ∨ (f3 = 1 ∧ 0 ≤ l0 ∧ l0 < (v 36) ∧ a 34 l0.toNat < 0) ∨ (f3 = 0 ∧ 0 ≤ l0 ∧ l0 < (v 36) ∧ 0 ≤ a 34 l0.toNat) := hf3
        refine m_st (st2 := [.int (iI f3), .ref h0]) rfl ?_
        refine m_call (mc2 := 0) (ms2 := 0) (As := [.int (iI f3)]) (rest := []) C (B_bad (x := f3) hB (by show -2147483648 ≤ f3 ∧ f3 ≤ 2147483647; omega)) dX12_cut_38 kV_X12_154 rfl ck_13 rfl (Nat.le_of_ble_eq_true rfl) ⟨Nat.le_of_ble_eq_true rfl, Nat.le_of_ble_eq_true rfl⟩ ⟨Nat.le_of_ble_eq_true rfl, Nat.le_of_ble_eq_true rfl⟩ (fun rh4 vh4 ah4 h4 => ?_)
        obtain ⟨f4, rfl, fn2, bn2, ex2⟩ := h4
        refine hv2 (fp0.call fn2 rfl rfl) (show f4 = -1 from ex2) (fun fq4 gf4 => ?_)
        refine m_st (st2 := [.int (iI f4)]) rfl ?_
        exact m_iret C dX12_cut_41 rfl (Nat.le_of_ble_eq_true rfl) (Nat.le_of_ble_eq_true rfl) ⟨f4, rfl, fq4, bn2, (CTA.bad (by omega) (by omega) ⟨fn2.1 36 rfl, fn2.2 34 rfl, fn2.2 35 rfl⟩)⟩
    · refine m_aload_n (j := 0) C dX12_cut_18 rfl ?_
      refine m_iconst C dX12_cut_19 ?_
      refine m_call (mc2 := 0) (ms2 := 0) (As := [.int (iI 5)]) (rest := []) C (B_bad (x := 5) hB (by show -2147483648 ≤ (5 : Int) ∧ (5 : Int) ≤ 2147483647; omega)) dX12_cut_20 kV_X12_154 rfl ck_13 rfl (Nat.le_of_ble_eq_true rfl) ⟨Nat.le_of_ble_eq_true rfl, Nat.le_of_ble_eq_true rfl⟩ ⟨Nat.le_of_ble_eq_true rfl, Nat.le_of_ble_eq_true rfl⟩ (fun rh5 vh5 ah5 h5 => ?_)
      obtain ⟨f5, rfl, fn3, bn3, ex3⟩ := h5
      refine hv2 (fp0.call fn3 rfl rfl) (show f5 = -1 from ex3) (fun fq5 gf5 => ?_)
      refine m_st (st2 := [.int (iI f5)]) rfl ?_
      exact m_iret C dX12_cut_23 rfl (Nat.le_of_ble_eq_true rfl) (Nat.le_of_ble_eq_true rfl) ⟨f5, rfl, fq5, bn3, (CTA.bad (by omega) (by omega) ⟨fn3.1 36 rfl, fn3.2 34 rfl, fn3.2 35 rfl⟩)⟩
  · refine m_aload_n (j := 0) C dX12_cut_7 rfl ?_
    refine m_bipush (z := 6) C dX12_cut_8 (by decide) ?_
    refine m_call (mc2 := 0) (ms2 := 0) (As := [.int (iI 6)]) (rest := []) C (B_bad (x := 6) hB (by show -2147483648 ≤ (6 : Int) ∧ (6 : Int) ≤ 2147483647; omega)) dX12_cut_10 kV_X12_154 rfl ck_13 rfl (Nat.le_of_ble_eq_true rfl) ⟨Nat.le_of_ble_eq_true rfl, Nat.le_of_ble_eq_true rfl⟩ ⟨Nat.le_of_ble_eq_true rfl, Nat.le_of_ble_eq_true rfl⟩ (fun rh6 vh6 ah6 h6 => ?_)
    obtain ⟨f6, rfl, fn4, bn4, ex4⟩ := h6
    refine hv2 (fp0.call fn4 rfl rfl) (show f6 = -1 from ex4) (fun fq6 gf6 => ?_)
    refine m_st (st2 := [.int (iI f6)]) rfl ?_
    exact m_iret C dX12_cut_13 rfl (Nat.le_of_ble_eq_true rfl) (Nat.le_of_ble_eq_true rfl) ⟨f6, rfl, fq6, bn4, (CTA.bad (by omega) (by omega) ⟨fn4.1 36 rfl, fn4.2 34 rfl, fn4.2 35 rfl⟩)⟩
set_option maxHeartbeats 4000000 in
set_option maxRecDepth 100000 in
theorem N2_copyRow {l : Launch} {G : GT} {h0 : Nat} {ad ln : Nat → Nat} {v : Nat → Int} {a : Nat → Nat → Int}  {q w1 u x n1 : Int} (hB : BX v a) (hq : -2147483648 ≤ q ∧ q ≤ 2147483647) (hw1 : -2147483648 ≤ w1 ∧ w1 ≤ 2147483647) (hu : -2147483648 ≤ u ∧ u ≤ 2147483647) (hx : -2147483648 ≤ x ∧ x ≤ 2147483647) (hn1 : -2147483648 ≤ n1 ∧ n1 ≤ 2147483647) : Mm l G yX12_copyRow cX12_copyRow 11 (some .int) 1 [.int (iI q), .int (iI w1), .int (iI u), .int (iI x), .int (iI n1)] h0 ad ln v a 0 0 (fun r v2 a2 => ∃ f : Int, r = some (.int (iI f)) ∧ fr [0, 1] [35] v a v2 a2 ∧ BX v2 a2 ∧ (CRA v a v2 a2 q w1 u x n1 f)) := by
  refine Mm.mk (by decide) (Nat.le_of_ble_eq_true rfl) ?_
  intro p e s m args below meth c A C
  refine hv2 (show 0 ≤ v 36 ∧ v 36 ≤ 200 from hB.1 36) (show fr [0, 1] [35] v a v a from fr.refl) (fun r36 fp0 => ?_)
  refine m_iload_n (j := 1) C dX12_copyRow_0 rfl ?_
  refine m_iconst C dX12_copyRow_1 ?_
  refine m_aload_n (j := 0) C dX12_copyRow_2 rfl ?_
  have rv1 : 0 ≤ v 36 ∧ v 36 ≤ 200 := hB.1 36
  refine m_get (k := 36) C dX12_copyRow_3 w6_95 (by decide) rfl ?_
  refine m_iconst C dX12_copyRow_6 ?_
  refine m_isub C dX12_copyRow_7 ?_
  refine m_callS (As := [.int (iI q), .int (iI 0), .int (iI ((v 36) - 1))]) (rest := []) C (fun L E => s_isIn (iI q) (iI 0) (iI ((v 36) - 1))) dX12_copyRow_8 kS_X12_174 rfl rfl (Nat.le_of_ble_eq_true rfl) ⟨Nat.le_of_ble_eq_true rfl, Nat.le_of_ble_eq_true rfl⟩ ⟨Nat.le_of_ble_eq_true rfl, Nat.le_of_ble_eq_true rfl⟩ ?_
  rcases inn_c (x := q) (lo := 0) (hi := (v 36) - 1) ⟨by omega, by omega⟩ ⟨by decide, by decide⟩ ⟨by omega, by omega⟩ with ⟨h1a, h1b, h1e⟩ | ⟨h1a, h1e⟩
  · refine m_st (st2 := [.int (iI 1)]) (by rw [h1e]) ?_
    refine m_if_eq (tgt := 28) C ⟨by decide, by decide⟩ dX12_copyRow_11 (by decide) (fun z => absurd z (by omega)) (fun _ => ?_)
    refine m_iload_n (j := 3) C dX12_copyRow_14 rfl ?_
    refine m_iconst C dX12_copyRow_15 ?_
    refine m_aload_n (j := 0) C dX12_copyRow_16 rfl ?_
    refine m_get (k := 36) C dX12_copyRow_17 w6_95 (by decide) rfl ?_
    refine m_iconst C dX12_copyRow_20 ?_
    refine m_isub C dX12_copyRow_21 ?_
    refine m_callS (As := [.int (iI u), .int (iI 0), .int (iI ((v 36) - 1))]) (rest := []) C (fun L E => s_isIn (iI u) (iI 0) (iI ((v 36) - 1))) dX12_copyRow_22 kS_X12_174 rfl rfl (Nat.le_of_ble_eq_true rfl) ⟨Nat.le_of_ble_eq_true rfl, Nat.le_of_ble_eq_true rfl⟩ ⟨Nat.le_of_ble_eq_true rfl, Nat.le_of_ble_eq_true rfl⟩ ?_
    rcases inn_c (x := u) (lo := 0) (hi := (v 36) - 1) ⟨by omega, by omega⟩ ⟨by decide, by decide⟩ ⟨by omega, by omega⟩ with ⟨h2a, h2b, h2e⟩ | ⟨h2a, h2e⟩
    · refine m_st (st2 := [.int (iI 1)]) (by rw [h2e]) ?_
      refine m_if_ne (tgt := 34) C ⟨by decide, by decide⟩ dX12_copyRow_25 (by decide) (fun _ => ?_) (fun z => absurd z (by omega))
      refine m_aload_n (j := 0) C dX12_copyRow_34 rfl ?_
      refine m_geta (k := 34) C dX12_copyRow_35 w6_93 (by decide) rfl ?_
      refine m_iload_n (j := 1) C dX12_copyRow_38 rfl ?_
      refine m_ald (k := 34) C dX12_copyRow_39 rfl rfl (by decide) (by omega) (by show _ < ((_ : Nat) : Int); simp only [mlen]; omega) (by decide) ?_
      have ra1 : (-1) ≤ a 34 q.toNat ∧ a 34 q.toNat ≤ 200 := hB.2 34 (q.toNat)
      refine m_if_lt (tgt := 52) C (r32_c (lo := (-1)) (hi := 200) ra1.1 ra1.2 (by decide) (by decide)) dX12_copyRow_40 (by decide) (fun c1 => ?_) (fun c1 => ?_)
      · refine m_aload_n (j := 0) C dX12_copyRow_52 rfl ?_
        refine m_iconst C dX12_copyRow_53 ?_
        refine m_call (mc2 := 0) (ms2 := 0) (As := [.int (iI 1)]) (rest := []) C (B_bad (x := 1) hB (by show -2147483648 ≤ (1 : Int) ∧ (1 : Int) ≤ 2147483647; omega)) dX12_copyRow_54 kV_X12_154 rfl ck_13 rfl (Nat.le_of_ble_eq_true rfl) ⟨Nat.le_of_ble_eq_true rfl, Nat.le_of_ble_eq_true rfl⟩ ⟨Nat.le_of_ble_eq_true rfl, Nat.le_of_ble_eq_true rfl⟩ (fun rh3 vh3 ah3 h3 => ?_)
        obtain ⟨f1, rfl, fn1, bn1, ex1⟩ := h3
        refine hv2 (fp0.call fn1 rfl rfl) (show f1 = -1 from ex1) (fun fq1 gf1 => ?_)
        refine m_st (st2 := [.int (iI f1)]) rfl ?_
        exact m_iret C dX12_copyRow_57 rfl (Nat.le_of_ble_eq_true rfl) (Nat.le_of_ble_eq_true rfl) ⟨f1, rfl, fq1, bn1, (CRA.bad (by omega) ⟨fn1.1 36 rfl, fn1.2 34 rfl, fn1.2 35 rfl⟩ (by omega))⟩
      · refine m_aload_n (j := 0) C dX12_copyRow_43 rfl ?_
        refine m_geta (k := 34) C dX12_copyRow_44 w6_93 (by decide) rfl ?_
        refine m_iload_n (j := 3) C dX12_copyRow_47 rfl ?_
        refine m_ald (k := 34) C dX12_copyRow_48 rfl rfl (by decide) (by omega) (by show _ < ((_ : Nat) : Int); simp only [mlen]; omega) (by decide) ?_
        have ra2 : (-1) ≤ a 34 u.toNat ∧ a 34 u.toNat ≤ 200 := hB.2 34 (u.toNat)
        refine m_if_ge (tgt := 58) C (r32_c (lo := (-1)) (hi := 200) ra2.1 ra2.2 (by decide) (by decide)) dX12_copyRow_49 (by decide) (fun c2 => ?_) (fun c2 => ?_)
        · refine m_iload (j := 5) C dX12_copyRow_58 rfl ?_
          refine m_if_lt (tgt := 99) C ⟨by omega, by omega⟩ dX12_copyRow_60 (by decide) (fun c3 => ?_) (fun c3 => ?_)
          · refine m_aload_n (j := 0) C dX12_copyRow_99 rfl ?_
            refine m_iconst C dX12_copyRow_100 ?_
            refine m_call (mc2 := 0) (ms2 := 0) (As := [.int (iI 2)]) (rest := []) C (B_bad (x := 2) hB (by show -2147483648 ≤ (2 : Int) ∧ (2 : Int) ≤ 2147483647; omega)) dX12_copyRow_101 kV_X12_154 rfl ck_13 rfl (Nat.le_of_ble_eq_true rfl) ⟨Nat.le_of_ble_eq_true rfl, Nat.le_of_ble_eq_true rfl⟩ ⟨Nat.le_of_ble_eq_true rfl, Nat.le_of_ble_eq_true rfl⟩ (fun rh4 vh4 ah4 h4 => ?_)
            obtain ⟨f2, rfl, fn2, bn2, ex2⟩ := h4
            refine hv2 (fp0.call fn2 rfl rfl) (show f2 = -1 from ex2) (fun fq2 gf2 => ?_)
            refine m_st (st2 := [.int (iI f2)]) rfl ?_
            exact m_iret C dX12_copyRow_104 rfl (Nat.le_of_ble_eq_true rfl) (Nat.le_of_ble_eq_true rfl) ⟨f2, rfl, fq2, bn2, (CRA.bad (by omega) ⟨fn2.1 36 rfl, fn2.2 34 rfl, fn2.2 35 rfl⟩ (by omega))⟩
          · refine m_iload_n (j := 2) C dX12_copyRow_63 rfl ?_
            refine m_if_lt (tgt := 99) C ⟨by omega, by omega⟩ dX12_copyRow_64 (by decide) (fun c4 => ?_) (fun c4 => ?_)
            · refine m_aload_n (j := 0) C dX12_copyRow_99 rfl ?_
              refine m_iconst C dX12_copyRow_100 ?_
              refine m_call (mc2 := 0) (ms2 := 0) (As := [.int (iI 2)]) (rest := []) C (B_bad (x := 2) hB (by show -2147483648 ≤ (2 : Int) ∧ (2 : Int) ≤ 2147483647; omega)) dX12_copyRow_101 kV_X12_154 rfl ck_13 rfl (Nat.le_of_ble_eq_true rfl) ⟨Nat.le_of_ble_eq_true rfl, Nat.le_of_ble_eq_true rfl⟩ ⟨Nat.le_of_ble_eq_true rfl, Nat.le_of_ble_eq_true rfl⟩ (fun rh5 vh5 ah5 h5 => ?_)
              obtain ⟨f3, rfl, fn3, bn3, ex3⟩ := h5
              refine hv2 (fp0.call fn3 rfl rfl) (show f3 = -1 from ex3) (fun fq3 gf3 => ?_)
              refine m_st (st2 := [.int (iI f3)]) rfl ?_
              exact m_iret C dX12_copyRow_104 rfl (Nat.le_of_ble_eq_true rfl) (Nat.le_of_ble_eq_true rfl) ⟨f3, rfl, fq3, bn3, (CRA.bad (by omega) ⟨fn3.1 36 rfl, fn3.2 34 rfl, fn3.2 35 rfl⟩ (by omega))⟩
            · refine m_iload (j := 4) C dX12_copyRow_67 rfl ?_
              refine m_if_lt (tgt := 99) C ⟨by omega, by omega⟩ dX12_copyRow_69 (by decide) (fun c5 => ?_) (fun c5 => ?_)
              · refine m_aload_n (j := 0) C dX12_copyRow_99 rfl ?_
                refine m_iconst C dX12_copyRow_100 ?_
                refine m_call (mc2 := 0) (ms2 := 0) (As := [.int (iI 2)]) (rest := []) C (B_bad (x := 2) hB (by show -2147483648 ≤ (2 : Int) ∧ (2 : Int) ≤ 2147483647; omega)) dX12_copyRow_101 kV_X12_154 rfl ck_13 rfl (Nat.le_of_ble_eq_true rfl) ⟨Nat.le_of_ble_eq_true rfl, Nat.le_of_ble_eq_true rfl⟩ ⟨Nat.le_of_ble_eq_true rfl, Nat.le_of_ble_eq_true rfl⟩ (fun rh6 vh6 ah6 h6 => ?_)
                obtain ⟨f4, rfl, fn4, bn4, ex4⟩ := h6
                refine hv2 (fp0.call fn4 rfl rfl) (show f4 = -1 from ex4) (fun fq4 gf4 => ?_)
                refine m_st (st2 := [.int (iI f4)]) rfl ?_
                exact m_iret C dX12_copyRow_104 rfl (Nat.le_of_ble_eq_true rfl) (Nat.le_of_ble_eq_true rfl) ⟨f4, rfl, fq4, bn4, (CRA.bad (by omega) ⟨fn4.1 36 rfl, fn4.2 34 rfl, fn4.2 35 rfl⟩ (by omega))⟩
              · refine m_iload (j := 5) C dX12_copyRow_72 rfl ?_
                refine m_aload_n (j := 0) C dX12_copyRow_74 rfl ?_
                refine m_geta (k := 34) C dX12_copyRow_75 w6_93 (by decide) rfl ?_
                refine m_iload_n (j := 1) C dX12_copyRow_78 rfl ?_
                refine m_ald (k := 34) C dX12_copyRow_79 rfl rfl (by decide) (by omega) (by show _ < ((_ : Nat) : Int); simp only [mlen]; omega) (by decide) ?_
                refine m_iload_n (j := 2) C dX12_copyRow_80 rfl ?_
                refine m_isub C dX12_copyRow_81 ?_
                refine m_icmp_gt (tgt := 99) C ⟨by omega, by omega⟩ ⟨by omega, by omega⟩ dX12_copyRow_82 (by decide) (fun c6 => ?_) (fun c6 => ?_)
                · refine m_aload_n (j := 0) C dX12_copyRow_99 rfl ?_
                  refine m_iconst C dX12_copyRow_100 ?_
                  refine m_call (mc2 := 0) (ms2 := 0) (As := [.int (iI 2)]) (rest := []) C (B_bad (x := 2) hB (by show -2147483648 ≤ (2 : Int) ∧ (2 : Int) ≤ 2147483647; omega)) dX12_copyRow_101 kV_X12_154 rfl ck_13 rfl (Nat.le_of_ble_eq_true rfl) ⟨Nat.le_of_ble_eq_true rfl, Nat.le_of_ble_eq_true rfl⟩ ⟨Nat.le_of_ble_eq_true rfl, Nat.le_of_ble_eq_true rfl⟩ (fun rh7 vh7 ah7 h7 => ?_)
                  obtain ⟨f5, rfl, fn5, bn5, ex5⟩ := h7
                  refine hv2 (fp0.call fn5 rfl rfl) (show f5 = -1 from ex5) (fun fq5 gf5 => ?_)
                  refine m_st (st2 := [.int (iI f5)]) rfl ?_
                  exact m_iret C dX12_copyRow_104 rfl (Nat.le_of_ble_eq_true rfl) (Nat.le_of_ble_eq_true rfl) ⟨f5, rfl, fq5, bn5, (CRA.bad (by omega) ⟨fn5.1 36 rfl, fn5.2 34 rfl, fn5.2 35 rfl⟩ (by omega))⟩
                · refine m_iload (j := 5) C dX12_copyRow_85 rfl ?_
                  refine m_aload_n (j := 0) C dX12_copyRow_87 rfl ?_
                  refine m_geta (k := 34) C dX12_copyRow_88 w6_93 (by decide) rfl ?_
                  refine m_iload_n (j := 3) C dX12_copyRow_91 rfl ?_
                  refine m_ald (k := 34) C dX12_copyRow_92 rfl rfl (by decide) (by omega) (by show _ < ((_ : Nat) : Int); simp only [mlen]; omega) (by decide) ?_
                  refine m_iload (j := 4) C dX12_copyRow_93 rfl ?_
                  refine m_isub C dX12_copyRow_95 ?_
                  refine m_icmp_le (tgt := 105) C ⟨by omega, by omega⟩ ⟨by omega, by omega⟩ dX12_copyRow_96 (by decide) (fun c7 => ?_) (fun c7 => ?_)
                  · refine m_sipush (z := 200) C dX12_copyRow_105 (by decide) ?_
                    refine m_iload_n (j := 1) C dX12_copyRow_108 rfl ?_
                    refine m_imul C dX12_copyRow_109 ?_
                    refine m_iload_n (j := 2) C dX12_copyRow_110 rfl ?_
                    refine m_iadd C dX12_copyRow_111 ?_
                    refine m_istore (lv2 := [(6, .int (iI ((200 * q) + w1))), (0, .ref h0), (1, .int (iI q)), (2, .int (iI w1)), (3, .int (iI u)), (4, .int (iI x)), (5, .int (iI n1))]) C dX12_copyRow_112 (by decide) rfl ?_
                    refine m_sipush (z := 200) C dX12_copyRow_114 (by decide) ?_
                    refine m_iload_n (j := 4) C dX12_copyRow_117 rfl ?_
                    refine m_imul C dX12_copyRow_118 ?_
                    refine m_iload (j := 5) C dX12_copyRow_119 rfl ?_
                    refine m_iadd C dX12_copyRow_121 ?_
                    refine m_istore (lv2 := [(7, .int (iI ((200 * u) + x))), (6, .int (iI ((200 * q) + w1))), (0, .ref h0), (1, .int (iI q)), (2, .int (iI w1)), (3, .int (iI u)), (4, .int (iI x)), (5, .int (iI n1))]) C dX12_copyRow_122 (by decide) rfl ?_
                    refine m_iload_n (j := 3) C dX12_copyRow_124 rfl ?_
                    refine m_iload_n (j := 5) C dX12_copyRow_125 rfl ?_
                    have J1 : ∀ (g : Int) (vb1 : Nat → Int) (ab1 : Nat → Nat → Int), BX vb1 ab1 → fr [0, 1] [35] v a vb1 ab1 → (g = 0 ∨ g = 1) → ((g = 1 ∧ q = u ∧ w1 < x) ∨ (g = 0 ∧ (q ≠ u ∨ x ≤ w1))) → (ab1 34 = a 34 ∧ ab1 35 = a 35) → mw p l e (rmq 1 0 0) s m args below meth c G A 11 (MQ below (Qm G A (fun rq Lq Eq => ∃ (vq : Nat → Int) (aq : Nat → Nat → Int), mI G h0 ad ln vq aq Lq Eq ∧ (fun r v2 a2 => ∃ f : Int, r = some (.int (iI f)) ∧ fr [0, 1] [35] v a v2 a2 ∧ BX v2 a2 ∧ (CRA v a v2 a2 q w1 u x n1 f)) rq vq aq)) args s 0 0 A) h0 ad ln vb1 ab1 0 0 140 [(7, .int (iI ((200 * u) + x))), (6, .int (iI ((200 * q) + w1))), (0, .ref h0), (1, .int (iI q)), (2, .int (iI w1)), (3, .int (iI u)), (4, .int (iI x)), (5, .int (iI n1))] [.int (iI g)] := by
                      intro g vb1 ab1 bxb1 fpb1 hg hg2 hKK
                      refine m_istore (lv2 := [(8, .int (iI g)), (7, .int (iI ((200 * u) + x))), (6, .int (iI ((200 * q) + w1))), (0, .ref h0), (1, .int (iI q)), (2, .int (iI w1)), (3, .int (iI u)), (4, .int (iI x)), (5, .int (iI n1))]) C dX12_copyRow_140 (by decide) rfl ?_
                      refine m_iconst C dX12_copyRow_142 ?_
                      refine m_istore (lv2 := [(9, .int (iI 0)), (8, .int (iI g)), (7, .int (iI ((200 * u) + x))), (6, .int (iI ((200 * q) + w1))), (0, .ref h0), (1, .int (iI q)), (2, .int (iI w1)), (3, .int (iI u)), (4, .int (iI x)), (5, .int (iI n1))]) C dX12_copyRow_143 (by decide) rfl ?_
                      have Lp1 : ∀ (nn : Nat) (i1 : Int) (vb2 : Nat → Int) (ab2 : Nat → Nat → Int), 201 - i1 < (nn : Int) → BX vb2 ab2 → fr [0, 1] [35] v a vb2 ab2 → (0 ≤ i1 ∧ i1 ≤ n1) → ((g = 1 ∧ q = u ∧ w1 < x) ∨ (g = 0 ∧ (q ≠ u ∨ x ≤ w1))) → (CR1 a ab2 (200 * q + w1) (200 * u + x) n1 g i1) → mw p l e (rmq 1 0 0) s m args below meth c G A 11 (MQ below (Qm G A (fun rq Lq Eq => ∃ (vq : Nat → Int) (aq : Nat → Nat → Int), mI G h0 ad ln vq aq Lq Eq ∧ (fun r v2 a2 => ∃ f : Int, r = some (.int (iI f)) ∧ fr [0, 1] [35] v a v2 a2 ∧ BX v2 a2 ∧ (CRA v a v2 a2 q w1 u x n1 f)) rq vq aq)) args s 0 0 A) h0 ad ln vb2 ab2 0 0 145 [(9, .int (iI i1)), (8, .int (iI g)), (7, .int (iI ((200 * u) + x))), (6, .int (iI ((200 * q) + w1))), (0, .ref h0), (1, .int (iI q)), (2, .int (iI w1)), (3, .int (iI u)), (4, .int (iI x)), (5, .int (iI n1))] [] := by
                        intro nn
                        induction nn with
                        | zero =>
                          intro i1 vb2 ab2 hm bxb2 fpb2 hi hg3 hC
                          exact absurd hm (by omega)
                        | succ nn ih1 =>
                          intro i1 vb2 ab2 hm bxb2 fpb2 hi hg3 hC
                          refine m_iload (j := 0) C dX12_copyRow_145 rfl ?_
                          refine m_iload (j := 9) C dX12_copyRow_147 rfl ?_
                          refine m_icmp_ge (tgt := 197) C ⟨by omega, by omega⟩ ⟨by omega, by omega⟩ dX12_copyRow_149 (by decide) (fun c8 => ?_) (fun c8 => ?_)
                          · refine m_aload_n (j := 4) C dX12_copyRow_197 rfl ?_
                            refine m_iload (j := 9) C dX12_copyRow_198 rfl ?_
                            refine m_call (mc2 := 0) (ms2 := 0) (As := [.int (iI n1)]) (rest := []) C (B_fine (x := n1) bxb2 (by show -2147483648 ≤ n1 ∧ n1 ≤ 2147483647; omega)) dX12_copyRow_200 kV_X12_158 rfl ck_13 rfl (Nat.le_of_ble_eq_true rfl) ⟨Nat.le_of_ble_eq_true rfl, Nat.le_of_ble_eq_true rfl⟩ ⟨Nat.le_of_ble_eq_true rfl, Nat.le_of_ble_eq_true rfl⟩ (fun rh8 vh8 ah8 h8 => ?_)
                            obtain ⟨f6, rfl, fn6, bn6, ex6⟩ := h8
                            refine hv2 (fpb2.call fn6 rfl rfl) (show f6 = n1 from ex6) (fun fq6 gf6 => ?_)
                            refine m_st (st2 := [.int (iI f6)]) rfl ?_
                            exact m_iret C dX12_copyRow_203 rfl (Nat.le_of_ble_eq_true rfl) (Nat.le_of_ble_eq_true rfl) ⟨f6, rfl, fq6, bn6, (CRA.ok (fun j => (hB.2 34 j).2) ⟨⟨by omega, by omega⟩, by omega⟩ ⟨⟨by omega, by omega⟩, by omega⟩ (by omega) (by omega) (by omega) (by omega) (by omega) hC (by omega) (by omega) (fq6.1 36 rfl) (fn6.2 34 rfl) (fn6.2 35 rfl))⟩
                          · refine m_iload (j := 1) C dX12_copyRow_152 rfl ?_
                            have J2 : ∀ (k : Int) (vb3 : Nat → Int) (ab3 : Nat → Nat → Int), BX vb3 ab3 → fr [0, 1] [35] v a vb3 ab3 → (0 ≤ k ∧ k < n1) → ((g = 0 ∧ k = i1) ∨ (g = 1 ∧ k = n1 - 1 - i1)) → (CR1 a ab3 (200 * q + w1) (200 * u + x) n1 g i1) → mw p l e (rmq 1 0 0) s m args below meth c G A 11 (MQ below (Qm G A (fun rq Lq Eq => ∃ (vq : Nat → Int) (aq : Nat → Nat → Int), mI G h0 ad ln vq aq Lq Eq ∧ (fun r v2 a2 => ∃ f : Int, r = some (.int (iI f)) ∧ fr [0, 1] [35] v a v2 a2 ∧ BX v2 a2 ∧ (CRA v a v2 a2 q w1 u x n1 f)) rq vq aq)) args s 0 0 A) h0 ad ln vb3 ab3 0 0 169 [(9, .int (iI i1)), (8, .int (iI g)), (7, .int (iI ((200 * u) + x))), (6, .int (iI ((200 * q) + w1))), (0, .ref h0), (1, .int (iI q)), (2, .int (iI w1)), (3, .int (iI u)), (4, .int (iI x)), (5, .int (iI n1))] [.int (iI k)] := by
                              intro k vb3 ab3 bxb3 fpb3 hk hkg hC2
                              refine m_istore (lv2 := [(10, .int (iI k)), (9, .int (iI i1)), (8, .int (iI g)), (7, .int (iI ((200 * u) + x))), (6, .int (iI ((200 * q) + w1))), (0, .ref h0), (1, .int (iI q)), (2, .int (iI w1)), (3, .int (iI u)), (4, .int (iI x)), (5, .int (iI n1))]) C dX12_copyRow_169 (by decide) rfl ?_
                              refine m_aload_n (j := 5) C dX12_copyRow_171 rfl ?_
                              refine m_geta (k := 35) C dX12_copyRow_172 w6_94 (by decide) rfl ?_
                              refine m_iload (j := 3) C dX12_copyRow_175 rfl ?_
                              refine m_iload (j := 0) C dX12_copyRow_177 rfl ?_
                              refine m_iadd C dX12_copyRow_179 ?_
                              refine m_aload_n (j := 5) C dX12_copyRow_180 rfl ?_
                              refine m_geta (k := 35) C dX12_copyRow_181 w6_94 (by decide) rfl ?_
                              refine m_iload (j := 4) C dX12_copyRow_184 rfl ?_
                              refine m_iload (j := 0) C dX12_copyRow_186 rfl ?_
                              refine m_iadd C dX12_copyRow_188 ?_
                              refine m_ald (k := 35) C dX12_copyRow_189 rfl rfl (by decide) (by omega) (by show _ < ((_ : Nat) : Int); simp only [mlen]; omega) (by decide) ?_
                              have ra3 : (-2147483648) ≤ ab3 35 (((200 * q) + w1) + k).toNat ∧ ab3 35 (((200 * q) + w1) + k).toNat ≤ 2147483647 := bxb3.2 35 ((((200 * q) + w1) + k).toNat)
                              refine m_ast (k := 35) C dX12_copyRow_190 rfl rfl (by decide) (by omega) (by show _ < ((_ : Nat) : Int); simp only [mlen]; omega) (by decide) ?_
                              refine hv2 (show BX vb3 (up2 ab3 35 (((200 * u) + x) + k).toNat (ab3 35 (((200 * q) + w1) + k).toNat)) from bxb3.set (k := 35) (i := (((200 * u) + x) + k).toNat) (z := ab3 35 (((200 * q) + w1) + k).toNat) (show (-2147483648) ≤ (ab3 35 (((200 * q) + w1) + k).toNat) ∧ (ab3 35 (((200 * q) + w1) + k).toNat) ≤ 2147483647 by omega)) (fpb3.set (k := 35) (i := (((200 * u) + x) + k).toNat) (z := ab3 35 (((200 * q) + w1) + k).toNat) rfl) (fun bq1 fq7 => ?_)
                              refine m_iinc (z := i1) (j := 1) (lv2 := [(9, .int (iI (i1 + 1))), (10, .int (iI k)), (8, .int (iI g)), (7, .int (iI ((200 * u) + x))), (6, .int (iI ((200 * q) + w1))), (0, .ref h0), (1, .int (iI q)), (2, .int (iI w1)), (3, .int (iI u)), (4, .int (iI x)), (5, .int (iI n1))]) C dX12_copyRow_191 rfl (by decide) rfl ?_
                              refine m_goto (tgt := 145) C dX12_copyRow_194 (by decide) ?_
                              refine m_lv (lv2 := [(9, .int (iI (i1 + 1))), (8, .int (iI g)), (7, .int (iI ((200 * u) + x))), (6, .int (iI ((200 * q) + w1))), (0, .ref h0), (1, .int (iI q)), (2, .int (iI w1)), (3, .int (iI u)), (4, .int (iI x)), (5, .int (iI n1))]) [0, 2, 3, 4, 5, 6, 7, 8, 9, 10] rfl ?_
                              exact ih1  (i1 + 1) _ _ (by omega) bq1 fq7 (by omega) (by omega) (CR1.step hC2 (by omega) ⟨by omega, by omega⟩ ⟨by omega, by omega⟩ (by omega) rfl rfl)
                            refine m_if_eq (tgt := 167) C (r32_01 hg) dX12_copyRow_154 (by decide) (fun c9 => ?_) (fun c9 => ?_)
                            · clear hg
                              replace hg2 := (hg2.resolve_left (fun q => absurd (q.1.symm.trans c9) (by decide)))
                              refine m_iload (j := 0) C dX12_copyRow_167 rfl ?_
                              refine m_lv (lv2 := [(9, .int (iI i1)), (8, .int (iI g)), (7, .int (iI ((200 * u) + x))), (6, .int (iI ((200 * q) + w1))), (0, .ref h0), (1, .int (iI q)), (2, .int (iI w1)), (3, .int (iI u)), (4, .int (iI x)), (5, .int (iI n1))]) [0, 1, 2, 3, 4, 5, 6, 7, 8, 9] rfl ?_
                              exact J2  i1 _ _  bxb2 fpb2 (by omega) (by omega) hC
                            · replace hg := (hg.resolve_left c9)
                              replace hg2 := (hg2.resolve_right (fun q => c9 q.1))
                              refine m_iload (j := 9) C dX12_copyRow_157 rfl ?_
                              refine m_iconst C dX12_copyRow_159 ?_
                              refine m_isub C dX12_copyRow_160 ?_
                              refine m_iload (j := 0) C dX12_copyRow_161 rfl ?_
                              refine m_isub C dX12_copyRow_163 ?_
                              refine m_goto (tgt := 169) C dX12_copyRow_164 (by decide) ?_
                              refine m_lv (lv2 := [(9, .int (iI i1)), (8, .int (iI g)), (7, .int (iI ((200 * u) + x))), (6, .int (iI ((200 * q) + w1))), (0, .ref h0), (1, .int (iI q)), (2, .int (iI w1)), (3, .int (iI u)), (4, .int (iI x)), (5, .int (iI n1))]) [0, 1, 2, 3, 4, 5, 6, 7, 8, 9] rfl ?_
                              exact J2  ((n1 - 1) - i1) _ _  bxb2 fpb2 (by omega) (by omega) hC
                      refine m_lv (lv2 := [(9, .int (iI 0)), (8, .int (iI g)), (7, .int (iI ((200 * u) + x))), (6, .int (iI ((200 * q) + w1))), (0, .ref h0), (1, .int (iI q)), (2, .int (iI w1)), (3, .int (iI u)), (4, .int (iI x)), (5, .int (iI n1))]) [0, 1, 2, 3, 4, 5, 6, 7, 8, 9] rfl ?_
                      exact Lp1 202 0 _ _ (by omega) bxb1 fpb1 (by omega) (by omega) (CR1.zero rfl hKK)
                    refine m_icmp_ne (tgt := 139) C ⟨by omega, by omega⟩ ⟨by omega, by omega⟩ dX12_copyRow_126 (by decide) (fun c10 => ?_) (fun c10 => ?_)
                    · refine m_iconst C dX12_copyRow_139 ?_
                      refine m_lv (lv2 := [(7, .int (iI ((200 * u) + x))), (6, .int (iI ((200 * q) + w1))), (0, .ref h0), (1, .int (iI q)), (2, .int (iI w1)), (3, .int (iI u)), (4, .int (iI x)), (5, .int (iI n1))]) [0, 1, 2, 3, 4, 5, 6, 7] rfl ?_
                      exact J1  0 _ _  hB fp0 (by omega) (by omega) ⟨rfl, rfl⟩
                    · refine m_iload_n (j := 4) C dX12_copyRow_129 rfl ?_
                      refine m_iload (j := 6) C dX12_copyRow_130 rfl ?_
                      refine m_icmp_ge (tgt := 139) C ⟨by omega, by omega⟩ ⟨by omega, by omega⟩ dX12_copyRow_132 (by decide) (fun c11 => ?_) (fun c11 => ?_)
                      · refine m_iconst C dX12_copyRow_139 ?_
                        refine m_lv (lv2 := [(7, .int (iI ((200 * u) + x))), (6, .int (iI ((200 * q) + w1))), (0, .ref h0), (1, .int (iI q)), (2, .int (iI w1)), (3, .int (iI u)), (4, .int (iI x)), (5, .int (iI n1))]) [0, 1, 2, 3, 4, 5, 6, 7] rfl ?_
                        exact J1  0 _ _  hB fp0 (by omega) (by omega) ⟨rfl, rfl⟩
                      · refine m_iconst C dX12_copyRow_135 ?_
                        refine m_goto (tgt := 140) C dX12_copyRow_136 (by decide) ?_
                        refine m_lv (lv2 := [(7, .int (iI ((200 * u) + x))), (6, .int (iI ((200 * q) + w1))), (0, .ref h0), (1, .int (iI q)), (2, .int (iI w1)), (3, .int (iI u)), (4, .int (iI x)), (5, .int (iI n1))]) [0, 1, 2, 3, 4, 5, 6, 7] rfl ?_
                        exact J1  1 _ _  hB fp0 (by omega) (by omega) ⟨rfl, rfl⟩
                  · refine m_aload_n (j := 0) C dX12_copyRow_99 rfl ?_
                    refine m_iconst C dX12_copyRow_100 ?_
                    refine m_call (mc2 := 0) (ms2 := 0) (As := [.int (iI 2)]) (rest := []) C (B_bad (x := 2) hB (by show -2147483648 ≤ (2 : Int) ∧ (2 : Int) ≤ 2147483647; omega)) dX12_copyRow_101 kV_X12_154 rfl ck_13 rfl (Nat.le_of_ble_eq_true rfl) ⟨Nat.le_of_ble_eq_true rfl, Nat.le_of_ble_eq_true rfl⟩ ⟨Nat.le_of_ble_eq_true rfl, Nat.le_of_ble_eq_true rfl⟩ (fun rh9 vh9 ah9 h9 => ?_)
                    obtain ⟨f7, rfl, fn7, bn7, ex7⟩ := h9
                    refine hv2 (fp0.call fn7 rfl rfl) (show f7 = -1 from ex7) (fun fq8 gf7 => ?_)
                    refine m_st (st2 := [.int (iI f7)]) rfl ?_
                    exact m_iret C dX12_copyRow_104 rfl (Nat.le_of_ble_eq_true rfl) (Nat.le_of_ble_eq_true rfl) ⟨f7, rfl, fq8, bn7, (CRA.bad (by omega) ⟨fn7.1 36 rfl, fn7.2 34 rfl, fn7.2 35 rfl⟩ (by omega))⟩
        · refine m_aload_n (j := 0) C dX12_copyRow_52 rfl ?_
          refine m_iconst C dX12_copyRow_53 ?_
          refine m_call (mc2 := 0) (ms2 := 0) (As := [.int (iI 1)]) (rest := []) C (B_bad (x := 1) hB (by show -2147483648 ≤ (1 : Int) ∧ (1 : Int) ≤ 2147483647; omega)) dX12_copyRow_54 kV_X12_154 rfl ck_13 rfl (Nat.le_of_ble_eq_true rfl) ⟨Nat.le_of_ble_eq_true rfl, Nat.le_of_ble_eq_true rfl⟩ ⟨Nat.le_of_ble_eq_true rfl, Nat.le_of_ble_eq_true rfl⟩ (fun rh10 vh10 ah10 h10 => ?_)
          obtain ⟨f8, rfl, fn8, bn8, ex8⟩ := h10
          refine hv2 (fp0.call fn8 rfl rfl) (show f8 = -1 from ex8) (fun fq9 gf8 => ?_)
          refine m_st (st2 := [.int (iI f8)]) rfl ?_
          exact m_iret C dX12_copyRow_57 rfl (Nat.le_of_ble_eq_true rfl) (Nat.le_of_ble_eq_true rfl) ⟨f8, rfl, fq9, bn8, (CRA.bad (by omega) ⟨fn8.1 36 rfl, fn8.2 34 rfl, fn8.2 35 rfl⟩ (by omega))⟩
    · refine m_st (st2 := [.int (iI 0)]) (by rw [h2e]) ?_
      refine m_if_ne (tgt := 34) C ⟨by decide, by decide⟩ dX12_copyRow_25 (by decide) (fun z => absurd z (by omega)) (fun _ => ?_)
      refine m_aload_n (j := 0) C dX12_copyRow_28 rfl ?_
      refine m_iconst C dX12_copyRow_29 ?_
      refine m_call (mc2 := 0) (ms2 := 0) (As := [.int (iI 2)]) (rest := []) C (B_bad (x := 2) hB (by show -2147483648 ≤ (2 : Int) ∧ (2 : Int) ≤ 2147483647; omega)) dX12_copyRow_30 kV_X12_154 rfl ck_13 rfl (Nat.le_of_ble_eq_true rfl) ⟨Nat.le_of_ble_eq_true rfl, Nat.le_of_ble_eq_true rfl⟩ ⟨Nat.le_of_ble_eq_true rfl, Nat.le_of_ble_eq_true rfl⟩ (fun rh11 vh11 ah11 h11 => ?_)
      obtain ⟨f9, rfl, fn9, bn9, ex9⟩ := h11
      refine hv2 (fp0.call fn9 rfl rfl) (show f9 = -1 from ex9) (fun fq10 gf9 => ?_)
      refine m_st (st2 := [.int (iI f9)]) rfl ?_
      exact m_iret C dX12_copyRow_33 rfl (Nat.le_of_ble_eq_true rfl) (Nat.le_of_ble_eq_true rfl) ⟨f9, rfl, fq10, bn9, (CRA.bad (by omega) ⟨fn9.1 36 rfl, fn9.2 34 rfl, fn9.2 35 rfl⟩ (by omega))⟩
  · refine m_st (st2 := [.int (iI 0)]) (by rw [h1e]) ?_
    refine m_if_eq (tgt := 28) C ⟨by decide, by decide⟩ dX12_copyRow_11 (by decide) (fun _ => ?_) (fun z => absurd z (by omega))
    refine m_aload_n (j := 0) C dX12_copyRow_28 rfl ?_
    refine m_iconst C dX12_copyRow_29 ?_
    refine m_call (mc2 := 0) (ms2 := 0) (As := [.int (iI 2)]) (rest := []) C (B_bad (x := 2) hB (by show -2147483648 ≤ (2 : Int) ∧ (2 : Int) ≤ 2147483647; omega)) dX12_copyRow_30 kV_X12_154 rfl ck_13 rfl (Nat.le_of_ble_eq_true rfl) ⟨Nat.le_of_ble_eq_true rfl, Nat.le_of_ble_eq_true rfl⟩ ⟨Nat.le_of_ble_eq_true rfl, Nat.le_of_ble_eq_true rfl⟩ (fun rh12 vh12 ah12 h12 => ?_)
    obtain ⟨f10, rfl, fn10, bn10, ex10⟩ := h12
    refine hv2 (fp0.call fn10 rfl rfl) (show f10 = -1 from ex10) (fun fq11 gf10 => ?_)
    refine m_st (st2 := [.int (iI f10)]) rfl ?_
    exact m_iret C dX12_copyRow_33 rfl (Nat.le_of_ble_eq_true rfl) (Nat.le_of_ble_eq_true rfl) ⟨f10, rfl, fq11, bn10, (CRA.bad (by omega) ⟨fn10.1 36 rfl, fn10.2 34 rfl, fn10.2 35 rfl⟩ (by omega))⟩
def CPA (v : Nat → Int) (a : Nat → Nat → Int) (v2 : Nat → Int) (a2 : Nat → Nat → Int) (q u n f : Int) : Prop := ∀ E, SHA v a E → ∃ E2, CPLX E q u n (v 42) f E2 (v2 42) ∧ SHA v2 a2 E2
def CL1 (v : Nat → Int) (a : Nat → Nat → Int) (v1 : Nat → Int) (a1 : Nat → Nat → Int) (q u k : Int) : Prop := ∀ E, SHA v a E → ∃ E1, cpn E q u k.toNat E1 ∧ SHA v1 a1 E1
def CL2 (v : Nat → Int) (a : Nat → Nat → Int) (v1 : Nat → Int) (a1 : Nat → Nat → Int) (q u k x y i : Int) : Prop := ∃ a3, CL1 v a v1 a3 q u k ∧ (∀ j, a3 34 j ≤ 200) ∧ (∀ j : Nat, a1 34 j = if j = y.toNat then a3 34 x.toNat else a3 34 j) ∧ 0 ≤ a3 34 x.toNat ∧ ∀ j : Nat, a1 35 j = if 200 * y ≤ ((j : Nat) : Int) ∧ ((j : Nat) : Int) < 200 * y + i then a3 35 (((j : Nat) : Int) - 200 * y + 200 * x).toNat else a3 35 j
section CPLS
variable {v v1 v2 v3 : Nat → Int} {a a1 a2 : Nat → Nat → Int} {E E2 : List (Option (List Int))} {q u n f k x y z i : Int} {m m2 : Nat}
theorem CL1.zero (hk : k = 0) (h : KSA v a v1 a1) : CL1 v a v1 a1 q u k := fun E hE => ⟨E, by rw [hk]; rfl, hE.cg h⟩
theorem CL1.fr (h : CL1 v a v1 a1 q u k) (hk : KSA v1 a1 v2 a2) : CL1 v a v2 a2 q u k := fun E hE => by
  obtain ⟨E1, e1, e2⟩ := h E hE
  exact ⟨E1, e1, e2.cg hk⟩
theorem CL1.go (h : CL1 v a v1 a1 q u k) (hb : ∀ j, a1 34 j ≤ 200) (hm : m = y.toNat) (hz : z = a1 34 x.toNat) (hx : 0 ≤ a1 34 x.toNat) : CL2 v a v1 (up2 a1 34 m z) q u k x y 0 := by
  refine ⟨a1, h, hb, fun j => ?_, hx, fun j => ?_⟩
  · subst hm
    by_cases c : j = y.toNat
    · rw [c, up2_s, if_pos rfl]
      exact hz
    · rw [up2_j c, if_neg c]
  · rw [if_neg (by omega), up2_k (by decide)]
theorem CL2.step (h : CL2 v a v1 a1 q u k x y i) (hx : 0 ≤ x ∧ 0 ≤ y) (hi : 0 ≤ i ∧ i < 200) (hm : m = (200 * y + i).toNat) (hm2 : m2 = (200 * x + i).toNat) : CL2 v a v1 (up2 a1 35 m (a1 35 m2)) q u k x y (i + 1) := by
  obtain ⟨a3, h1, hb, h2, h3, h4⟩ := h
  refine ⟨a3, h1, hb, fun j => by rw [up2_k (by decide)]; exact h2 j, h3, fun j => ?_⟩
  by_cases c : j = m
  · rw [c, up2_s, if_pos (by omega), h4 m2, if_neg (by omega), show ((m : Nat) : Int) - 200 * y + 200 * x = ((m2 : Nat) : Int) by omega, Int.toNat_natCast]
  · rw [up2_j c, h4 j]
    by_cases c2 : 200 * y ≤ ((j : Nat) : Int) ∧ ((j : Nat) : Int) < 200 * y + i
    · rw [if_pos c2, if_pos (by omega)]
    · rw [if_neg c2, if_neg (by omega)]
theorem CL2.fin (h : CL2 v a v1 a1 q u k x y i) (hk : 0 ≤ k) (hx : x = q + k) (hy : y = u + k) (h0 : (0 ≤ x ∧ x < v1 36) ∧ (0 ≤ y ∧ y < v1 36)) (hi : a1 34 x.toNat ≤ i ∧ i ≤ 200) (h36 : v2 36 = v1 36) : CL1 v a v2 a1 q u (k + 1) := fun E hE => by
  obtain ⟨a3, h1, hb, h2, h3, h4⟩ := h
  obtain ⟨E1, e1, e2⟩ := h1 E hE
  obtain ⟨xs, d1, d2, d3⟩ := e2.have_ h0.1.1 h0.1.2 h3
  obtain ⟨yy, d4, _⟩ := e2.on h0.2.1 h0.2.2
  have ex : a1 34 x.toNat = a3 34 x.toNat := by
    rw [h2 x.toNat]
    split
    · rfl
    · rfl
  have b := hb x.toNat
  refine ⟨E1.set y.toNat (some xs), ?_, e2.set hb h0.2 h36 (Or.inr ⟨xs, rfl, ?_, fun j z ez => ?_⟩) (fun j hj => ⟨?_, fun o ho => ?_⟩)⟩
  · rw [show (k + 1).toNat = k.toNat + 1 by omega]
    refine ⟨E1, e1, xs, yy, ?_, ?_, ?_⟩
    · rw [show q + ((k.toNat : Nat) : Int) = x by omega]
      exact d1
    · rw [show u + ((k.toNat : Nat) : Int) = y by omega]
      exact d4
    · rw [show u + ((k.toNat : Nat) : Int) = y by omega]
  · rw [h2, if_pos rfl]
    exact d2
  · have lt := gl3 ez
    rw [h4, if_pos (by omega), show (((200 * y.toNat + j : Nat) : Int) - 200 * y + 200 * x).toNat = 200 * x.toNat + j by omega, d3 j lt]
    exact gd0_at ez
  · rw [h2, if_neg hj]
  · rw [h4, if_neg (by omega)]
theorem CPA.bad0 (hn : n < 0 ∨ 10 < n) (hf : f = -1) (h42 : v2 42 = v 42) (hk : KSA v a v2 a2) : CPA v a v2 a2 q u n f := fun E hE => ⟨E, Or.inl ⟨hn, rfl, hf, h42⟩, hE.cg hk⟩
theorem CPA.stop (h : CL1 v a v1 a1 q u k) (hk : 0 ≤ k ∧ k < n) (hn : n ≤ 10) (hx : x = q + k) (hy : y = u + k) (hw : ¬ ((0 ≤ x ∧ x < v1 36) ∧ (0 ≤ y ∧ y < v1 36)) ∨ ((0 ≤ x ∧ x < v1 36) ∧ a1 34 x.toNat < 0)) (hf : f = -1) (h42 : v2 42 = k) (hs : KSA v1 a1 v2 a2) : CPA v a v2 a2 q u n f := fun E hE => by
  obtain ⟨E1, e1, e2⟩ := h E hE
  refine ⟨E1, Or.inr ⟨⟨by omega, hn⟩, Or.inr ⟨k.toNat, by omega, e1, fun ⟨E3, xs, yy, c1, c2, _⟩ => ?_, hf, by omega⟩⟩, e2.cg hs⟩
  rw [show q + ((k.toNat : Nat) : Int) = x by omega] at c1
  rw [show u + ((k.toNat : Nat) : Int) = y by omega] at c2
  rcases hw with c | ⟨c, c3⟩
  · obtain ⟨r1, r2, _⟩ := rwl_lt c1
    obtain ⟨r3, r4, _⟩ := rwl_lt c2
    have e := e2.1
    exact c ⟨⟨r1, by omega⟩, r3, by omega⟩
  · exact e2.fault (Or.inr ⟨c, c3⟩) ⟨xs, c1⟩
theorem CPA.ok (h : CL1 v a v1 a1 q u k) (hk : k = n) (hn : 0 ≤ n ∧ n ≤ 10) (hf : f = n) (h42 : v2 42 = n) (hs : KSA v1 a1 v2 a2) : CPA v a v2 a2 q u n f := fun E hE => by
  obtain ⟨E1, e1, e2⟩ := h E hE
  rw [hk] at e1
  exact ⟨E1, Or.inr ⟨hn, Or.inl ⟨e1, hf, h42⟩⟩, e2.cg hs⟩
end CPLS
set_option maxHeartbeats 4000000 in
set_option maxRecDepth 100000 in
theorem N2_copyLines {l : Launch} {G : GT} {h0 : Nat} {ad ln : Nat → Nat} {v : Nat → Int} {a : Nat → Nat → Int}  {q u n1 : Int} (hB : BX v a) (hq : -2147483648 ≤ q ∧ q ≤ 2147483647) (hu : -2147483648 ≤ u ∧ u ≤ 2147483647) (hn1 : -2147483648 ≤ n1 ∧ n1 ≤ 2147483647) : Mm l G yX12_copyLines cX12_copyLines 10 (some .int) 1 [.int (iI q), .int (iI u), .int (iI n1)] h0 ad ln v a 0 0 (fun r v2 a2 => ∃ f : Int, r = some (.int (iI f)) ∧ fr [0, 1, 42] [34, 35] v a v2 a2 ∧ BX v2 a2 ∧ (CPA v a v2 a2 q u n1 f)) := by
  refine Mm.mk (by decide) (Nat.le_of_ble_eq_true rfl) ?_
  intro p e s m args below meth c A C
  refine hv2 (show 0 ≤ v 36 ∧ v 36 ≤ 200 from hB.1 36) (show fr [0, 1, 42] [34, 35] v a v a from fr.refl) (fun r36 fp0 => ?_)
  refine m_iload_n (j := 3) C dX12_copyLines_0 rfl ?_
  refine m_bipush (z := 10) C dX12_copyLines_1 (by decide) ?_
  refine m_icmp_le (tgt := 13) C ⟨by omega, by omega⟩ ⟨by decide, by decide⟩ dX12_copyLines_3 (by decide) (fun c1 => ?_) (fun c1 => ?_)
  · refine m_iload_n (j := 3) C dX12_copyLines_13 rfl ?_
    refine m_if_ge (tgt := 23) C ⟨by omega, by omega⟩ dX12_copyLines_14 (by decide) (fun c2 => ?_) (fun c2 => ?_)
    · refine m_aload_n (j := 0) C dX12_copyLines_23 rfl ?_
      refine m_iconst C dX12_copyLines_24 ?_
      refine m_put (k := 42) (z := 0) C dX12_copyLines_25 w6_101 (by decide) rfl rfl rfl ?_
      refine hv2 (show BX (va_up v 42 0) a from hB.put (k := 42) (z := 0) ⟨by decide, by decide⟩) (fp0.put (k := 42) (z := 0) rfl) (fun bq1 fq1 => ?_)
      refine m_iconst C dX12_copyLines_28 ?_
      refine m_istore (lv2 := [(4, .int (iI 0)), (0, .ref h0), (1, .int (iI q)), (2, .int (iI u)), (3, .int (iI n1))]) C dX12_copyLines_29 (by decide) rfl ?_
      have Lp1 : ∀ (nn : Nat) (k : Int) (vb1 : Nat → Int) (ab1 : Nat → Nat → Int), 11 - k < (nn : Int) → BX vb1 ab1 → fr [0, 1, 42] [34, 35] v a vb1 ab1 → (0 ≤ k ∧ k ≤ n1) → (vb1 42 = k) → (vb1 36 = v 36) → (CL1 v a vb1 ab1 q u k) → mw p l e (rmq 1 0 0) s m args below meth c G A 10 (MQ below (Qm G A (fun rq Lq Eq => ∃ (vq : Nat → Int) (aq : Nat → Nat → Int), mI G h0 ad ln vq aq Lq Eq ∧ (fun r v2 a2 => ∃ f : Int, r = some (.int (iI f)) ∧ fr [0, 1, 42] [34, 35] v a v2 a2 ∧ BX v2 a2 ∧ (CPA v a v2 a2 q u n1 f)) rq vq aq)) args s 0 0 A) h0 ad ln vb1 ab1 0 0 31 [(4, .int (iI k)), (0, .ref h0), (1, .int (iI q)), (2, .int (iI u)), (3, .int (iI n1))] [] := by
        intro nn
        induction nn with
        | zero =>
          intro k vb1 ab1 hm bxb1 fpb1 hk hc h36 hA
          exact absurd hm (by omega)
        | succ nn ih1 =>
          intro k vb1 ab1 hm bxb1 fpb1 hk hc h36 hA
          refine m_iload (j := 0) C dX12_copyLines_31 rfl ?_
          refine m_iload_n (j := 4) C dX12_copyLines_33 rfl ?_
          refine m_icmp_ge (tgt := 196) C ⟨by omega, by omega⟩ ⟨by omega, by omega⟩ dX12_copyLines_34 (by decide) (fun c3 => ?_) (fun c3 => ?_)
          · refine m_aload_n (j := 1) C dX12_copyLines_196 rfl ?_
            refine m_iload_n (j := 4) C dX12_copyLines_197 rfl ?_
            refine m_call (mc2 := 0) (ms2 := 0) (As := [.int (iI n1)]) (rest := []) C (B_fine (x := n1) bxb1 (by show -2147483648 ≤ n1 ∧ n1 ≤ 2147483647; omega)) dX12_copyLines_198 kV_X12_158 rfl ck_13 rfl (Nat.le_of_ble_eq_true rfl) ⟨Nat.le_of_ble_eq_true rfl, Nat.le_of_ble_eq_true rfl⟩ ⟨Nat.le_of_ble_eq_true rfl, Nat.le_of_ble_eq_true rfl⟩ (fun rh1 vh1 ah1 h1 => ?_)
            obtain ⟨f1, rfl, fn1, bn1, ex1⟩ := h1
            refine hv2 (fpb1.call fn1 rfl rfl) (show f1 = n1 from ex1) (fun fq2 gf1 => ?_)
            refine m_st (st2 := [.int (iI f1)]) rfl ?_
            refine hv2 (show (-2147483648) ≤ vh1 42 ∧ vh1 42 ≤ 2147483647 from bn1.1 42) (show vh1 42 = vb1 42 from fn1.1 42 rfl) (fun rv1 ve1 => ?_)
            exact m_iret C dX12_copyLines_201 rfl (Nat.le_of_ble_eq_true rfl) (Nat.le_of_ble_eq_true rfl) ⟨f1, rfl, fq2, bn1, (CPA.ok hA (by omega) ⟨by omega, by omega⟩ (by omega) (by omega) ⟨fn1.1 36 rfl, fn1.2 34 rfl, fn1.2 35 rfl⟩)⟩
          · refine m_iload_n (j := 2) C dX12_copyLines_37 rfl ?_
            refine m_i2l (w := lI q) C dX12_copyLines_38 (lI_of ⟨by omega, by omega⟩) ?_
            refine m_iload (j := 0) C dX12_copyLines_39 rfl ?_
            refine m_i2l (w := lI k) C dX12_copyLines_41 (lI_of ⟨by omega, by omega⟩) ?_
            refine m_ladd (w := lI (q + k)) C dX12_copyLines_42 (lI_add _ _) ?_
            refine m_lstore (lv2 := [(5, .long (lI (q + k))), (4, .int (iI k)), (0, .ref h0), (1, .int (iI q)), (2, .int (iI u)), (3, .int (iI n1))]) C dX12_copyLines_43 (by decide) rfl ?_
            refine m_iload_n (j := 4) C dX12_copyLines_45 rfl ?_
            refine m_i2l (w := lI u) C dX12_copyLines_46 (lI_of ⟨by omega, by omega⟩) ?_
            refine m_iload (j := 1) C dX12_copyLines_47 rfl ?_
            refine m_i2l (w := lI k) C dX12_copyLines_49 (lI_of ⟨by omega, by omega⟩) ?_
            refine m_ladd (w := lI (u + k)) C dX12_copyLines_50 (lI_add _ _) ?_
            refine m_lstore (lv2 := [(7, .long (lI (u + k))), (5, .long (lI (q + k))), (4, .int (iI k)), (0, .ref h0), (1, .int (iI q)), (2, .int (iI u)), (3, .int (iI n1))]) C dX12_copyLines_51 (by decide) rfl ?_
            refine m_lload (j := 1) C dX12_copyLines_53 rfl ?_
            refine m_lconst (w := lI 0) C dX12_copyLines_55 rfl ?_
            obtain ⟨lc1, hlc1, elc1⟩ := lcmp_c (x := (q + k)) (y := 0) ⟨by omega, by omega⟩ ⟨by omega, by omega⟩
            refine m_lcmp (w := iI lc1) C dX12_copyLines_56 elc1 ?_
            refine m_if_lt (tgt := 89) C ⟨by omega, by omega⟩ dX12_copyLines_57 (by decide) (fun c4 => ?_) (fun c4 => ?_)
            · refine m_aload_n (j := 3) C dX12_copyLines_89 rfl ?_
              refine m_iconst C dX12_copyLines_90 ?_
              refine m_call (mc2 := 0) (ms2 := 0) (As := [.int (iI 2)]) (rest := []) C (B_bad (x := 2) bxb1 (by show -2147483648 ≤ (2 : Int) ∧ (2 : Int) ≤ 2147483647; omega)) dX12_copyLines_91 kV_X12_154 rfl ck_13 rfl (Nat.le_of_ble_eq_true rfl) ⟨Nat.le_of_ble_eq_true rfl, Nat.le_of_ble_eq_true rfl⟩ ⟨Nat.le_of_ble_eq_true rfl, Nat.le_of_ble_eq_true rfl⟩ (fun rh2 vh2 ah2 h2 => ?_)
              obtain ⟨f2, rfl, fn2, bn2, ex2⟩ := h2
              refine hv2 (fpb1.call fn2 rfl rfl) (show f2 = -1 from ex2) (fun fq3 gf2 => ?_)
              refine m_st (st2 := [.int (iI f2)]) rfl ?_
              refine hv2 (show (-2147483648) ≤ vh2 42 ∧ vh2 42 ≤ 2147483647 from bn2.1 42) (show vh2 42 = vb1 42 from fn2.1 42 rfl) (fun rv2 ve2 => ?_)
              exact m_iret C dX12_copyLines_94 rfl (Nat.le_of_ble_eq_true rfl) (Nat.le_of_ble_eq_true rfl) ⟨f2, rfl, fq3, bn2, (CPA.stop hA ⟨by omega, by omega⟩ (by omega) rfl rfl (by omega) (by omega) (by omega) ⟨fn2.1 36 rfl, fn2.2 34 rfl, fn2.2 35 rfl⟩)⟩
            · refine m_lload (j := 1) C dX12_copyLines_60 rfl ?_
              refine m_aload_n (j := 3) C dX12_copyLines_62 rfl ?_
              refine hv2 (show 0 ≤ vb1 36 ∧ vb1 36 ≤ 200 from bxb1.1 36) (show vb1 36 = v 36 from fpb1.1 36 rfl) (fun rv3 ve3 => ?_)
              refine m_get (k := 36) C dX12_copyLines_63 w6_95 (by decide) rfl ?_
              refine m_st (st2 := [.int (iI (v 36)), .long (lI (q + k))]) (congrArg (fun z => Value.int (iI z) :: [.long (lI (q + k))]) (fpb1.1 36 rfl)) ?_
              refine m_i2l (w := lI (v 36)) C dX12_copyLines_66 (lI_of ⟨by omega, by omega⟩) ?_
              obtain ⟨lc2, hlc2, elc2⟩ := lcmp_c (x := (q + k)) (y := (v 36)) ⟨by omega, by omega⟩ ⟨by omega, by omega⟩
              refine m_lcmp (w := iI lc2) C dX12_copyLines_67 elc2 ?_
              refine m_if_ge (tgt := 89) C ⟨by omega, by omega⟩ dX12_copyLines_68 (by decide) (fun c5 => ?_) (fun c5 => ?_)
              · refine m_aload_n (j := 3) C dX12_copyLines_89 rfl ?_
                refine m_iconst C dX12_copyLines_90 ?_
                refine m_call (mc2 := 0) (ms2 := 0) (As := [.int (iI 2)]) (rest := []) C (B_bad (x := 2) bxb1 (by show -2147483648 ≤ (2 : Int) ∧ (2 : Int) ≤ 2147483647; omega)) dX12_copyLines_91 kV_X12_154 rfl ck_13 rfl (Nat.le_of_ble_eq_true rfl) ⟨Nat.le_of_ble_eq_true rfl, Nat.le_of_ble_eq_true rfl⟩ ⟨Nat.le_of_ble_eq_true rfl, Nat.le_of_ble_eq_true rfl⟩ (fun rh3 vh3 ah3 h3 => ?_)
                obtain ⟨f3, rfl, fn3, bn3, ex3⟩ := h3
                refine hv2 (fpb1.call fn3 rfl rfl) (show f3 = -1 from ex3) (fun fq4 gf3 => ?_)
                refine m_st (st2 := [.int (iI f3)]) rfl ?_
                refine hv2 (show (-2147483648) ≤ vh3 42 ∧ vh3 42 ≤ 2147483647 from bn3.1 42) (show vh3 42 = vb1 42 from fn3.1 42 rfl) (fun rv4 ve4 => ?_)
                exact m_iret C dX12_copyLines_94 rfl (Nat.le_of_ble_eq_true rfl) (Nat.le_of_ble_eq_true rfl) ⟨f3, rfl, fq4, bn3, (CPA.stop hA ⟨by omega, by omega⟩ (by omega) rfl rfl (by omega) (by omega) (by omega) ⟨fn3.1 36 rfl, fn3.2 34 rfl, fn3.2 35 rfl⟩)⟩
              · refine m_lload (j := 0) C dX12_copyLines_71 rfl ?_
                refine m_lconst (w := lI 0) C dX12_copyLines_73 rfl ?_
                obtain ⟨lc3, hlc3, elc3⟩ := lcmp_c (x := (u + k)) (y := 0) ⟨by omega, by omega⟩ ⟨by omega, by omega⟩
                refine m_lcmp (w := iI lc3) C dX12_copyLines_74 elc3 ?_
                refine m_if_lt (tgt := 89) C ⟨by omega, by omega⟩ dX12_copyLines_75 (by decide) (fun c6 => ?_) (fun c6 => ?_)
                · refine m_aload_n (j := 3) C dX12_copyLines_89 rfl ?_
                  refine m_iconst C dX12_copyLines_90 ?_
                  refine m_call (mc2 := 0) (ms2 := 0) (As := [.int (iI 2)]) (rest := []) C (B_bad (x := 2) bxb1 (by show -2147483648 ≤ (2 : Int) ∧ (2 : Int) ≤ 2147483647; omega)) dX12_copyLines_91 kV_X12_154 rfl ck_13 rfl (Nat.le_of_ble_eq_true rfl) ⟨Nat.le_of_ble_eq_true rfl, Nat.le_of_ble_eq_true rfl⟩ ⟨Nat.le_of_ble_eq_true rfl, Nat.le_of_ble_eq_true rfl⟩ (fun rh4 vh4 ah4 h4 => ?_)
                  obtain ⟨f4, rfl, fn4, bn4, ex4⟩ := h4
                  refine hv2 (fpb1.call fn4 rfl rfl) (show f4 = -1 from ex4) (fun fq5 gf4 => ?_)
                  refine m_st (st2 := [.int (iI f4)]) rfl ?_
                  refine hv2 (show (-2147483648) ≤ vh4 42 ∧ vh4 42 ≤ 2147483647 from bn4.1 42) (show vh4 42 = vb1 42 from fn4.1 42 rfl) (fun rv5 ve5 => ?_)
                  exact m_iret C dX12_copyLines_94 rfl (Nat.le_of_ble_eq_true rfl) (Nat.le_of_ble_eq_true rfl) ⟨f4, rfl, fq5, bn4, (CPA.stop hA ⟨by omega, by omega⟩ (by omega) rfl rfl (by omega) (by omega) (by omega) ⟨fn4.1 36 rfl, fn4.2 34 rfl, fn4.2 35 rfl⟩)⟩
                · refine m_lload (j := 0) C dX12_copyLines_78 rfl ?_
                  refine m_aload_n (j := 3) C dX12_copyLines_80 rfl ?_
                  refine m_get (k := 36) C dX12_copyLines_81 w6_95 (by decide) rfl ?_
                  refine m_st (st2 := [.int (iI (v 36)), .long (lI (u + k))]) (congrArg (fun z => Value.int (iI z) :: [.long (lI (u + k))]) (fpb1.1 36 rfl)) ?_
                  refine m_i2l (w := lI (v 36)) C dX12_copyLines_84 (lI_of ⟨by omega, by omega⟩) ?_
                  obtain ⟨lc4, hlc4, elc4⟩ := lcmp_c (x := (u + k)) (y := (v 36)) ⟨by omega, by omega⟩ ⟨by omega, by omega⟩
                  refine m_lcmp (w := iI lc4) C dX12_copyLines_85 elc4 ?_
                  refine m_if_lt (tgt := 95) C ⟨by omega, by omega⟩ dX12_copyLines_86 (by decide) (fun c7 => ?_) (fun c7 => ?_)
                  · refine m_aload_n (j := 3) C dX12_copyLines_95 rfl ?_
                    refine m_geta (k := 34) C dX12_copyLines_96 w6_93 (by decide) rfl ?_
                    refine m_lload (j := 1) C dX12_copyLines_99 rfl ?_
                    refine m_l2i (w := iI (q + k)) C dX12_copyLines_101 (lI_i _) ?_
                    refine m_ald (k := 34) C dX12_copyLines_102 rfl rfl (by decide) (by omega) (by show _ < ((_ : Nat) : Int); simp only [mlen]; omega) (by decide) ?_
                    have ra1 : (-1) ≤ ab1 34 (q + k).toNat ∧ ab1 34 (q + k).toNat ≤ 200 := bxb1.2 34 ((q + k).toNat)
                    refine m_if_ge (tgt := 112) C (r32_c (lo := (-1)) (hi := 200) ra1.1 ra1.2 (by decide) (by decide)) dX12_copyLines_103 (by decide) (fun c8 => ?_) (fun c8 => ?_)
                    · refine m_aload_n (j := 3) C dX12_copyLines_112 rfl ?_
                      refine m_geta (k := 34) C dX12_copyLines_113 w6_93 (by decide) rfl ?_
                      refine m_lload (j := 0) C dX12_copyLines_116 rfl ?_
                      refine m_l2i (w := iI (u + k)) C dX12_copyLines_118 (lI_i _) ?_
                      refine m_aload_n (j := 3) C dX12_copyLines_119 rfl ?_
                      refine m_geta (k := 34) C dX12_copyLines_120 w6_93 (by decide) rfl ?_
                      refine m_lload (j := 1) C dX12_copyLines_123 rfl ?_
                      refine m_l2i (w := iI (q + k)) C dX12_copyLines_125 (lI_i _) ?_
                      refine m_ald (k := 34) C dX12_copyLines_126 rfl rfl (by decide) (by omega) (by show _ < ((_ : Nat) : Int); simp only [mlen]; omega) (by decide) ?_
                      refine m_ast (k := 34) C dX12_copyLines_127 rfl rfl (by decide) (by omega) (by show _ < ((_ : Nat) : Int); simp only [mlen]; omega) (by decide) ?_
                      refine hv2 (show BX vb1 (up2 ab1 34 (u + k).toNat (ab1 34 (q + k).toNat)) from bxb1.set (k := 34) (i := (u + k).toNat) (z := ab1 34 (q + k).toNat) (show (-1) ≤ (ab1 34 (q + k).toNat) ∧ (ab1 34 (q + k).toNat) ≤ 200 by omega)) (fpb1.set (k := 34) (i := (u + k).toNat) (z := ab1 34 (q + k).toNat) rfl) (fun bq2 fq6 => ?_)
                      refine m_iconst C dX12_copyLines_128 ?_
                      refine m_istore (lv2 := [(9, .int (iI 0)), (7, .long (lI (u + k))), (5, .long (lI (q + k))), (4, .int (iI k)), (0, .ref h0), (1, .int (iI q)), (2, .int (iI u)), (3, .int (iI n1))]) C dX12_copyLines_129 (by decide) rfl ?_
                      have Lp2 : ∀ (nn : Nat) (i1 : Int) (vb2 : Nat → Int) (ab2 : Nat → Nat → Int), 201 - i1 < (nn : Int) → BX vb2 ab2 → fr [0, 1, 42] [34, 35] v a vb2 ab2 → (0 ≤ i1 ∧ i1 ≤ 200) → (vb2 42 = k) → (vb2 36 = v 36) → (CL2 v a vb2 ab2 q u k (q + k) (u + k) i1) → mw p l e (rmq 1 0 0) s m args below meth c G A 10 (MQ below (Qm G A (fun rq Lq Eq => ∃ (vq : Nat → Int) (aq : Nat → Nat → Int), mI G h0 ad ln vq aq Lq Eq ∧ (fun r v2 a2 => ∃ f : Int, r = some (.int (iI f)) ∧ fr [0, 1, 42] [34, 35] v a v2 a2 ∧ BX v2 a2 ∧ (CPA v a v2 a2 q u n1 f)) rq vq aq)) args s 0 0 A) h0 ad ln vb2 ab2 0 0 131 [(9, .int (iI i1)), (7, .long (lI (u + k))), (5, .long (lI (q + k))), (4, .int (iI k)), (0, .ref h0), (1, .int (iI q)), (2, .int (iI u)), (3, .int (iI n1))] [] := by
                        intro nn
                        induction nn with
                        | zero =>
                          intro i1 vb2 ab2 hm bxb2 fpb2 hi hc2 h36b hD
                          exact absurd hm (by omega)
                        | succ nn ih2 =>
                          intro i1 vb2 ab2 hm bxb2 fpb2 hi hc2 h36b hD
                          refine m_iload (j := 0) C dX12_copyLines_131 rfl ?_
                          refine m_aload_n (j := 4) C dX12_copyLines_133 rfl ?_
                          refine m_geta (k := 34) C dX12_copyLines_134 w6_93 (by decide) rfl ?_
                          refine m_lload (j := 2) C dX12_copyLines_137 rfl ?_
                          refine m_l2i (w := iI (q + k)) C dX12_copyLines_139 (lI_i _) ?_
                          refine m_ald (k := 34) C dX12_copyLines_140 rfl rfl (by decide) (by omega) (by show _ < ((_ : Nat) : Int); simp only [mlen]; omega) (by decide) ?_
                          have ra2 : (-1) ≤ ab2 34 (q + k).toNat ∧ ab2 34 (q + k).toNat ≤ 200 := bxb2.2 34 ((q + k).toNat)
                          refine m_icmp_ge (tgt := 180) C (r32_c (lo := 0) (hi := 200) hi.1 hi.2 (by decide) (by decide)) (r32_c (lo := (-1)) (hi := 200) ra2.1 ra2.2 (by decide) (by decide)) dX12_copyLines_141 (by decide) (fun c9 => ?_) (fun c9 => ?_)
                          · refine m_aload_n (j := 4) C dX12_copyLines_180 rfl ?_
                            refine m_dup C dX12_copyLines_181 rfl ?_
                            have rv6 : (-2147483648) ≤ vb2 42 ∧ vb2 42 ≤ 2147483647 := bxb2.1 42
                            refine m_get (k := 42) C dX12_copyLines_182 w6_101 (by decide) rfl ?_
                            refine m_iconst C dX12_copyLines_185 ?_
                            refine m_iadd C dX12_copyLines_186 ?_
                            refine m_put (k := 42) (z := (vb2 42) + 1) C dX12_copyLines_187 w6_101 (by decide) rfl rfl rfl ?_
                            refine hv2 (show BX (va_up vb2 42 ((vb2 42) + 1)) ab2 from bxb2.put (k := 42) (z := (vb2 42) + 1) (show (-2147483648) ≤ ((vb2 42) + 1) ∧ ((vb2 42) + 1) ≤ 2147483647 by omega)) (fpb2.put (k := 42) (z := (vb2 42) + 1) rfl) (fun bq3 fq7 => ?_)
                            refine m_iinc (z := k) (j := 3) (lv2 := [(4, .int (iI (k + 1))), (9, .int (iI i1)), (7, .long (lI (u + k))), (5, .long (lI (q + k))), (0, .ref h0), (1, .int (iI q)), (2, .int (iI u)), (3, .int (iI n1))]) C dX12_copyLines_190 rfl (by decide) rfl ?_
                            refine m_goto (tgt := 31) C dX12_copyLines_193 (by decide) ?_
                            refine hv2 (show 0 ≤ vb2 36 ∧ vb2 36 ≤ 200 from bq3.1 36) (show vb2 36 = v 36 from fpb2.1 36 rfl) (fun rv7 ve6 => ?_)
                            refine m_lv (lv2 := [(4, .int (iI (k + 1))), (0, .ref h0), (1, .int (iI q)), (2, .int (iI u)), (3, .int (iI n1))]) [0, 4, 5, 6, 7] rfl ?_
                            exact ih1  (k + 1) _ _ (by omega) bq3 fq7 (by omega) (by show ((vb2 42) + 1) = (k + 1); omega) (by show (vb2 36) = v 36; omega) (CL2.fin hD (by omega) rfl rfl ⟨⟨by omega, by omega⟩, by omega, by omega⟩ ⟨by omega, by omega⟩ (va_up_ne _ _ (by decide)))
                          · refine m_aload_n (j := 4) C dX12_copyLines_144 rfl ?_
                            refine m_geta (k := 35) C dX12_copyLines_145 w6_94 (by decide) rfl ?_
                            refine m_sipush (z := 200) C dX12_copyLines_148 (by decide) ?_
                            refine m_lload (j := 1) C dX12_copyLines_151 rfl ?_
                            refine m_l2i (w := iI (u + k)) C dX12_copyLines_153 (lI_i _) ?_
                            refine m_imul C dX12_copyLines_154 ?_
                            refine m_iload (j := 0) C dX12_copyLines_155 rfl ?_
                            refine m_iadd C dX12_copyLines_157 ?_
                            refine m_aload_n (j := 4) C dX12_copyLines_158 rfl ?_
                            refine m_geta (k := 35) C dX12_copyLines_159 w6_94 (by decide) rfl ?_
                            refine m_sipush (z := 200) C dX12_copyLines_162 (by decide) ?_
                            refine m_lload (j := 2) C dX12_copyLines_165 rfl ?_
                            refine m_l2i (w := iI (q + k)) C dX12_copyLines_167 (lI_i _) ?_
                            refine m_imul C dX12_copyLines_168 ?_
                            refine m_iload (j := 0) C dX12_copyLines_169 rfl ?_
                            refine m_iadd C dX12_copyLines_171 ?_
                            refine m_ald (k := 35) C dX12_copyLines_172 rfl rfl (by decide) (by omega) (by show _ < ((_ : Nat) : Int); simp only [mlen]; omega) (by decide) ?_
                            have ra3 : (-2147483648) ≤ ab2 35 ((200 * (q + k)) + i1).toNat ∧ ab2 35 ((200 * (q + k)) + i1).toNat ≤ 2147483647 := bxb2.2 35 (((200 * (q + k)) + i1).toNat)
                            refine m_ast (k := 35) C dX12_copyLines_173 rfl rfl (by decide) (by omega) (by show _ < ((_ : Nat) : Int); simp only [mlen]; omega) (by decide) ?_
                            refine hv2 (show BX vb2 (up2 ab2 35 ((200 * (u + k)) + i1).toNat (ab2 35 ((200 * (q + k)) + i1).toNat)) from bxb2.set (k := 35) (i := ((200 * (u + k)) + i1).toNat) (z := ab2 35 ((200 * (q + k)) + i1).toNat) (show (-2147483648) ≤ (ab2 35 ((200 * (q + k)) + i1).toNat) ∧ (ab2 35 ((200 * (q + k)) + i1).toNat) ≤ 2147483647 by omega)) (fpb2.set (k := 35) (i := ((200 * (u + k)) + i1).toNat) (z := ab2 35 ((200 * (q + k)) + i1).toNat) rfl) (fun bq4 fq8 => ?_)
                            refine m_iinc (z := i1) (j := 0) (lv2 := [(9, .int (iI (i1 + 1))), (7, .long (lI (u + k))), (5, .long (lI (q + k))), (4, .int (iI k)), (0, .ref h0), (1, .int (iI q)), (2, .int (iI u)), (3, .int (iI n1))]) C dX12_copyLines_174 rfl (by decide) rfl ?_
                            refine m_goto (tgt := 131) C dX12_copyLines_177 (by decide) ?_
                            refine hv3 (show (-2147483648) ≤ vb2 42 ∧ vb2 42 ≤ 2147483647 from bq4.1 42) (show 0 ≤ vb2 36 ∧ vb2 36 ≤ 200 from bq4.1 36) (show vb2 36 = v 36 from fpb2.1 36 rfl) (fun rv8 rv9 ve7 => ?_)
                            refine m_lv (lv2 := [(9, .int (iI (i1 + 1))), (7, .long (lI (u + k))), (5, .long (lI (q + k))), (4, .int (iI k)), (0, .ref h0), (1, .int (iI q)), (2, .int (iI u)), (3, .int (iI n1))]) [0, 1, 2, 3, 4, 5, 6, 7] rfl ?_
                            exact ih2  (i1 + 1) _ _ (by omega) bq4 fq8 (by omega) (by show (vb2 42) = k; omega) (by show (vb2 36) = v 36; omega) (CL2.step hD ⟨by omega, by omega⟩ ⟨by omega, by omega⟩ rfl rfl)
                      have rv10 : (-2147483648) ≤ vb1 42 ∧ vb1 42 ≤ 2147483647 := bq2.1 42
                      refine m_lv (lv2 := [(9, .int (iI 0)), (7, .long (lI (u + k))), (5, .long (lI (q + k))), (4, .int (iI k)), (0, .ref h0), (1, .int (iI q)), (2, .int (iI u)), (3, .int (iI n1))]) [0, 1, 2, 3, 4, 5, 6, 7] rfl ?_
                      exact Lp2 202 0 _ _ (by omega) bq2 fq6 (by omega) (by show (vb1 42) = k; omega) (by show (vb1 36) = v 36; omega) (CL1.go hA (fun j => (bxb1.2 34 j).2) rfl rfl (by omega))
                    · refine m_aload_n (j := 3) C dX12_copyLines_106 rfl ?_
                      refine m_iconst C dX12_copyLines_107 ?_
                      refine m_call (mc2 := 0) (ms2 := 0) (As := [.int (iI 1)]) (rest := []) C (B_bad (x := 1) bxb1 (by show -2147483648 ≤ (1 : Int) ∧ (1 : Int) ≤ 2147483647; omega)) dX12_copyLines_108 kV_X12_154 rfl ck_13 rfl (Nat.le_of_ble_eq_true rfl) ⟨Nat.le_of_ble_eq_true rfl, Nat.le_of_ble_eq_true rfl⟩ ⟨Nat.le_of_ble_eq_true rfl, Nat.le_of_ble_eq_true rfl⟩ (fun rh5 vh5 ah5 h5 => ?_)
                      obtain ⟨f5, rfl, fn5, bn5, ex5⟩ := h5
                      refine hv2 (fpb1.call fn5 rfl rfl) (show f5 = -1 from ex5) (fun fq9 gf5 => ?_)
                      refine m_st (st2 := [.int (iI f5)]) rfl ?_
                      refine hv2 (show (-2147483648) ≤ vh5 42 ∧ vh5 42 ≤ 2147483647 from bn5.1 42) (show vh5 42 = vb1 42 from fn5.1 42 rfl) (fun rv11 ve8 => ?_)
                      exact m_iret C dX12_copyLines_111 rfl (Nat.le_of_ble_eq_true rfl) (Nat.le_of_ble_eq_true rfl) ⟨f5, rfl, fq9, bn5, (CPA.stop hA ⟨by omega, by omega⟩ (by omega) rfl rfl (by omega) (by omega) (by omega) ⟨fn5.1 36 rfl, fn5.2 34 rfl, fn5.2 35 rfl⟩)⟩
                  · refine m_aload_n (j := 3) C dX12_copyLines_89 rfl ?_
                    refine m_iconst C dX12_copyLines_90 ?_
                    refine m_call (mc2 := 0) (ms2 := 0) (As := [.int (iI 2)]) (rest := []) C (B_bad (x := 2) bxb1 (by show -2147483648 ≤ (2 : Int) ∧ (2 : Int) ≤ 2147483647; omega)) dX12_copyLines_91 kV_X12_154 rfl ck_13 rfl (Nat.le_of_ble_eq_true rfl) ⟨Nat.le_of_ble_eq_true rfl, Nat.le_of_ble_eq_true rfl⟩ ⟨Nat.le_of_ble_eq_true rfl, Nat.le_of_ble_eq_true rfl⟩ (fun rh6 vh6 ah6 h6 => ?_)
                    obtain ⟨f6, rfl, fn6, bn6, ex6⟩ := h6
                    refine hv2 (fpb1.call fn6 rfl rfl) (show f6 = -1 from ex6) (fun fq10 gf6 => ?_)
                    refine m_st (st2 := [.int (iI f6)]) rfl ?_
                    refine hv2 (show (-2147483648) ≤ vh6 42 ∧ vh6 42 ≤ 2147483647 from bn6.1 42) (show vh6 42 = vb1 42 from fn6.1 42 rfl) (fun rv12 ve9 => ?_)
                    exact m_iret C dX12_copyLines_94 rfl (Nat.le_of_ble_eq_true rfl) (Nat.le_of_ble_eq_true rfl) ⟨f6, rfl, fq10, bn6, (CPA.stop hA ⟨by omega, by omega⟩ (by omega) rfl rfl (by omega) (by omega) (by omega) ⟨fn6.1 36 rfl, fn6.2 34 rfl, fn6.2 35 rfl⟩)⟩
      have rv13 : 0 ≤ v 36 ∧ v 36 ≤ 200 := bq1.1 36
      refine m_lv (lv2 := [(4, .int (iI 0)), (0, .ref h0), (1, .int (iI q)), (2, .int (iI u)), (3, .int (iI n1))]) [0, 1, 2, 3, 4] rfl ?_
      exact Lp1 12 0 _ _ (by omega) bq1 fq1 (by omega) (by show 0 = 0; omega) (by show (v 36) = v 36; omega) (CL1.zero rfl ⟨va_up_ne _ _ (by decide), rfl, rfl⟩)
    · refine m_aload_n (j := 0) C dX12_copyLines_17 rfl ?_
      refine m_iconst C dX12_copyLines_18 ?_
      refine m_call (mc2 := 0) (ms2 := 0) (As := [.int (iI 5)]) (rest := []) C (B_bad (x := 5) hB (by show -2147483648 ≤ (5 : Int) ∧ (5 : Int) ≤ 2147483647; omega)) dX12_copyLines_19 kV_X12_154 rfl ck_13 rfl (Nat.le_of_ble_eq_true rfl) ⟨Nat.le_of_ble_eq_true rfl, Nat.le_of_ble_eq_true rfl⟩ ⟨Nat.le_of_ble_eq_true rfl, Nat.le_of_ble_eq_true rfl⟩ (fun rh7 vh7 ah7 h7 => ?_)
      obtain ⟨f7, rfl, fn7, bn7, ex7⟩ := h7
      refine hv2 (fp0.call fn7 rfl rfl) (show f7 = -1 from ex7) (fun fq11 gf7 => ?_)
      refine m_st (st2 := [.int (iI f7)]) rfl ?_
      refine hv2 (show (-2147483648) ≤ vh7 42 ∧ vh7 42 ≤ 2147483647 from bn7.1 42) (show vh7 42 = v 42 from fn7.1 42 rfl) (fun rv14 ve10 => ?_)
      exact m_iret C dX12_copyLines_22 rfl (Nat.le_of_ble_eq_true rfl) (Nat.le_of_ble_eq_true rfl) ⟨f7, rfl, fq11, bn7, (CPA.bad0 (by omega) (by omega) (by omega) ⟨fn7.1 36 rfl, fn7.2 34 rfl, fn7.2 35 rfl⟩)⟩
  · refine m_aload_n (j := 0) C dX12_copyLines_6 rfl ?_
    refine m_bipush (z := 6) C dX12_copyLines_7 (by decide) ?_
    refine m_call (mc2 := 0) (ms2 := 0) (As := [.int (iI 6)]) (rest := []) C (B_bad (x := 6) hB (by show -2147483648 ≤ (6 : Int) ∧ (6 : Int) ≤ 2147483647; omega)) dX12_copyLines_9 kV_X12_154 rfl ck_13 rfl (Nat.le_of_ble_eq_true rfl) ⟨Nat.le_of_ble_eq_true rfl, Nat.le_of_ble_eq_true rfl⟩ ⟨Nat.le_of_ble_eq_true rfl, Nat.le_of_ble_eq_true rfl⟩ (fun rh8 vh8 ah8 h8 => ?_)
    obtain ⟨f8, rfl, fn8, bn8, ex8⟩ := h8
    refine hv2 (fp0.call fn8 rfl rfl) (show f8 = -1 from ex8) (fun fq12 gf8 => ?_)
    refine m_st (st2 := [.int (iI f8)]) rfl ?_
    refine hv2 (show (-2147483648) ≤ vh8 42 ∧ vh8 42 ≤ 2147483647 from bn8.1 42) (show vh8 42 = v 42 from fn8.1 42 rfl) (fun rv15 ve11 => ?_)
    exact m_iret C dX12_copyLines_12 rfl (Nat.le_of_ble_eq_true rfl) (Nat.le_of_ble_eq_true rfl) ⟨f8, rfl, fq12, bn8, (CPA.bad0 (by omega) (by omega) (by omega) ⟨fn8.1 36 rfl, fn8.2 34 rfl, fn8.2 35 rfl⟩)⟩
def bcs (s : Int32) : List Int → Int32
  | [] => s
  | x :: xs => bcs (s + bcn (iI x)) xs
def emb (E : List (Option (List Int))) (q wd : Int) : Nat → Int32 → Prop
  | 0, s => s = 0
  | k + 1, s => ∃ s0, emb E q wd k s0 ∧ ((rwe E (q + ((k : Nat) : Int)) = some none ∧ s = s0) ∨ ∃ xs, rwe E (q + ((k : Nat) : Int)) = some (some xs) ∧ ((xs.length : Nat) : Int) ≤ wd ∧ s = bcs s0 xs)
def EMS (E : List (Option (List Int))) (q wd : Int) (k : Nat) (s : Int32) (f : Int) : Prop := (rwe E (q + ((k : Nat) : Int)) = none ∧ f = -1) ∨ ∃ xs, rwe E (q + ((k : Nat) : Int)) = some (some xs) ∧ wd < ((xs.length : Nat) : Int) ∧ iI f = s
def EMBX (E : List (Option (List Int))) (q n wd : Int) (c : Int32) (f : Int) (c2 : Int32) : Prop := ((n < 0 ∨ 200 < n) ∧ f = -1 ∧ c2 = c) ∨ ((0 ≤ n ∧ n ≤ 200) ∧ ((emb E q wd n.toNat (iI f) ∧ c2 = c + iI n) ∨ ∃ (k : Nat) (s : Int32), ((k : Nat) : Int) < n ∧ emb E q wd k s ∧ EMS E q wd k s f ∧ c2 = c + iI (((k : Nat) : Int) + 1)))
def EMA (v : Nat → Int) (a : Nat → Nat → Int) (v2 : Nat → Int) (q n f : Int) : Prop := ∀ E, SHA v a E → EMBX E q n (v 31) (iI (v 43)) f (iI (v2 43))
def EM1 (v : Nat → Int) (a : Nat → Nat → Int) (q k s : Int) : Prop := ∀ E, SHA v a E → emb E q (v 31) k.toNat (iI s)
def EM2 (v : Nat → Int) (a : Nat → Nat → Int) (q k i s : Int) : Prop := ∃ s0, EM1 v a q k s0 ∧ iI s = bcs (iI s0) (mpr i.toNat (fun j => a 35 (200 * (q + k) + ((j : Nat) : Int)).toNat))
section EMBS
variable {v v1 v2 : Nat → Int} {a : Nat → Nat → Int} {E : List (Option (List Int))} {q n f f1 f2 wd k i z x y s1 s2 : Int} {c c1 c2 s t : Int32} {xs : List Int}
theorem bcs_snoc : ∀ (xs : List Int) (s : Int32) (x : Int), bcs s (xs ++ [x]) = bcs s xs + bcn (iI x) := by
  intro xs
  induction xs with
  | nil => intro s x; rfl
  | cons y xs ih => intro s x; exact ih (s + bcn (iI y)) x
theorem bcs_add : ∀ (xs : List Int) (s : Int32), bcs s xs = s + bcs 0 xs := by
  intro xs
  induction xs with
  | nil => intro s; exact (Int32.add_zero s).symm
  | cons y xs ih =>
    intro s
    show bcs (s + bcn (iI y)) xs = s + bcs (0 + bcn (iI y)) xs
    rw [ih (s + bcn (iI y)), ih (0 + bcn (iI y)), Int32.zero_add, Int32.add_assoc]
theorem emb.uni : ∀ (k : Nat) (s t : Int32), emb E q wd k s → emb E q wd k t → s = t := by
  intro k
  induction k with
  | zero => intro s t h h2; exact h.trans h2.symm
  | succ k ih =>
    intro s t h h2
    obtain ⟨s0, a1, a2⟩ := h
    obtain ⟨t0, b1, b2⟩ := h2
    have e := ih s0 t0 a1 b1
    rcases a2 with ⟨e1, e2⟩ | ⟨xs, e1, _, e2⟩ <;> rcases b2 with ⟨d1, d2⟩ | ⟨ys, d1, _, d2⟩
    · rw [e2, d2, e]
    · rw [e1] at d1; cases d1
    · rw [e1] at d1; cases d1
    · rw [e1] at d1; cases d1
      rw [e2, d2, e]
theorem emb.less {k m : Nat} (hm : k < m) : ∀ s, emb E q wd m s → rwe E (q + ((k : Nat) : Int)) = some none ∨ ∃ xs, rwe E (q + ((k : Nat) : Int)) = some (some xs) ∧ ((xs.length : Nat) : Int) ≤ wd := by
  induction m with
  | zero => omega
  | succ m ih =>
    intro s h
    obtain ⟨s0, a1, a2⟩ := h
    by_cases c0 : k = m
    · subst c0
      rcases a2 with ⟨e1, _⟩ | ⟨xs, e1, e2, _⟩
      · exact Or.inl e1
      · exact Or.inr ⟨xs, e1, e2⟩
    · exact ih (by omega) s0 a1
theorem emb.stop {k m : Nat} (h1 : EMS E q wd k s f) (h2 : emb E q wd m t) (hm : k < m) : False := by
  rcases h1 with ⟨e, _⟩ | ⟨xs, e, e2, _⟩ <;> rcases emb.less hm t h2 with d | ⟨ys, d, d2⟩
  · rw [e] at d; cases d
  · rw [e] at d; cases d
  · rw [e] at d; cases d
  · rw [e] at d; cases d
    omega
theorem EMBX.uni (h : EMBX E q n wd c f1 c1) (h2 : EMBX E q n wd c f2 c2) : iI f1 = iI f2 ∧ c1 = c2 := by
  rcases h with ⟨e0, e1, e2⟩ | ⟨e0, ⟨e1, e2⟩ | ⟨k, s, e1, e2, e3, e4⟩⟩ <;> rcases h2 with ⟨d0, d1, d2⟩ | ⟨d0, ⟨d1, d2⟩ | ⟨m, t, d1, d2, d3, d4⟩⟩
  · exact ⟨by rw [e1, d1], e2.trans d2.symm⟩
  · omega
  · omega
  · omega
  · exact ⟨emb.uni _ _ _ e1 d1, e2.trans d2.symm⟩
  · exact (emb.stop d3 e1 (by omega)).elim
  · omega
  · exact (emb.stop e3 d1 (by omega)).elim
  · by_cases c0 : k = m
    · subst c0
      have es := emb.uni k s t e2 d2
      refine ⟨?_, e4.trans d4.symm⟩
      rcases e3 with ⟨g1, g2⟩ | ⟨xs, g1, _, g2⟩ <;> rcases d3 with ⟨b1, b2⟩ | ⟨ys, b1, _, b2⟩
      · rw [g2, b2]
      · rw [g1] at b1; cases b1
      · rw [g1] at b1; cases b1
      · rw [g2, b2, es]
    · by_cases c3 : k < m
      · exact (emb.stop e3 d2 c3).elim
      · exact (emb.stop d3 e2 (by omega)).elim
theorem EM1.zero (hk : k = 0) (hs : s1 = 0) : EM1 v a q k s1 := fun E hE => by
  rw [hk, hs]
  rfl
theorem EM1.go (h : EM1 v a q k s1) (hi : i = 0) : EM2 v a q k i s1 := ⟨s1, h, by rw [hi]; rfl⟩
theorem EM2.step (h : EM2 v a q k i s1) (hi : 0 ≤ i) (hx : x = a 35 (200 * (q + k) + i).toNat) (hz : bcn (iI x) = iI z) (hy : iI (s1 + z) = iI y) : EM2 v a q k (i + 1) y := by
  obtain ⟨s0, g1, g2⟩ := h
  refine ⟨s0, g1, ?_⟩
  rw [show (i + 1).toNat = i.toNat + 1 by omega]
  have e : mpr (i.toNat + 1) (fun j => a 35 (200 * (q + k) + ((j : Nat) : Int)).toNat) = mpr i.toNat (fun j => a 35 (200 * (q + k) + ((j : Nat) : Int)).toNat) ++ [a 35 (200 * (q + k) + ((i.toNat : Nat) : Int)).toNat] := by
    unfold mpr
    rw [List.range_succ, List.map_append]
    rfl
  have ea : iI (s1 + z) = iI s1 + iI z := Int32.ofInt_add s1 z
  rw [e, bcs_snoc, ← g2, ← hy, ea, show ((i.toNat : Nat) : Int) = i by omega, ← hx, hz]
theorem EM2.fin (h : EM2 v a q k i s1) (hk : 0 ≤ k) (h0 : 0 ≤ q + k ∧ q + k < v 36) (hw : a 34 (q + k).toNat ≤ v 31) (hi : (i = 0 ∧ a 34 (q + k).toNat ≤ 0) ∨ i = a 34 (q + k).toNat) : EM1 v a q (k + 1) s1 := fun E hE => by
  obtain ⟨s0, g1, g2⟩ := h
  rw [show (k + 1).toNat = k.toNat + 1 by omega]
  refine ⟨iI s0, g1 E hE, ?_⟩
  rw [show q + ((k.toNat : Nat) : Int) = q + k by omega]
  by_cases c0 : a 34 (q + k).toNat < 0
  · refine Or.inl ⟨hE.lack h0.1 h0.2 c0, ?_⟩
    rw [g2, show i.toNat = 0 by omega]
    rfl
  · obtain ⟨xs, e1, e2, e3⟩ := hE.have_ h0.1 h0.2 (by omega)
    refine Or.inr ⟨xs, e1, by omega, ?_⟩
    rw [g2]
    congr 1
    refine List.ext_getElem? (fun j => ?_)
    by_cases cj : j < xs.length
    · have lt : j < (mpr i.toNat (fun j => a 35 (200 * (q + k) + ((j : Nat) : Int)).toNat)).length := by rw [mpr_len]; omega
      rw [gd0_lt cj]
      have g := List.getElem?_eq_getElem lt
      rw [g]
      obtain ⟨_, m2⟩ := mpr_at g
      rw [m2, ← e3 j cj, show (200 * (q + k) + ((j : Nat) : Int)).toNat = 200 * (q + k).toNat + j by omega]
    · have l1 : (mpr i.toNat (fun j => a 35 (200 * (q + k) + ((j : Nat) : Int)).toNat)).length ≤ j := by
        rw [mpr_len]
        omega
      rw [List.getElem?_eq_none l1, List.getElem?_eq_none (show xs.length ≤ j by omega)]
theorem EMA.bad (hn : n < 0 ∨ 200 < n) (hf : f = -1) (h43 : v2 43 = v 43) : EMA v a v2 q n f := fun E hE => Or.inl ⟨hn, hf, by rw [h43]⟩
theorem EMA.ok (h : EM1 v a q k s1) (hk : k = n) (hn : 0 ≤ n ∧ n ≤ 200) (hf : f = s1) (hc : iI (v2 43) = iI (v 43) + iI k) : EMA v a v2 q n f := fun E hE => by
  have g := h E hE
  rw [hk, ← hf] at g
  rw [hk] at hc
  exact Or.inr ⟨hn, Or.inl ⟨g, hc⟩⟩
theorem EMA.stop (h : EM1 v a q k s1) (hk : 0 ≤ k ∧ k < n) (hn : n ≤ 200) (hc : iI (v2 43) = iI (v 43) + iI (k + 1)) (hx : (¬ (0 ≤ q + k ∧ q + k < v 36) ∧ f = -1) ∨ ((0 ≤ q + k ∧ q + k < v 36) ∧ v 31 < a 34 (q + k).toNat ∧ f = s1)) (h31 : 1 ≤ v 31) : EMA v a v2 q n f := fun E hE => by
  refine Or.inr ⟨⟨by omega, hn⟩, Or.inr ⟨k.toNat, iI s1, by omega, h E hE, ?_, by rw [hc, show ((k.toNat : Nat) : Int) = k by omega]⟩⟩
  unfold EMS
  rw [show q + ((k.toNat : Nat) : Int) = q + k by omega]
  rcases hx with ⟨e1, e2⟩ | ⟨e1, e2, e3⟩
  · exact Or.inl ⟨hE.off e1, e2⟩
  · obtain ⟨xs, d1, d2, _⟩ := hE.have_ e1.1 e1.2 (by omega)
    exact Or.inr ⟨xs, d1, by omega, by rw [e3]⟩
theorem cnt_s {c0 w0 w1 k z : Int} (h : iI w0 = iI c0 + iI k) (e : iI (w0 + 1) = iI z) (h2 : w1 = z) : iI w1 = iI c0 + iI (k + 1) := by
  refine hv2 (show iI (w0 + 1) = iI w0 + iI 1 from Int32.ofInt_add w0 1) (show iI (k + 1) = iI k + iI 1 from Int32.ofInt_add k 1) (fun e1 e2 => ?_)
  rw [h2, ← e, e1, h, e2, Int32.add_assoc]
theorem cnt_0 {c0 k : Int} (hk : k = 0) : iI c0 = iI c0 + iI k := by
  rw [hk]
  exact (Int32.add_zero _).symm
end EMBS
set_option maxHeartbeats 4000000 in
set_option maxRecDepth 100000 in
theorem N2_emboss {l : Launch} {G : GT} {h0 : Nat} {ad ln : Nat → Nat} {v : Nat → Int} {a : Nat → Nat → Int}  {q n1 : Int} (hB : BX v a) (hq : -2147483648 ≤ q ∧ q ≤ 2147483647) (hn1 : -2147483648 ≤ n1 ∧ n1 ≤ 2147483647) : Mm l G yX12_emboss cX12_emboss 9 (some .int) 1 [.int (iI q), .int (iI n1)] h0 ad ln v a 0 0 (fun r v2 a2 => ∃ f : Int, r = some (.int (iI f)) ∧ fr [0, 1, 43] [] v a v2 a2 ∧ BX v2 a2 ∧ (EMA v a v2 q n1 f)) := by
  refine Mm.mk (by decide) (Nat.le_of_ble_eq_true rfl) ?_
  intro p e s m args below meth c A C
  refine hv2 (show 0 ≤ v 36 ∧ v 36 ≤ 200 from hB.1 36) (show fr [0, 1, 43] [] v a v a from fr.refl) (fun r36 fp0 => ?_)
  refine m_iload_n (j := 2) C dX12_emboss_0 rfl ?_
  refine m_sipush (z := 200) C dX12_emboss_1 (by decide) ?_
  refine m_icmp_le (tgt := 14) C ⟨by omega, by omega⟩ ⟨by decide, by decide⟩ dX12_emboss_4 (by decide) (fun c1 => ?_) (fun c1 => ?_)
  · refine m_iload_n (j := 2) C dX12_emboss_14 rfl ?_
    refine m_if_ge (tgt := 24) C ⟨by omega, by omega⟩ dX12_emboss_15 (by decide) (fun c2 => ?_) (fun c2 => ?_)
    · refine m_iconst C dX12_emboss_24 ?_
      refine m_istore_n (lv2 := [(3, .int (iI 0)), (0, .ref h0), (1, .int (iI q)), (2, .int (iI n1))]) C dX12_emboss_25 (by decide) rfl ?_
      refine m_iconst C dX12_emboss_26 ?_
      refine m_istore (lv2 := [(4, .int (iI 0)), (3, .int (iI 0)), (0, .ref h0), (1, .int (iI q)), (2, .int (iI n1))]) C dX12_emboss_27 (by decide) rfl ?_
      have Lp1 : ∀ (nn : Nat) (s1 k : Int) (vb1 : Nat → Int) (ab1 : Nat → Nat → Int), 201 - k < (nn : Int) → BX vb1 ab1 → fr [0, 1, 43] [] v a vb1 ab1 → (-2147483648 ≤ s1 ∧ s1 ≤ 2147483647) → (0 ≤ k ∧ k ≤ n1) → (iI (vb1 43) = iI (v 43) + iI k) → (EM1 v a q k s1) → mw p l e (rmq 1 0 0) s m args below meth c G A 9 (MQ below (Qm G A (fun rq Lq Eq => ∃ (vq : Nat → Int) (aq : Nat → Nat → Int), mI G h0 ad ln vq aq Lq Eq ∧ (fun r v2 a2 => ∃ f : Int, r = some (.int (iI f)) ∧ fr [0, 1, 43] [] v a v2 a2 ∧ BX v2 a2 ∧ (EMA v a v2 q n1 f)) rq vq aq)) args s 0 0 A) h0 ad ln vb1 ab1 0 0 29 [(4, .int (iI k)), (3, .int (iI s1)), (0, .ref h0), (1, .int (iI q)), (2, .int (iI n1))] [] := by
        intro nn
        induction nn with
        | zero =>
          intro s1 k vb1 ab1 hm bxb1 fpb1 hs hk h43 hE
          exact absurd hm (by omega)
        | succ nn ih1 =>
          intro s1 k vb1 ab1 hm bxb1 fpb1 hs hk h43 hE
          refine m_iload (j := 0) C dX12_emboss_29 rfl ?_
          refine m_iload_n (j := 4) C dX12_emboss_31 rfl ?_
          refine m_icmp_ge (tgt := 142) C ⟨by omega, by omega⟩ ⟨by omega, by omega⟩ dX12_emboss_32 (by decide) (fun c3 => ?_) (fun c3 => ?_)
          · refine m_aload_n (j := 2) C dX12_emboss_142 rfl ?_
            refine m_iload_n (j := 1) C dX12_emboss_143 rfl ?_
            refine m_call (mc2 := 0) (ms2 := 0) (As := [.int (iI s1)]) (rest := []) C (B_fine (x := s1) bxb1 (by show -2147483648 ≤ s1 ∧ s1 ≤ 2147483647; omega)) dX12_emboss_144 kV_X12_158 rfl ck_13 rfl (Nat.le_of_ble_eq_true rfl) ⟨Nat.le_of_ble_eq_true rfl, Nat.le_of_ble_eq_true rfl⟩ ⟨Nat.le_of_ble_eq_true rfl, Nat.le_of_ble_eq_true rfl⟩ (fun rh1 vh1 ah1 h1 => ?_)
            obtain ⟨f1, rfl, fn1, bn1, ex1⟩ := h1
            refine hv2 (fpb1.call fn1 rfl rfl) (show f1 = s1 from ex1) (fun fq1 gf1 => ?_)
            refine m_st (st2 := [.int (iI f1)]) rfl ?_
            refine hv2 (show (-2147483648) ≤ vh1 43 ∧ vh1 43 ≤ 2147483647 from bn1.1 43) (show vh1 43 = vb1 43 from fn1.1 43 rfl) (fun rv1 ve1 => ?_)
            exact m_iret C dX12_emboss_147 rfl (Nat.le_of_ble_eq_true rfl) (Nat.le_of_ble_eq_true rfl) ⟨f1, rfl, fq1, bn1, (EMA.ok hE (by omega) ⟨by omega, by omega⟩ (by omega) (by rw [fn1.1 43 rfl]; exact h43))⟩
          · refine m_iload_n (j := 3) C dX12_emboss_35 rfl ?_
            refine m_i2l (w := lI q) C dX12_emboss_36 (lI_of ⟨by omega, by omega⟩) ?_
            refine m_iload (j := 0) C dX12_emboss_37 rfl ?_
            refine m_i2l (w := lI k) C dX12_emboss_39 (lI_of ⟨by omega, by omega⟩) ?_
            refine m_ladd (w := lI (q + k)) C dX12_emboss_40 (lI_add _ _) ?_
            refine m_lstore (lv2 := [(5, .long (lI (q + k))), (4, .int (iI k)), (3, .int (iI s1)), (0, .ref h0), (1, .int (iI q)), (2, .int (iI n1))]) C dX12_emboss_41 (by decide) rfl ?_
            refine m_aload_n (j := 3) C dX12_emboss_43 rfl ?_
            refine m_dup C dX12_emboss_44 rfl ?_
            have rv2 : (-2147483648) ≤ vb1 43 ∧ vb1 43 ≤ 2147483647 := bxb1.1 43
            refine m_get (k := 43) C dX12_emboss_45 w6_102 (by decide) rfl ?_
            refine m_iconst C dX12_emboss_48 ?_
            refine m_iadd C dX12_emboss_49 ?_
            obtain ⟨zz1, hzz1, ezz1⟩ := iI_of (iI ((vb1 43) + 1))
            refine m_st (st2 := [.int (iI zz1), .ref h0]) (by rw [ezz1]) ?_
            refine m_put (k := 43) (z := zz1) C dX12_emboss_50 w6_102 (by decide) rfl rfl rfl ?_
            refine hv2 (show BX (va_up vb1 43 zz1) ab1 from bxb1.put (k := 43) (z := zz1) (show (-2147483648) ≤ zz1 ∧ zz1 ≤ 2147483647 by omega)) (fpb1.put (k := 43) (z := zz1) rfl) (fun bq1 fq2 => ?_)
            refine m_lload (j := 0) C dX12_emboss_53 rfl ?_
            refine m_lconst (w := lI 0) C dX12_emboss_55 rfl ?_
            obtain ⟨lc1, hlc1, elc1⟩ := lcmp_c (x := (q + k)) (y := 0) ⟨by omega, by omega⟩ ⟨by omega, by omega⟩
            refine m_lcmp (w := iI lc1) C dX12_emboss_56 elc1 ?_
            refine m_if_lt (tgt := 71) C ⟨by omega, by omega⟩ dX12_emboss_57 (by decide) (fun c4 => ?_) (fun c4 => ?_)
            · refine m_aload_n (j := 3) C dX12_emboss_71 rfl ?_
              refine m_iconst C dX12_emboss_72 ?_
              refine m_call (mc2 := 0) (ms2 := 0) (As := [.int (iI 2)]) (rest := []) C (B_bad (x := 2) bq1 (by show -2147483648 ≤ (2 : Int) ∧ (2 : Int) ≤ 2147483647; omega)) dX12_emboss_73 kV_X12_154 rfl ck_13 rfl (Nat.le_of_ble_eq_true rfl) ⟨Nat.le_of_ble_eq_true rfl, Nat.le_of_ble_eq_true rfl⟩ ⟨Nat.le_of_ble_eq_true rfl, Nat.le_of_ble_eq_true rfl⟩ (fun rh2 vh2 ah2 h2 => ?_)
              obtain ⟨f2, rfl, fn2, bn2, ex2⟩ := h2
              refine hv2 (fq2.call fn2 rfl rfl) (show f2 = -1 from ex2) (fun fq3 gf2 => ?_)
              refine m_st (st2 := [.int (iI f2)]) rfl ?_
              refine hv2 (show (-2147483648) ≤ vh2 43 ∧ vh2 43 ≤ 2147483647 from bn2.1 43) (show vh2 43 = zz1 from fn2.1 43 rfl) (fun rv3 ve2 => ?_)
              exact m_iret C dX12_emboss_76 rfl (Nat.le_of_ble_eq_true rfl) (Nat.le_of_ble_eq_true rfl) ⟨f2, rfl, fq3, bn2, (EMA.stop hE ⟨by omega, by omega⟩ (by omega) (cnt_s h43 ezz1 ((fn2.1 43 rfl).trans (va_up_self _ _ _))) (by omega) (hB.1 31).1)⟩
            · refine m_lload (j := 0) C dX12_emboss_60 rfl ?_
              refine m_aload_n (j := 3) C dX12_emboss_62 rfl ?_
              refine hv2 (show 0 ≤ vb1 36 ∧ vb1 36 ≤ 200 from bq1.1 36) (show vb1 36 = v 36 from fpb1.1 36 rfl) (fun rv4 ve3 => ?_)
              refine m_get (k := 36) C dX12_emboss_63 w6_95 (by decide) rfl ?_
              refine m_st (st2 := [.int (iI (v 36)), .long (lI (q + k))]) (congrArg (fun z => Value.int (iI z) :: [.long (lI (q + k))]) (fq2.1 36 rfl)) ?_
              refine m_i2l (w := lI (v 36)) C dX12_emboss_66 (lI_of ⟨by omega, by omega⟩) ?_
              obtain ⟨lc2, hlc2, elc2⟩ := lcmp_c (x := (q + k)) (y := (v 36)) ⟨by omega, by omega⟩ ⟨by omega, by omega⟩
              refine m_lcmp (w := iI lc2) C dX12_emboss_67 elc2 ?_
              refine m_if_lt (tgt := 77) C ⟨by omega, by omega⟩ dX12_emboss_68 (by decide) (fun c5 => ?_) (fun c5 => ?_)
              · refine m_aload_n (j := 3) C dX12_emboss_77 rfl ?_
                refine m_geta (k := 34) C dX12_emboss_78 w6_93 (by decide) rfl ?_
                refine m_lload (j := 0) C dX12_emboss_81 rfl ?_
                refine m_l2i (w := iI (q + k)) C dX12_emboss_83 (lI_i _) ?_
                refine m_ald (k := 34) C dX12_emboss_84 rfl rfl (by decide) (by omega) (by show _ < ((_ : Nat) : Int); simp only [mlen]; omega) (by decide) ?_
                refine hv2 (show (-1) ≤ ab1 34 (q + k).toNat ∧ ab1 34 (q + k).toNat ≤ 200 from bq1.2 34 ((q + k).toNat)) (show ab1 34 ((q + k).toNat) = a 34 ((q + k).toNat) from congrFun (fpb1.2 34 rfl) ((q + k).toNat)) (fun ra1 ae1 => ?_)
                refine m_st (st2 := [.int (iI (a 34 (q + k).toNat))]) (congrArg (fun z => Value.int (iI z) :: []) (congrFun (fq2.2 34 rfl) ((q + k).toNat))) ?_
                refine m_istore (lv2 := [(7, .int (iI (a 34 (q + k).toNat))), (5, .long (lI (q + k))), (4, .int (iI k)), (3, .int (iI s1)), (0, .ref h0), (1, .int (iI q)), (2, .int (iI n1))]) C dX12_emboss_85 (by decide) rfl ?_
                refine m_iload (j := 0) C dX12_emboss_87 rfl ?_
                refine m_aload_n (j := 4) C dX12_emboss_89 rfl ?_
                refine hv2 (show 1 ≤ vb1 31 ∧ vb1 31 ≤ 100 from bq1.1 31) (show vb1 31 = v 31 from fpb1.1 31 rfl) (fun rv5 ve4 => ?_)
                refine m_get (k := 31) C dX12_emboss_90 w6_90 (by decide) rfl ?_
                refine m_st (st2 := [.int (iI (v 31)), .int (iI (a 34 (q + k).toNat))]) (congrArg (fun z => Value.int (iI z) :: [.int (iI (a 34 (q + k).toNat))]) (fq2.1 31 rfl)) ?_
                refine m_icmp_le (tgt := 99) C ⟨by omega, by omega⟩ (r32_c (lo := 1) (hi := 100) (Int.le_trans rv5.1 (Int.le_of_eq ve4)) (Int.le_trans (Int.le_of_eq ve4.symm) rv5.2) (by decide) (by decide)) dX12_emboss_93 (by decide) (fun c6 => ?_) (fun c6 => ?_)
                · refine m_iconst C dX12_emboss_99 ?_
                  refine m_istore (lv2 := [(8, .int (iI 0)), (7, .int (iI (a 34 (q + k).toNat))), (5, .long (lI (q + k))), (4, .int (iI k)), (3, .int (iI s1)), (0, .ref h0), (1, .int (iI q)), (2, .int (iI n1))]) C dX12_emboss_100 (by decide) rfl ?_
                  have Lp2 : ∀ (nn : Nat) (s2 i1 : Int) (vb2 : Nat → Int) (ab2 : Nat → Nat → Int), 201 - i1 < (nn : Int) → BX vb2 ab2 → fr [0, 1, 43] [] v a vb2 ab2 → (-2147483648 ≤ s2 ∧ s2 ≤ 2147483647) → (0 ≤ i1 ∧ i1 ≤ 200 ∧ (i1 = 0 ∨ i1 ≤ a 34 (q + k).toNat)) → (iI (vb2 43) = iI (v 43) + iI (k + 1)) → (EM2 v a q k i1 s2) → mw p l e (rmq 1 0 0) s m args below meth c G A 9 (MQ below (Qm G A (fun rq Lq Eq => ∃ (vq : Nat → Int) (aq : Nat → Nat → Int), mI G h0 ad ln vq aq Lq Eq ∧ (fun r v2 a2 => ∃ f : Int, r = some (.int (iI f)) ∧ fr [0, 1, 43] [] v a v2 a2 ∧ BX v2 a2 ∧ (EMA v a v2 q n1 f)) rq vq aq)) args s 0 0 A) h0 ad ln vb2 ab2 0 0 102 [(8, .int (iI i1)), (3, .int (iI s2)), (7, .int (iI (a 34 (q + k).toNat))), (5, .long (lI (q + k))), (4, .int (iI k)), (0, .ref h0), (1, .int (iI q)), (2, .int (iI n1))] [] := by
                    intro nn
                    induction nn with
                    | zero =>
                      intro s2 i1 vb2 ab2 hm bxb2 fpb2 hs2 hi h43b hD
                      exact absurd hm (by omega)
                    | succ nn ih2 =>
                      intro s2 i1 vb2 ab2 hm bxb2 fpb2 hs2 hi h43b hD
                      refine m_iload (j := 0) C dX12_emboss_102 rfl ?_
                      refine m_iload (j := 2) C dX12_emboss_104 rfl ?_
                      refine m_icmp_ge (tgt := 136) C (r32_c (lo := 0) (hi := 200) hi.1 hi.2.1 (by decide) (by decide)) ⟨by omega, by omega⟩ dX12_emboss_106 (by decide) (fun c7 => ?_) (fun c7 => ?_)
                      · refine m_iinc (z := k) (j := 4) (lv2 := [(4, .int (iI (k + 1))), (8, .int (iI i1)), (3, .int (iI s2)), (7, .int (iI (a 34 (q + k).toNat))), (5, .long (lI (q + k))), (0, .ref h0), (1, .int (iI q)), (2, .int (iI n1))]) C dX12_emboss_136 rfl (by decide) rfl ?_
                        refine m_goto (tgt := 29) C dX12_emboss_139 (by decide) ?_
                        have rv6 : (-2147483648) ≤ vb2 43 ∧ vb2 43 ≤ 2147483647 := bxb2.1 43
                        refine m_lv (lv2 := [(4, .int (iI (k + 1))), (3, .int (iI s2)), (0, .ref h0), (1, .int (iI q)), (2, .int (iI n1))]) [0, 2, 5, 6, 7] rfl ?_
                        exact ih1  s2 (k + 1) _ _ (by omega) bxb2 fpb2 (by omega) (by omega) h43b (EM2.fin hD (by omega) ⟨by omega, by omega⟩ (by omega) (by omega))
                      · refine m_iload_n (j := 1) C dX12_emboss_109 rfl ?_
                        refine m_aload_n (j := 5) C dX12_emboss_110 rfl ?_
                        refine m_geta (k := 35) C dX12_emboss_111 w6_94 (by decide) rfl ?_
                        refine m_sipush (z := 200) C dX12_emboss_114 (by decide) ?_
                        refine m_lload (j := 3) C dX12_emboss_117 rfl ?_
                        refine m_l2i (w := iI (q + k)) C dX12_emboss_119 (lI_i _) ?_
                        refine m_imul C dX12_emboss_120 ?_
                        refine m_iload (j := 0) C dX12_emboss_121 rfl ?_
                        refine m_iadd C dX12_emboss_123 ?_
                        refine m_ald (k := 35) C dX12_emboss_124 rfl rfl (by decide) (by omega) (by show _ < ((_ : Nat) : Int); simp only [mlen]; omega) (by decide) ?_
                        refine hv2 (show (-2147483648) ≤ ab2 35 ((200 * (q + k)) + i1).toNat ∧ ab2 35 ((200 * (q + k)) + i1).toNat ≤ 2147483647 from bxb2.2 35 (((200 * (q + k)) + i1).toNat)) (show ab2 35 (((200 * (q + k)) + i1).toNat) = a 35 (((200 * (q + k)) + i1).toNat) from congrFun (fpb2.2 35 rfl) (((200 * (q + k)) + i1).toNat)) (fun ra2 ae2 => ?_)
                        refine m_st (st2 := [.int (iI (a 35 ((200 * (q + k)) + i1).toNat)), .int (iI s2)]) (congrArg (fun z => Value.int (iI z) :: [.int (iI s2)]) (congrFun (fpb2.2 35 rfl) (((200 * (q + k)) + i1).toNat))) ?_
                        refine m_callS (As := [.int (iI (a 35 ((200 * (q + k)) + i1).toNat))]) (rest := [.int (iI s2)]) C (fun L E => s_bitCount (iI (a 35 ((200 * (q + k)) + i1).toNat))) dX12_emboss_125 kS_X12_309 rfl rfl (Nat.le_of_ble_eq_true rfl) ⟨Nat.le_of_ble_eq_true rfl, Nat.le_of_ble_eq_true rfl⟩ ⟨Nat.le_of_ble_eq_true rfl, Nat.le_of_ble_eq_true rfl⟩ ?_
                        obtain ⟨zz2, hzz2, ezz2⟩ := iI_of (bcn (iI (a 35 ((200 * (q + k)) + i1).toNat)))
                        · refine m_st (st2 := [.int (iI zz2), .int (iI s2)]) (by rw [ezz2]) ?_
                          refine m_iadd C dX12_emboss_128 ?_
                          obtain ⟨zz3, hzz3, ezz3⟩ := iI_of (iI (s2 + zz2))
                          refine m_st (st2 := [.int (iI zz3)]) (by rw [ezz3]) ?_
                          refine m_istore_n (lv2 := [(3, .int (iI zz3)), (8, .int (iI i1)), (7, .int (iI (a 34 (q + k).toNat))), (5, .long (lI (q + k))), (4, .int (iI k)), (0, .ref h0), (1, .int (iI q)), (2, .int (iI n1))]) C dX12_emboss_129 (by decide) rfl ?_
                          refine m_iinc (z := i1) (j := 1) (lv2 := [(8, .int (iI (i1 + 1))), (3, .int (iI zz3)), (7, .int (iI (a 34 (q + k).toNat))), (5, .long (lI (q + k))), (4, .int (iI k)), (0, .ref h0), (1, .int (iI q)), (2, .int (iI n1))]) C dX12_emboss_130 rfl (by decide) rfl ?_
                          refine m_goto (tgt := 102) C dX12_emboss_133 (by decide) ?_
                          have rv7 : (-2147483648) ≤ vb2 43 ∧ vb2 43 ≤ 2147483647 := bxb2.1 43
                          refine m_lv (lv2 := [(8, .int (iI (i1 + 1))), (3, .int (iI zz3)), (7, .int (iI (a 34 (q + k).toNat))), (5, .long (lI (q + k))), (4, .int (iI k)), (0, .ref h0), (1, .int (iI q)), (2, .int (iI n1))]) [0, 1, 2, 3, 4, 5, 6, 7] rfl ?_
                          exact ih2  zz3 (i1 + 1) _ _ (by omega) bxb2 fpb2 (by omega) (by omega) h43b (EM2.step hD (by omega) rfl ezz2 ezz3)
                  refine m_lv (lv2 := [(8, .int (iI 0)), (3, .int (iI s1)), (7, .int (iI (a 34 (q + k).toNat))), (5, .long (lI (q + k))), (4, .int (iI k)), (0, .ref h0), (1, .int (iI q)), (2, .int (iI n1))]) [0, 4, 1, 2, 3, 5, 6, 7] rfl ?_
                  exact Lp2 202 s1 0 _ _ (by omega) bq1 fq2 (by omega) (by omega) (cnt_s h43 ezz1 (va_up_self _ _ _)) (EM1.go hE rfl)
                · refine m_goto (tgt := 142) C dX12_emboss_96 (by decide) ?_
                  refine m_aload_n (j := 4) C dX12_emboss_142 rfl ?_
                  refine m_iload_n (j := 3) C dX12_emboss_143 rfl ?_
                  refine m_call (mc2 := 0) (ms2 := 0) (As := [.int (iI s1)]) (rest := []) C (B_fine (x := s1) bq1 (by show -2147483648 ≤ s1 ∧ s1 ≤ 2147483647; omega)) dX12_emboss_144 kV_X12_158 rfl ck_13 rfl (Nat.le_of_ble_eq_true rfl) ⟨Nat.le_of_ble_eq_true rfl, Nat.le_of_ble_eq_true rfl⟩ ⟨Nat.le_of_ble_eq_true rfl, Nat.le_of_ble_eq_true rfl⟩ (fun rh4 vh4 ah4 h4 => ?_)
                  obtain ⟨f3, rfl, fn3, bn3, ex3⟩ := h4
                  refine hv2 (fq2.call fn3 rfl rfl) (show f3 = s1 from ex3) (fun fq4 gf3 => ?_)
                  refine m_st (st2 := [.int (iI f3)]) rfl ?_
                  refine hv2 (show (-2147483648) ≤ vh4 43 ∧ vh4 43 ≤ 2147483647 from bn3.1 43) (show vh4 43 = zz1 from fn3.1 43 rfl) (fun rv8 ve5 => ?_)
                  exact m_iret C dX12_emboss_147 rfl (Nat.le_of_ble_eq_true rfl) (Nat.le_of_ble_eq_true rfl) ⟨f3, rfl, fq4, bn3, (EMA.stop hE ⟨by omega, by omega⟩ (by omega) (cnt_s h43 ezz1 ((fn3.1 43 rfl).trans (va_up_self _ _ _))) (by omega) (hB.1 31).1)⟩
              · refine m_aload_n (j := 3) C dX12_emboss_71 rfl ?_
                refine m_iconst C dX12_emboss_72 ?_
                refine m_call (mc2 := 0) (ms2 := 0) (As := [.int (iI 2)]) (rest := []) C (B_bad (x := 2) bq1 (by show -2147483648 ≤ (2 : Int) ∧ (2 : Int) ≤ 2147483647; omega)) dX12_emboss_73 kV_X12_154 rfl ck_13 rfl (Nat.le_of_ble_eq_true rfl) ⟨Nat.le_of_ble_eq_true rfl, Nat.le_of_ble_eq_true rfl⟩ ⟨Nat.le_of_ble_eq_true rfl, Nat.le_of_ble_eq_true rfl⟩ (fun rh5 vh5 ah5 h5 => ?_)
                obtain ⟨f4, rfl, fn4, bn4, ex4⟩ := h5
                refine hv2 (fq2.call fn4 rfl rfl) (show f4 = -1 from ex4) (fun fq5 gf4 => ?_)
                refine m_st (st2 := [.int (iI f4)]) rfl ?_
                refine hv2 (show (-2147483648) ≤ vh5 43 ∧ vh5 43 ≤ 2147483647 from bn4.1 43) (show vh5 43 = zz1 from fn4.1 43 rfl) (fun rv9 ve6 => ?_)
                exact m_iret C dX12_emboss_76 rfl (Nat.le_of_ble_eq_true rfl) (Nat.le_of_ble_eq_true rfl) ⟨f4, rfl, fq5, bn4, (EMA.stop hE ⟨by omega, by omega⟩ (by omega) (cnt_s h43 ezz1 ((fn4.1 43 rfl).trans (va_up_self _ _ _))) (by omega) (hB.1 31).1)⟩
      have rv10 : (-2147483648) ≤ v 43 ∧ v 43 ≤ 2147483647 := hB.1 43
      refine m_lv (lv2 := [(4, .int (iI 0)), (3, .int (iI 0)), (0, .ref h0), (1, .int (iI q)), (2, .int (iI n1))]) [0, 1, 2, 3, 4] rfl ?_
      exact Lp1 202 0 0 _ _ (by omega) hB fp0 (by omega) (by omega) (cnt_0 rfl) (EM1.zero rfl rfl)
    · refine m_aload_n (j := 0) C dX12_emboss_18 rfl ?_
      refine m_iconst C dX12_emboss_19 ?_
      refine m_call (mc2 := 0) (ms2 := 0) (As := [.int (iI 5)]) (rest := []) C (B_bad (x := 5) hB (by show -2147483648 ≤ (5 : Int) ∧ (5 : Int) ≤ 2147483647; omega)) dX12_emboss_20 kV_X12_154 rfl ck_13 rfl (Nat.le_of_ble_eq_true rfl) ⟨Nat.le_of_ble_eq_true rfl, Nat.le_of_ble_eq_true rfl⟩ ⟨Nat.le_of_ble_eq_true rfl, Nat.le_of_ble_eq_true rfl⟩ (fun rh6 vh6 ah6 h6 => ?_)
      obtain ⟨f5, rfl, fn5, bn5, ex5⟩ := h6
      refine hv2 (fp0.call fn5 rfl rfl) (show f5 = -1 from ex5) (fun fq6 gf5 => ?_)
      refine m_st (st2 := [.int (iI f5)]) rfl ?_
      refine hv2 (show (-2147483648) ≤ vh6 43 ∧ vh6 43 ≤ 2147483647 from bn5.1 43) (show vh6 43 = v 43 from fn5.1 43 rfl) (fun rv11 ve7 => ?_)
      exact m_iret C dX12_emboss_23 rfl (Nat.le_of_ble_eq_true rfl) (Nat.le_of_ble_eq_true rfl) ⟨f5, rfl, fq6, bn5, (EMA.bad (by omega) (by omega) (fn5.1 43 rfl))⟩
  · refine m_aload_n (j := 0) C dX12_emboss_7 rfl ?_
    refine m_bipush (z := 6) C dX12_emboss_8 (by decide) ?_
    refine m_call (mc2 := 0) (ms2 := 0) (As := [.int (iI 6)]) (rest := []) C (B_bad (x := 6) hB (by show -2147483648 ≤ (6 : Int) ∧ (6 : Int) ≤ 2147483647; omega)) dX12_emboss_10 kV_X12_154 rfl ck_13 rfl (Nat.le_of_ble_eq_true rfl) ⟨Nat.le_of_ble_eq_true rfl, Nat.le_of_ble_eq_true rfl⟩ ⟨Nat.le_of_ble_eq_true rfl, Nat.le_of_ble_eq_true rfl⟩ (fun rh7 vh7 ah7 h7 => ?_)
    obtain ⟨f6, rfl, fn6, bn6, ex6⟩ := h7
    refine hv2 (fp0.call fn6 rfl rfl) (show f6 = -1 from ex6) (fun fq7 gf6 => ?_)
    refine m_st (st2 := [.int (iI f6)]) rfl ?_
    refine hv2 (show (-2147483648) ≤ vh7 43 ∧ vh7 43 ≤ 2147483647 from bn6.1 43) (show vh7 43 = v 43 from fn6.1 43 rfl) (fun rv12 ve8 => ?_)
    exact m_iret C dX12_emboss_13 rfl (Nat.le_of_ble_eq_true rfl) (Nat.le_of_ble_eq_true rfl) ⟨f6, rfl, fq7, bn6, (EMA.bad (by omega) (by omega) (fn6.1 43 rfl))⟩
end
section
def rol (d : Int) : Int := if 0 ≤ d then 4 else (-1 - d) % 4
def SMR (a : Nat → Nat → Int) (d : Int) : Prop := 0 ≤ d ∧ 97 ≤ a 14 (8 * d).toNat ∧ a 14 (8 * d).toNat ≤ 122
def rlt (a : Nat → Nat → Int) (d h : Int) : Nat → List Int
  | 0 => []
  | n + 1 => rlt a d h n ++ [a 14 (8 * d + ((n : Nat) : Int)).toNat - (if h = 1 ∧ n = 0 then 32 else 0)]
def rout (a : Nat → Nat → Int) (d h : Int) : List Int := if 0 ≤ d then rlt a d h (a 12 d.toNat).toNat else if rol d = 2 then [60] else if rol d = 3 then [62] else []
def ngp (d g : Int) : Int := if rol d = 2 then 1 else if rol d = 3 then 0 else g
def ngh (d : Int) : Int := if rol d = 0 then 1 else 0
def STD (a : Nat → Nat → Int) (R : Nat → Int) (p d : Int) : Prop := ∀ k : Int, 0 ≤ k → k < rlen a d → dcl a d k = R (p + k).toNat
def BSI (a : Nat → Nat → Int) (R : Nat → Int) (p : Int) (l : List Int) (k x : Int) : Prop := (x = -1 ∧ ∀ (j : Nat) (d : Int), ((j : Nat) : Int) < k → l[j]? = some d → ¬ STD a R p d) ∨ ((0 ≤ x ∧ x < k) ∧ ∃ d, l[x.toNat]? = some d ∧ STD a R p d ∧ ∀ (j : Nat) (e : Int), ((j : Nat) : Int) < k → l[j]? = some e → STD a R p e → rlen a e ≤ rlen a d ∧ (rlen a e = rlen a d → x ≤ ((j : Nat) : Int)))
def BSQ (a : Nat → Nat → Int) (R : Nat → Int) (p : Int) (l : List Int) (o : Option Int) : Prop := ∃ x, BSI a R p l ((l.length : Nat) : Int) x ∧ ((x = -1 ∧ o = none) ∨ (0 ≤ x ∧ o = l[x.toNat]?))
def NZL (a : Nat → Nat → Int) (l : List Int) : Prop := ∀ (j : Nat) (d : Int), l[j]? = some d → (1 ≤ rlen a d ∧ rlen a d ≤ 4) ∧ ∀ k : Int, 0 ≤ k → k < rlen a d → dcl a d k ≠ 0
def mst (a : Nat → Nat → Int) (l0 l1 : List Int) (R : Nat → Int) (s s2 : Int × Int × Int × Int × Int) (o : List Int) : Prop := (s.2.2.2.2 = 0 ∧ R s.1.toNat = 0 ∧ s2 = (s.1 + 1, 0, 0, s.2.2.2.1, 0) ∧ o = []) ∨ (s.2.2.2.2 = 0 ∧ R s.1.toNat ≠ 0 ∧ s2 = (s.1, 0, 0, 1, 1) ∧ o = if s.2.2.2.1 = 1 then [32] else []) ∨ (s.2.2.2.2 = 1 ∧ R s.1.toNat ≠ 0 ∧ ∃ d, BSQ a R s.1 (if s.2.1 = 0 then l0 else l1) (some d) ∧ (s.2.2.1 = 1 → SMR a d) ∧ s2 = (s.1 + rlen a d, ngp d s.2.1, ngh d, s.2.2.2.1, 1) ∧ o = rout a d s.2.2.1) ∨ (s.2.2.2.2 = 1 ∧ R s.1.toNat = 0 ∧ s.2.2.1 ≠ 1 ∧ s2 = (s.1, 0, 0, s.2.2.2.1, 0) ∧ o = [])
def mrn (a : Nat → Nat → Int) (l0 l1 : List Int) (R : Nat → Int) : Nat → Int × Int × Int × Int × Int → Int × Int × Int × Int × Int → List Int → Prop
  | 0, s, s2, o => s = s2 ∧ o = []
  | k + 1, s, s2, o => ∃ s1 o1 o2, mst a l0 l1 R s s1 o1 ∧ mrn a l0 l1 R k s1 s2 o2 ∧ o = o1 ++ o2
def MSB (a : Nat → Nat → Int) (l0 l1 : List Int) (R : Nat → Int) (s : Int × Int × Int × Int × Int) : Prop := s.2.2.2.2 = 1 ∧ ((R s.1.toNat ≠ 0 ∧ (BSQ a R s.1 (if s.2.1 = 0 then l0 else l1) none ∨ (s.2.2.1 = 1 ∧ ∃ d, BSQ a R s.1 (if s.2.1 = 0 then l0 else l1) (some d) ∧ ¬ SMR a d))) ∨ (R s.1.toNat = 0 ∧ s.2.2.1 = 1))
def MFN (R : Nat → Int) (s : Int × Int × Int × Int × Int) : Prop := s.2.2.2.2 = 0 ∧ ∀ j : Nat, s.1.toNat ≤ j → R j = 0
def MRC (a : Nat → Nat → Int) (l0 l1 : List Int) (R : Nat → Int) (s : Int × Int × Int × Int × Int) (bs : List Int) : Prop := ∃ k, mrn a l0 l1 R k (0, 0, 0, 0, 0) s bs
def RFN (a : Nat → Nat → Int) (l0 l1 : List Int) (R : Nat → Int) (bs : List Int) : Prop := ∃ s, MRC a l0 l1 R s bs ∧ MFN R s
def RWG (a : Nat → Nat → Int) (l0 l1 : List Int) (R : Nat → Int) : Prop := ∃ s bs, MRC a l0 l1 R s bs ∧ MSB a l0 l1 R s
def ROV (a : Nat → Nat → Int) (l0 l1 : List Int) (R : Nat → Int) (m : Nat) : Prop := ∃ s bs, MRC a l0 l1 R s bs ∧ m < bs.length
def RDA (a : Nat → Nat → Int) (l0 l1 : List Int) (R : Nat → Int) (f : Int) (bs : List Int) : Prop := (RFN a l0 l1 R bs ∧ bs.length ≤ 4000 ∧ f = ((bs.length : Nat) : Int)) ∨ ((RWG a l0 l1 R ∨ ROV a l0 l1 R 4000) ∧ f = -1 ∧ bs = [])
section RSEM
variable {a a1 a2 : Nat → Nat → Int} {l l0 l1 : List Int} {R R1 : Nat → Int} {s s1 s2 : Int × Int × Int × Int × Int} {o o1 o2 bs b1 b2 : List Int} {p q k x y d e g h f f1 f2 : Int} {m n : Nat} {c c1 c2 : Option Int}
theorem BSI.uni (h1 : BSI a R p l k x) (h2 : BSI a R p l k y) : x = y := by
  rcases h1 with ⟨e1, g1⟩ | ⟨⟨e1, e2⟩, d, g1, g2, g3⟩ <;> rcases h2 with ⟨e3, g4⟩ | ⟨⟨e3, e4⟩, e, g4, g5, g6⟩
  · omega
  · exact absurd g5 (g1 y.toNat e (by omega) g4)
  · exact absurd g2 (g4 x.toNat d (by omega) g1)
  · have q1 := g3 y.toNat e (by omega) g4 g5
    have q2 := g6 x.toNat d (by omega) g1 g2
    have q3 := q1.2 (by omega)
    have q4 := q2.2 (by omega)
    omega
theorem BSQ.uni (h1 : BSQ a R p l c1) (h2 : BSQ a R p l c2) : c1 = c2 := by
  obtain ⟨x, g1, g2⟩ := h1
  obtain ⟨y, g3, g4⟩ := h2
  have e := BSI.uni g1 g3
  subst e
  rcases g2 with ⟨q1, q2⟩ | ⟨q1, q2⟩ <;> rcases g4 with ⟨q3, q4⟩ | ⟨q3, q4⟩
  · rw [q2, q4]
  · omega
  · omega
  · rw [q2, q4]
theorem BSI.zero : BSI a R p l 0 (-1) := Or.inl ⟨rfl, fun j d hj => absurd hj (by omega)⟩
theorem BSI.skip (h : BSI a R p l k x) (hk : 0 ≤ k) (hd : l[k.toNat]? = some d) (hn : ¬ STD a R p d) : BSI a R p l (k + 1) x := by
  rcases h with ⟨e1, g1⟩ | ⟨e1, e, g1, g2, g3⟩
  · refine Or.inl ⟨e1, fun j e hj he => ?_⟩
    by_cases q : ((j : Nat) : Int) < k
    · exact g1 j e q he
    · rw [show j = k.toNat by omega, hd] at he
      cases he
      exact hn
  · refine Or.inr ⟨⟨e1.1, by omega⟩, e, g1, g2, fun j e2 hj he hs => ?_⟩
    by_cases q : ((j : Nat) : Int) < k
    · exact g3 j e2 q he hs
    · rw [show j = k.toNat by omega, hd] at he
      cases he
      exact absurd hs hn
theorem BSI.less (h : BSI a R p l k x) (hk : 0 ≤ k) (hd : l[k.toNat]? = some d) (hx : 0 ≤ x) (he : l[x.toNat]? = some e) (hn : rlen a d ≤ rlen a e) : BSI a R p l (k + 1) x := by
  rcases h with ⟨e1, g1⟩ | ⟨e1, e3, g1, g2, g3⟩
  · omega
  · rw [he] at g1
    cases g1
    refine Or.inr ⟨⟨e1.1, by omega⟩, e, he, g2, fun j e2 hj he2 hs => ?_⟩
    by_cases q : ((j : Nat) : Int) < k
    · exact g3 j e2 q he2 hs
    · rw [show j = k.toNat by omega, hd] at he2
      cases he2
      exact ⟨hn, fun _ => by omega⟩
theorem BSI.take (h : BSI a R p l k x) (hk : 0 ≤ k) (hd : l[k.toNat]? = some d) (hs : STD a R p d) (hx : x = -1 ∨ ∃ e, l[x.toNat]? = some e ∧ rlen a e < rlen a d) : BSI a R p l (k + 1) k := by
  refine Or.inr ⟨⟨hk, by omega⟩, d, hd, hs, fun j e2 hj he2 hs2 => ?_⟩
  by_cases q : ((j : Nat) : Int) < k
  · rcases h with ⟨e1, g1⟩ | ⟨e1, e3, g1, g2, g3⟩
    · exact absurd hs2 (g1 j e2 q he2)
    · rcases hx with hx | ⟨e, hx1, hx2⟩
      · omega
      · rw [hx1] at g1
        cases g1
        have q2 := (g3 j e2 q he2 hs2).1
        exact ⟨by omega, fun q3 => by omega⟩
  · rw [show j = k.toNat by omega, hd] at he2
    cases he2
    exact ⟨Int.le_refl _, fun _ => by omega⟩
theorem BSI.some (h : BSI a R p l ((l.length : Nat) : Int) x) (hx : 0 ≤ x) (hd : l[x.toNat]? = some d) : BSQ a R p l (some d) := ⟨x, h, Or.inr ⟨hx, hd.symm⟩⟩
theorem BSI.none (h : BSI a R p l ((l.length : Nat) : Int) x) (hx : x < 0) : BSQ a R p l none := by
  refine ⟨x, h, Or.inl ⟨?_, rfl⟩⟩
  rcases h with ⟨e1, _⟩ | ⟨e1, _⟩ <;> omega
theorem BSQ.mem (h : BSQ a R p l (some d)) : ∃ j : Nat, l[j]? = some d ∧ STD a R p d := by
  obtain ⟨x, g1, g2⟩ := h
  rcases g2 with ⟨_, q⟩ | ⟨q1, q2⟩
  · cases q
  · rcases g1 with ⟨e1, _⟩ | ⟨_, e, g3, g4, _⟩
    · omega
    · rw [g3] at q2
      cases q2
      exact ⟨x.toNat, g3, g4⟩
theorem mst.uni (h1 : mst a l0 l1 R s s1 o1) (h2 : mst a l0 l1 R s s2 o2) : s1 = s2 ∧ o1 = o2 := by
  rcases h1 with ⟨p1, p2, p3, p4⟩ | ⟨p1, p2, p3, p4⟩ | ⟨p1, p2, d, p3, p4, p5, p6⟩ | ⟨p1, p2, p3, p4, p5⟩ <;> rcases h2 with ⟨q1, q2, q3, q4⟩ | ⟨q1, q2, q3, q4⟩ | ⟨q1, q2, e, q3, q4, q5, q6⟩ | ⟨q1, q2, q3, q4, q5⟩
  · exact ⟨p3.trans q3.symm, p4.trans q4.symm⟩
  · exact absurd p2 q2
  · omega
  · omega
  · exact absurd q2 p2
  · exact ⟨p3.trans q3.symm, p4.trans q4.symm⟩
  · omega
  · omega
  · omega
  · omega
  · have e2 := BSQ.uni p3 q3
    cases e2
    exact ⟨p5.trans q5.symm, p6.trans q6.symm⟩
  · exact absurd q2 p2
  · omega
  · omega
  · exact absurd p2 q2
  · exact ⟨p4.trans q4.symm, p5.trans q5.symm⟩
theorem mrn.snoc : ∀ {k : Nat} {s s1 s2 : Int × Int × Int × Int × Int} {o o1 : List Int}, mrn a l0 l1 R k s s1 o → mst a l0 l1 R s1 s2 o1 → mrn a l0 l1 R (k + 1) s s2 (o ++ o1) := by
  intro k
  induction k with
  | zero =>
    intro s s1 s2 o o1 h1 h2
    obtain ⟨e1, e2⟩ := h1
    subst e1
    subst e2
    exact ⟨s2, o1, [], h2, ⟨rfl, rfl⟩, by simp⟩
  | succ k ih =>
    intro s s1 s2 o o1 h1 h2
    obtain ⟨t, o3, o4, g1, g2, g3⟩ := h1
    refine ⟨t, o3, o4 ++ o1, g1, ih g2 h2, ?_⟩
    rw [g3, List.append_assoc]
theorem mrn.cut : ∀ {k : Nat} {s s1 s2 : Int × Int × Int × Int × Int} {o1 o2 : List Int} {m : Nat}, mrn a l0 l1 R k s s1 o1 → mrn a l0 l1 R (k + m) s s2 o2 → ∃ r, mrn a l0 l1 R m s1 s2 r ∧ o2 = o1 ++ r := by
  intro k
  induction k with
  | zero =>
    intro s s1 s2 o1 o2 m h1 h2
    obtain ⟨e1, e2⟩ := h1
    subst e1
    subst e2
    rw [Nat.zero_add] at h2
    exact ⟨o2, h2, rfl⟩
  | succ k ih =>
    intro s s1 s2 o1 o2 m h1 h2
    rw [show k + 1 + m = (k + m) + 1 by omega] at h2
    obtain ⟨t, o3, o4, g1, g2, g3⟩ := h1
    obtain ⟨u, o5, o6, g4, g5, g6⟩ := h2
    obtain ⟨e1, e2⟩ := mst.uni g1 g4
    subst e1
    subst e2
    obtain ⟨r, r1, r2⟩ := ih g2 g5
    refine ⟨r, r1, ?_⟩
    rw [g6, g3, r2, List.append_assoc]
theorem MFN.step (h1 : MFN R s) (h2 : mst a l0 l1 R s s2 o) (h0 : 0 ≤ s.1) : MFN R s2 ∧ o = [] ∧ 0 ≤ s2.1 := by
  obtain ⟨w1, w2⟩ := h1
  rcases h2 with ⟨p1, p2, p3, p4⟩ | ⟨p1, p2, p3, p4⟩ | ⟨p1, p2, d, p3, p4, p5, p6⟩ | ⟨p1, p2, p3, p4, p5⟩
  · subst p3
    exact ⟨⟨rfl, fun j hj => w2 j (by have q : (s.1 + 1).toNat ≤ j := hj; omega)⟩, p4, by show 0 ≤ s.1 + 1; omega⟩
  · exact absurd (w2 _ (Nat.le_refl _)) p2
  · omega
  · omega
theorem MFN.run : ∀ {k : Nat} {s s2 : Int × Int × Int × Int × Int} {o : List Int}, MFN R s → 0 ≤ s.1 → mrn a l0 l1 R k s s2 o → MFN R s2 ∧ o = [] := by
  intro k
  induction k with
  | zero =>
    intro s s2 o h1 _ h2
    obtain ⟨e1, e2⟩ := h2
    subst e1
    exact ⟨h1, e2⟩
  | succ k ih =>
    intro s s2 o h1 h0 h2
    obtain ⟨t, o3, o4, g1, g2, g3⟩ := h2
    obtain ⟨q1, q2, q3⟩ := MFN.step h1 g1 h0
    obtain ⟨q4, q5⟩ := ih q1 q3 g2
    exact ⟨q4, by rw [g3, q2, q5]; rfl⟩
theorem MSB.no (h1 : MSB a l0 l1 R s) (h2 : mst a l0 l1 R s s2 o) : False := by
  obtain ⟨w1, w2⟩ := h1
  rcases h2 with ⟨p1, p2, p3, p4⟩ | ⟨p1, p2, p3, p4⟩ | ⟨p1, p2, d, p3, p4, p5, p6⟩ | ⟨p1, p2, p3, p4, p5⟩
  · omega
  · omega
  · rcases w2 with ⟨_, w2 | ⟨w2, e, w3, w4⟩⟩ | ⟨w2, _⟩
    · have q := BSQ.uni w2 p3
      cases q
    · have q := BSQ.uni w3 p3
      cases q
      exact w4 (p4 w2)
    · exact p2 w2
  · rcases w2 with ⟨w2, _⟩ | ⟨_, w3⟩
    · exact w2 p2
    · exact p3 w3
theorem rlen_nn (h : NZL a l) (hd : l[n]? = some d) : 0 ≤ rlen a d := by
  have := (h n d hd).1
  omega
theorem mrn.nn (hz0 : NZL a l0) (hz1 : NZL a l1) : ∀ {k : Nat} {s s2 : Int × Int × Int × Int × Int} {o : List Int}, 0 ≤ s.1 → mrn a l0 l1 R k s s2 o → 0 ≤ s2.1 := by
  intro k
  induction k with
  | zero =>
    intro s s2 o h0 h2
    obtain ⟨e1, e2⟩ := h2
    subst e1
    exact h0
  | succ k ih =>
    intro s s2 o h0 h2
    obtain ⟨t, o3, o4, g1, g2, g3⟩ := h2
    refine ih ?_ g2
    rcases g1 with ⟨p1, p2, p3, p4⟩ | ⟨p1, p2, p3, p4⟩ | ⟨p1, p2, d, p3, p4, p5, p6⟩ | ⟨p1, p2, p3, p4, p5⟩
    · subst p3
      show 0 ≤ s.1 + 1
      omega
    · subst p3
      exact h0
    · subst p5
      obtain ⟨j, q1, _⟩ := BSQ.mem p3
      have q2 : 0 ≤ rlen a d := by
        by_cases c : s.2.1 = 0
        · rw [if_pos c] at q1
          exact rlen_nn hz0 q1
        · rw [if_neg c] at q1
          exact rlen_nn hz1 q1
      show 0 ≤ s.1 + rlen a d
      omega
    · subst p4
      exact h0
theorem RFN.uni (hz0 : NZL a l0) (hz1 : NZL a l1) (h1 : RFN a l0 l1 R b1) (h2 : RFN a l0 l1 R b2) : b1 = b2 := by
  obtain ⟨s, ⟨k, g1⟩, g2⟩ := h1
  obtain ⟨t, ⟨m, g3⟩, g4⟩ := h2
  refine hv2 (mrn.nn hz0 hz1 (Int.le_refl 0) g1) (mrn.nn hz0 hz1 (Int.le_refl 0) g3) (fun n1 n2 => ?_)
  by_cases c : k ≤ m
  · rw [show m = k + (m - k) by omega] at g3
    obtain ⟨r, r1, r2⟩ := mrn.cut g1 g3
    rw [(MFN.run g2 n1 r1).2] at r2
    rw [r2, List.append_nil]
  · rw [show k = m + (k - m) by omega] at g1
    obtain ⟨r, r1, r2⟩ := mrn.cut g3 g1
    rw [(MFN.run g4 n2 r1).2] at r2
    rw [r2, List.append_nil]
theorem RFN.nw (hz0 : NZL a l0) (hz1 : NZL a l1) (h1 : RFN a l0 l1 R b1) (h2 : RWG a l0 l1 R) : False := by
  obtain ⟨s, ⟨k, g1⟩, g2⟩ := h1
  obtain ⟨t, bs, ⟨m, g3⟩, g4⟩ := h2
  have n1 := mrn.nn hz0 hz1 (Int.le_refl 0) g1
  by_cases c : k ≤ m
  · rw [show m = k + (m - k) by omega] at g3
    obtain ⟨r, r1, r2⟩ := mrn.cut g1 g3
    refine hv2 ((MFN.run g2 n1 r1).1.1) (g4.1) (fun w w2 => ?_)
    omega
  · rw [show k = m + ((k - m - 1) + 1) by omega] at g1
    obtain ⟨r, r1, r2⟩ := mrn.cut g3 g1
    obtain ⟨u, o3, o4, q1, _, _⟩ := r1
    exact MSB.no g4 q1
theorem RFN.ov (hz0 : NZL a l0) (hz1 : NZL a l1) (h1 : RFN a l0 l1 R b1) (h2 : ROV a l0 l1 R n) : n < b1.length := by
  obtain ⟨s, ⟨k, g1⟩, g2⟩ := h1
  obtain ⟨t, bs, ⟨m, g3⟩, g4⟩ := h2
  have n1 := mrn.nn hz0 hz1 (Int.le_refl 0) g1
  by_cases c : k ≤ m
  · rw [show m = k + (m - k) by omega] at g3
    obtain ⟨r, r1, r2⟩ := mrn.cut g1 g3
    rw [(MFN.run g2 n1 r1).2, List.append_nil] at r2
    rw [← r2]
    exact g4
  · rw [show k = m + (k - m) by omega] at g1
    obtain ⟨r, r1, r2⟩ := mrn.cut g3 g1
    rw [r2, List.length_append]
    omega
theorem RDA.uni (hz0 : NZL a l0) (hz1 : NZL a l1) (h1 : RDA a l0 l1 R f1 b1) (h2 : RDA a l0 l1 R f2 b2) : f1 = f2 ∧ b1 = b2 := by
  rcases h1 with ⟨p1, p2, p3⟩ | ⟨p1, p2, p3⟩ <;> rcases h2 with ⟨q1, q2, q3⟩ | ⟨q1, q2, q3⟩
  · have e := RFN.uni hz0 hz1 p1 q1
    subst e
    exact ⟨p3.trans q3.symm, rfl⟩
  · rcases q1 with q1 | q1
    · exact (RFN.nw hz0 hz1 p1 q1).elim
    · have w := RFN.ov hz0 hz1 p1 q1
      omega
  · rcases p1 with p1 | p1
    · exact (RFN.nw hz0 hz1 q1 p1).elim
    · have w := RFN.ov hz0 hz1 q1 p1
      omega
  · exact ⟨p2.trans q2.symm, p3.trans q3.symm⟩
theorem MRC.zero : MRC a l0 l1 R (0, 0, 0, 0, 0) [] := ⟨0, rfl, rfl⟩
theorem MRC.step (h : MRC a l0 l1 R s o) (h2 : mst a l0 l1 R s s2 o1) : MRC a l0 l1 R s2 (o ++ o1) := by
  obtain ⟨k, g⟩ := h
  exact ⟨k + 1, g.snoc h2⟩
theorem MRC.blank (h : MRC a l0 l1 R (p, 0, 0, x, 0) o) (hp : R p.toNat = 0) : MRC a l0 l1 R (p + 1, 0, 0, x, 0) o := by
  have g := h.step (Or.inl ⟨rfl, hp, rfl, rfl⟩)
  rw [List.append_nil] at g
  exact g
theorem MRC.word (h : MRC a l0 l1 R (p, 0, 0, x, 0) o) (hp : R p.toNat ≠ 0) (ho : o2 = o ++ (if x = 1 then [32] else [])) : MRC a l0 l1 R (p, 0, 0, 1, 1) o2 := by
  rw [ho]
  exact h.step (Or.inr (Or.inl ⟨rfl, hp, rfl, rfl⟩))
theorem MRC.row (h : MRC a l0 l1 R (p, g, q, 1, 1) o) (hp : R p.toNat ≠ 0) (hb : BSQ a R p (if g = 0 then l0 else l1) (some d)) (hs : q = 1 → SMR a d) : MRC a l0 l1 R (p + rlen a d, ngp d g, ngh d, 1, 1) (o ++ rout a d q) := h.step (Or.inr (Or.inr (Or.inl ⟨rfl, hp, d, hb, hs, rfl, rfl⟩)))
theorem MRC.wend (h : MRC a l0 l1 R (p, g, q, 1, 1) o) (hp : R p.toNat = 0) (hq : q ≠ 1) : MRC a l0 l1 R (p, 0, 0, 1, 0) o := by
  have w := h.step (Or.inr (Or.inr (Or.inr ⟨rfl, hp, hq, rfl, rfl⟩)))
  rw [List.append_nil] at w
  exact w
theorem MRC.no (h : MRC a l0 l1 R (p, g, q, 1, 1) o) (hp : R p.toNat ≠ 0) (hb : BSQ a R p (if g = 0 then l0 else l1) none) : RWG a l0 l1 R := ⟨_, o, h, rfl, Or.inl ⟨hp, Or.inl hb⟩⟩
theorem MRC.ns (h : MRC a l0 l1 R (p, g, q, 1, 1) o) (hp : R p.toNat ≠ 0) (hb : BSQ a R p (if g = 0 then l0 else l1) (some d)) (hq : q = 1) (hs : ¬ SMR a d) : RWG a l0 l1 R := ⟨_, o, h, rfl, Or.inl ⟨hp, Or.inr ⟨hq, d, hb, hs⟩⟩⟩
theorem MRC.ge (h : MRC a l0 l1 R (p, g, q, 1, 1) o) (hp : R p.toNat = 0) (hq : q = 1) : RWG a l0 l1 R := ⟨_, o, h, rfl, Or.inr ⟨hp, hq⟩⟩
theorem MRC.fin (h : MRC a l0 l1 R (p, 0, 0, x, 0) o) (hp : ∀ j : Nat, p.toNat ≤ j → R j = 0) : RFN a l0 l1 R o := ⟨_, h, rfl, hp⟩
theorem MRC.ov (h : MRC a l0 l1 R s o) (hn : n < o.length) : ROV a l0 l1 R n := ⟨s, o, h, hn⟩
end RSEM
end
section
def SDX (a : Nat → Nat → Int) (w x u f : Int) : Prop := f = 1 ↔ (x + a 46 w.toNat ≤ u ∧ ∀ k : Int, 0 ≤ k → k < a 46 w.toNat → rcl a w k = a 48 (x + k).toNat)
def SDI (a : Nat → Nat → Int) (w x u k g : Int) : Prop := g = 1 ↔ (x + a 46 w.toNat ≤ u ∧ ∀ j : Int, 0 ≤ j → j < k → rcl a w j = a 48 (x + j).toNat)
def LCX (a : Nat → Nat → Int) (q x u : Int) (l : List Int) (R : Nat → Int) : Prop := HLD a a q l ∧ NZL a l ∧ (∀ j : Int, x ≤ j → j < u → R j.toNat = a 48 j.toNat) ∧ R u.toNat = 0
def bix (q b : Int) : Int := if b < 0 then -1 else b - 6008 * q
def LGI (a : Nat → Nat → Int) (q x u r b : Int) : Prop := ∀ l R, LCX a q x u l R → BSI a R x l (r - 6008 * q) (bix q b)
def LGX (a : Nat → Nat → Int) (q x u f : Int) : Prop := ∀ l R, LCX a q x u l R → (f = -1 ∧ BSQ a R x l none) ∨ ((6008 * q ≤ f ∧ f < 6008 * q + a 47 q.toNat) ∧ ∃ d, l[(f - 6008 * q).toNat]? = some d ∧ rent a a f d ∧ BSQ a R x l (some d))
def OUTL (v : Nat → Int) (a : Nat → Nat → Int) (bs : List Int) : Prop := v 52 = ((bs.length : Nat) : Int) ∧ ∀ (j : Nat) (x : Int), bs[j]? = some x → a 51 j = x
def TLX (v : Nat → Int) (a : Nat → Nat → Int) (v2 : Nat → Int) (a2 : Nat → Nat → Int) (x f : Int) : Prop := ∀ bs, OUTL v a bs → (f = 1 ∧ OUTL v2 a2 (bs ++ [x])) ∨ (f = 0 ∧ bs.length = 4000)
section RRD1
variable {v v1 v2 : Nat → Int} {a a1 a2 : Nat → Nat → Int} {l : List Int} {R : Nat → Int} {w x u k g f q r b d e y : Int} {bs : List Int}
theorem SDI.init1 (h : x + a 46 w.toNat ≤ u) : SDI a w x u 0 1 := ⟨fun _ => ⟨h, fun j h1 h2 => absurd h1 (by omega)⟩, fun _ => rfl⟩
theorem SDI.init0 (h : u < x + a 46 w.toNat) : SDI a w x u 0 0 := ⟨fun e => absurd e (by decide), fun e => absurd e.1 (by omega)⟩
theorem SDI.step1 (h : SDI a w x u k g) (hg : g = 1) (e : rcl a w k = a 48 (x + k).toNat) : SDI a w x u (k + 1) 1 := ⟨fun _ => ⟨(h.mp hg).1, fun j h1 h2 => by
  by_cases c : j < k
  · exact (h.mp hg).2 j h1 c
  · rw [show j = k by omega]; exact e⟩, fun _ => rfl⟩
theorem SDI.step0 (hk : 0 ≤ k) (e : ¬ rcl a w k = a 48 (x + k).toNat) : SDI a w x u (k + 1) 0 := ⟨fun e => absurd e (by decide), fun q => absurd (q.2 k hk (by omega)) e⟩
theorem SDI.fin (h : SDI a w x u k g) (hk : k = a 46 w.toNat) : SDX a w x u g := by
  subst hk
  exact h
theorem SDI.no (h : SDI a w x u k g) (hg : g = 0) (hk : k ≤ a 46 w.toNat) : SDX a w x u g := ⟨fun e => absurd e (by omega), fun q => absurd (h.mpr ⟨q.1, fun j h1 h2 => q.2 j h1 (by omega)⟩) (by omega)⟩
theorem SDX.std (h : SDX a w x u f) (hr : rent a a w d) (hd : (1 ≤ rlen a d ∧ rlen a d ≤ 4) ∧ ∀ k : Int, 0 ≤ k → k < rlen a d → dcl a d k ≠ 0) (hR : ∀ j : Int, x ≤ j → j < u → R j.toNat = a 48 j.toNat) (hu : R u.toNat = 0) (hx : x ≤ u) : f = 1 ↔ STD a R x d := by
  obtain ⟨e1, e2⟩ := hr.rc1 rfl rfl
  unfold SDX at h
  rw [h, e1]
  refine ⟨fun g k h1 h2 => ?_, fun g => ?_⟩
  · rw [← e2 k, hR (x + k) (by omega) (by omega)]
    exact g.2 k h1 h2
  · have le : x + rlen a d ≤ u := by
      by_cases c : x + rlen a d ≤ u
      · exact c
      · have q := g (u - x) (by omega) (by omega)
        rw [show x + (u - x) = u by omega, hu] at q
        exact absurd q (hd.2 (u - x) (by omega) (by omega))
    refine ⟨le, fun k h1 h2 => ?_⟩
    rw [e2 k, g k h1 h2, hR (x + k) (by omega) (by omega)]
theorem HLD.tt (h : HLD a a2 q l) (hq : 0 ≤ q) (h0 : 6008 * q ≤ r) (h1 : r < 6008 * q + a2 47 q.toNat) : ∃ d, l[(r - 6008 * q).toNat]? = some d ∧ rent a a2 r d := by
  have e := h.1
  have lt : (r - 6008 * q).toNat < l.length := by omega
  have g := List.getElem?_eq_getElem lt
  refine ⟨_, g, ?_⟩
  have w := h.2.2 _ _ g
  rw [show 6008 * q + (((r - 6008 * q).toNat : Nat) : Int) = r by omega] at w
  exact w
theorem LGI.init : LGI a q x u (6008 * q) (-1) := fun l R _ => by
  rw [show 6008 * q - 6008 * q = 0 by omega]
  exact BSI.zero
theorem LGI.skip (h : LGI a q x u r b) (hq : q = 0 ∨ q = 1) (hr : 6008 * q ≤ r ∧ r < 6008 * q + a 47 q.toNat) (hs : SDX a r x u f) (hf : f ≠ 1) (hx : x ≤ u) : LGI a q x u (r + 1) b := fun l R hc => by
  obtain ⟨c1, c2, c3, c4⟩ := hc
  obtain ⟨d, d1, d2⟩ := c1.tt (by omega) hr.1 hr.2
  have g := h l R ⟨c1, c2, c3, c4⟩
  rw [show r + 1 - 6008 * q = (r - 6008 * q) + 1 by omega]
  exact g.skip (by omega) d1 (fun q2 => hf ((hs.std d2 (c2 _ _ d1) c3 c4 hx).mpr q2))
theorem bix_p (h : 0 ≤ b) : bix q b = b - 6008 * q := if_neg (by omega)
theorem LGI.less (h : LGI a q x u r b) (hq : q = 0 ∨ q = 1) (hr : 6008 * q ≤ r ∧ r < 6008 * q + a 47 q.toNat) (hb : 6008 * q ≤ b ∧ b < r) (hl : a 46 r.toNat ≤ a 46 b.toNat) : LGI a q x u (r + 1) b := fun l R hc => by
  obtain ⟨c1, c2, c3, c4⟩ := hc
  obtain ⟨d, d1, d2⟩ := c1.tt (by omega) hr.1 hr.2
  obtain ⟨e, e1, e2⟩ := c1.tt (r := b) (by omega) hb.1 (by omega)
  have g := h l R ⟨c1, c2, c3, c4⟩
  rw [bix_p (by omega)] at g
  rw [show r + 1 - 6008 * q = (r - 6008 * q) + 1 by omega, bix_p (by omega)]
  refine hv2 ((d2.rc1 rfl rfl).1) ((e2.rc1 rfl rfl).1) (fun w1 w2 => ?_)
  exact g.less (by omega) d1 (by omega) e1 (by omega)
theorem LGI.take (h : LGI a q x u r b) (hq : q = 0 ∨ q = 1) (hr : 6008 * q ≤ r ∧ r < 6008 * q + a 47 q.toNat) (hs : SDX a r x u f) (hf : f = 1) (hx : x ≤ u) (hb : b < 0 ∨ ((6008 * q ≤ b ∧ b < r) ∧ a 46 b.toNat < a 46 r.toNat)) : LGI a q x u (r + 1) r := fun l R hc => by
  obtain ⟨c1, c2, c3, c4⟩ := hc
  obtain ⟨d, d1, d2⟩ := c1.tt (by omega) hr.1 hr.2
  have g := h l R ⟨c1, c2, c3, c4⟩
  rw [show r + 1 - 6008 * q = (r - 6008 * q) + 1 by omega, bix_p (by omega)]
  refine g.take (by omega) d1 ((hs.std d2 (c2 _ _ d1) c3 c4 hx).mp hf) ?_
  rcases hb with hb | ⟨hb, hl⟩
  · exact Or.inl (if_pos hb)
  · obtain ⟨e, e1, e2⟩ := c1.tt (r := b) (by omega) hb.1 (by omega)
    refine hv2 ((d2.rc1 rfl rfl).1) ((e2.rc1 rfl rfl).1) (fun w1 w2 => ?_)
    refine Or.inr ⟨e, ?_, by omega⟩
    rw [bix_p (by omega)]
    exact e1
theorem LGX.mk (h : LGI a q x u r b) (hq : q = 0 ∨ q = 1) (hr : r = 6008 * q + a 47 q.toNat) (hb : b = -1 ∨ (6008 * q ≤ b ∧ b < r)) : LGX a q x u b := fun l R hc => by
  refine hv2 (h l R hc) (hc.1.1) (fun g e => ?_)
  rw [show r - 6008 * q = ((l.length : Nat) : Int) by omega] at g
  rcases hb with hb | hb
  · subst hb
    exact Or.inl ⟨rfl, g.none (by unfold bix; rw [if_pos (by decide)]; decide)⟩
  · obtain ⟨d, d1, d2⟩ := hc.1.tt (r := b) (by omega) hb.1 (by omega)
    rw [bix_p (by omega)] at g
    exact Or.inr ⟨⟨hb.1, by omega⟩, d, d1, d2, g.some (by omega) d1⟩
theorem OUTL.fr (h : OUTL v a bs) (h52 : v2 52 = v 52) (h51 : a2 51 = a 51) : OUTL v2 a2 bs := ⟨h52.trans h.1, fun j x e => by rw [h51]; exact h.2 j x e⟩
theorem OUTL.snoc (h : OUTL v a bs) (h52 : v2 52 = v 52 + 1) (h51 : a2 51 = va_up (a 51) (v 52).toNat x) : OUTL v2 a2 (bs ++ [x]) := by
  have e := h.1
  refine ⟨by rw [len1]; omega, fun j y ej => ?_⟩
  rw [h51]
  rcases ap1 ej with ⟨c, ej⟩ | ⟨c, ej⟩
  · rw [va_up_ne _ _ (by omega)]
    exact h.2 j y ej
  · rw [show j = (v 52).toNat by omega, va_up_self]
    exact ej
end RRD1
set_option maxHeartbeats 4000000 in
set_option maxRecDepth 100000 in
theorem E_stands {l : Launch} {G : GT} {h0 : Nat} {ad ln : Nat → Nat} {v : Nat → Int} {a : Nat → Nat → Int}  {w x u : Int} (hB : BX v a) (hx : RowOK a w) (hq : 0 ≤ x ∧ x ≤ u ∧ u ≤ 40200) : Mm l G yX12_stands cX12_stands 6 (some .boolean) 1 [.int (iI w), .int (iI x), .int (iI u)] h0 ad ln v a 0 0 (fun r v2 a2 => ∃ f : Int, r = some (.int (iI f)) ∧ fr [] [] v a v2 a2 ∧ BX v2 a2 ∧ ((f = 0 ∨ (f = 1 ∧ x + a 46 w.toNat ≤ u)) ∧ SDX a w x u f)) := by
  refine Mm.mk (by decide) (Nat.le_of_ble_eq_true rfl) ?_
  intro p e s m args below meth c A C
  have uhx := hx
  unfold RowOK at uhx
  have fp0 : fr [] [] v a v a := fr.refl
  refine m_iload_n (j := 2) C dX12_stands_0 rfl ?_
  refine m_aload_n (j := 0) C dX12_stands_1 rfl ?_
  refine m_geta (k := 46) C dX12_stands_2 w6_105 (by decide) rfl ?_
  refine m_iload_n (j := 1) C dX12_stands_5 rfl ?_
  refine m_ald (k := 46) C dX12_stands_6 rfl rfl (by decide) (by omega) (by show _ < ((_ : Nat) : Int); simp only [mlen]; omega) (by decide) ?_
  have ra1 : 0 ≤ a 46 w.toNat ∧ a 46 w.toNat ≤ 4 := hB.2 46 (w.toNat)
  refine m_iadd C dX12_stands_7 ?_
  refine m_iload_n (j := 3) C dX12_stands_8 rfl ?_
  refine m_icmp_gt (tgt := 16) C ⟨by omega, by omega⟩ ⟨by omega, by omega⟩ dX12_stands_9 (by decide) (fun c1 => ?_) (fun c1 => ?_)
  · refine m_iconst C dX12_stands_16 ?_
    refine m_istore (lv2 := [(4, .int (iI 0)), (0, .ref h0), (1, .int (iI w)), (2, .int (iI x)), (3, .int (iI u))]) C dX12_stands_17 (by decide) rfl ?_
    refine m_iconst C dX12_stands_19 ?_
    refine m_istore (lv2 := [(5, .int (iI 0)), (4, .int (iI 0)), (0, .ref h0), (1, .int (iI w)), (2, .int (iI x)), (3, .int (iI u))]) C dX12_stands_20 (by decide) rfl ?_
    have Lp1 : ∀ (nn : Nat) (g k : Int) (vb1 : Nat → Int) (ab1 : Nat → Nat → Int), 5 - k < (nn : Int) → BX vb1 ab1 → fr [] [] v a vb1 ab1 → (g = 0 ∨ (g = 1 ∧ x + a 46 w.toNat ≤ u)) → (0 ≤ k ∧ k ≤ a 46 w.toNat) → (SDI a w x u k g) → mw p l e (rmq 1 0 0) s m args below meth c G A 6 (MQ below (Qm G A (fun rq Lq Eq => ∃ (vq : Nat → Int) (aq : Nat → Nat → Int), mI G h0 ad ln vq aq Lq Eq ∧ (fun r v2 a2 => ∃ f : Int, r = some (.int (iI f)) ∧ fr [] [] v a v2 a2 ∧ BX v2 a2 ∧ ((f = 0 ∨ (f = 1 ∧ x + a 46 w.toNat ≤ u)) ∧ SDX a w x u f)) rq vq aq)) args s 0 0 A) h0 ad ln vb1 ab1 0 0 22 [(4, .int (iI g)), (5, .int (iI k)), (0, .ref h0), (1, .int (iI w)), (2, .int (iI x)), (3, .int (iI u))] [] := by
      intro nn
      induction nn with
      | zero =>
        intro g k vb1 ab1 hm bxb1 fpb1 hg hk hI
        exact absurd hm (by omega)
      | succ nn ih1 =>
        intro g k vb1 ab1 hm bxb1 fpb1 hg hk hI
        refine m_iload (j := 1) C dX12_stands_22 rfl ?_
        refine m_aload_n (j := 2) C dX12_stands_24 rfl ?_
        refine m_geta (k := 46) C dX12_stands_25 w6_105 (by decide) rfl ?_
        refine m_iload_n (j := 3) C dX12_stands_28 rfl ?_
        refine m_ald (k := 46) C dX12_stands_29 rfl rfl (by decide) (by omega) (by show _ < ((_ : Nat) : Int); simp only [mlen]; omega) (by decide) ?_
        refine hv2 (show 0 ≤ ab1 46 w.toNat ∧ ab1 46 w.toNat ≤ 4 from bxb1.2 46 (w.toNat)) (show ab1 46 (w.toNat) = a 46 (w.toNat) from congrFun (fpb1.2 46 rfl) (w.toNat)) (fun ra2 ae1 => ?_)
        refine m_st (st2 := [.int (iI (a 46 w.toNat)), .int (iI k)]) (congrArg (fun z => Value.int (iI z) :: [.int (iI k)]) (congrFun (fpb1.2 46 rfl) (w.toNat))) ?_
        refine m_icmp_ge (tgt := 70) C ⟨by omega, by omega⟩ (r32_c (lo := 0) (hi := 4) ra1.1 ra1.2 (by decide) (by decide)) dX12_stands_30 (by decide) (fun c2 => ?_) (fun c2 => ?_)
        · refine m_iload (j := 0) C dX12_stands_70 rfl ?_
          exact m_zret C dX12_stands_72 rfl (by omega) (Nat.le_of_ble_eq_true rfl) (Nat.le_of_ble_eq_true rfl) ⟨g, rfl, fpb1, bxb1, ⟨by omega, hI.fin (by omega)⟩⟩
        · refine m_iload (j := 0) C dX12_stands_33 rfl ?_
          refine m_if_eq (tgt := 70) C ⟨by omega, by omega⟩ dX12_stands_35 (by decide) (fun c3 => ?_) (fun c3 => ?_)
          · clear hg
            refine m_iload (j := 0) C dX12_stands_70 rfl ?_
            exact m_zret C dX12_stands_72 rfl (by omega) (Nat.le_of_ble_eq_true rfl) (Nat.le_of_ble_eq_true rfl) ⟨g, rfl, fpb1, bxb1, ⟨by omega, hI.no (by omega) (by omega)⟩⟩
          · replace hg := (hg.resolve_left c3)
            refine m_aload_n (j := 2) C dX12_stands_38 rfl ?_
            refine m_iload_n (j := 3) C dX12_stands_39 rfl ?_
            refine m_iload (j := 1) C dX12_stands_40 rfl ?_
            refine hv4 (show 0 ≤ ab1 45 w.toNat ∧ ab1 45 w.toNat ≤ 23999 from bxb1.2 45 (w.toNat)) (show ab1 45 (w.toNat) = a 45 (w.toNat) from congrFun (fpb1.2 45 rfl) (w.toNat)) (show (-4) ≤ ab1 44 w.toNat ∧ ab1 44 w.toNat ≤ 5999 from bxb1.2 44 (w.toNat)) (show ab1 44 (w.toNat) = a 44 (w.toNat) from congrFun (fpb1.2 44 rfl) (w.toNat)) (fun ra3 ae2 ra4 ae3 => ?_)
            refine m_call (mc2 := 0) (ms2 := 0) (As := [.int (iI w), .int (iI k)]) (rest := []) C (E_rowCell (w := w) (k := k) bxb1 (by show 0 ≤ w ∧ w < 12016; omega) (by show 0 ≤ ab1 45 w.toNat + k ∧ (0 ≤ ab1 44 w.toNat → ab1 45 w.toNat + k < 24000) ∧ (ab1 44 w.toNat < 0 → ab1 45 w.toNat + k < 480); omega)) dX12_stands_42 kV_X12_324 rfl ck_13 rfl (Nat.le_of_ble_eq_true rfl) ⟨Nat.le_of_ble_eq_true rfl, Nat.le_of_ble_eq_true rfl⟩ ⟨Nat.le_of_ble_eq_true rfl, Nat.le_of_ble_eq_true rfl⟩ (fun rh1 vh1 ah1 h1 => ?_)
            obtain ⟨f1, rfl, fn1, bn1, ex1⟩ := h1
            obtain ⟨rfl, rfl⟩ := fn1.eq
            obtain ⟨ex1, tl1⟩ := ex1
            have gf1 : -2147483648 ≤ f1 ∧ f1 ≤ 2147483647 := ex1
            refine m_st (st2 := [.int (iI f1)]) rfl ?_
            refine m_aload_n (j := 2) C dX12_stands_45 rfl ?_
            refine m_geta (k := 48) C dX12_stands_46 w6_107 (by decide) rfl ?_
            refine m_iload_n (j := 4) C dX12_stands_49 rfl ?_
            refine m_iload (j := 1) C dX12_stands_50 rfl ?_
            refine m_iadd C dX12_stands_52 ?_
            refine m_ald (k := 48) C dX12_stands_53 rfl rfl (by decide) (by omega) (by show _ < ((_ : Nat) : Int); simp only [mlen]; omega) (by decide) ?_
            refine hv2 (show (-2147483648) ≤ ab1 48 (x + k).toNat ∧ ab1 48 (x + k).toNat ≤ 2147483647 from bxb1.2 48 ((x + k).toNat)) (show ab1 48 ((x + k).toNat) = a 48 ((x + k).toNat) from congrFun (fpb1.2 48 rfl) ((x + k).toNat)) (fun ra5 ae4 => ?_)
            refine m_st (st2 := [.int (iI (a 48 (x + k).toNat)), .int (iI f1)]) (congrArg (fun z => Value.int (iI z) :: [.int (iI f1)]) (congrFun (fpb1.2 48 rfl) ((x + k).toNat))) ?_
            refine m_icmp_ne (tgt := 61) C (r32_c (lo := (-2147483648)) (hi := 2147483647) gf1.1 gf1.2 (by decide) (by decide)) ⟨by omega, by omega⟩ dX12_stands_54 (by decide) (fun c4 => ?_) (fun c4 => ?_)
            · refine m_iconst C dX12_stands_61 ?_
              refine m_istore (lv2 := [(4, .int (iI 0)), (5, .int (iI k)), (0, .ref h0), (1, .int (iI w)), (2, .int (iI x)), (3, .int (iI u))]) C dX12_stands_62 (by decide) rfl ?_
              refine m_iinc (z := k) (j := 1) (lv2 := [(5, .int (iI (k + 1))), (4, .int (iI 0)), (0, .ref h0), (1, .int (iI w)), (2, .int (iI x)), (3, .int (iI u))]) C dX12_stands_64 rfl (by decide) rfl ?_
              refine m_goto (tgt := 22) C dX12_stands_67 (by decide) ?_
              refine m_lv (lv2 := [(4, .int (iI 0)), (5, .int (iI (k + 1))), (0, .ref h0), (1, .int (iI w)), (2, .int (iI x)), (3, .int (iI u))]) [1, 0, 2, 3, 4, 5] rfl ?_
              exact ih1  0 (k + 1) _ _ (by omega) bxb1 fpb1 (by omega) (by omega) (SDI.step0 (by omega) (by rw [(fpb1.eq).2, ← tl1]; omega))
            · refine m_iconst C dX12_stands_57 ?_
              refine m_goto (tgt := 62) C dX12_stands_58 (by decide) ?_
              refine m_istore (lv2 := [(4, .int (iI 1)), (5, .int (iI k)), (0, .ref h0), (1, .int (iI w)), (2, .int (iI x)), (3, .int (iI u))]) C dX12_stands_62 (by decide) rfl ?_
              refine m_iinc (z := k) (j := 1) (lv2 := [(5, .int (iI (k + 1))), (4, .int (iI 1)), (0, .ref h0), (1, .int (iI w)), (2, .int (iI x)), (3, .int (iI u))]) C dX12_stands_64 rfl (by decide) rfl ?_
              refine m_goto (tgt := 22) C dX12_stands_67 (by decide) ?_
              refine m_lv (lv2 := [(4, .int (iI 1)), (5, .int (iI (k + 1))), (0, .ref h0), (1, .int (iI w)), (2, .int (iI x)), (3, .int (iI u))]) [1, 0, 2, 3, 4, 5] rfl ?_
              exact ih1  1 (k + 1) _ _ (by omega) bxb1 fpb1 (by omega) (by omega) (hI.step1 (by omega) (by rw [(fpb1.eq).2, ← tl1]; omega))
    refine m_lv (lv2 := [(4, .int (iI 0)), (5, .int (iI 0)), (0, .ref h0), (1, .int (iI w)), (2, .int (iI x)), (3, .int (iI u))]) [1, 0, 2, 3, 4, 5] rfl ?_
    exact Lp1 6 0 0 _ _ (by omega) hB fp0 (by omega) (by omega) (SDI.init0 (by omega))
  · refine m_iconst C dX12_stands_12 ?_
    refine m_goto (tgt := 17) C dX12_stands_13 (by decide) ?_
    refine m_istore (lv2 := [(4, .int (iI 1)), (0, .ref h0), (1, .int (iI w)), (2, .int (iI x)), (3, .int (iI u))]) C dX12_stands_17 (by decide) rfl ?_
    refine m_iconst C dX12_stands_19 ?_
    refine m_istore (lv2 := [(5, .int (iI 0)), (4, .int (iI 1)), (0, .ref h0), (1, .int (iI w)), (2, .int (iI x)), (3, .int (iI u))]) C dX12_stands_20 (by decide) rfl ?_
    have Lp2 : ∀ (nn : Nat) (g k : Int) (vb2 : Nat → Int) (ab2 : Nat → Nat → Int), 5 - k < (nn : Int) → BX vb2 ab2 → fr [] [] v a vb2 ab2 → (g = 0 ∨ (g = 1 ∧ x + a 46 w.toNat ≤ u)) → (0 ≤ k ∧ k ≤ a 46 w.toNat) → (SDI a w x u k g) → mw p l e (rmq 1 0 0) s m args below meth c G A 6 (MQ below (Qm G A (fun rq Lq Eq => ∃ (vq : Nat → Int) (aq : Nat → Nat → Int), mI G h0 ad ln vq aq Lq Eq ∧ (fun r v2 a2 => ∃ f : Int, r = some (.int (iI f)) ∧ fr [] [] v a v2 a2 ∧ BX v2 a2 ∧ ((f = 0 ∨ (f = 1 ∧ x + a 46 w.toNat ≤ u)) ∧ SDX a w x u f)) rq vq aq)) args s 0 0 A) h0 ad ln vb2 ab2 0 0 22 [(4, .int (iI g)), (5, .int (iI k)), (0, .ref h0), (1, .int (iI w)), (2, .int (iI x)), (3, .int (iI u))] [] := by
      intro nn
      induction nn with
      | zero =>
        intro g k vb2 ab2 hm bxb2 fpb2 hg hk hI
        exact absurd hm (by omega)
      | succ nn ih2 =>
        intro g k vb2 ab2 hm bxb2 fpb2 hg hk hI
        refine m_iload (j := 1) C dX12_stands_22 rfl ?_
        refine m_aload_n (j := 2) C dX12_stands_24 rfl ?_
        refine m_geta (k := 46) C dX12_stands_25 w6_105 (by decide) rfl ?_
        refine m_iload_n (j := 3) C dX12_stands_28 rfl ?_
        refine m_ald (k := 46) C dX12_stands_29 rfl rfl (by decide) (by omega) (by show _ < ((_ : Nat) : Int); simp only [mlen]; omega) (by decide) ?_
        refine hv2 (show 0 ≤ ab2 46 w.toNat ∧ ab2 46 w.toNat ≤ 4 from bxb2.2 46 (w.toNat)) (show ab2 46 (w.toNat) = a 46 (w.toNat) from congrFun (fpb2.2 46 rfl) (w.toNat)) (fun ra6 ae5 => ?_)
        refine m_st (st2 := [.int (iI (a 46 w.toNat)), .int (iI k)]) (congrArg (fun z => Value.int (iI z) :: [.int (iI k)]) (congrFun (fpb2.2 46 rfl) (w.toNat))) ?_
        refine m_icmp_ge (tgt := 70) C ⟨by omega, by omega⟩ (r32_c (lo := 0) (hi := 4) ra1.1 ra1.2 (by decide) (by decide)) dX12_stands_30 (by decide) (fun c5 => ?_) (fun c5 => ?_)
        · refine m_iload (j := 0) C dX12_stands_70 rfl ?_
          exact m_zret C dX12_stands_72 rfl (by omega) (Nat.le_of_ble_eq_true rfl) (Nat.le_of_ble_eq_true rfl) ⟨g, rfl, fpb2, bxb2, ⟨by omega, hI.fin (by omega)⟩⟩
        · refine m_iload (j := 0) C dX12_stands_33 rfl ?_
          refine m_if_eq (tgt := 70) C ⟨by omega, by omega⟩ dX12_stands_35 (by decide) (fun c6 => ?_) (fun c6 => ?_)
          · clear hg
            refine m_iload (j := 0) C dX12_stands_70 rfl ?_
            exact m_zret C dX12_stands_72 rfl (by omega) (Nat.le_of_ble_eq_true rfl) (Nat.le_of_ble_eq_true rfl) ⟨g, rfl, fpb2, bxb2, ⟨by omega, hI.no (by omega) (by omega)⟩⟩
          · replace hg := (hg.resolve_left c6)
            refine m_aload_n (j := 2) C dX12_stands_38 rfl ?_
            refine m_iload_n (j := 3) C dX12_stands_39 rfl ?_
            refine m_iload (j := 1) C dX12_stands_40 rfl ?_
            refine hv4 (show 0 ≤ ab2 45 w.toNat ∧ ab2 45 w.toNat ≤ 23999 from bxb2.2 45 (w.toNat)) (show ab2 45 (w.toNat) = a 45 (w.toNat) from congrFun (fpb2.2 45 rfl) (w.toNat)) (show (-4) ≤ ab2 44 w.toNat ∧ ab2 44 w.toNat ≤ 5999 from bxb2.2 44 (w.toNat)) (show ab2 44 (w.toNat) = a 44 (w.toNat) from congrFun (fpb2.2 44 rfl) (w.toNat)) (fun ra7 ae6 ra8 ae7 => ?_)
            refine m_call (mc2 := 0) (ms2 := 0) (As := [.int (iI w), .int (iI k)]) (rest := []) C (E_rowCell (w := w) (k := k) bxb2 (by show 0 ≤ w ∧ w < 12016; omega) (by show 0 ≤ ab2 45 w.toNat + k ∧ (0 ≤ ab2 44 w.toNat → ab2 45 w.toNat + k < 24000) ∧ (ab2 44 w.toNat < 0 → ab2 45 w.toNat + k < 480); omega)) dX12_stands_42 kV_X12_324 rfl ck_13 rfl (Nat.le_of_ble_eq_true rfl) ⟨Nat.le_of_ble_eq_true rfl, Nat.le_of_ble_eq_true rfl⟩ ⟨Nat.le_of_ble_eq_true rfl, Nat.le_of_ble_eq_true rfl⟩ (fun rh2 vh2 ah2 h2 => ?_)
            obtain ⟨f2, rfl, fn2, bn2, ex2⟩ := h2
            obtain ⟨rfl, rfl⟩ := fn2.eq
            obtain ⟨ex2, tl2⟩ := ex2
            have gf2 : -2147483648 ≤ f2 ∧ f2 ≤ 2147483647 := ex2
            refine m_st (st2 := [.int (iI f2)]) rfl ?_
            refine m_aload_n (j := 2) C dX12_stands_45 rfl ?_
            refine m_geta (k := 48) C dX12_stands_46 w6_107 (by decide) rfl ?_
            refine m_iload_n (j := 4) C dX12_stands_49 rfl ?_
            refine m_iload (j := 1) C dX12_stands_50 rfl ?_
            refine m_iadd C dX12_stands_52 ?_
            refine m_ald (k := 48) C dX12_stands_53 rfl rfl (by decide) (by omega) (by show _ < ((_ : Nat) : Int); simp only [mlen]; omega) (by decide) ?_
            refine hv2 (show (-2147483648) ≤ ab2 48 (x + k).toNat ∧ ab2 48 (x + k).toNat ≤ 2147483647 from bxb2.2 48 ((x + k).toNat)) (show ab2 48 ((x + k).toNat) = a 48 ((x + k).toNat) from congrFun (fpb2.2 48 rfl) ((x + k).toNat)) (fun ra9 ae8 => ?_)
            refine m_st (st2 := [.int (iI (a 48 (x + k).toNat)), .int (iI f2)]) (congrArg (fun z => Value.int (iI z) :: [.int (iI f2)]) (congrFun (fpb2.2 48 rfl) ((x + k).toNat))) ?_
            refine m_icmp_ne (tgt := 61) C (r32_c (lo := (-2147483648)) (hi := 2147483647) gf2.1 gf2.2 (by decide) (by decide)) ⟨by omega, by omega⟩ dX12_stands_54 (by decide) (fun c7 => ?_) (fun c7 => ?_)
            · refine m_iconst C dX12_stands_61 ?_
              refine m_istore (lv2 := [(4, .int (iI 0)), (5, .int (iI k)), (0, .ref h0), (1, .int (iI w)), (2, .int (iI x)), (3, .int (iI u))]) C dX12_stands_62 (by decide) rfl ?_
              refine m_iinc (z := k) (j := 1) (lv2 := [(5, .int (iI (k + 1))), (4, .int (iI 0)), (0, .ref h0), (1, .int (iI w)), (2, .int (iI x)), (3, .int (iI u))]) C dX12_stands_64 rfl (by decide) rfl ?_
              refine m_goto (tgt := 22) C dX12_stands_67 (by decide) ?_
              refine m_lv (lv2 := [(4, .int (iI 0)), (5, .int (iI (k + 1))), (0, .ref h0), (1, .int (iI w)), (2, .int (iI x)), (3, .int (iI u))]) [1, 0, 2, 3, 4, 5] rfl ?_
              exact ih2  0 (k + 1) _ _ (by omega) bxb2 fpb2 (by omega) (by omega) (SDI.step0 (by omega) (by rw [(fpb2.eq).2, ← tl2]; omega))
            · refine m_iconst C dX12_stands_57 ?_
              refine m_goto (tgt := 62) C dX12_stands_58 (by decide) ?_
              refine m_istore (lv2 := [(4, .int (iI 1)), (5, .int (iI k)), (0, .ref h0), (1, .int (iI w)), (2, .int (iI x)), (3, .int (iI u))]) C dX12_stands_62 (by decide) rfl ?_
              refine m_iinc (z := k) (j := 1) (lv2 := [(5, .int (iI (k + 1))), (4, .int (iI 1)), (0, .ref h0), (1, .int (iI w)), (2, .int (iI x)), (3, .int (iI u))]) C dX12_stands_64 rfl (by decide) rfl ?_
              refine m_goto (tgt := 22) C dX12_stands_67 (by decide) ?_
              refine m_lv (lv2 := [(4, .int (iI 1)), (5, .int (iI (k + 1))), (0, .ref h0), (1, .int (iI w)), (2, .int (iI x)), (3, .int (iI u))]) [1, 0, 2, 3, 4, 5] rfl ?_
              exact ih2  1 (k + 1) _ _ (by omega) bxb2 fpb2 (by omega) (by omega) (hI.step1 (by omega) (by rw [(fpb2.eq).2, ← tl2]; omega))
    refine m_lv (lv2 := [(4, .int (iI 1)), (5, .int (iI 0)), (0, .ref h0), (1, .int (iI w)), (2, .int (iI x)), (3, .int (iI u))]) [1, 0, 2, 3, 4, 5] rfl ?_
    exact Lp2 6 1 0 _ _ (by omega) hB fp0 (by omega) (by omega) (SDI.init1 (by omega))
set_option maxHeartbeats 4000000 in
set_option maxRecDepth 100000 in
theorem E_longest {l : Launch} {G : GT} {h0 : Nat} {ad ln : Nat → Nat} {v : Nat → Int} {a : Nat → Nat → Int}  {q x u : Int} (hB : BX v a) (hW : RWS a) (hq : q = 0 ∨ q = 1) (hx : 0 ≤ x ∧ x ≤ u ∧ u ≤ 40200) : Mm l G yX12_longest cX12_longest 6 (some .int) 2 [.int (iI q), .int (iI x), .int (iI u)] h0 ad ln v a 0 0 (fun r v2 a2 => ∃ f : Int, r = some (.int (iI f)) ∧ fr [] [] v a v2 a2 ∧ BX v2 a2 ∧ ((f = -1 ∨ (6008 * q ≤ f ∧ f < 6008 * q + a 47 q.toNat ∧ x + a 46 f.toNat ≤ u)) ∧ LGX a q x u f)) := by
  refine Mm.mk (by decide) (Nat.le_of_ble_eq_true rfl) ?_
  intro p e s m args below meth c A C
  refine hv2 (show 0 ≤ a 47 q.toNat ∧ a 47 q.toNat ≤ 6008 from hB.2 47 _) (show fr [] [] v a v a from fr.refl) (fun r47 fp0 => ?_)
  refine m_iconst C dX12_longest_0 ?_
  refine m_istore (lv2 := [(4, .int (iI (-1))), (0, .ref h0), (1, .int (iI q)), (2, .int (iI x)), (3, .int (iI u))]) C dX12_longest_1 (by decide) rfl ?_
  refine m_sipush (z := 6008) C dX12_longest_3 (by decide) ?_
  refine m_iload_n (j := 2) C dX12_longest_6 rfl ?_
  refine m_imul C dX12_longest_7 ?_
  refine m_istore (lv2 := [(5, .int (iI (6008 * q))), (4, .int (iI (-1))), (0, .ref h0), (1, .int (iI q)), (2, .int (iI x)), (3, .int (iI u))]) C dX12_longest_8 (by decide) rfl ?_
  have Lp1 : ∀ (nn : Nat) (b1 r1 : Int) (vb2 : Nat → Int) (ab2 : Nat → Nat → Int), 12018 - r1 < (nn : Int) → BX vb2 ab2 → fr [] [] v a vb2 ab2 → (6008 * q ≤ r1 ∧ r1 ≤ 6008 * q + a 47 q.toNat) → (b1 = -1 ∨ (6008 * q ≤ b1 ∧ b1 < r1 ∧ x + a 46 b1.toNat ≤ u)) → (LGI a q x u r1 b1) → mw p l e (rmq 2 0 0) s m args below meth c G A 6 (MQ below (Qm G A (fun rq Lq Eq => ∃ (vq : Nat → Int) (aq : Nat → Nat → Int), mI G h0 ad ln vq aq Lq Eq ∧ (fun r v2 a2 => ∃ f : Int, r = some (.int (iI f)) ∧ fr [] [] v a v2 a2 ∧ BX v2 a2 ∧ ((f = -1 ∨ (6008 * q ≤ f ∧ f < 6008 * q + a 47 q.toNat ∧ x + a 46 f.toNat ≤ u)) ∧ LGX a q x u f)) rq vq aq)) args s 0 0 A) h0 ad ln vb2 ab2 0 0 10 [(4, .int (iI b1)), (5, .int (iI r1)), (0, .ref h0), (1, .int (iI q)), (2, .int (iI x)), (3, .int (iI u))] [] := by
    intro nn
    induction nn with
    | zero =>
      intro b1 r1 vb2 ab2 hm bxb2 fpb2 hr hb hI
      exact absurd hm (by omega)
    | succ nn ih1 =>
      intro b1 r1 vb2 ab2 hm bxb2 fpb2 hr hb hI
      refine m_iload (j := 1) C dX12_longest_10 rfl ?_
      refine m_sipush (z := 6008) C dX12_longest_12 (by decide) ?_
      refine m_iload_n (j := 3) C dX12_longest_15 rfl ?_
      refine m_imul C dX12_longest_16 ?_
      refine m_aload_n (j := 2) C dX12_longest_17 rfl ?_
      refine m_geta (k := 47) C dX12_longest_18 w6_106 (by decide) rfl ?_
      refine m_iload_n (j := 3) C dX12_longest_21 rfl ?_
      refine m_ald (k := 47) C dX12_longest_22 rfl rfl (by decide) (by omega) (by show _ < ((_ : Nat) : Int); simp only [mlen]; omega) (by decide) ?_
      refine hv2 (show 0 ≤ ab2 47 q.toNat ∧ ab2 47 q.toNat ≤ 6008 from bxb2.2 47 (q.toNat)) (show ab2 47 (q.toNat) = a 47 (q.toNat) from congrFun (fpb2.2 47 rfl) (q.toNat)) (fun ra1 ae1 => ?_)
      refine m_st (st2 := [.int (iI (a 47 q.toNat)), .int (iI (6008 * q)), .int (iI r1)]) (congrArg (fun z => Value.int (iI z) :: [.int (iI (6008 * q)), .int (iI r1)]) (congrFun (fpb2.2 47 rfl) (q.toNat))) ?_
      refine m_iadd C dX12_longest_23 ?_
      refine m_icmp_ge (tgt := 70) C ⟨by omega, by omega⟩ ⟨by omega, by omega⟩ dX12_longest_24 (by decide) (fun c1 => ?_) (fun c1 => ?_)
      · refine m_iload (j := 0) C dX12_longest_70 rfl ?_
        exact m_iret C dX12_longest_72 rfl (Nat.le_of_ble_eq_true rfl) (Nat.le_of_ble_eq_true rfl) ⟨b1, rfl, fpb2, bxb2, ⟨by omega, LGX.mk hI hq (by omega) (by omega)⟩⟩
      · refine m_iload (j := 0) C dX12_longest_27 rfl ?_
        refine m_if_lt (tgt := 49) C ⟨by omega, by omega⟩ dX12_longest_29 (by decide) (fun c2 => ?_) (fun c2 => ?_)
        · refine m_aload_n (j := 2) C dX12_longest_49 rfl ?_
          refine m_iload (j := 1) C dX12_longest_50 rfl ?_
          refine m_iload_n (j := 4) C dX12_longest_52 rfl ?_
          refine m_iload_n (j := 5) C dX12_longest_53 rfl ?_
          refine m_call (mc2 := 0) (ms2 := 0) (As := [.int (iI r1), .int (iI x), .int (iI u)]) (rest := []) C (E_stands (w := r1) (x := x) (u := u) bxb2 (((RWS.fr hW fpb2 rfl) q (by omega)).2 (r1) (by omega) (by show r1 < 6008 * q + ab2 47 q.toNat; omega)) (by omega)) dX12_longest_54 kV_X12_327 rfl ck_13 rfl (Nat.le_of_ble_eq_true rfl) ⟨Nat.le_of_ble_eq_true rfl, Nat.le_of_ble_eq_true rfl⟩ ⟨Nat.le_of_ble_eq_true rfl, Nat.le_of_ble_eq_true rfl⟩ (fun rh1 vh1 ah1 h1 => ?_)
          obtain ⟨f1, rfl, fn1, _, ef1, sd1⟩ := h1
          obtain ⟨rfl, rfl⟩ := fn1.eq
          refine hv4 (show f1 = 0 ∨ (f1 = 1 ∧ x + ab2 46 r1.toNat ≤ u) from ef1) (show SDX a r1 x u f1 from by rw [(fpb2.eq).2]; exact sd1) (show 0 ≤ ab2 46 r1.toNat ∧ ab2 46 r1.toNat ≤ 4 from bxb2.2 46 (r1.toNat)) (show ab2 46 (r1.toNat) = a 46 (r1.toNat) from congrFun (fpb2.2 46 rfl) (r1.toNat)) (fun gf1 se1 ra2 ae2 => ?_)
          refine m_st (st2 := [.int (iI f1)]) rfl ?_
          refine m_if_eq (tgt := 64) C (r32_0p gf1) dX12_longest_57 (by decide) (fun c3 => ?_) (fun c3 => ?_)
          · clear gf1
            refine m_iinc (z := r1) (j := 1) (lv2 := [(5, .int (iI (r1 + 1))), (4, .int (iI b1)), (0, .ref h0), (1, .int (iI q)), (2, .int (iI x)), (3, .int (iI u))]) C dX12_longest_64 rfl (by decide) rfl ?_
            refine m_goto (tgt := 10) C dX12_longest_67 (by decide) ?_
            refine m_lv (lv2 := [(4, .int (iI b1)), (5, .int (iI (r1 + 1))), (0, .ref h0), (1, .int (iI q)), (2, .int (iI x)), (3, .int (iI u))]) [1, 0, 2, 3, 4, 5] rfl ?_
            exact ih1  b1 (r1 + 1) _ _ (by omega) bxb2 fpb2 (by omega) (by omega) (hI.skip hq ⟨by omega, by omega⟩ se1 (by omega) (by omega))
          · replace gf1 := (gf1.resolve_left c3)
            refine m_iload (j := 1) C dX12_longest_60 rfl ?_
            refine m_istore (lv2 := [(4, .int (iI r1)), (5, .int (iI r1)), (0, .ref h0), (1, .int (iI q)), (2, .int (iI x)), (3, .int (iI u))]) C dX12_longest_62 (by decide) rfl ?_
            refine m_iinc (z := r1) (j := 1) (lv2 := [(5, .int (iI (r1 + 1))), (4, .int (iI r1)), (0, .ref h0), (1, .int (iI q)), (2, .int (iI x)), (3, .int (iI u))]) C dX12_longest_64 rfl (by decide) rfl ?_
            refine m_goto (tgt := 10) C dX12_longest_67 (by decide) ?_
            refine m_lv (lv2 := [(4, .int (iI r1)), (5, .int (iI (r1 + 1))), (0, .ref h0), (1, .int (iI q)), (2, .int (iI x)), (3, .int (iI u))]) [1, 0, 2, 3, 4, 5] rfl ?_
            exact ih1  r1 (r1 + 1) _ _ (by omega) bxb2 fpb2 (by omega) (by omega) (hI.take hq ⟨by omega, by omega⟩ se1 (by omega) (by omega) (by omega))
        · refine m_aload_n (j := 2) C dX12_longest_32 rfl ?_
          refine m_geta (k := 46) C dX12_longest_33 w6_105 (by decide) rfl ?_
          refine m_iload (j := 1) C dX12_longest_36 rfl ?_
          refine m_ald (k := 46) C dX12_longest_38 rfl rfl (by decide) (by omega) (by show _ < ((_ : Nat) : Int); simp only [mlen]; omega) (by decide) ?_
          refine hv2 (show 0 ≤ ab2 46 r1.toNat ∧ ab2 46 r1.toNat ≤ 4 from bxb2.2 46 (r1.toNat)) (show ab2 46 (r1.toNat) = a 46 (r1.toNat) from congrFun (fpb2.2 46 rfl) (r1.toNat)) (fun ra3 ae3 => ?_)
          refine m_st (st2 := [.int (iI (a 46 r1.toNat))]) (congrArg (fun z => Value.int (iI z) :: []) (congrFun (fpb2.2 46 rfl) (r1.toNat))) ?_
          refine m_aload_n (j := 2) C dX12_longest_39 rfl ?_
          refine m_geta (k := 46) C dX12_longest_40 w6_105 (by decide) rfl ?_
          refine m_iload (j := 0) C dX12_longest_43 rfl ?_
          refine m_ald (k := 46) C dX12_longest_45 rfl rfl (by decide) (by omega) (by show _ < ((_ : Nat) : Int); simp only [mlen]; omega) (by decide) ?_
          refine hv2 (show 0 ≤ ab2 46 b1.toNat ∧ ab2 46 b1.toNat ≤ 4 from bxb2.2 46 (b1.toNat)) (show ab2 46 (b1.toNat) = a 46 (b1.toNat) from congrFun (fpb2.2 46 rfl) (b1.toNat)) (fun ra4 ae4 => ?_)
          refine m_st (st2 := [.int (iI (a 46 b1.toNat)), .int (iI (a 46 r1.toNat))]) (congrArg (fun z => Value.int (iI z) :: [.int (iI (a 46 r1.toNat))]) (congrFun (fpb2.2 46 rfl) (b1.toNat))) ?_
          refine m_icmp_le (tgt := 64) C ⟨by omega, by omega⟩ ⟨by omega, by omega⟩ dX12_longest_46 (by decide) (fun c4 => ?_) (fun c4 => ?_)
          · refine m_iinc (z := r1) (j := 1) (lv2 := [(5, .int (iI (r1 + 1))), (4, .int (iI b1)), (0, .ref h0), (1, .int (iI q)), (2, .int (iI x)), (3, .int (iI u))]) C dX12_longest_64 rfl (by decide) rfl ?_
            refine m_goto (tgt := 10) C dX12_longest_67 (by decide) ?_
            refine m_lv (lv2 := [(4, .int (iI b1)), (5, .int (iI (r1 + 1))), (0, .ref h0), (1, .int (iI q)), (2, .int (iI x)), (3, .int (iI u))]) [1, 0, 2, 3, 4, 5] rfl ?_
            exact ih1  b1 (r1 + 1) _ _ (by omega) bxb2 fpb2 (by omega) (by omega) (hI.less hq ⟨by omega, by omega⟩ ⟨by omega, by omega⟩ (by omega))
          · refine m_aload_n (j := 2) C dX12_longest_49 rfl ?_
            refine m_iload (j := 1) C dX12_longest_50 rfl ?_
            refine m_iload_n (j := 4) C dX12_longest_52 rfl ?_
            refine m_iload_n (j := 5) C dX12_longest_53 rfl ?_
            refine m_call (mc2 := 0) (ms2 := 0) (As := [.int (iI r1), .int (iI x), .int (iI u)]) (rest := []) C (E_stands (w := r1) (x := x) (u := u) bxb2 (((RWS.fr hW fpb2 rfl) q (by omega)).2 (r1) (by omega) (by show r1 < 6008 * q + ab2 47 q.toNat; omega)) (by omega)) dX12_longest_54 kV_X12_327 rfl ck_13 rfl (Nat.le_of_ble_eq_true rfl) ⟨Nat.le_of_ble_eq_true rfl, Nat.le_of_ble_eq_true rfl⟩ ⟨Nat.le_of_ble_eq_true rfl, Nat.le_of_ble_eq_true rfl⟩ (fun rh2 vh2 ah2 h2 => ?_)
            obtain ⟨f2, rfl, fn2, _, ef2, sd2⟩ := h2
            obtain ⟨rfl, rfl⟩ := fn2.eq
            refine hv2 (show f2 = 0 ∨ (f2 = 1 ∧ x + ab2 46 r1.toNat ≤ u) from ef2) (show SDX a r1 x u f2 from by rw [(fpb2.eq).2]; exact sd2) (fun gf2 se2 => ?_)
            refine m_st (st2 := [.int (iI f2)]) rfl ?_
            refine m_if_eq (tgt := 64) C (r32_0p gf2) dX12_longest_57 (by decide) (fun c5 => ?_) (fun c5 => ?_)
            · clear gf2
              refine m_iinc (z := r1) (j := 1) (lv2 := [(5, .int (iI (r1 + 1))), (4, .int (iI b1)), (0, .ref h0), (1, .int (iI q)), (2, .int (iI x)), (3, .int (iI u))]) C dX12_longest_64 rfl (by decide) rfl ?_
              refine m_goto (tgt := 10) C dX12_longest_67 (by decide) ?_
              refine m_lv (lv2 := [(4, .int (iI b1)), (5, .int (iI (r1 + 1))), (0, .ref h0), (1, .int (iI q)), (2, .int (iI x)), (3, .int (iI u))]) [1, 0, 2, 3, 4, 5] rfl ?_
              exact ih1  b1 (r1 + 1) _ _ (by omega) bxb2 fpb2 (by omega) (by omega) (hI.skip hq ⟨by omega, by omega⟩ se2 (by omega) (by omega))
            · replace gf2 := (gf2.resolve_left c5)
              refine m_iload (j := 1) C dX12_longest_60 rfl ?_
              refine m_istore (lv2 := [(4, .int (iI r1)), (5, .int (iI r1)), (0, .ref h0), (1, .int (iI q)), (2, .int (iI x)), (3, .int (iI u))]) C dX12_longest_62 (by decide) rfl ?_
              refine m_iinc (z := r1) (j := 1) (lv2 := [(5, .int (iI (r1 + 1))), (4, .int (iI r1)), (0, .ref h0), (1, .int (iI q)), (2, .int (iI x)), (3, .int (iI u))]) C dX12_longest_64 rfl (by decide) rfl ?_
              refine m_goto (tgt := 10) C dX12_longest_67 (by decide) ?_
              refine m_lv (lv2 := [(4, .int (iI r1)), (5, .int (iI (r1 + 1))), (0, .ref h0), (1, .int (iI q)), (2, .int (iI x)), (3, .int (iI u))]) [1, 0, 2, 3, 4, 5] rfl ?_
              exact ih1  r1 (r1 + 1) _ _ (by omega) bxb2 fpb2 (by omega) (by omega) (hI.take hq ⟨by omega, by omega⟩ se2 (by omega) (by omega) (by omega))
  refine m_lv (lv2 := [(4, .int (iI (-1))), (5, .int (iI (6008 * q))), (0, .ref h0), (1, .int (iI q)), (2, .int (iI x)), (3, .int (iI u))]) [1, 0, 2, 3, 4, 5] rfl ?_
  exact Lp1 12019 (-1) (6008 * q) _ _ (by omega) hB fp0 (by omega) (by omega) LGI.init
set_option maxHeartbeats 4000000 in
set_option maxRecDepth 100000 in
theorem E_tell {l : Launch} {G : GT} {h0 : Nat} {ad ln : Nat → Nat} {v : Nat → Int} {a : Nat → Nat → Int}  {x : Int} (hB : BX v a) (hx : -2147483648 ≤ x ∧ x ≤ 2147483647) : Mm l G yX12_tell cX12_tell 2 (some .boolean) 0 [.int (iI x)] h0 ad ln v a 0 0 (fun r v2 a2 => ∃ f : Int, r = some (.int (iI f)) ∧ fr [52] [51] v a v2 a2 ∧ BX v2 a2 ∧ ((f = 0 ∨ f = 1) ∧ TLX v a v2 a2 x f)) := by
  refine Mm.mk (by decide) (Nat.le_of_ble_eq_true rfl) ?_
  intro p e s m args below meth c A C
  have fp0 : fr [52] [51] v a v a := fr.refl
  refine m_aload_n (j := 0) C dX12_tell_0 rfl ?_
  have rv1 : 0 ≤ v 52 ∧ v 52 ≤ 4000 := hB.1 52
  refine m_get (k := 52) C dX12_tell_1 w6_111 (by decide) rfl ?_
  refine m_sipush (z := 4000) C dX12_tell_4 (by decide) ?_
  refine m_icmp_ne (tgt := 12) C (r32_c (lo := 0) (hi := 4000) rv1.1 rv1.2 (by decide) (by decide)) ⟨by decide, by decide⟩ dX12_tell_7 (by decide) (fun c1 => ?_) (fun c1 => ?_)
  · refine m_aload_n (j := 0) C dX12_tell_12 rfl ?_
    refine m_geta (k := 51) C dX12_tell_13 w6_110 (by decide) rfl ?_
    refine m_aload_n (j := 0) C dX12_tell_16 rfl ?_
    refine m_get (k := 52) C dX12_tell_17 w6_111 (by decide) rfl ?_
    refine m_iload_n (j := 1) C dX12_tell_20 rfl ?_
    refine m_ast (k := 51) C dX12_tell_21 rfl rfl (by decide) (by omega) (by show _ < ((_ : Nat) : Int); simp only [mlen]; omega) (by decide) ?_
    refine hv2 (show BX v (up2 a 51 (v 52).toNat x) from hB.set (k := 51) (i := (v 52).toNat) (z := x) (show (-2147483648) ≤ x ∧ x ≤ 2147483647 by omega)) (fp0.set (k := 51) (i := (v 52).toNat) (z := x) rfl) (fun bq1 fq1 => ?_)
    refine m_aload_n (j := 0) C dX12_tell_22 rfl ?_
    refine m_dup C dX12_tell_23 rfl ?_
    refine m_get (k := 52) C dX12_tell_24 w6_111 (by decide) rfl ?_
    refine m_iconst C dX12_tell_27 ?_
    refine m_iadd C dX12_tell_28 ?_
    refine m_put (k := 52) (z := (v 52) + 1) C dX12_tell_29 w6_111 (by decide) rfl rfl rfl ?_
    refine hv2 (show BX (va_up v 52 ((v 52) + 1)) (up2 a 51 (v 52).toNat x) from bq1.put (k := 52) (z := (v 52) + 1) (show 0 ≤ ((v 52) + 1) ∧ ((v 52) + 1) ≤ 4000 by omega)) (fq1.put (k := 52) (z := (v 52) + 1) rfl) (fun bq2 fq2 => ?_)
    refine m_iconst C dX12_tell_32 ?_
    exact m_zret C dX12_tell_33 rfl (Or.inr rfl) (Nat.le_of_ble_eq_true rfl) (Nat.le_of_ble_eq_true rfl) ⟨1, rfl, fq2, bq2, ⟨by omega, fun bs hb => Or.inl ⟨by omega, hb.snoc rfl (by unfold up2; rfl)⟩⟩⟩
  · refine m_iconst C dX12_tell_10 ?_
    exact m_zret C dX12_tell_11 rfl (Or.inl rfl) (Nat.le_of_ble_eq_true rfl) (Nat.le_of_ble_eq_true rfl) ⟨0, rfl, fp0, hB, ⟨by omega, fun bs hb => Or.inr ⟨by omega, by have q := hb.1; omega⟩⟩⟩
def RCQ (a : Nat → Nat → Int) (q u : Int) (l0 l1 : List Int) (R : Nat → Int) : Prop := (HLD a a 0 l0 ∧ HLD a a 1 l1) ∧ (NZL a l0 ∧ NZL a l1) ∧ ((∀ (j : Nat) (d : Int), l0[j]? = some d → rol d ≠ 3) ∧ ∀ (j : Nat) (d : Int), l1[j]? = some d → rol d ≠ 2) ∧ (∀ j : Int, q ≤ j → j < u → R j.toNat = a 48 j.toNat ∧ R j.toNat ≠ 0) ∧ R u.toNat = 0
def RWC (v : Nat → Int) (a : Nat → Nat → Int) (q u : Int) (l0 l1 : List Int) (R : Nat → Int) (bs : List Int) : Prop := RCQ a q u l0 l1 R ∧ OUTL v a bs ∧ MRC a l0 l1 R (q, 0, 0, 1, 1) bs
def RWX (v : Nat → Int) (a : Nat → Nat → Int) (v2 : Nat → Int) (a2 : Nat → Nat → Int) (q u f : Int) : Prop := ∀ l0 l1 R bs, RWC v a q u l0 l1 R bs → (f = 0 ∧ ∃ g b2, MRC a l0 l1 R (u, g, 0, 1, 1) b2 ∧ OUTL v2 a2 b2) ∨ (f = 9 ∧ RWG a l0 l1 R) ∨ (f = 6 ∧ ROV a l0 l1 R 4000)
def RW8 (v : Nat → Int) (a : Nat → Nat → Int) (v1 : Nat → Int) (a1 : Nat → Nat → Int) (q u pt g x : Int) : Prop := ∀ l0 l1 R bs, RWC v a q u l0 l1 R bs → ∃ b1, MRC a l0 l1 R (x, pt, g, 1, 1) b1 ∧ OUTL v1 a1 b1
def RRB (a : Nat → Nat → Int) (l0 l1 : List Int) (R : Nat → Int) (x pt g : Int) (b1 : List Int) (r d : Int) : Prop := MRC a l0 l1 R (x, pt, g, 1, 1) b1 ∧ R x.toNat ≠ 0 ∧ rent a a r d ∧ BSQ a R x (if pt = 0 then l0 else l1) (some d) ∧ (g = 1 → SMR a d)
def RWB (v : Nat → Int) (a : Nat → Nat → Int) (v1 : Nat → Int) (a1 : Nat → Nat → Int) (q u pt g x r : Int) : Prop := ∀ l0 l1 R bs, RWC v a q u l0 l1 R bs → ∃ b1 d, RRB a l0 l1 R x pt g b1 r d ∧ OUTL v1 a1 b1
def RW6 (v : Nat → Int) (a : Nat → Nat → Int) (v1 : Nat → Int) (a1 : Nat → Nat → Int) (q u pt g x r k : Int) : Prop := ∀ l0 l1 R bs, RWC v a q u l0 l1 R bs → ∃ b1 d, RRB a l0 l1 R x pt g b1 r d ∧ 0 ≤ d ∧ OUTL v1 a1 (b1 ++ rlt a d g k.toNat)
def RW7 (v : Nat → Int) (a : Nat → Nat → Int) (v1 : Nat → Int) (a1 : Nat → Nat → Int) (q u pt g x r : Int) : Prop := ∀ l0 l1 R bs, RWC v a q u l0 l1 R bs → ∃ b1 d, RRB a l0 l1 R x pt g b1 r d ∧ OUTL v1 a1 (b1 ++ (if 0 ≤ d then rout a d g else []))
section RRD2
variable {v v1 v2 v3 : Nat → Int} {a a1 a2 a3 : Nat → Nat → Int} {l0 l1 : List Int} {R : Nat → Int} {w x u k g g2 f q r b d e y z c pt p2 : Int} {bs : List Int}
theorem rent.r44 (hr : rent a a2 r d) : (0 ≤ d ∧ a2 44 r.toNat = d ∧ rol d = 4) ∨ (d < 0 ∧ a2 44 r.toNat = -1 - rol d ∧ 0 ≤ rol d ∧ rol d ≤ 3) := by
  by_cases c : 0 ≤ d
  · exact Or.inl ⟨c, (hr.1 c).1, if_pos c⟩
  · have e : rol d = (-1 - d) % 4 := if_neg c
    have h := (hr.2 (by omega)).1
    exact Or.inr ⟨by omega, by rw [e]; exact h, by omega, by omega⟩
theorem rlt_len : ∀ n : Nat, (rlt a d g n).length = n := by
  intro n
  induction n with
  | zero => rfl
  | succ n ih =>
    show (rlt a d g n ++ [_]).length = n + 1
    rw [len1, ih]
theorem RCQ.lcx (h : RCQ a q u l0 l1 R) (hp : pt = 0 ∨ pt = 1) (hx : q ≤ x) : LCX a pt x u (if pt = 0 then l0 else l1) R := by
  obtain ⟨⟨h1, h2⟩, ⟨h3, h4⟩, _, h5, h6⟩ := h
  rcases hp with e | e
  · subst e
    rw [if_pos rfl]
    exact ⟨h1, h3, fun j g1 g2 => (h5 j (by omega) g2).1, h6⟩
  · subst e
    rw [if_neg (by decide)]
    exact ⟨h2, h4, fun j g1 g2 => (h5 j (by omega) g2).1, h6⟩
theorem RW8.init : RW8 v a v a q u 0 0 q := fun _ _ _ bs h => ⟨bs, h.2.2, h.2.1⟩
theorem RW8.w1 (h : RW8 v a v1 a1 q u pt g x) (hp : pt = 0 ∨ pt = 1) (hL : LGX a pt x u r) (hr : r < 0) (hx : q ≤ x ∧ x < u) : RWX v a v2 a2 q u 9 := fun l0 l1 R bs hc => by
  obtain ⟨b1, g1, g2⟩ := h l0 l1 R bs hc
  refine Or.inr (Or.inl ⟨rfl, ?_⟩)
  rcases hL _ _ (hc.1.lcx hp hx.1) with ⟨_, w⟩ | ⟨w, _⟩
  · exact g1.no (hc.1.2.2.2.1 x hx.1 hx.2).2 w
  · omega
theorem RW8.go (h : RW8 v a v1 a1 q u pt g x) (hp : pt = 0 ∨ pt = 1) (hL : LGX a pt x u r) (hr : 0 ≤ r) (hs : g = 1 → (0 ≤ a 44 r.toNat ∧ 97 ≤ a 14 (8 * a 44 r.toNat).toNat ∧ a 14 (8 * a 44 r.toNat).toNat ≤ 122)) (hx : q ≤ x ∧ x < u) : RWB v a v1 a1 q u pt g x r := fun l0 l1 R bs hc => by
  obtain ⟨b1, g1, g2⟩ := h l0 l1 R bs hc
  rcases hL _ _ (hc.1.lcx hp hx.1) with ⟨w, _⟩ | ⟨w, d, d1, d2, d3⟩
  · omega
  · refine ⟨b1, d, ⟨g1, (hc.1.2.2.2.1 x hx.1 hx.2).2, d2, d3, fun e => ?_⟩, g2⟩
    have s := hs e
    rcases d2.r44 with ⟨q1, q2, _⟩ | ⟨q1, q2, q3, _⟩
    · rw [q2] at s
      exact s
    · omega
theorem RW8.w2 (h : RW8 v a v1 a1 q u pt g x) (hp : pt = 0 ∨ pt = 1) (hL : LGX a pt x u r) (hr : 0 ≤ r) (hg : g = 1) (hs : ¬ (0 ≤ a 44 r.toNat ∧ 97 ≤ a 14 (8 * a 44 r.toNat).toNat ∧ a 14 (8 * a 44 r.toNat).toNat ≤ 122)) (hx : q ≤ x ∧ x < u) : RWX v a v2 a2 q u 9 := fun l0 l1 R bs hc => by
  obtain ⟨b1, g1, g2⟩ := h l0 l1 R bs hc
  refine Or.inr (Or.inl ⟨rfl, ?_⟩)
  rcases hL _ _ (hc.1.lcx hp hx.1) with ⟨w, _⟩ | ⟨w, d, d1, d2, d3⟩
  · omega
  · refine g1.ns (hc.1.2.2.2.1 x hx.1 hx.2).2 d3 hg (fun s => hs ?_)
    rcases d2.r44 with ⟨q1, q2, _⟩ | ⟨q1, q2, q3, _⟩
    · rw [q2]
      exact s
    · exact absurd s.1 (by omega)
theorem RW8.fin (h : RW8 v a v1 a1 q u pt g x) (hx : x = u) (hg : g = 0) (hf : f = 0) (h52 : v2 52 = v1 52) (h51 : a2 51 = a1 51) : RWX v a v2 a2 q u f := fun l0 l1 R bs hc => by
  obtain ⟨b1, g1, g2⟩ := h l0 l1 R bs hc
  subst hx
  subst hg
  exact Or.inl ⟨hf, pt, b1, g1, g2.fr h52 h51⟩
theorem RW8.fing (h : RW8 v a v1 a1 q u pt g x) (hx : x = u) (hg : g = 1) (hf : f = 9) : RWX v a v2 a2 q u f := fun l0 l1 R bs hc => by
  obtain ⟨b1, g1, g2⟩ := h l0 l1 R bs hc
  subst hx
  exact Or.inr (Or.inl ⟨hf, g1.ge hc.1.2.2.2.2 hg⟩)
theorem RWB.fr (h : RWB v a v1 a1 q u pt g x r) (h52 : v2 52 = v1 52) (h51 : a2 51 = a1 51) : RWB v a v2 a2 q u pt g x r := fun l0 l1 R bs hc => by
  obtain ⟨b1, d, g1, g2⟩ := h l0 l1 R bs hc
  exact ⟨b1, d, g1, g2.fr h52 h51⟩
theorem RWB.let0 (h : RWB v a v1 a1 q u pt g x r) (hi : 0 ≤ a 44 r.toNat) : RW6 v a v1 a1 q u pt g x r 0 := fun l0 l1 R bs hc => by
  obtain ⟨b1, d, g1, g2⟩ := h l0 l1 R bs hc
  refine ⟨b1, d, g1, ?_, ?_⟩
  · rcases g1.2.2.1.r44 with ⟨q1, _⟩ | ⟨q1, q2, q3, _⟩ <;> omega
  · show OUTL v1 a1 (b1 ++ [])
    rw [List.append_nil]
    exact g2
theorem RWB.neg (h : RWB v a v1 a1 q u pt g x r) (hi : a 44 r.toNat < 0) : RW7 v a v1 a1 q u pt g x r := fun l0 l1 R bs hc => by
  obtain ⟨b1, d, g1, g2⟩ := h l0 l1 R bs hc
  have hd : ¬ 0 ≤ d := by rcases g1.2.2.1.r44 with ⟨q1, q2, _⟩ | ⟨q1, q2, q3, _⟩ <;> omega
  refine ⟨b1, d, g1, ?_⟩
  rw [if_neg hd, List.append_nil]
  exact g2
theorem RW6.step (h : RW6 v a v1 a1 q u pt g x r k) (hk : 0 ≤ k) (ht : TLX v1 a1 v2 a2 z f) (hf : f = 1) (hz : z = a 14 (8 * a 44 r.toNat + k).toNat - (if g = 1 ∧ k = 0 then 32 else 0)) : RW6 v a v2 a2 q u pt g x r (k + 1) := fun l0 l1 R bs hc => by
  obtain ⟨b1, d, g1, g2, g3⟩ := h l0 l1 R bs hc
  refine ⟨b1, d, g1, g2, ?_⟩
  have e : a 44 r.toNat = d := by rcases g1.2.2.1.r44 with ⟨q1, q2, _⟩ | ⟨q1, q2, q3, _⟩ <;> omega
  rcases ht _ g3 with ⟨_, w⟩ | ⟨w, _⟩
  · rw [show (k + 1).toNat = k.toNat + 1 by omega]
    show OUTL v2 a2 (b1 ++ (rlt a d g k.toNat ++ [a 14 (8 * d + ((k.toNat : Nat) : Int)).toNat - (if g = 1 ∧ k.toNat = 0 then 32 else 0)]))
    rw [← List.append_assoc, show ((k.toNat : Nat) : Int) = k by omega]
    have e2 : (if g = 1 ∧ k.toNat = 0 then (32 : Int) else 0) = (if g = 1 ∧ k = 0 then 32 else 0) := by
      by_cases q1 : g = 1 ∧ k = 0
      · rw [if_pos q1, if_pos ⟨q1.1, by omega⟩]
      · rw [if_neg q1, if_neg (fun q2 => q1 ⟨q2.1, by omega⟩)]
    have hz2 : z = a 14 (8 * d + k).toNat - (if g = 1 ∧ k = 0 then 32 else 0) := by rw [hz, e]
    rw [e2, ← hz2]
    exact w
  · omega
theorem RW6.ov (h : RW6 v a v1 a1 q u pt g x r k) (hk : 0 ≤ k ∧ k < a 12 (a 44 r.toNat).toNat) (ht : TLX v1 a1 v2 a2 z f) (hf : f = 0) : RWX v a v3 a3 q u 6 := fun l0 l1 R bs hc => by
  obtain ⟨b1, d, g1, g2, g3⟩ := h l0 l1 R bs hc
  have e : a 44 r.toNat = d := by rcases g1.2.2.1.r44 with ⟨q1, q2, _⟩ | ⟨q1, q2, q3, _⟩ <;> omega
  rcases ht _ g3 with ⟨w, _⟩ | ⟨_, w⟩
  · omega
  · refine Or.inr (Or.inr ⟨rfl, (g1.1.row g1.2.1 g1.2.2.2.1 g1.2.2.2.2).ov ?_⟩)
    rw [List.length_append, rlt_len] at w
    have e3 : rout a d g = rlt a d g (a 12 d.toNat).toNat := if_pos g2
    rw [List.length_append, e3, rlt_len]
    rw [e] at hk
    omega
theorem RW6.fin (h : RW6 v a v1 a1 q u pt g x r k) (hk : k = a 12 (a 44 r.toNat).toNat) : RW7 v a v1 a1 q u pt g x r := fun l0 l1 R bs hc => by
  obtain ⟨b1, d, g1, g2, g3⟩ := h l0 l1 R bs hc
  have e : a 44 r.toNat = d := by rcases g1.2.2.1.r44 with ⟨q1, q2, _⟩ | ⟨q1, q2, q3, _⟩ <;> omega
  refine ⟨b1, d, g1, ?_⟩
  have e3 : rout a d g = rlt a d g (a 12 d.toNat).toNat := if_pos g2
  rw [if_pos g2, e3, ← e, ← hk, e]
  exact g3
theorem RW7.next (h : RW7 v a v1 a1 q u pt g x r) (hi : a 44 r.toNat ≠ -3 ∧ a 44 r.toNat ≠ -4) (hg2 : (g2 = 1 ∧ a 44 r.toNat = -1) ∨ (g2 = 0 ∧ a 44 r.toNat ≠ -1)) (hy : y = x + a 46 r.toNat) : RW8 v a v1 a1 q u pt g2 y := fun l0 l1 R bs hc => by
  obtain ⟨b1, d, g1, g3⟩ := h l0 l1 R bs hc
  refine hv3 (g1.1.row g1.2.1 g1.2.2.2.1 g1.2.2.2.2) ((g1.2.2.1.rc1 rfl rfl).1) (g1.2.2.1.r44) (fun w e1 k => ?_)
  have e2 : ngp d pt = pt := by
    unfold ngp
    rw [if_neg (by omega), if_neg (by omega)]
  have e3 : ngh d = g2 := by
    unfold ngh
    split <;> omega
  have e4 : (if 0 ≤ d then rout a d g else []) = rout a d g := by
    by_cases c : 0 ≤ d
    · rw [if_pos c]
    · rw [if_neg c]
      unfold rout
      rw [if_neg c, if_neg (by omega), if_neg (by omega)]
  rw [e2, e3, ← e1, ← hy] at w
  rw [e4] at g3
  exact ⟨_, w, g3⟩
theorem RW7.turn (h : RW7 v a v1 a1 q u pt g x r) (hi : (a 44 r.toNat = -3 ∧ c = 60) ∨ (a 44 r.toNat = -4 ∧ c = 62)) (ht : TLX v1 a1 v2 a2 c f) (hf : f = 1) (hg2 : g2 = 0) (hp : pt = 0 ∨ pt = 1) (hp2 : p2 = 1 - pt) (hy : y = x + a 46 r.toNat) : RW8 v a v2 a2 q u p2 g2 y := fun l0 l1 R bs hc => by
  obtain ⟨b1, d, g1, g3⟩ := h l0 l1 R bs hc
  refine hv3 (g1.1.row g1.2.1 g1.2.2.2.1 g1.2.2.2.2) ((g1.2.2.1.rc1 rfl rfl).1) (g1.2.2.1.r44) (fun w e1 k => ?_)
  obtain ⟨j, j1, _⟩ := BSQ.mem g1.2.2.2.1
  have hd : ¬ 0 ≤ d := by omega
  rw [if_neg hd, List.append_nil] at g3
  have e3 : ngh d = g2 := by
    unfold ngh
    rw [if_neg (by omega)]
    omega
  have e2 : ngp d pt = p2 := by
    rcases hp with e | e
    · subst e
      rw [if_pos rfl] at j1
      have n1 := hc.1.2.2.1.1 j d j1
      unfold ngp
      rw [if_pos (by omega)]
      omega
    · subst e
      rw [if_neg (by decide)] at j1
      have n1 := hc.1.2.2.1.2 j d j1
      unfold ngp
      rw [if_neg (by omega), if_pos (by omega)]
      omega
  have e4 : rout a d g = [c] := by
    unfold rout
    rw [if_neg hd]
    by_cases q1 : rol d = 2
    · rw [if_pos q1, show c = 60 by omega]
    · rw [if_neg q1, if_pos (by omega), show c = 62 by omega]
  rw [e2, e3, ← e1, ← hy, e4] at w
  rcases ht _ g3 with ⟨_, o⟩ | ⟨o, _⟩
  · exact ⟨_, w, o⟩
  · omega
theorem RW7.tov (h : RW7 v a v1 a1 q u pt g x r) (hi : (a 44 r.toNat = -3 ∧ c = 60) ∨ (a 44 r.toNat = -4 ∧ c = 62)) (ht : TLX v1 a1 v2 a2 c f) (hf : f = 0) : RWX v a v3 a3 q u 6 := fun l0 l1 R bs hc => by
  obtain ⟨b1, d, g1, g3⟩ := h l0 l1 R bs hc
  refine hv2 (g1.1.row g1.2.1 g1.2.2.2.1 g1.2.2.2.2) (g1.2.2.1.r44) (fun w k => ?_)
  have hd : ¬ 0 ≤ d := by omega
  rw [if_neg hd, List.append_nil] at g3
  have e4 : rout a d g = [c] := by
    unfold rout
    rw [if_neg hd]
    by_cases q1 : rol d = 2
    · rw [if_pos q1, show c = 60 by omega]
    · rw [if_neg q1, if_pos (by omega), show c = 62 by omega]
  rw [e4] at w
  rcases ht _ g3 with ⟨o, _⟩ | ⟨_, o⟩
  · omega
  · refine Or.inr (Or.inr ⟨rfl, w.ov ?_⟩)
    rw [len1]
    omega
end RRD2
def SMX (a : Nat → Nat → Int) (w f : Int) : Prop := f = 1 ↔ (0 ≤ a 44 w.toNat ∧ 97 ≤ a 14 (8 * a 44 w.toNat).toNat ∧ a 14 (8 * a 44 w.toNat).toNat ≤ 122)
set_option maxHeartbeats 4000000 in
set_option maxRecDepth 100000 in
theorem E_isSmallRule {l : Launch} {G : GT} {h0 : Nat} {ad ln : Nat → Nat} {v : Nat → Int} {a : Nat → Nat → Int}  {w : Int} (hB : BX v a) (hr : 0 ≤ w ∧ w < 12016) (h44 : a 44 w.toNat < 6000) : Mm l G yX12_isSmallRule cX12_isSmallRule 2 (some .boolean) 1 [.int (iI w)] h0 ad ln v a 0 0 (fun r v2 a2 => ∃ f : Int, r = some (.int (iI f)) ∧ fr [] [] v a v2 a2 ∧ BX v2 a2 ∧ ((f = 0 ∨ f = 1) ∧ SMX a w f)) := by
  refine Mm.mk (by decide) (Nat.le_of_ble_eq_true rfl) ?_
  intro p e s m args below meth c A C
  have fp0 : fr [] [] v a v a := fr.refl
  refine m_aload_n (j := 0) C dX12_isSmallRule_0 rfl ?_
  refine m_geta (k := 44) C dX12_isSmallRule_1 w6_103 (by decide) rfl ?_
  refine m_iload_n (j := 1) C dX12_isSmallRule_4 rfl ?_
  refine m_ald (k := 44) C dX12_isSmallRule_5 rfl rfl (by decide) (by omega) (by show _ < ((_ : Nat) : Int); simp only [mlen]; omega) (by decide) ?_
  have ra1 : (-4) ≤ a 44 w.toNat ∧ a 44 w.toNat ≤ 5999 := hB.2 44 (w.toNat)
  refine m_if_lt (tgt := 33) C (r32_c (lo := (-4)) (hi := 5999) ra1.1 ra1.2 (by decide) (by decide)) dX12_isSmallRule_6 (by decide) (fun c1 => ?_) (fun c1 => ?_)
  · refine m_iconst C dX12_isSmallRule_33 ?_
    exact m_zret C dX12_isSmallRule_34 rfl (Or.inl rfl) (Nat.le_of_ble_eq_true rfl) (Nat.le_of_ble_eq_true rfl) ⟨0, rfl, fp0, hB, ⟨by omega, by unfold SMX; omega⟩⟩
  · refine m_aload_n (j := 0) C dX12_isSmallRule_9 rfl ?_
    refine m_geta (k := 14) C dX12_isSmallRule_10 w6_73 (by decide) rfl ?_
    refine m_bipush (z := 8) C dX12_isSmallRule_13 (by decide) ?_
    refine m_aload_n (j := 0) C dX12_isSmallRule_15 rfl ?_
    refine m_geta (k := 44) C dX12_isSmallRule_16 w6_103 (by decide) rfl ?_
    refine m_iload_n (j := 1) C dX12_isSmallRule_19 rfl ?_
    refine m_ald (k := 44) C dX12_isSmallRule_20 rfl rfl (by decide) (by omega) (by show _ < ((_ : Nat) : Int); simp only [mlen]; omega) (by decide) ?_
    refine m_imul C dX12_isSmallRule_21 ?_
    refine m_ald (k := 14) C dX12_isSmallRule_22 rfl rfl (by decide) (by omega) (by show _ < ((_ : Nat) : Int); simp only [mlen]; omega) (by decide) ?_
    have ra2 : 0 ≤ a 14 (8 * (a 44 w.toNat)).toNat ∧ a 14 (8 * (a 44 w.toNat)).toNat ≤ 125 := hB.2 14 ((8 * (a 44 w.toNat)).toNat)
    refine m_callS (As := [.int (iI (a 14 (8 * (a 44 w.toNat)).toNat))]) (rest := []) C (fun L E => s_isSmall (iI (a 14 (8 * (a 44 w.toNat)).toNat))) dX12_isSmallRule_23 kS_X12_208 rfl rfl (Nat.le_of_ble_eq_true rfl) ⟨Nat.le_of_ble_eq_true rfl, Nat.le_of_ble_eq_true rfl⟩ ⟨Nat.le_of_ble_eq_true rfl, Nat.le_of_ble_eq_true rfl⟩ ?_
    rcases inn_c (x := a 14 (8 * (a 44 w.toNat)).toNat) (lo := 97) (hi := 122) (r32_c (lo := 0) (hi := 125) ra2.1 ra2.2 (by decide) (by decide)) ⟨by decide, by decide⟩ ⟨by decide, by decide⟩ with ⟨h1a, h1b, h1e⟩ | ⟨h1a, h1e⟩
    · refine m_st (st2 := [.int (iI 1)]) (by rw [show inn (iI (a 14 (8 * (a 44 w.toNat)).toNat)) 97 122 = iI 1 from h1e]) ?_
      refine m_if_eq (tgt := 33) C ⟨by decide, by decide⟩ dX12_isSmallRule_26 (by decide) (fun z => absurd z (by omega)) (fun _ => ?_)
      refine m_iconst C dX12_isSmallRule_29 ?_
      refine m_goto (tgt := 34) C dX12_isSmallRule_30 (by decide) ?_
      exact m_zret C dX12_isSmallRule_34 rfl (Or.inr rfl) (Nat.le_of_ble_eq_true rfl) (Nat.le_of_ble_eq_true rfl) ⟨1, rfl, fp0, hB, ⟨by omega, by unfold SMX; omega⟩⟩
    · refine m_st (st2 := [.int (iI 0)]) (by rw [show inn (iI (a 14 (8 * (a 44 w.toNat)).toNat)) 97 122 = iI 0 from h1e]) ?_
      refine m_if_eq (tgt := 33) C ⟨by decide, by decide⟩ dX12_isSmallRule_26 (by decide) (fun _ => ?_) (fun z => absurd z (by omega))
      refine m_iconst C dX12_isSmallRule_33 ?_
      exact m_zret C dX12_isSmallRule_34 rfl (Or.inl rfl) (Nat.le_of_ble_eq_true rfl) (Nat.le_of_ble_eq_true rfl) ⟨0, rfl, fp0, hB, ⟨by omega, by unfold SMX; omega⟩⟩
section RRD3
variable {v v2 : Nat → Int} {a a1 a2 : Nat → Nat → Int} {l : List Int} {q x u f w : Int} {V A : List Nat} {d k r : Int}
theorem rlen_cg (h13 : a1 13 = a 13) (h16 : a1 16 = a 16) : rlen a1 d = rlen a d := by
  unfold rlen
  rw [h13, h16]
theorem dcl_cg (h15 : a1 15 = a 15) (h17 : a1 17 = a 17) : dcl a1 d k = dcl a d k := by
  unfold dcl
  rw [h15, h17]
theorem rent_cg (h : rent a a r d) (h44 : a1 44 = a 44) (h45 : a1 45 = a 45) (h46 : a1 46 = a 46) (h13 : a1 13 = a 13) (h16 : a1 16 = a 16) : rent a1 a1 r d := by
  unfold rent at h ⊢
  rw [h44, h45, h46, h13, h16]
  exact h
theorem STD_cg {R : Nat → Int} {p : Int} (h13 : a1 13 = a 13) (h16 : a1 16 = a 16) (h15 : a1 15 = a 15) (h17 : a1 17 = a 17) : STD a1 R p d ↔ STD a R p d := by
  unfold STD
  rw [rlen_cg h13 h16]
  exact ⟨fun g k h1 h2 => by rw [← dcl_cg h15 h17]; exact g k h1 h2, fun g k h1 h2 => by rw [dcl_cg h15 h17]; exact g k h1 h2⟩
theorem BSQ_cg {R : Nat → Int} {p : Int} {c : Option Int} (h13 : a1 13 = a 13) (h16 : a1 16 = a 16) (h15 : a1 15 = a 15) (h17 : a1 17 = a 17) (h : BSQ a1 R p l c) : BSQ a R p l c := by
  obtain ⟨x, g1, g2⟩ := h
  refine ⟨x, ?_, g2⟩
  rcases g1 with ⟨e1, g1⟩ | ⟨e1, d, g1, g3, g4⟩
  · exact Or.inl ⟨e1, fun j d hj hd hs => g1 j d hj hd ((STD_cg h13 h16 h15 h17).mpr hs)⟩
  · refine Or.inr ⟨e1, d, g1, (STD_cg h13 h16 h15 h17).mp g3, fun j e hj he hs => ?_⟩
    have w := g4 j e hj he ((STD_cg h13 h16 h15 h17).mpr hs)
    rw [rlen_cg h13 h16, rlen_cg h13 h16] at w
    exact w
theorem LGX.fr (h : LGX a1 q x u f) (hf : fr V A v a v2 a1) (c13 : A.contains 13 = false := by rfl) (c15 : A.contains 15 = false := by rfl) (c16 : A.contains 16 = false := by rfl) (c17 : A.contains 17 = false := by rfl) (c44 : A.contains 44 = false := by rfl) (c45 : A.contains 45 = false := by rfl) (c46 : A.contains 46 = false := by rfl) (c47 : A.contains 47 = false := by rfl) (c48 : A.contains 48 = false := by rfl) : LGX a q x u f := fun l R hc => by
  obtain ⟨h1, h2, h3, h4⟩ := hc
  refine hv9 (hf.2 13 c13) (hf.2 15 c15) (hf.2 16 c16) (hf.2 17 c17) (hf.2 44 c44) (hf.2 45 c45) (hf.2 46 c46) (hf.2 47 c47) (hf.2 48 c48) (fun e13 e15 e16 e17 e44 e45 e46 e47 e48 => ?_)
  have k1 : HLD a1 a1 q l := ((h1.fr e44 e45 e46 (by rw [e47])).cg e13 e16)
  have k2 : NZL a1 l := fun j d hd => by
    rw [rlen_cg e13 e16]
    exact ⟨(h2 j d hd).1, fun k g1 g2 => by rw [dcl_cg e15 e17]; exact (h2 j d hd).2 k g1 g2⟩
  have k3 : LCX a1 q x u l R := ⟨k1, k2, fun j g1 g2 => by rw [e48]; exact h3 j g1 g2, h4⟩
  rcases h l R k3 with ⟨g1, g2⟩ | ⟨g1, d, g2, g3, g4⟩
  · exact Or.inl ⟨g1, BSQ_cg e13 e16 e15 e17 g2⟩
  · rw [e47] at g1
    exact Or.inr ⟨g1, d, g2, rent_cg g3 e44.symm e45.symm e46.symm e13.symm e16.symm, BSQ_cg e13 e16 e15 e17 g4⟩
theorem SMX.fr (h : SMX a1 w f) (hf : fr V A v a v2 a1) (c14 : A.contains 14 = false := by rfl) (c44 : A.contains 44 = false := by rfl) : SMX a w f := by
  unfold SMX at h ⊢
  rw [← hf.2 14 c14, ← hf.2 44 c44]
  exact h
end RRD3
set_option maxHeartbeats 4000000 in
set_option maxRecDepth 100000 in
theorem E_readWord {l : Launch} {G : GT} {h0 : Nat} {ad ln : Nat → Nat} {v : Nat → Int} {a : Nat → Nat → Int}  {q u : Int} (hB : BX v a) (hW : RWS a) (hq : 0 ≤ q ∧ q ≤ u ∧ u ≤ 40200) : Mm l G yX12_readWord cX12_readWord 9 (some .int) 3 [.int (iI q), .int (iI u)] h0 ad ln v a 0 0 (fun r v2 a2 => ∃ f : Int, r = some (.int (iI f)) ∧ fr [52, 53] [51] v a v2 a2 ∧ BX v2 a2 ∧ ((f = 0 ∨ f = 6 ∨ f = 9) ∧ RWX v a v2 a2 q u f)) := by
  refine Mm.mk (by decide) (Nat.le_of_ble_eq_true rfl) ?_
  intro p e s m args below meth c A C
  have fp0 : fr [52, 53] [51] v a v a := fr.refl
  refine m_iconst C dX12_readWord_0 ?_
  refine m_istore_n (lv2 := [(3, .int (iI 0)), (0, .ref h0), (1, .int (iI q)), (2, .int (iI u))]) C dX12_readWord_1 (by decide) rfl ?_
  refine m_iconst C dX12_readWord_2 ?_
  refine m_istore (lv2 := [(4, .int (iI 0)), (3, .int (iI 0)), (0, .ref h0), (1, .int (iI q)), (2, .int (iI u))]) C dX12_readWord_3 (by decide) rfl ?_
  refine m_iload_n (j := 3) C dX12_readWord_5 rfl ?_
  refine m_istore (lv2 := [(5, .int (iI q)), (4, .int (iI 0)), (3, .int (iI 0)), (0, .ref h0), (1, .int (iI q)), (2, .int (iI u))]) C dX12_readWord_6 (by decide) rfl ?_
  have Lp1 : ∀ (nn : Nat) (pt g x : Int) (vb1 : Nat → Int) (ab1 : Nat → Nat → Int), 40201 - x < (nn : Int) → BX vb1 ab1 → fr [52, 53] [51] v a vb1 ab1 → (pt = 0 ∨ pt = 1) → (g = 0 ∨ g = 1) → (q ≤ x ∧ x ≤ u) → (RW8 v a vb1 ab1 q u pt g x) → mw p l e (rmq 3 0 0) s m args below meth c G A 9 (MQ below (Qm G A (fun rq Lq Eq => ∃ (vq : Nat → Int) (aq : Nat → Nat → Int), mI G h0 ad ln vq aq Lq Eq ∧ (fun r v2 a2 => ∃ f : Int, r = some (.int (iI f)) ∧ fr [52, 53] [51] v a v2 a2 ∧ BX v2 a2 ∧ ((f = 0 ∨ f = 6 ∨ f = 9) ∧ RWX v a v2 a2 q u f)) rq vq aq)) args s 0 0 A) h0 ad ln vb1 ab1 0 0 8 [(5, .int (iI x)), (4, .int (iI g)), (3, .int (iI pt)), (0, .ref h0), (1, .int (iI q)), (2, .int (iI u))] [] := by
    intro nn
    induction nn with
    | zero =>
      intro pt g x vb1 ab1 hm bxb1 fpb1 hp hg hx hI
      exact absurd hm (by omega)
    | succ nn ih1 =>
      intro pt g x vb1 ab1 hm bxb1 fpb1 hp hg hx hI
      refine m_iload (j := 0) C dX12_readWord_8 rfl ?_
      refine m_iload_n (j := 5) C dX12_readWord_10 rfl ?_
      refine m_icmp_ge (tgt := 197) C ⟨by omega, by omega⟩ ⟨by omega, by omega⟩ dX12_readWord_11 (by decide) (fun c1 => ?_) (fun c1 => ?_)
      · refine m_aload_n (j := 3) C dX12_readWord_197 rfl ?_
        refine m_iload_n (j := 5) C dX12_readWord_198 rfl ?_
        refine m_put (k := 53) (z := u) C dX12_readWord_199 w6_112 (by decide) rfl rfl rfl ?_
        refine hv2 (show BX (va_up vb1 53 u) ab1 from bxb1.put (k := 53) (z := u) (show 0 ≤ u ∧ u ≤ 40200 by omega)) (fpb1.put (k := 53) (z := u) rfl) (fun bq1 fq1 => ?_)
        refine m_iload (j := 1) C dX12_readWord_202 rfl ?_
        refine m_if_eq (tgt := 212) C (r32_01 hg) dX12_readWord_204 (by decide) (fun c2 => ?_) (fun c2 => ?_)
        · clear hg
          refine m_iconst C dX12_readWord_212 ?_
          exact m_iret C dX12_readWord_213 rfl (Nat.le_of_ble_eq_true rfl) (Nat.le_of_ble_eq_true rfl) ⟨0, rfl, fq1, bq1, ⟨(by omega), hI.fin (by omega) (by omega) rfl rfl rfl⟩⟩
        · replace hg := (hg.resolve_left c2)
          refine m_bipush (z := 9) C dX12_readWord_207 (by decide) ?_
          refine m_goto (tgt := 213) C dX12_readWord_209 (by decide) ?_
          exact m_iret C dX12_readWord_213 rfl (Nat.le_of_ble_eq_true rfl) (Nat.le_of_ble_eq_true rfl) ⟨9, rfl, fq1, bq1, ⟨(by omega), hI.fing (by omega) (by omega) rfl⟩⟩
      · refine m_aload_n (j := 3) C dX12_readWord_14 rfl ?_
        refine m_iload_n (j := 2) C dX12_readWord_15 rfl ?_
        refine m_iload (j := 0) C dX12_readWord_16 rfl ?_
        refine m_iload_n (j := 5) C dX12_readWord_18 rfl ?_
        refine m_call (mc2 := 0) (ms2 := 0) (As := [.int (iI pt), .int (iI x), .int (iI u)]) (rest := []) C (E_longest (q := pt) (x := x) (u := u) bxb1 (RWS.fr hW fpb1 rfl) (by omega) (by omega)) dX12_readWord_19 kV_X12_342 rfl ck_13 rfl (Nat.le_of_ble_eq_true rfl) ⟨Nat.le_of_ble_eq_true rfl, Nat.le_of_ble_eq_true rfl⟩ ⟨Nat.le_of_ble_eq_true rfl, Nat.le_of_ble_eq_true rfl⟩ (fun rh1 vh1 ah1 h1 => ?_)
        obtain ⟨f1, rfl, fn1, _, hf1, lg1⟩ := h1
        obtain ⟨rfl, rfl⟩ := fn1.eq
        have gf1 : f1 = -1 ∨ (6008 * pt ≤ f1 ∧ f1 < 6008 * pt + ab1 47 pt.toNat ∧ x + ab1 46 f1.toNat ≤ u) := hf1
        have kf1 : f1 = -1 ∨ ((0 ≤ f1 ∧ f1 < 12016) ∧ (-4 ≤ ab1 44 f1.toNat ∧ ab1 44 f1.toNat < 6000) ∧ (1 ≤ ab1 46 f1.toNat ∧ ab1 46 f1.toNat ≤ 4)) := by
          rcases hf1 with q9 | q9
          · exact Or.inl q9
          · have g9 := ((RWS.fr hW fpb1 rfl) (pt) (by omega)).2 f1 q9.1 q9.2.1
            exact Or.inr ⟨g9.1, g9.2.1, g9.2.2.1⟩
        refine hv5 (show (-4) ≤ ab1 44 f1.toNat ∧ ab1 44 f1.toNat ≤ 5999 from bxb1.2 44 (f1.toNat)) (show ab1 44 (f1.toNat) = a 44 (f1.toNat) from congrFun (fpb1.2 44 rfl) (f1.toNat)) (show 0 ≤ ab1 46 f1.toNat ∧ ab1 46 f1.toNat ≤ 4 from bxb1.2 46 (f1.toNat)) (show ab1 46 (f1.toNat) = a 46 (f1.toNat) from congrFun (fpb1.2 46 rfl) (f1.toNat)) (show LGX a pt x u f1 from LGX.fr lg1 fpb1) (fun ra1 ae1 ra2 ae2 lh1 => ?_)
        refine m_st (st2 := [.int (iI f1)]) rfl ?_
        refine m_istore (lv2 := [(6, .int (iI f1)), (5, .int (iI x)), (4, .int (iI g)), (3, .int (iI pt)), (0, .ref h0), (1, .int (iI q)), (2, .int (iI u))]) C dX12_readWord_22 (by decide) rfl ?_
        refine m_aload_n (j := 4) C dX12_readWord_24 rfl ?_
        refine m_iload (j := 1) C dX12_readWord_25 rfl ?_
        refine m_put (k := 53) (z := x) C dX12_readWord_27 w6_112 (by decide) rfl rfl rfl ?_
        refine hv2 (show BX (va_up vb1 53 x) ab1 from bxb1.put (k := 53) (z := x) (show 0 ≤ x ∧ x ≤ 40200 by omega)) (fpb1.put (k := 53) (z := x) rfl) (fun bq2 fq2 => ?_)
        refine m_iload (j := 0) C dX12_readWord_30 rfl ?_
        refine m_if_lt (tgt := 49) C ⟨by omega, by omega⟩ dX12_readWord_32 (by decide) (fun c3 => ?_) (fun c3 => ?_)
        · refine m_bipush (z := 9) C dX12_readWord_49 (by decide) ?_
          exact m_iret C dX12_readWord_51 rfl (Nat.le_of_ble_eq_true rfl) (Nat.le_of_ble_eq_true rfl) ⟨9, rfl, fq2, bq2, ⟨(by omega), hI.w1 hp lh1 (by omega) ⟨by omega, by omega⟩⟩⟩
        · replace gf1 := gf1.resolve_left (fun q => by omega)
          refine m_iload (j := 2) C dX12_readWord_35 rfl ?_
          refine m_if_eq (tgt := 52) C (r32_01 hg) dX12_readWord_37 (by decide) (fun c4 => ?_) (fun c4 => ?_)
          · clear hg
            have hB9 : RWB v a (va_up vb1 53 x) ab1 q u pt g x f1 := (hI.go hp lh1 (by omega) (fun e => absurd e (by omega)) ⟨by omega, by omega⟩).fr rfl rfl
            refine m_aload_n (j := 4) C dX12_readWord_52 rfl ?_
            refine m_geta (k := 44) C dX12_readWord_53 w6_103 (by decide) rfl ?_
            refine m_iload (j := 0) C dX12_readWord_56 rfl ?_
            refine m_ald (k := 44) C dX12_readWord_58 rfl rfl (by decide) (by omega) (by show _ < ((_ : Nat) : Int); simp only [mlen]; omega) (by decide) ?_
            refine m_st (st2 := [.int (iI (a 44 f1.toNat))]) (congrArg (fun z => Value.int (iI z) :: []) (congrFun (fq2.2 44 rfl) (f1.toNat))) ?_
            refine m_istore (lv2 := [(7, .int (iI (a 44 f1.toNat))), (6, .int (iI f1)), (5, .int (iI x)), (4, .int (iI g)), (3, .int (iI pt)), (0, .ref h0), (1, .int (iI q)), (2, .int (iI u))]) C dX12_readWord_59 (by decide) rfl ?_
            have J1 : ∀ (vb2 : Nat → Int) (ab2 : Nat → Nat → Int), BX vb2 ab2 → fr [52, 53] [51] v a vb2 ab2 → (RW7 v a vb2 ab2 q u pt g x f1) → mw p l e (rmq 3 0 0) s m args below meth c G A 9 (MQ below (Qm G A (fun rq Lq Eq => ∃ (vq : Nat → Int) (aq : Nat → Nat → Int), mI G h0 ad ln vq aq Lq Eq ∧ (fun r v2 a2 => ∃ f : Int, r = some (.int (iI f)) ∧ fr [52, 53] [51] v a v2 a2 ∧ BX v2 a2 ∧ ((f = 0 ∨ f = 6 ∨ f = 9) ∧ RWX v a v2 a2 q u f)) rq vq aq)) args s 0 0 A) h0 ad ln vb2 ab2 0 0 127 [(7, .int (iI (a 44 f1.toNat))), (6, .int (iI f1)), (5, .int (iI x)), (4, .int (iI g)), (3, .int (iI pt)), (0, .ref h0), (1, .int (iI q)), (2, .int (iI u))] [] := by
              intro  vb2 ab2 bxb2 fpb2 h7
              refine m_iload (j := 0) C dX12_readWord_127 rfl ?_
              refine m_iconst C dX12_readWord_129 ?_
              have J2 : ∀ (g2 : Int) (vb3 : Nat → Int) (ab3 : Nat → Nat → Int), BX vb3 ab3 → fr [52, 53] [51] v a vb3 ab3 → (g2 = 0 ∨ g2 = 1) → ((g2 = 1 ∧ a 44 f1.toNat = -1) ∨ (g2 = 0 ∧ a 44 f1.toNat ≠ -1)) → (RW7 v a vb3 ab3 q u pt g x f1) → mw p l e (rmq 3 0 0) s m args below meth c G A 9 (MQ below (Qm G A (fun rq Lq Eq => ∃ (vq : Nat → Int) (aq : Nat → Nat → Int), mI G h0 ad ln vq aq Lq Eq ∧ (fun r v2 a2 => ∃ f : Int, r = some (.int (iI f)) ∧ fr [52, 53] [51] v a v2 a2 ∧ BX v2 a2 ∧ ((f = 0 ∨ f = 6 ∨ f = 9) ∧ RWX v a v2 a2 q u f)) rq vq aq)) args s 0 0 A) h0 ad ln vb3 ab3 0 0 138 [(7, .int (iI (a 44 f1.toNat))), (6, .int (iI f1)), (5, .int (iI x)), (4, .int (iI g)), (3, .int (iI pt)), (0, .ref h0), (1, .int (iI q)), (2, .int (iI u))] [.int (iI g2)] := by
                intro g2 vb3 ab3 bxb3 fpb3 hg2 hg3 h71
                refine m_istore (lv2 := [(4, .int (iI g2)), (7, .int (iI (a 44 f1.toNat))), (6, .int (iI f1)), (5, .int (iI x)), (3, .int (iI pt)), (0, .ref h0), (1, .int (iI q)), (2, .int (iI u))]) C dX12_readWord_138 (by decide) rfl ?_
                refine m_iload (j := 1) C dX12_readWord_140 rfl ?_
                refine m_bipush (z := (-3)) C dX12_readWord_142 (by decide) ?_
                refine m_icmp_eq (tgt := 154) C ⟨by omega, by omega⟩ ⟨by decide, by decide⟩ dX12_readWord_144 (by decide) (fun c5 => ?_) (fun c5 => ?_)
                · refine m_iconst C dX12_readWord_154 ?_
                  refine m_iload_n (j := 4) C dX12_readWord_155 rfl ?_
                  refine m_isub C dX12_readWord_156 ?_
                  refine m_istore_n (lv2 := [(3, .int (iI (1 - pt))), (4, .int (iI g2)), (7, .int (iI (a 44 f1.toNat))), (6, .int (iI f1)), (5, .int (iI x)), (0, .ref h0), (1, .int (iI q)), (2, .int (iI u))]) C dX12_readWord_157 (by decide) rfl ?_
                  refine m_aload_n (j := 5) C dX12_readWord_158 rfl ?_
                  refine m_iload (j := 2) C dX12_readWord_159 rfl ?_
                  refine m_bipush (z := (-3)) C dX12_readWord_161 (by decide) ?_
                  refine m_icmp_ne (tgt := 171) C ⟨by omega, by omega⟩ ⟨by decide, by decide⟩ dX12_readWord_163 (by decide) (fun z => absurd z (by omega)) (fun _ => ?_)
                  refine m_bipush (z := 60) C dX12_readWord_166 (by decide) ?_
                  refine m_goto (tgt := 173) C dX12_readWord_168 (by decide) ?_
                  refine m_call (mc2 := 0) (ms2 := 0) (As := [.int (iI 60)]) (rest := []) C (E_tell (x := 60) bxb3 (by omega)) dX12_readWord_173 kV_X12_336 rfl ck_13 rfl (Nat.le_of_ble_eq_true rfl) ⟨Nat.le_of_ble_eq_true rfl, Nat.le_of_ble_eq_true rfl⟩ ⟨Nat.le_of_ble_eq_true rfl, Nat.le_of_ble_eq_true rfl⟩ (fun rh2 vh2 ah2 h2 => ?_)
                  obtain ⟨f2, rfl, fn2, bn1, ex1, tx1⟩ := h2
                  refine hv2 (fpb3.call fn2 rfl rfl) (show f2 = 0 ∨ f2 = 1 from ex1) (fun fq3 gf2 => ?_)
                  refine m_st (st2 := [.int (iI f2)]) rfl ?_
                  refine m_if_ne (tgt := 182) C (r32_01 gf2) dX12_readWord_176 (by decide) (fun c6 => ?_) (fun c6 => ?_)
                  · replace gf2 := (gf2.resolve_left c6)
                    refine m_iload (j := 4) C dX12_readWord_182 rfl ?_
                    refine m_aload_n (j := 5) C dX12_readWord_184 rfl ?_
                    refine m_geta (k := 46) C dX12_readWord_185 w6_105 (by decide) rfl ?_
                    refine m_iload (j := 3) C dX12_readWord_188 rfl ?_
                    refine m_ald (k := 46) C dX12_readWord_190 rfl rfl (by decide) (by omega) (by show _ < ((_ : Nat) : Int); simp only [mlen]; omega) (by decide) ?_
                    refine hv3 (show 0 ≤ ah2 46 f1.toNat ∧ ah2 46 f1.toNat ≤ 4 from bn1.2 46 (f1.toNat)) (show ah2 46 (f1.toNat) = ab3 46 (f1.toNat) from congrFun (fn2.2 46 rfl) (f1.toNat)) (show ab3 46 (f1.toNat) = a 46 (f1.toNat) from congrFun (fpb3.2 46 rfl) (f1.toNat)) (fun ra3 ae3 ae4 => ?_)
                    refine m_st (st2 := [.int (iI (a 46 f1.toNat)), .int (iI x)]) (congrArg (fun z => Value.int (iI z) :: [.int (iI x)]) (congrFun (fq3.2 46 rfl) (f1.toNat))) ?_
                    refine m_iadd C dX12_readWord_191 ?_
                    refine m_istore (lv2 := [(5, .int (iI (x + (a 46 f1.toNat)))), (3, .int (iI (1 - pt))), (4, .int (iI g2)), (7, .int (iI (a 44 f1.toNat))), (6, .int (iI f1)), (0, .ref h0), (1, .int (iI q)), (2, .int (iI u))]) C dX12_readWord_192 (by decide) rfl ?_
                    refine m_goto (tgt := 8) C dX12_readWord_194 (by decide) ?_
                    refine m_lv (lv2 := [(5, .int (iI (x + (a 46 f1.toNat)))), (4, .int (iI g2)), (3, .int (iI (1 - pt))), (0, .ref h0), (1, .int (iI q)), (2, .int (iI u))]) [0, 2, 1, 5, 6, 7] rfl ?_
                    exact ih1  (1 - pt) g2 (x + (a 46 f1.toNat)) _ _ (by omega) bn1 fq3 (by omega) (by omega) (by omega) (h71.turn (by omega) tx1 (by omega) (by omega) hp rfl (by omega))
                  · clear gf2
                    refine m_bipush (z := 6) C dX12_readWord_179 (by decide) ?_
                    exact m_iret C dX12_readWord_181 rfl (Nat.le_of_ble_eq_true rfl) (Nat.le_of_ble_eq_true rfl) ⟨6, rfl, fq3, bn1, ⟨(by omega), h71.tov (by omega) tx1 (by omega)⟩⟩
                · refine m_iload (j := 1) C dX12_readWord_147 rfl ?_
                  refine m_bipush (z := (-4)) C dX12_readWord_149 (by decide) ?_
                  refine m_icmp_ne (tgt := 182) C ⟨by omega, by omega⟩ ⟨by decide, by decide⟩ dX12_readWord_151 (by decide) (fun c7 => ?_) (fun c7 => ?_)
                  · refine m_iload (j := 3) C dX12_readWord_182 rfl ?_
                    refine m_aload_n (j := 5) C dX12_readWord_184 rfl ?_
                    refine m_geta (k := 46) C dX12_readWord_185 w6_105 (by decide) rfl ?_
                    refine m_iload (j := 2) C dX12_readWord_188 rfl ?_
                    refine m_ald (k := 46) C dX12_readWord_190 rfl rfl (by decide) (by omega) (by show _ < ((_ : Nat) : Int); simp only [mlen]; omega) (by decide) ?_
                    refine hv2 (show 0 ≤ ab3 46 f1.toNat ∧ ab3 46 f1.toNat ≤ 4 from bxb3.2 46 (f1.toNat)) (show ab3 46 (f1.toNat) = a 46 (f1.toNat) from congrFun (fpb3.2 46 rfl) (f1.toNat)) (fun ra4 ae5 => ?_)
                    refine m_st (st2 := [.int (iI (a 46 f1.toNat)), .int (iI x)]) (congrArg (fun z => Value.int (iI z) :: [.int (iI x)]) (congrFun (fpb3.2 46 rfl) (f1.toNat))) ?_
                    refine m_iadd C dX12_readWord_191 ?_
                    refine m_istore (lv2 := [(5, .int (iI (x + (a 46 f1.toNat)))), (4, .int (iI g2)), (7, .int (iI (a 44 f1.toNat))), (6, .int (iI f1)), (3, .int (iI pt)), (0, .ref h0), (1, .int (iI q)), (2, .int (iI u))]) C dX12_readWord_192 (by decide) rfl ?_
                    refine m_goto (tgt := 8) C dX12_readWord_194 (by decide) ?_
                    refine m_lv (lv2 := [(5, .int (iI (x + (a 46 f1.toNat)))), (4, .int (iI g2)), (3, .int (iI pt)), (0, .ref h0), (1, .int (iI q)), (2, .int (iI u))]) [0, 1, 4, 5, 6, 7] rfl ?_
                    exact ih1  pt g2 (x + (a 46 f1.toNat)) _ _ (by omega) bxb3 fpb3 (by omega) (by omega) (by omega) (h71.next ⟨by omega, by omega⟩ (by omega) (by omega))
                  · refine m_iconst C dX12_readWord_154 ?_
                    refine m_iload_n (j := 4) C dX12_readWord_155 rfl ?_
                    refine m_isub C dX12_readWord_156 ?_
                    refine m_istore_n (lv2 := [(3, .int (iI (1 - pt))), (4, .int (iI g2)), (7, .int (iI (a 44 f1.toNat))), (6, .int (iI f1)), (5, .int (iI x)), (0, .ref h0), (1, .int (iI q)), (2, .int (iI u))]) C dX12_readWord_157 (by decide) rfl ?_
                    refine m_aload_n (j := 5) C dX12_readWord_158 rfl ?_
                    refine m_iload (j := 2) C dX12_readWord_159 rfl ?_
                    refine m_bipush (z := (-3)) C dX12_readWord_161 (by decide) ?_
                    refine m_icmp_ne (tgt := 171) C ⟨by omega, by omega⟩ ⟨by decide, by decide⟩ dX12_readWord_163 (by decide) (fun _ => ?_) (fun z => absurd z (by omega))
                    refine m_bipush (z := 62) C dX12_readWord_171 (by decide) ?_
                    refine m_call (mc2 := 0) (ms2 := 0) (As := [.int (iI 62)]) (rest := []) C (E_tell (x := 62) bxb3 (by omega)) dX12_readWord_173 kV_X12_336 rfl ck_13 rfl (Nat.le_of_ble_eq_true rfl) ⟨Nat.le_of_ble_eq_true rfl, Nat.le_of_ble_eq_true rfl⟩ ⟨Nat.le_of_ble_eq_true rfl, Nat.le_of_ble_eq_true rfl⟩ (fun rh3 vh3 ah3 h3 => ?_)
                    obtain ⟨f3, rfl, fn3, bn2, ex2, tx2⟩ := h3
                    refine hv2 (fpb3.call fn3 rfl rfl) (show f3 = 0 ∨ f3 = 1 from ex2) (fun fq4 gf3 => ?_)
                    refine m_st (st2 := [.int (iI f3)]) rfl ?_
                    refine m_if_ne (tgt := 182) C (r32_01 gf3) dX12_readWord_176 (by decide) (fun c8 => ?_) (fun c8 => ?_)
                    · replace gf3 := (gf3.resolve_left c8)
                      refine m_iload (j := 4) C dX12_readWord_182 rfl ?_
                      refine m_aload_n (j := 5) C dX12_readWord_184 rfl ?_
                      refine m_geta (k := 46) C dX12_readWord_185 w6_105 (by decide) rfl ?_
                      refine m_iload (j := 3) C dX12_readWord_188 rfl ?_
                      refine m_ald (k := 46) C dX12_readWord_190 rfl rfl (by decide) (by omega) (by show _ < ((_ : Nat) : Int); simp only [mlen]; omega) (by decide) ?_
                      refine hv3 (show 0 ≤ ah3 46 f1.toNat ∧ ah3 46 f1.toNat ≤ 4 from bn2.2 46 (f1.toNat)) (show ah3 46 (f1.toNat) = ab3 46 (f1.toNat) from congrFun (fn3.2 46 rfl) (f1.toNat)) (show ab3 46 (f1.toNat) = a 46 (f1.toNat) from congrFun (fpb3.2 46 rfl) (f1.toNat)) (fun ra5 ae6 ae7 => ?_)
                      refine m_st (st2 := [.int (iI (a 46 f1.toNat)), .int (iI x)]) (congrArg (fun z => Value.int (iI z) :: [.int (iI x)]) (congrFun (fq4.2 46 rfl) (f1.toNat))) ?_
                      refine m_iadd C dX12_readWord_191 ?_
                      refine m_istore (lv2 := [(5, .int (iI (x + (a 46 f1.toNat)))), (3, .int (iI (1 - pt))), (4, .int (iI g2)), (7, .int (iI (a 44 f1.toNat))), (6, .int (iI f1)), (0, .ref h0), (1, .int (iI q)), (2, .int (iI u))]) C dX12_readWord_192 (by decide) rfl ?_
                      refine m_goto (tgt := 8) C dX12_readWord_194 (by decide) ?_
                      refine m_lv (lv2 := [(5, .int (iI (x + (a 46 f1.toNat)))), (4, .int (iI g2)), (3, .int (iI (1 - pt))), (0, .ref h0), (1, .int (iI q)), (2, .int (iI u))]) [0, 2, 1, 5, 6, 7] rfl ?_
                      exact ih1  (1 - pt) g2 (x + (a 46 f1.toNat)) _ _ (by omega) bn2 fq4 (by omega) (by omega) (by omega) (h71.turn (by omega) tx2 (by omega) (by omega) hp rfl (by omega))
                    · clear gf3
                      refine m_bipush (z := 6) C dX12_readWord_179 (by decide) ?_
                      exact m_iret C dX12_readWord_181 rfl (Nat.le_of_ble_eq_true rfl) (Nat.le_of_ble_eq_true rfl) ⟨6, rfl, fq4, bn2, ⟨(by omega), h71.tov (by omega) tx2 (by omega)⟩⟩
              refine m_icmp_ne (tgt := 137) C ⟨by omega, by omega⟩ ⟨by decide, by decide⟩ dX12_readWord_130 (by decide) (fun c9 => ?_) (fun c9 => ?_)
              · refine m_iconst C dX12_readWord_137 ?_
                refine m_lv (lv2 := [(7, .int (iI (a 44 f1.toNat))), (6, .int (iI f1)), (5, .int (iI x)), (4, .int (iI g)), (3, .int (iI pt)), (0, .ref h0), (1, .int (iI q)), (2, .int (iI u))]) [0, 1, 2, 3, 4, 5, 6, 7] rfl ?_
                exact J2  0 _ _  bxb2 fpb2 (by omega) (by omega) h7
              · refine m_iconst C dX12_readWord_133 ?_
                refine m_goto (tgt := 138) C dX12_readWord_134 (by decide) ?_
                refine m_lv (lv2 := [(7, .int (iI (a 44 f1.toNat))), (6, .int (iI f1)), (5, .int (iI x)), (4, .int (iI g)), (3, .int (iI pt)), (0, .ref h0), (1, .int (iI q)), (2, .int (iI u))]) [0, 1, 2, 3, 4, 5, 6, 7] rfl ?_
                exact J2  1 _ _  bxb2 fpb2 (by omega) (by omega) h7
            refine m_iload (j := 0) C dX12_readWord_61 rfl ?_
            refine m_if_lt (tgt := 127) C ⟨by omega, by omega⟩ dX12_readWord_63 (by decide) (fun c10 => ?_) (fun c10 => ?_)
            · refine m_lv (lv2 := [(7, .int (iI (a 44 f1.toNat))), (6, .int (iI f1)), (5, .int (iI x)), (4, .int (iI g)), (3, .int (iI pt)), (0, .ref h0), (1, .int (iI q)), (2, .int (iI u))]) [0, 1, 2, 3, 4, 5, 6, 7] rfl ?_
              exact J1   _ _  bq2 fq2 (hB9.neg (by omega))
            · refine m_iconst C dX12_readWord_66 ?_
              refine m_istore (lv2 := [(8, .int (iI 0)), (7, .int (iI (a 44 f1.toNat))), (6, .int (iI f1)), (5, .int (iI x)), (4, .int (iI g)), (3, .int (iI pt)), (0, .ref h0), (1, .int (iI q)), (2, .int (iI u))]) C dX12_readWord_67 (by decide) rfl ?_
              have Lp2 : ∀ (nn : Nat) (k : Int) (vb4 : Nat → Int) (ab4 : Nat → Nat → Int), 9 - k < (nn : Int) → BX vb4 ab4 → fr [52, 53] [51] v a vb4 ab4 → (0 ≤ k ∧ k ≤ 8 ∧ k ≤ a 12 (a 44 f1.toNat).toNat) → (RW6 v a vb4 ab4 q u pt g x f1 k) → mw p l e (rmq 3 0 0) s m args below meth c G A 9 (MQ below (Qm G A (fun rq Lq Eq => ∃ (vq : Nat → Int) (aq : Nat → Nat → Int), mI G h0 ad ln vq aq Lq Eq ∧ (fun r v2 a2 => ∃ f : Int, r = some (.int (iI f)) ∧ fr [52, 53] [51] v a v2 a2 ∧ BX v2 a2 ∧ ((f = 0 ∨ f = 6 ∨ f = 9) ∧ RWX v a v2 a2 q u f)) rq vq aq)) args s 0 0 A) h0 ad ln vb4 ab4 0 0 69 [(8, .int (iI k)), (7, .int (iI (a 44 f1.toNat))), (6, .int (iI f1)), (5, .int (iI x)), (4, .int (iI g)), (3, .int (iI pt)), (0, .ref h0), (1, .int (iI q)), (2, .int (iI u))] [] := by
                intro nn
                induction nn with
                | zero =>
                  intro k vb4 ab4 hm bxb4 fpb4 hk hJ
                  exact absurd hm (by omega)
                | succ nn ih2 =>
                  intro k vb4 ab4 hm bxb4 fpb4 hk hJ
                  refine m_iload (j := 0) C dX12_readWord_69 rfl ?_
                  refine m_aload_n (j := 6) C dX12_readWord_71 rfl ?_
                  refine m_geta (k := 12) C dX12_readWord_72 w6_71 (by decide) rfl ?_
                  refine m_iload (j := 1) C dX12_readWord_75 rfl ?_
                  refine m_ald (k := 12) C dX12_readWord_77 rfl rfl (by decide) (by omega) (by show _ < ((_ : Nat) : Int); simp only [mlen]; omega) (by decide) ?_
                  refine hv2 (show 0 ≤ ab4 12 (a 44 f1.toNat).toNat ∧ ab4 12 (a 44 f1.toNat).toNat ≤ 8 from bxb4.2 12 ((a 44 f1.toNat).toNat)) (show ab4 12 ((a 44 f1.toNat).toNat) = a 12 ((a 44 f1.toNat).toNat) from congrFun (fpb4.2 12 rfl) ((a 44 f1.toNat).toNat)) (fun ra6 ae8 => ?_)
                  refine m_st (st2 := [.int (iI (a 12 (a 44 f1.toNat).toNat)), .int (iI k)]) (congrArg (fun z => Value.int (iI z) :: [.int (iI k)]) (congrFun (fpb4.2 12 rfl) ((a 44 f1.toNat).toNat))) ?_
                  refine m_icmp_ge (tgt := 127) C (r32_c (lo := 0) (hi := 8) hk.1 hk.2.1 (by decide) (by decide)) ⟨by omega, by omega⟩ dX12_readWord_78 (by decide) (fun c11 => ?_) (fun c11 => ?_)
                  · refine m_lv (lv2 := [(7, .int (iI (a 44 f1.toNat))), (6, .int (iI f1)), (5, .int (iI x)), (4, .int (iI g)), (3, .int (iI pt)), (0, .ref h0), (1, .int (iI q)), (2, .int (iI u))]) [1, 2, 3, 4, 5, 6, 7, 8] rfl ?_
                    exact J1   _ _  bxb4 fpb4 (hJ.fin (by omega))
                  · refine m_aload_n (j := 6) C dX12_readWord_81 rfl ?_
                    refine m_aload_n (j := 6) C dX12_readWord_82 rfl ?_
                    refine m_geta (k := 14) C dX12_readWord_83 w6_73 (by decide) rfl ?_
                    refine m_bipush (z := 8) C dX12_readWord_86 (by decide) ?_
                    refine m_iload (j := 1) C dX12_readWord_88 rfl ?_
                    refine m_imul C dX12_readWord_90 ?_
                    refine m_iload (j := 0) C dX12_readWord_91 rfl ?_
                    refine m_iadd C dX12_readWord_93 ?_
                    refine m_ald (k := 14) C dX12_readWord_94 rfl rfl (by decide) (by omega) (by show _ < ((_ : Nat) : Int); simp only [mlen]; omega) (by decide) ?_
                    refine hv2 (show 0 ≤ ab4 14 ((8 * (a 44 f1.toNat)) + k).toNat ∧ ab4 14 ((8 * (a 44 f1.toNat)) + k).toNat ≤ 125 from bxb4.2 14 (((8 * (a 44 f1.toNat)) + k).toNat)) (show ab4 14 (((8 * (a 44 f1.toNat)) + k).toNat) = a 14 (((8 * (a 44 f1.toNat)) + k).toNat) from congrFun (fpb4.2 14 rfl) (((8 * (a 44 f1.toNat)) + k).toNat)) (fun ra7 ae9 => ?_)
                    refine m_st (st2 := [.int (iI (a 14 ((8 * (a 44 f1.toNat)) + k).toNat)), .ref h0]) (congrArg (fun z => Value.int (iI z) :: [.ref h0]) (congrFun (fpb4.2 14 rfl) (((8 * (a 44 f1.toNat)) + k).toNat))) ?_
                    refine m_iload (j := 4) C dX12_readWord_95 rfl ?_
                    refine m_if_eq (tgt := 110) C ⟨by omega, by omega⟩ dX12_readWord_97 (by decide) (fun _ => ?_) (fun z => absurd z (by omega))
                    refine m_iconst C dX12_readWord_110 ?_
                    refine m_isub C dX12_readWord_111 ?_
                    refine m_call (mc2 := 0) (ms2 := 0) (As := [.int (iI ((a 14 ((8 * (a 44 f1.toNat)) + k).toNat) - 0))]) (rest := []) C (E_tell (x := (a 14 ((8 * (a 44 f1.toNat)) + k).toNat) - 0) bxb4 (by omega)) dX12_readWord_112 kV_X12_336 rfl ck_13 rfl (Nat.le_of_ble_eq_true rfl) ⟨Nat.le_of_ble_eq_true rfl, Nat.le_of_ble_eq_true rfl⟩ ⟨Nat.le_of_ble_eq_true rfl, Nat.le_of_ble_eq_true rfl⟩ (fun rh4 vh4 ah4 h4 => ?_)
                    obtain ⟨f4, rfl, fn4, bn3, ex3, tx3⟩ := h4
                    refine hv2 (fpb4.call fn4 rfl rfl) (show f4 = 0 ∨ f4 = 1 from ex3) (fun fq5 gf4 => ?_)
                    refine m_st (st2 := [.int (iI f4)]) rfl ?_
                    refine m_if_ne (tgt := 121) C (r32_01 gf4) dX12_readWord_115 (by decide) (fun c12 => ?_) (fun c12 => ?_)
                    · replace gf4 := (gf4.resolve_left c12)
                      refine m_iinc (z := k) (j := 0) (lv2 := [(8, .int (iI (k + 1))), (7, .int (iI (a 44 f1.toNat))), (6, .int (iI f1)), (5, .int (iI x)), (4, .int (iI g)), (3, .int (iI pt)), (0, .ref h0), (1, .int (iI q)), (2, .int (iI u))]) C dX12_readWord_121 rfl (by decide) rfl ?_
                      refine m_goto (tgt := 69) C dX12_readWord_124 (by decide) ?_
                      refine m_lv (lv2 := [(8, .int (iI (k + 1))), (7, .int (iI (a 44 f1.toNat))), (6, .int (iI f1)), (5, .int (iI x)), (4, .int (iI g)), (3, .int (iI pt)), (0, .ref h0), (1, .int (iI q)), (2, .int (iI u))]) [0, 1, 2, 3, 4, 5, 6, 7, 8] rfl ?_
                      exact ih2  (k + 1) _ _ (by omega) bn3 fq5 (by have q : 0 ≤ a 12 (a 44 f1.toNat).toNat ∧ a 12 (a 44 f1.toNat).toNat ≤ 8 := hB.2 12 _; omega) (hJ.step (by omega) tx3 (by omega) (by split <;> omega))
                    · clear gf4
                      refine m_bipush (z := 6) C dX12_readWord_118 (by decide) ?_
                      exact m_iret C dX12_readWord_120 rfl (Nat.le_of_ble_eq_true rfl) (Nat.le_of_ble_eq_true rfl) ⟨6, rfl, fq5, bn3, ⟨(by omega), hJ.ov ⟨by omega, by omega⟩ tx3 (by omega)⟩⟩
              refine m_lv (lv2 := [(8, .int (iI 0)), (7, .int (iI (a 44 f1.toNat))), (6, .int (iI f1)), (5, .int (iI x)), (4, .int (iI g)), (3, .int (iI pt)), (0, .ref h0), (1, .int (iI q)), (2, .int (iI u))]) [0, 1, 2, 3, 4, 5, 6, 7, 8] rfl ?_
              exact Lp2 10 0 _ _ (by omega) bq2 fq2 (by have q : 0 ≤ a 12 (a 44 f1.toNat).toNat ∧ a 12 (a 44 f1.toNat).toNat ≤ 8 := hB.2 12 _; omega) (hB9.let0 (by omega))
          · replace hg := (hg.resolve_left c4)
            refine m_aload_n (j := 4) C dX12_readWord_40 rfl ?_
            refine m_iload (j := 0) C dX12_readWord_41 rfl ?_
            refine m_call (mc2 := 0) (ms2 := 0) (As := [.int (iI f1)]) (rest := []) C (E_isSmallRule (w := f1) bq2 (by omega) (by show ab1 44 f1.toNat < 6000; omega)) dX12_readWord_43 kV_X12_348 rfl ck_13 rfl (Nat.le_of_ble_eq_true rfl) ⟨Nat.le_of_ble_eq_true rfl, Nat.le_of_ble_eq_true rfl⟩ ⟨Nat.le_of_ble_eq_true rfl, Nat.le_of_ble_eq_true rfl⟩ (fun rh5 vh5 ah5 h5 => ?_)
            obtain ⟨f5, rfl, fn5, _, ef5, sm1⟩ := h5
            obtain ⟨rfl, rfl⟩ := fn5.eq
            refine hv2 (show f5 = 0 ∨ f5 = 1 from ef5) (show SMX a f1 f5 from SMX.fr sm1 fq2) (fun gf5 sn1 => ?_)
            refine m_st (st2 := [.int (iI f5)]) rfl ?_
            refine m_if_ne (tgt := 52) C (r32_01 gf5) dX12_readWord_46 (by decide) (fun c13 => ?_) (fun c13 => ?_)
            · replace gf5 := (gf5.resolve_left c13)
              have hB9 : RWB v a (va_up vb1 53 x) ab1 q u pt g x f1 := (hI.go hp lh1 (by omega) (fun _ => sn1.mp (by omega)) ⟨by omega, by omega⟩).fr rfl rfl
              refine m_aload_n (j := 4) C dX12_readWord_52 rfl ?_
              refine m_geta (k := 44) C dX12_readWord_53 w6_103 (by decide) rfl ?_
              refine m_iload (j := 0) C dX12_readWord_56 rfl ?_
              refine m_ald (k := 44) C dX12_readWord_58 rfl rfl (by decide) (by omega) (by show _ < ((_ : Nat) : Int); simp only [mlen]; omega) (by decide) ?_
              refine m_st (st2 := [.int (iI (a 44 f1.toNat))]) (congrArg (fun z => Value.int (iI z) :: []) (congrFun (fq2.2 44 rfl) (f1.toNat))) ?_
              refine m_istore (lv2 := [(7, .int (iI (a 44 f1.toNat))), (6, .int (iI f1)), (5, .int (iI x)), (4, .int (iI g)), (3, .int (iI pt)), (0, .ref h0), (1, .int (iI q)), (2, .int (iI u))]) C dX12_readWord_59 (by decide) rfl ?_
              have J3 : ∀ (vb5 : Nat → Int) (ab5 : Nat → Nat → Int), BX vb5 ab5 → fr [52, 53] [51] v a vb5 ab5 → (RW7 v a vb5 ab5 q u pt g x f1) → mw p l e (rmq 3 0 0) s m args below meth c G A 9 (MQ below (Qm G A (fun rq Lq Eq => ∃ (vq : Nat → Int) (aq : Nat → Nat → Int), mI G h0 ad ln vq aq Lq Eq ∧ (fun r v2 a2 => ∃ f : Int, r = some (.int (iI f)) ∧ fr [52, 53] [51] v a v2 a2 ∧ BX v2 a2 ∧ ((f = 0 ∨ f = 6 ∨ f = 9) ∧ RWX v a v2 a2 q u f)) rq vq aq)) args s 0 0 A) h0 ad ln vb5 ab5 0 0 127 [(7, .int (iI (a 44 f1.toNat))), (6, .int (iI f1)), (5, .int (iI x)), (4, .int (iI g)), (3, .int (iI pt)), (0, .ref h0), (1, .int (iI q)), (2, .int (iI u))] [] := by
                intro  vb5 ab5 bxb5 fpb5 h7
                refine m_iload (j := 0) C dX12_readWord_127 rfl ?_
                refine m_iconst C dX12_readWord_129 ?_
                have J4 : ∀ (g2 : Int) (vb6 : Nat → Int) (ab6 : Nat → Nat → Int), BX vb6 ab6 → fr [52, 53] [51] v a vb6 ab6 → (g2 = 0 ∨ g2 = 1) → ((g2 = 1 ∧ a 44 f1.toNat = -1) ∨ (g2 = 0 ∧ a 44 f1.toNat ≠ -1)) → (RW7 v a vb6 ab6 q u pt g x f1) → mw p l e (rmq 3 0 0) s m args below meth c G A 9 (MQ below (Qm G A (fun rq Lq Eq => ∃ (vq : Nat → Int) (aq : Nat → Nat → Int), mI G h0 ad ln vq aq Lq Eq ∧ (fun r v2 a2 => ∃ f : Int, r = some (.int (iI f)) ∧ fr [52, 53] [51] v a v2 a2 ∧ BX v2 a2 ∧ ((f = 0 ∨ f = 6 ∨ f = 9) ∧ RWX v a v2 a2 q u f)) rq vq aq)) args s 0 0 A) h0 ad ln vb6 ab6 0 0 138 [(7, .int (iI (a 44 f1.toNat))), (6, .int (iI f1)), (5, .int (iI x)), (4, .int (iI g)), (3, .int (iI pt)), (0, .ref h0), (1, .int (iI q)), (2, .int (iI u))] [.int (iI g2)] := by
                  intro g2 vb6 ab6 bxb6 fpb6 hg2 hg3 h71
                  refine m_istore (lv2 := [(4, .int (iI g2)), (7, .int (iI (a 44 f1.toNat))), (6, .int (iI f1)), (5, .int (iI x)), (3, .int (iI pt)), (0, .ref h0), (1, .int (iI q)), (2, .int (iI u))]) C dX12_readWord_138 (by decide) rfl ?_
                  refine m_iload (j := 1) C dX12_readWord_140 rfl ?_
                  refine m_bipush (z := (-3)) C dX12_readWord_142 (by decide) ?_
                  refine m_icmp_eq (tgt := 154) C ⟨by omega, by omega⟩ ⟨by decide, by decide⟩ dX12_readWord_144 (by decide) (fun c14 => ?_) (fun c14 => ?_)
                  · refine m_iconst C dX12_readWord_154 ?_
                    refine m_iload_n (j := 4) C dX12_readWord_155 rfl ?_
                    refine m_isub C dX12_readWord_156 ?_
                    refine m_istore_n (lv2 := [(3, .int (iI (1 - pt))), (4, .int (iI g2)), (7, .int (iI (a 44 f1.toNat))), (6, .int (iI f1)), (5, .int (iI x)), (0, .ref h0), (1, .int (iI q)), (2, .int (iI u))]) C dX12_readWord_157 (by decide) rfl ?_
                    refine m_aload_n (j := 5) C dX12_readWord_158 rfl ?_
                    refine m_iload (j := 2) C dX12_readWord_159 rfl ?_
                    refine m_bipush (z := (-3)) C dX12_readWord_161 (by decide) ?_
                    refine m_icmp_ne (tgt := 171) C ⟨by omega, by omega⟩ ⟨by decide, by decide⟩ dX12_readWord_163 (by decide) (fun z => absurd z (by omega)) (fun _ => ?_)
                    refine m_bipush (z := 60) C dX12_readWord_166 (by decide) ?_
                    refine m_goto (tgt := 173) C dX12_readWord_168 (by decide) ?_
                    refine m_call (mc2 := 0) (ms2 := 0) (As := [.int (iI 60)]) (rest := []) C (E_tell (x := 60) bxb6 (by omega)) dX12_readWord_173 kV_X12_336 rfl ck_13 rfl (Nat.le_of_ble_eq_true rfl) ⟨Nat.le_of_ble_eq_true rfl, Nat.le_of_ble_eq_true rfl⟩ ⟨Nat.le_of_ble_eq_true rfl, Nat.le_of_ble_eq_true rfl⟩ (fun rh6 vh6 ah6 h6 => ?_)
                    obtain ⟨f6, rfl, fn6, bn4, ex4, tx4⟩ := h6
                    refine hv2 (fpb6.call fn6 rfl rfl) (show f6 = 0 ∨ f6 = 1 from ex4) (fun fq6 gf6 => ?_)
                    refine m_st (st2 := [.int (iI f6)]) rfl ?_
                    refine m_if_ne (tgt := 182) C (r32_01 gf6) dX12_readWord_176 (by decide) (fun c15 => ?_) (fun c15 => ?_)
                    · replace gf6 := (gf6.resolve_left c15)
                      refine m_iload (j := 4) C dX12_readWord_182 rfl ?_
                      refine m_aload_n (j := 5) C dX12_readWord_184 rfl ?_
                      refine m_geta (k := 46) C dX12_readWord_185 w6_105 (by decide) rfl ?_
                      refine m_iload (j := 3) C dX12_readWord_188 rfl ?_
                      refine m_ald (k := 46) C dX12_readWord_190 rfl rfl (by decide) (by omega) (by show _ < ((_ : Nat) : Int); simp only [mlen]; omega) (by decide) ?_
                      refine hv3 (show 0 ≤ ah6 46 f1.toNat ∧ ah6 46 f1.toNat ≤ 4 from bn4.2 46 (f1.toNat)) (show ah6 46 (f1.toNat) = ab6 46 (f1.toNat) from congrFun (fn6.2 46 rfl) (f1.toNat)) (show ab6 46 (f1.toNat) = a 46 (f1.toNat) from congrFun (fpb6.2 46 rfl) (f1.toNat)) (fun ra8 ae10 ae11 => ?_)
                      refine m_st (st2 := [.int (iI (a 46 f1.toNat)), .int (iI x)]) (congrArg (fun z => Value.int (iI z) :: [.int (iI x)]) (congrFun (fq6.2 46 rfl) (f1.toNat))) ?_
                      refine m_iadd C dX12_readWord_191 ?_
                      refine m_istore (lv2 := [(5, .int (iI (x + (a 46 f1.toNat)))), (3, .int (iI (1 - pt))), (4, .int (iI g2)), (7, .int (iI (a 44 f1.toNat))), (6, .int (iI f1)), (0, .ref h0), (1, .int (iI q)), (2, .int (iI u))]) C dX12_readWord_192 (by decide) rfl ?_
                      refine m_goto (tgt := 8) C dX12_readWord_194 (by decide) ?_
                      refine m_lv (lv2 := [(5, .int (iI (x + (a 46 f1.toNat)))), (4, .int (iI g2)), (3, .int (iI (1 - pt))), (0, .ref h0), (1, .int (iI q)), (2, .int (iI u))]) [0, 2, 1, 5, 6, 7] rfl ?_
                      exact ih1  (1 - pt) g2 (x + (a 46 f1.toNat)) _ _ (by omega) bn4 fq6 (by omega) (by omega) (by omega) (h71.turn (by omega) tx4 (by omega) (by omega) hp rfl (by omega))
                    · clear gf6
                      refine m_bipush (z := 6) C dX12_readWord_179 (by decide) ?_
                      exact m_iret C dX12_readWord_181 rfl (Nat.le_of_ble_eq_true rfl) (Nat.le_of_ble_eq_true rfl) ⟨6, rfl, fq6, bn4, ⟨(by omega), h71.tov (by omega) tx4 (by omega)⟩⟩
                  · refine m_iload (j := 1) C dX12_readWord_147 rfl ?_
                    refine m_bipush (z := (-4)) C dX12_readWord_149 (by decide) ?_
                    refine m_icmp_ne (tgt := 182) C ⟨by omega, by omega⟩ ⟨by decide, by decide⟩ dX12_readWord_151 (by decide) (fun c16 => ?_) (fun c16 => ?_)
                    · refine m_iload (j := 3) C dX12_readWord_182 rfl ?_
                      refine m_aload_n (j := 5) C dX12_readWord_184 rfl ?_
                      refine m_geta (k := 46) C dX12_readWord_185 w6_105 (by decide) rfl ?_
                      refine m_iload (j := 2) C dX12_readWord_188 rfl ?_
                      refine m_ald (k := 46) C dX12_readWord_190 rfl rfl (by decide) (by omega) (by show _ < ((_ : Nat) : Int); simp only [mlen]; omega) (by decide) ?_
                      refine hv2 (show 0 ≤ ab6 46 f1.toNat ∧ ab6 46 f1.toNat ≤ 4 from bxb6.2 46 (f1.toNat)) (show ab6 46 (f1.toNat) = a 46 (f1.toNat) from congrFun (fpb6.2 46 rfl) (f1.toNat)) (fun ra9 ae12 => ?_)
                      refine m_st (st2 := [.int (iI (a 46 f1.toNat)), .int (iI x)]) (congrArg (fun z => Value.int (iI z) :: [.int (iI x)]) (congrFun (fpb6.2 46 rfl) (f1.toNat))) ?_
                      refine m_iadd C dX12_readWord_191 ?_
                      refine m_istore (lv2 := [(5, .int (iI (x + (a 46 f1.toNat)))), (4, .int (iI g2)), (7, .int (iI (a 44 f1.toNat))), (6, .int (iI f1)), (3, .int (iI pt)), (0, .ref h0), (1, .int (iI q)), (2, .int (iI u))]) C dX12_readWord_192 (by decide) rfl ?_
                      refine m_goto (tgt := 8) C dX12_readWord_194 (by decide) ?_
                      refine m_lv (lv2 := [(5, .int (iI (x + (a 46 f1.toNat)))), (4, .int (iI g2)), (3, .int (iI pt)), (0, .ref h0), (1, .int (iI q)), (2, .int (iI u))]) [0, 1, 4, 5, 6, 7] rfl ?_
                      exact ih1  pt g2 (x + (a 46 f1.toNat)) _ _ (by omega) bxb6 fpb6 (by omega) (by omega) (by omega) (h71.next ⟨by omega, by omega⟩ (by omega) (by omega))
                    · refine m_iconst C dX12_readWord_154 ?_
                      refine m_iload_n (j := 4) C dX12_readWord_155 rfl ?_
                      refine m_isub C dX12_readWord_156 ?_
                      refine m_istore_n (lv2 := [(3, .int (iI (1 - pt))), (4, .int (iI g2)), (7, .int (iI (a 44 f1.toNat))), (6, .int (iI f1)), (5, .int (iI x)), (0, .ref h0), (1, .int (iI q)), (2, .int (iI u))]) C dX12_readWord_157 (by decide) rfl ?_
                      refine m_aload_n (j := 5) C dX12_readWord_158 rfl ?_
                      refine m_iload (j := 2) C dX12_readWord_159 rfl ?_
                      refine m_bipush (z := (-3)) C dX12_readWord_161 (by decide) ?_
                      refine m_icmp_ne (tgt := 171) C ⟨by omega, by omega⟩ ⟨by decide, by decide⟩ dX12_readWord_163 (by decide) (fun _ => ?_) (fun z => absurd z (by omega))
                      refine m_bipush (z := 62) C dX12_readWord_171 (by decide) ?_
                      refine m_call (mc2 := 0) (ms2 := 0) (As := [.int (iI 62)]) (rest := []) C (E_tell (x := 62) bxb6 (by omega)) dX12_readWord_173 kV_X12_336 rfl ck_13 rfl (Nat.le_of_ble_eq_true rfl) ⟨Nat.le_of_ble_eq_true rfl, Nat.le_of_ble_eq_true rfl⟩ ⟨Nat.le_of_ble_eq_true rfl, Nat.le_of_ble_eq_true rfl⟩ (fun rh8 vh8 ah8 h8 => ?_)
                      obtain ⟨f7, rfl, fn7, bn5, ex5, tx5⟩ := h8
                      refine hv2 (fpb6.call fn7 rfl rfl) (show f7 = 0 ∨ f7 = 1 from ex5) (fun fq7 gf7 => ?_)
                      refine m_st (st2 := [.int (iI f7)]) rfl ?_
                      refine m_if_ne (tgt := 182) C (r32_01 gf7) dX12_readWord_176 (by decide) (fun c17 => ?_) (fun c17 => ?_)
                      · replace gf7 := (gf7.resolve_left c17)
                        refine m_iload (j := 4) C dX12_readWord_182 rfl ?_
                        refine m_aload_n (j := 5) C dX12_readWord_184 rfl ?_
                        refine m_geta (k := 46) C dX12_readWord_185 w6_105 (by decide) rfl ?_
                        refine m_iload (j := 3) C dX12_readWord_188 rfl ?_
                        refine m_ald (k := 46) C dX12_readWord_190 rfl rfl (by decide) (by omega) (by show _ < ((_ : Nat) : Int); simp only [mlen]; omega) (by decide) ?_
                        refine hv3 (show 0 ≤ ah8 46 f1.toNat ∧ ah8 46 f1.toNat ≤ 4 from bn5.2 46 (f1.toNat)) (show ah8 46 (f1.toNat) = ab6 46 (f1.toNat) from congrFun (fn7.2 46 rfl) (f1.toNat)) (show ab6 46 (f1.toNat) = a 46 (f1.toNat) from congrFun (fpb6.2 46 rfl) (f1.toNat)) (fun ra10 ae13 ae14 => ?_)
                        refine m_st (st2 := [.int (iI (a 46 f1.toNat)), .int (iI x)]) (congrArg (fun z => Value.int (iI z) :: [.int (iI x)]) (congrFun (fq7.2 46 rfl) (f1.toNat))) ?_
                        refine m_iadd C dX12_readWord_191 ?_
                        refine m_istore (lv2 := [(5, .int (iI (x + (a 46 f1.toNat)))), (3, .int (iI (1 - pt))), (4, .int (iI g2)), (7, .int (iI (a 44 f1.toNat))), (6, .int (iI f1)), (0, .ref h0), (1, .int (iI q)), (2, .int (iI u))]) C dX12_readWord_192 (by decide) rfl ?_
                        refine m_goto (tgt := 8) C dX12_readWord_194 (by decide) ?_
                        refine m_lv (lv2 := [(5, .int (iI (x + (a 46 f1.toNat)))), (4, .int (iI g2)), (3, .int (iI (1 - pt))), (0, .ref h0), (1, .int (iI q)), (2, .int (iI u))]) [0, 2, 1, 5, 6, 7] rfl ?_
                        exact ih1  (1 - pt) g2 (x + (a 46 f1.toNat)) _ _ (by omega) bn5 fq7 (by omega) (by omega) (by omega) (h71.turn (by omega) tx5 (by omega) (by omega) hp rfl (by omega))
                      · clear gf7
                        refine m_bipush (z := 6) C dX12_readWord_179 (by decide) ?_
                        exact m_iret C dX12_readWord_181 rfl (Nat.le_of_ble_eq_true rfl) (Nat.le_of_ble_eq_true rfl) ⟨6, rfl, fq7, bn5, ⟨(by omega), h71.tov (by omega) tx5 (by omega)⟩⟩
                refine m_icmp_ne (tgt := 137) C ⟨by omega, by omega⟩ ⟨by decide, by decide⟩ dX12_readWord_130 (by decide) (fun c18 => ?_) (fun c18 => ?_)
                · refine m_iconst C dX12_readWord_137 ?_
                  refine m_lv (lv2 := [(7, .int (iI (a 44 f1.toNat))), (6, .int (iI f1)), (5, .int (iI x)), (4, .int (iI g)), (3, .int (iI pt)), (0, .ref h0), (1, .int (iI q)), (2, .int (iI u))]) [0, 1, 2, 3, 4, 5, 6, 7] rfl ?_
                  exact J4  0 _ _  bxb5 fpb5 (by omega) (by omega) h7
                · refine m_iconst C dX12_readWord_133 ?_
                  refine m_goto (tgt := 138) C dX12_readWord_134 (by decide) ?_
                  refine m_lv (lv2 := [(7, .int (iI (a 44 f1.toNat))), (6, .int (iI f1)), (5, .int (iI x)), (4, .int (iI g)), (3, .int (iI pt)), (0, .ref h0), (1, .int (iI q)), (2, .int (iI u))]) [0, 1, 2, 3, 4, 5, 6, 7] rfl ?_
                  exact J4  1 _ _  bxb5 fpb5 (by omega) (by omega) h7
              refine m_iload (j := 0) C dX12_readWord_61 rfl ?_
              refine m_if_lt (tgt := 127) C ⟨by omega, by omega⟩ dX12_readWord_63 (by decide) (fun c19 => ?_) (fun c19 => ?_)
              · refine m_lv (lv2 := [(7, .int (iI (a 44 f1.toNat))), (6, .int (iI f1)), (5, .int (iI x)), (4, .int (iI g)), (3, .int (iI pt)), (0, .ref h0), (1, .int (iI q)), (2, .int (iI u))]) [0, 1, 2, 3, 4, 5, 6, 7] rfl ?_
                exact J3   _ _  bq2 fq2 (hB9.neg (by omega))
              · refine m_iconst C dX12_readWord_66 ?_
                refine m_istore (lv2 := [(8, .int (iI 0)), (7, .int (iI (a 44 f1.toNat))), (6, .int (iI f1)), (5, .int (iI x)), (4, .int (iI g)), (3, .int (iI pt)), (0, .ref h0), (1, .int (iI q)), (2, .int (iI u))]) C dX12_readWord_67 (by decide) rfl ?_
                have Lp3 : ∀ (nn : Nat) (k : Int) (vb7 : Nat → Int) (ab7 : Nat → Nat → Int), 9 - k < (nn : Int) → BX vb7 ab7 → fr [52, 53] [51] v a vb7 ab7 → (0 ≤ k ∧ k ≤ 8 ∧ k ≤ a 12 (a 44 f1.toNat).toNat) → (RW6 v a vb7 ab7 q u pt g x f1 k) → mw p l e (rmq 3 0 0) s m args below meth c G A 9 (MQ below (Qm G A (fun rq Lq Eq => ∃ (vq : Nat → Int) (aq : Nat → Nat → Int), mI G h0 ad ln vq aq Lq Eq ∧ (fun r v2 a2 => ∃ f : Int, r = some (.int (iI f)) ∧ fr [52, 53] [51] v a v2 a2 ∧ BX v2 a2 ∧ ((f = 0 ∨ f = 6 ∨ f = 9) ∧ RWX v a v2 a2 q u f)) rq vq aq)) args s 0 0 A) h0 ad ln vb7 ab7 0 0 69 [(8, .int (iI k)), (7, .int (iI (a 44 f1.toNat))), (6, .int (iI f1)), (5, .int (iI x)), (4, .int (iI g)), (3, .int (iI pt)), (0, .ref h0), (1, .int (iI q)), (2, .int (iI u))] [] := by
                  intro nn
                  induction nn with
                  | zero =>
                    intro k vb7 ab7 hm bxb7 fpb7 hk hJ
                    exact absurd hm (by omega)
                  | succ nn ih3 =>
                    intro k vb7 ab7 hm bxb7 fpb7 hk hJ
                    refine m_iload (j := 0) C dX12_readWord_69 rfl ?_
                    refine m_aload_n (j := 6) C dX12_readWord_71 rfl ?_
                    refine m_geta (k := 12) C dX12_readWord_72 w6_71 (by decide) rfl ?_
                    refine m_iload (j := 1) C dX12_readWord_75 rfl ?_
                    refine m_ald (k := 12) C dX12_readWord_77 rfl rfl (by decide) (by omega) (by show _ < ((_ : Nat) : Int); simp only [mlen]; omega) (by decide) ?_
                    refine hv2 (show 0 ≤ ab7 12 (a 44 f1.toNat).toNat ∧ ab7 12 (a 44 f1.toNat).toNat ≤ 8 from bxb7.2 12 ((a 44 f1.toNat).toNat)) (show ab7 12 ((a 44 f1.toNat).toNat) = a 12 ((a 44 f1.toNat).toNat) from congrFun (fpb7.2 12 rfl) ((a 44 f1.toNat).toNat)) (fun ra11 ae15 => ?_)
                    refine m_st (st2 := [.int (iI (a 12 (a 44 f1.toNat).toNat)), .int (iI k)]) (congrArg (fun z => Value.int (iI z) :: [.int (iI k)]) (congrFun (fpb7.2 12 rfl) ((a 44 f1.toNat).toNat))) ?_
                    refine m_icmp_ge (tgt := 127) C (r32_c (lo := 0) (hi := 8) hk.1 hk.2.1 (by decide) (by decide)) ⟨by omega, by omega⟩ dX12_readWord_78 (by decide) (fun c20 => ?_) (fun c20 => ?_)
                    · refine m_lv (lv2 := [(7, .int (iI (a 44 f1.toNat))), (6, .int (iI f1)), (5, .int (iI x)), (4, .int (iI g)), (3, .int (iI pt)), (0, .ref h0), (1, .int (iI q)), (2, .int (iI u))]) [1, 2, 3, 4, 5, 6, 7, 8] rfl ?_
                      exact J3   _ _  bxb7 fpb7 (hJ.fin (by omega))
                    · refine m_aload_n (j := 6) C dX12_readWord_81 rfl ?_
                      refine m_aload_n (j := 6) C dX12_readWord_82 rfl ?_
                      refine m_geta (k := 14) C dX12_readWord_83 w6_73 (by decide) rfl ?_
                      refine m_bipush (z := 8) C dX12_readWord_86 (by decide) ?_
                      refine m_iload (j := 1) C dX12_readWord_88 rfl ?_
                      refine m_imul C dX12_readWord_90 ?_
                      refine m_iload (j := 0) C dX12_readWord_91 rfl ?_
                      refine m_iadd C dX12_readWord_93 ?_
                      refine m_ald (k := 14) C dX12_readWord_94 rfl rfl (by decide) (by omega) (by show _ < ((_ : Nat) : Int); simp only [mlen]; omega) (by decide) ?_
                      refine hv2 (show 0 ≤ ab7 14 ((8 * (a 44 f1.toNat)) + k).toNat ∧ ab7 14 ((8 * (a 44 f1.toNat)) + k).toNat ≤ 125 from bxb7.2 14 (((8 * (a 44 f1.toNat)) + k).toNat)) (show ab7 14 (((8 * (a 44 f1.toNat)) + k).toNat) = a 14 (((8 * (a 44 f1.toNat)) + k).toNat) from congrFun (fpb7.2 14 rfl) (((8 * (a 44 f1.toNat)) + k).toNat)) (fun ra12 ae16 => ?_)
                      refine m_st (st2 := [.int (iI (a 14 ((8 * (a 44 f1.toNat)) + k).toNat)), .ref h0]) (congrArg (fun z => Value.int (iI z) :: [.ref h0]) (congrFun (fpb7.2 14 rfl) (((8 * (a 44 f1.toNat)) + k).toNat))) ?_
                      refine m_iload (j := 4) C dX12_readWord_95 rfl ?_
                      refine m_if_eq (tgt := 110) C ⟨by omega, by omega⟩ dX12_readWord_97 (by decide) (fun z => absurd z (by omega)) (fun _ => ?_)
                      refine m_iload (j := 0) C dX12_readWord_100 rfl ?_
                      refine m_if_ne (tgt := 110) C (r32_c (lo := 0) (hi := 8) hk.1 hk.2.1 (by decide) (by decide)) dX12_readWord_102 (by decide) (fun c21 => ?_) (fun c21 => ?_)
                      · refine m_iconst C dX12_readWord_110 ?_
                        refine m_isub C dX12_readWord_111 ?_
                        refine m_call (mc2 := 0) (ms2 := 0) (As := [.int (iI ((a 14 ((8 * (a 44 f1.toNat)) + k).toNat) - 0))]) (rest := []) C (E_tell (x := (a 14 ((8 * (a 44 f1.toNat)) + k).toNat) - 0) bxb7 (by omega)) dX12_readWord_112 kV_X12_336 rfl ck_13 rfl (Nat.le_of_ble_eq_true rfl) ⟨Nat.le_of_ble_eq_true rfl, Nat.le_of_ble_eq_true rfl⟩ ⟨Nat.le_of_ble_eq_true rfl, Nat.le_of_ble_eq_true rfl⟩ (fun rh9 vh9 ah9 h9 => ?_)
                        obtain ⟨f8, rfl, fn8, bn6, ex6, tx6⟩ := h9
                        refine hv2 (fpb7.call fn8 rfl rfl) (show f8 = 0 ∨ f8 = 1 from ex6) (fun fq8 gf8 => ?_)
                        refine m_st (st2 := [.int (iI f8)]) rfl ?_
                        refine m_if_ne (tgt := 121) C (r32_01 gf8) dX12_readWord_115 (by decide) (fun c22 => ?_) (fun c22 => ?_)
                        · replace gf8 := (gf8.resolve_left c22)
                          refine m_iinc (z := k) (j := 0) (lv2 := [(8, .int (iI (k + 1))), (7, .int (iI (a 44 f1.toNat))), (6, .int (iI f1)), (5, .int (iI x)), (4, .int (iI g)), (3, .int (iI pt)), (0, .ref h0), (1, .int (iI q)), (2, .int (iI u))]) C dX12_readWord_121 rfl (by decide) rfl ?_
                          refine m_goto (tgt := 69) C dX12_readWord_124 (by decide) ?_
                          refine m_lv (lv2 := [(8, .int (iI (k + 1))), (7, .int (iI (a 44 f1.toNat))), (6, .int (iI f1)), (5, .int (iI x)), (4, .int (iI g)), (3, .int (iI pt)), (0, .ref h0), (1, .int (iI q)), (2, .int (iI u))]) [0, 1, 2, 3, 4, 5, 6, 7, 8] rfl ?_
                          exact ih3  (k + 1) _ _ (by omega) bn6 fq8 (by have q : 0 ≤ a 12 (a 44 f1.toNat).toNat ∧ a 12 (a 44 f1.toNat).toNat ≤ 8 := hB.2 12 _; omega) (hJ.step (by omega) tx6 (by omega) (by split <;> omega))
                        · clear gf8
                          refine m_bipush (z := 6) C dX12_readWord_118 (by decide) ?_
                          exact m_iret C dX12_readWord_120 rfl (Nat.le_of_ble_eq_true rfl) (Nat.le_of_ble_eq_true rfl) ⟨6, rfl, fq8, bn6, ⟨(by omega), hJ.ov ⟨by omega, by omega⟩ tx6 (by omega)⟩⟩
                      · refine m_bipush (z := 32) C dX12_readWord_105 (by decide) ?_
                        refine m_goto (tgt := 111) C dX12_readWord_107 (by decide) ?_
                        refine m_isub C dX12_readWord_111 ?_
                        refine m_call (mc2 := 0) (ms2 := 0) (As := [.int (iI ((a 14 ((8 * (a 44 f1.toNat)) + k).toNat) - 32))]) (rest := []) C (E_tell (x := (a 14 ((8 * (a 44 f1.toNat)) + k).toNat) - 32) bxb7 (by omega)) dX12_readWord_112 kV_X12_336 rfl ck_13 rfl (Nat.le_of_ble_eq_true rfl) ⟨Nat.le_of_ble_eq_true rfl, Nat.le_of_ble_eq_true rfl⟩ ⟨Nat.le_of_ble_eq_true rfl, Nat.le_of_ble_eq_true rfl⟩ (fun rh10 vh10 ah10 h10 => ?_)
                        obtain ⟨f9, rfl, fn9, bn7, ex7, tx7⟩ := h10
                        refine hv2 (fpb7.call fn9 rfl rfl) (show f9 = 0 ∨ f9 = 1 from ex7) (fun fq9 gf9 => ?_)
                        refine m_st (st2 := [.int (iI f9)]) rfl ?_
                        refine m_if_ne (tgt := 121) C (r32_01 gf9) dX12_readWord_115 (by decide) (fun c23 => ?_) (fun c23 => ?_)
                        · replace gf9 := (gf9.resolve_left c23)
                          refine m_iinc (z := k) (j := 0) (lv2 := [(8, .int (iI (k + 1))), (7, .int (iI (a 44 f1.toNat))), (6, .int (iI f1)), (5, .int (iI x)), (4, .int (iI g)), (3, .int (iI pt)), (0, .ref h0), (1, .int (iI q)), (2, .int (iI u))]) C dX12_readWord_121 rfl (by decide) rfl ?_
                          refine m_goto (tgt := 69) C dX12_readWord_124 (by decide) ?_
                          refine m_lv (lv2 := [(8, .int (iI (k + 1))), (7, .int (iI (a 44 f1.toNat))), (6, .int (iI f1)), (5, .int (iI x)), (4, .int (iI g)), (3, .int (iI pt)), (0, .ref h0), (1, .int (iI q)), (2, .int (iI u))]) [0, 1, 2, 3, 4, 5, 6, 7, 8] rfl ?_
                          exact ih3  (k + 1) _ _ (by omega) bn7 fq9 (by have q : 0 ≤ a 12 (a 44 f1.toNat).toNat ∧ a 12 (a 44 f1.toNat).toNat ≤ 8 := hB.2 12 _; omega) (hJ.step (by omega) tx7 (by omega) (by split <;> omega))
                        · clear gf9
                          refine m_bipush (z := 6) C dX12_readWord_118 (by decide) ?_
                          exact m_iret C dX12_readWord_120 rfl (Nat.le_of_ble_eq_true rfl) (Nat.le_of_ble_eq_true rfl) ⟨6, rfl, fq9, bn7, ⟨(by omega), hJ.ov ⟨by omega, by omega⟩ tx7 (by omega)⟩⟩
                refine m_lv (lv2 := [(8, .int (iI 0)), (7, .int (iI (a 44 f1.toNat))), (6, .int (iI f1)), (5, .int (iI x)), (4, .int (iI g)), (3, .int (iI pt)), (0, .ref h0), (1, .int (iI q)), (2, .int (iI u))]) [0, 1, 2, 3, 4, 5, 6, 7, 8] rfl ?_
                exact Lp3 10 0 _ _ (by omega) bq2 fq2 (by have q : 0 ≤ a 12 (a 44 f1.toNat).toNat ∧ a 12 (a 44 f1.toNat).toNat ≤ 8 := hB.2 12 _; omega) (hB9.let0 (by omega))
            · clear gf5
              refine m_bipush (z := 9) C dX12_readWord_49 (by decide) ?_
              exact m_iret C dX12_readWord_51 rfl (Nat.le_of_ble_eq_true rfl) (Nat.le_of_ble_eq_true rfl) ⟨9, rfl, fq2, bq2, ⟨(by omega), hI.w2 hp lh1 (by omega) (by omega) (fun q => absurd (sn1.mpr q) (by omega)) ⟨by omega, by omega⟩⟩⟩
  refine m_lv (lv2 := [(5, .int (iI q)), (4, .int (iI 0)), (3, .int (iI 0)), (0, .ref h0), (1, .int (iI q)), (2, .int (iI u))]) [0, 1, 2, 3, 4, 5] rfl ?_
  exact Lp1 40202 0 0 q _ _ (by omega) hB fp0 (by omega) (by omega) (by omega) RW8.init
def RAC (v : Nat → Int) (a : Nat → Nat → Int) (l0 l1 : List Int) (R : Nat → Int) : Prop := (HLD a a 0 l0 ∧ HLD a a 1 l1) ∧ (NZL a l0 ∧ NZL a l1) ∧ ((∀ (j : Nat) (d : Int), l0[j]? = some d → rol d ≠ 3) ∧ ∀ (j : Nat) (d : Int), l1[j]? = some d → rol d ≠ 2) ∧ ∀ j : Nat, (((j : Nat) : Int) < v 50 → R j = a 48 j) ∧ (v 50 ≤ ((j : Nat) : Int) → R j = 0)
def RAI (v : Nat → Int) (a : Nat → Nat → Int) (v1 : Nat → Int) (a1 : Nat → Nat → Int) (x g : Int) : Prop := ∀ l0 l1 R, RAC v a l0 l1 R → ∃ bs, MRC a l0 l1 R (x, 0, 0, g, 0) bs ∧ OUTL v1 a1 bs
def RAW (v : Nat → Int) (a : Nat → Nat → Int) (v1 : Nat → Int) (a1 : Nat → Nat → Int) (x : Int) : Prop := ∀ l0 l1 R, RAC v a l0 l1 R → ∃ bs, MRC a l0 l1 R (x, 0, 0, 1, 1) bs ∧ OUTL v1 a1 bs
def RAX (v : Nat → Int) (a : Nat → Nat → Int) (v2 : Nat → Int) (a2 : Nat → Nat → Int) (f : Int) : Prop := ∀ l0 l1 R, RAC v a l0 l1 R → (f = 0 ∧ ∃ bs, RFN a l0 l1 R bs ∧ OUTL v2 a2 bs) ∨ (f ≠ 0 ∧ (RWG a l0 l1 R ∨ ROV a l0 l1 R 4000))
section RRD4
variable {v v1 v2 v3 : Nat → Int} {a a1 a2 a3 : Nat → Nat → Int} {l0 l1 : List Int} {R : Nat → Int} {x y g f w f1 : Int}
theorem RAI.init (h : v1 52 = 0) : RAI v a v1 a1 0 0 := fun l0 l1 R _ => ⟨[], MRC.zero, h, fun j x e => by simp at e⟩
theorem RAI.blank (h : RAI v a v1 a1 x g) (hx : 0 ≤ x ∧ x < v 50) (h0 : a 48 x.toNat = 0) : RAI v a v1 a1 (x + 1) g := fun l0 l1 R hc => by
  obtain ⟨bs, g1, g2⟩ := h l0 l1 R hc
  have e := (hc.2.2.2 x.toNat).1 (by omega)
  exact ⟨bs, g1.blank (by rw [e]; exact h0), g2⟩
theorem RAI.word0 (h : RAI v a v1 a1 x g) (hx : 0 ≤ x ∧ x < v 50) (h0 : a 48 x.toNat ≠ 0) (hg : g = 0) : RAW v a v1 a1 x := fun l0 l1 R hc => by
  obtain ⟨bs, g1, g2⟩ := h l0 l1 R hc
  have e := (hc.2.2.2 x.toNat).1 (by omega)
  refine ⟨bs, g1.word (by rw [e]; exact h0) ?_, g2⟩
  rw [if_neg (by omega), List.append_nil]
theorem RAI.word1 (h : RAI v a v1 a1 x g) (hx : 0 ≤ x ∧ x < v 50) (h0 : a 48 x.toNat ≠ 0) (hg : g = 1) (ht : TLX v1 a1 v2 a2 32 f) (hf : f = 1) : RAW v a v2 a2 x := fun l0 l1 R hc => by
  obtain ⟨bs, g1, g2⟩ := h l0 l1 R hc
  have e := (hc.2.2.2 x.toNat).1 (by omega)
  rcases ht _ g2 with ⟨_, w⟩ | ⟨w, _⟩
  · refine ⟨_, g1.word (o2 := bs ++ [32]) (by rw [e]; exact h0) ?_, w⟩
    rw [if_pos hg]
  · omega
theorem RAI.wov (h : RAI v a v1 a1 x g) (hx : 0 ≤ x ∧ x < v 50) (h0 : a 48 x.toNat ≠ 0) (hg : g = 1) (ht : TLX v1 a1 v2 a2 32 f) (hf : f = 0) : RAX v a v3 a3 6 := fun l0 l1 R hc => by
  obtain ⟨bs, g1, g2⟩ := h l0 l1 R hc
  have e := (hc.2.2.2 x.toNat).1 (by omega)
  rcases ht _ g2 with ⟨w, _⟩ | ⟨_, w⟩
  · omega
  · refine Or.inr ⟨by decide, Or.inr ((g1.word (o2 := bs ++ [32]) (by rw [e]; exact h0) (by rw [if_pos hg])).ov ?_)⟩
    rw [len1]
    omega
theorem RAW.rwc (h : RAW v a v1 a1 x) (h48 : a1 48 = a 48) (hA : a1 13 = a 13 ∧ a1 15 = a 15 ∧ a1 16 = a 16 ∧ a1 17 = a 17 ∧ a1 44 = a 44 ∧ a1 45 = a 45 ∧ a1 46 = a 46 ∧ a1 47 = a 47) (hm : ∀ l0 l1 R s bs, MRC a l0 l1 R s bs → MRC a1 l0 l1 R s bs) (hx : 0 ≤ x ∧ x ≤ y ∧ y ≤ v 50) (hn : ∀ j : Int, x ≤ j → j < y → a 48 j.toNat ≠ 0) (he : y = v 50 ∨ a 48 y.toNat = 0) (hc : RAC v a l0 l1 R) : ∃ bs, RWC v1 a1 x y l0 l1 R bs := by
  obtain ⟨bs, g1, g2⟩ := h l0 l1 R hc
  obtain ⟨⟨c1, c2⟩, ⟨c3, c4⟩, c5, c6⟩ := hc
  obtain ⟨e13, e15, e16, e17, e44, e45, e46, e47⟩ := hA
  have nz : ∀ l, NZL a l → NZL a1 l := fun l hl j d hd => by
    rw [rlen_cg e13 e16]
    exact ⟨(hl j d hd).1, fun k k1 k2 => by rw [dcl_cg e15 e17]; exact (hl j d hd).2 k k1 k2⟩
  refine ⟨bs, ⟨⟨(c1.fr e44 e45 e46 (by rw [e47])).cg e13 e16, (c2.fr e44 e45 e46 (by rw [e47])).cg e13 e16⟩, ⟨nz _ c3, nz _ c4⟩, c5, fun j j1 j2 => ?_, ?_⟩, g2, hm _ _ _ _ _ g1⟩
  · have e := (c6 j.toNat).1 (by omega)
    rw [h48, e]
    exact ⟨rfl, hn j j1 j2⟩
  · by_cases q : y = v 50
    · exact (c6 y.toNat).2 (by omega)
    · rw [(c6 y.toNat).1 (by omega)]
      rcases he with he | he
      · exact absurd he q
      · exact he
theorem rout_cg {d h : Int} (h12 : a1 12 = a 12) (h14 : a1 14 = a 14) : rout a1 d h = rout a d h := by
  have e : ∀ n : Nat, rlt a1 d h n = rlt a d h n := by
    intro n
    induction n with
    | zero => rfl
    | succ n ih =>
      show rlt a1 d h n ++ [_] = rlt a d h n ++ [_]
      rw [ih, h14]
  unfold rout
  rw [e, h12]
theorem SMR_cg {d : Int} (h14 : a1 14 = a 14) : SMR a1 d ↔ SMR a d := by
  unfold SMR
  rw [h14]
theorem mst_cg {s s2 : Int × Int × Int × Int × Int} {o : List Int} (h12 : a1 12 = a 12) (h13 : a1 13 = a 13) (h14 : a1 14 = a 14) (h15 : a1 15 = a 15) (h16 : a1 16 = a 16) (h17 : a1 17 = a 17) (h : mst a1 l0 l1 R s s2 o) : mst a l0 l1 R s s2 o := by
  rcases h with h | h | ⟨p1, p2, d, p3, p4, p5, p6⟩ | h
  · exact Or.inl h
  · exact Or.inr (Or.inl h)
  · rw [rlen_cg h13 h16] at p5
    rw [rout_cg h12 h14] at p6
    exact Or.inr (Or.inr (Or.inl ⟨p1, p2, d, BSQ_cg h13 h16 h15 h17 p3, fun e => (SMR_cg h14).mp (p4 e), p5, p6⟩))
  · exact Or.inr (Or.inr (Or.inr h))
theorem mrn_cg (h12 : a1 12 = a 12) (h13 : a1 13 = a 13) (h14 : a1 14 = a 14) (h15 : a1 15 = a 15) (h16 : a1 16 = a 16) (h17 : a1 17 = a 17) : ∀ (k : Nat) (s s2 : Int × Int × Int × Int × Int) (o : List Int), mrn a1 l0 l1 R k s s2 o → mrn a l0 l1 R k s s2 o := by
  intro k
  induction k with
  | zero => intro s s2 o h; exact h
  | succ k ih =>
    intro s s2 o h
    obtain ⟨t, o1, o2, g1, g2, g3⟩ := h
    exact ⟨t, o1, o2, mst_cg h12 h13 h14 h15 h16 h17 g1, ih _ _ _ g2, g3⟩
theorem MRC_cg {s : Int × Int × Int × Int × Int} {bs : List Int} (h12 : a1 12 = a 12) (h13 : a1 13 = a 13) (h14 : a1 14 = a 14) (h15 : a1 15 = a 15) (h16 : a1 16 = a 16) (h17 : a1 17 = a 17) (h : MRC a1 l0 l1 R s bs) : MRC a l0 l1 R s bs := by
  obtain ⟨k, g⟩ := h
  exact ⟨k, mrn_cg h12 h13 h14 h15 h16 h17 _ _ _ _ g⟩
theorem MSB_cg {s : Int × Int × Int × Int × Int} (h13 : a1 13 = a 13) (h14 : a1 14 = a 14) (h15 : a1 15 = a 15) (h16 : a1 16 = a 16) (h17 : a1 17 = a 17) (h : MSB a1 l0 l1 R s) : MSB a l0 l1 R s := by
  obtain ⟨w, h⟩ := h
  refine ⟨w, ?_⟩
  rcases h with ⟨h1, h2 | ⟨h2, d, h3, h4⟩⟩ | h
  · exact Or.inl ⟨h1, Or.inl (BSQ_cg h13 h16 h15 h17 h2)⟩
  · exact Or.inl ⟨h1, Or.inr ⟨h2, d, BSQ_cg h13 h16 h15 h17 h3, fun q => h4 ((SMR_cg h14).mpr q)⟩⟩
  · exact Or.inr h
theorem RWG_cg (h12 : a1 12 = a 12) (h13 : a1 13 = a 13) (h14 : a1 14 = a 14) (h15 : a1 15 = a 15) (h16 : a1 16 = a 16) (h17 : a1 17 = a 17) (h : RWG a1 l0 l1 R) : RWG a l0 l1 R := by
  obtain ⟨s, bs, g1, g2⟩ := h
  exact ⟨s, bs, MRC_cg h12 h13 h14 h15 h16 h17 g1, MSB_cg h13 h14 h15 h16 h17 g2⟩
theorem ROV_cg {n : Nat} (h12 : a1 12 = a 12) (h13 : a1 13 = a 13) (h14 : a1 14 = a 14) (h15 : a1 15 = a 15) (h16 : a1 16 = a 16) (h17 : a1 17 = a 17) (h : ROV a1 l0 l1 R n) : ROV a l0 l1 R n := by
  obtain ⟨s, bs, g1, g2⟩ := h
  exact ⟨s, bs, MRC_cg h12 h13 h14 h15 h16 h17 g1, g2⟩
theorem RFN_cg {bs : List Int} (h12 : a1 12 = a 12) (h13 : a1 13 = a 13) (h14 : a1 14 = a 14) (h15 : a1 15 = a 15) (h16 : a1 16 = a 16) (h17 : a1 17 = a 17) (h : RFN a1 l0 l1 R bs) : RFN a l0 l1 R bs := by
  obtain ⟨s, g1, g2⟩ := h
  exact ⟨s, MRC_cg h12 h13 h14 h15 h16 h17 g1, g2⟩
def KTA (a a1 : Nat → Nat → Int) : Prop := (a1 12 = a 12 ∧ a1 13 = a 13 ∧ a1 14 = a 14 ∧ a1 15 = a 15 ∧ a1 16 = a 16 ∧ a1 17 = a 17) ∧ (a1 44 = a 44 ∧ a1 45 = a 45 ∧ a1 46 = a 46 ∧ a1 47 = a 47) ∧ a1 48 = a 48
theorem KTA.fr {V A : List Nat} (hf : fr V A v a v1 a1) (hc : ([12, 13, 14, 15, 16, 17, 44, 45, 46, 47, 48] : List Nat).all (fun k => !A.contains k) = true) : KTA a a1 := by
  have k : ∀ j, ([12, 13, 14, 15, 16, 17, 44, 45, 46, 47, 48] : List Nat).contains j = true → a1 j = a j := fun j hj => hf.2 j (by
    have w := List.all_eq_true.mp hc j (List.contains_iff_mem.mp hj)
    simpa using w)
  exact ⟨⟨k 12 rfl, k 13 rfl, k 14 rfl, k 15 rfl, k 16 rfl, k 17 rfl⟩, ⟨k 44 rfl, k 45 rfl, k 46 rfl, k 47 rfl⟩, k 48 rfl⟩
theorem RAW.run (h : RAW v a v1 a1 x) (hk : KTA a a1) (hx : 0 ≤ x ∧ x ≤ y ∧ y ≤ v 50) (hn : ∀ j : Int, x ≤ j → j < y → a 48 j.toNat ≠ 0) (he : y = v 50 ∨ a 48 y.toNat = 0) (hw : RWX v1 a1 v2 a2 x y f) : (f = 0 → RAI v a v2 a2 y 1) ∧ (f ≠ 0 → RAX v a v3 a3 f) := by
  obtain ⟨⟨k12, k13, k14, k15, k16, k17⟩, ⟨k44, k45, k46, k47⟩, k48⟩ := hk
  have go : ∀ l0 l1 R, RAC v a l0 l1 R → (f = 0 ∧ ∃ g b2, MRC a1 l0 l1 R (y, g, 0, 1, 1) b2 ∧ OUTL v2 a2 b2) ∨ (f = 9 ∧ RWG a1 l0 l1 R) ∨ (f = 6 ∧ ROV a1 l0 l1 R 4000) := fun l0 l1 R hc => by
    obtain ⟨bs, g⟩ := h.rwc (y := y) k48 ⟨k13, k15, k16, k17, k44, k45, k46, k47⟩ (fun _ _ _ _ _ q => MRC_cg k12.symm k13.symm k14.symm k15.symm k16.symm k17.symm q) hx hn he hc
    exact hw l0 l1 R bs g
  refine ⟨fun e l0 l1 R hc => ?_, fun e l0 l1 R hc => ?_⟩
  · rcases go l0 l1 R hc with ⟨_, g, b2, w1, w2⟩ | ⟨w, _⟩ | ⟨w, _⟩
    · have z : R y.toNat = 0 := by
        by_cases q : y = v 50
        · exact (hc.2.2.2 y.toNat).2 (by omega)
        · rw [(hc.2.2.2 y.toNat).1 (by omega)]
          rcases he with he | he
          · exact absurd he q
          · exact he
      exact ⟨b2, (MRC_cg k12 k13 k14 k15 k16 k17 w1).wend z (by decide), w2⟩
    · omega
    · omega
  · rcases go l0 l1 R hc with ⟨w, _⟩ | ⟨_, w⟩ | ⟨_, w⟩
    · exact absurd w e
    · exact Or.inr ⟨e, Or.inl (RWG_cg k12 k13 k14 k15 k16 k17 w)⟩
    · exact Or.inr ⟨e, Or.inr (ROV_cg k12 k13 k14 k15 k16 k17 w)⟩
theorem RAI.fin (h : RAI v a v1 a1 x g) (hx : v 50 ≤ x) (h0 : 0 ≤ x) : RAX v a v1 a1 0 := fun l0 l1 R hc => by
  obtain ⟨bs, g1, g2⟩ := h l0 l1 R hc
  exact Or.inl ⟨rfl, bs, g1.fin (fun j hj => (hc.2.2.2 j).2 (by omega)), g2⟩
end RRD4
set_option maxHeartbeats 4000000 in
set_option maxRecDepth 100000 in
theorem E_readAll {l : Launch} {G : GT} {h0 : Nat} {ad ln : Nat → Nat} {v : Nat → Int} {a : Nat → Nat → Int}  (hB : BX v a) (hW : RWS a) : Mm l G yX12_readAll cX12_readAll 5 (some .int) 4 [] h0 ad ln v a 0 0 (fun r v2 a2 => ∃ f : Int, r = some (.int (iI f)) ∧ fr [52, 53] [51] v a v2 a2 ∧ BX v2 a2 ∧ ((f = 0 ∨ f = 6 ∨ f = 9) ∧ RAX v a v2 a2 f)) := by
  refine Mm.mk (by decide) (Nat.le_of_ble_eq_true rfl) ?_
  intro p e s m args below meth c A C
  refine hv2 (show 0 ≤ v 50 ∧ v 50 ≤ 40200 from hB.1 50) (show fr [52, 53] [51] v a v a from fr.refl) (fun r50 fp0 => ?_)
  refine m_aload_n (j := 0) C dX12_readAll_0 rfl ?_
  refine m_iconst C dX12_readAll_1 ?_
  refine m_put (k := 52) (z := 0) C dX12_readAll_2 w6_111 (by decide) rfl rfl rfl ?_
  refine hv2 (show BX (va_up v 52 0) a from hB.put (k := 52) (z := 0) ⟨by decide, by decide⟩) (fp0.put (k := 52) (z := 0) rfl) (fun bq1 fq1 => ?_)
  refine m_iconst C dX12_readAll_5 ?_
  refine m_istore_n (lv2 := [(1, .int (iI 0)), (0, .ref h0)]) C dX12_readAll_6 (by decide) rfl ?_
  refine m_iconst C dX12_readAll_7 ?_
  refine m_istore_n (lv2 := [(2, .int (iI 0)), (1, .int (iI 0)), (0, .ref h0)]) C dX12_readAll_8 (by decide) rfl ?_
  have Lp1 : ∀ (nn : Nat) (g x : Int) (vb1 : Nat → Int) (ab1 : Nat → Nat → Int), 40201 - x < (nn : Int) → BX vb1 ab1 → fr [52, 53] [51] v a vb1 ab1 → (g = 0 ∨ g = 1) → (0 ≤ x ∧ x ≤ v 50) → (RAI v a vb1 ab1 x g) → mw p l e (rmq 4 0 0) s m args below meth c G A 5 (MQ below (Qm G A (fun rq Lq Eq => ∃ (vq : Nat → Int) (aq : Nat → Nat → Int), mI G h0 ad ln vq aq Lq Eq ∧ (fun r v2 a2 => ∃ f : Int, r = some (.int (iI f)) ∧ fr [52, 53] [51] v a v2 a2 ∧ BX v2 a2 ∧ ((f = 0 ∨ f = 6 ∨ f = 9) ∧ RAX v a v2 a2 f)) rq vq aq)) args s 0 0 A) h0 ad ln vb1 ab1 0 0 9 [(2, .int (iI x)), (1, .int (iI g)), (0, .ref h0)] [] := by
    intro nn
    induction nn with
    | zero =>
      intro g x vb1 ab1 hm bxb1 fpb1 hg hx hI
      exact absurd hm (by omega)
    | succ nn ih1 =>
      intro g x vb1 ab1 hm bxb1 fpb1 hg hx hI
      refine m_iload_n (j := 0) C dX12_readAll_9 rfl ?_
      refine m_aload_n (j := 2) C dX12_readAll_10 rfl ?_
      refine hv2 (show 0 ≤ vb1 50 ∧ vb1 50 ≤ 40200 from bxb1.1 50) (show vb1 50 = v 50 from fpb1.1 50 rfl) (fun rv1 ve1 => ?_)
      refine m_get (k := 50) C dX12_readAll_11 w6_109 (by decide) rfl ?_
      refine m_st (st2 := [.int (iI (v 50)), .int (iI x)]) (congrArg (fun z => Value.int (iI z) :: [.int (iI x)]) (fpb1.1 50 rfl)) ?_
      refine m_icmp_ge (tgt := 96) C ⟨by omega, by omega⟩ (r32_c (lo := 0) (hi := 40200) (Int.le_trans rv1.1 (Int.le_of_eq ve1)) (Int.le_trans (Int.le_of_eq ve1.symm) rv1.2) (by decide) (by decide)) dX12_readAll_14 (by decide) (fun c1 => ?_) (fun c1 => ?_)
      · refine m_iconst C dX12_readAll_96 ?_
        exact m_iret C dX12_readAll_97 rfl (Nat.le_of_ble_eq_true rfl) (Nat.le_of_ble_eq_true rfl) ⟨0, rfl, fpb1, bxb1, ⟨(by omega), hI.fin (by omega) (by omega)⟩⟩
      · refine m_aload_n (j := 2) C dX12_readAll_17 rfl ?_
        refine m_geta (k := 48) C dX12_readAll_18 w6_107 (by decide) rfl ?_
        refine m_iload_n (j := 0) C dX12_readAll_21 rfl ?_
        refine m_ald (k := 48) C dX12_readAll_22 rfl rfl (by decide) (by omega) (by show _ < ((_ : Nat) : Int); simp only [mlen]; omega) (by decide) ?_
        refine hv2 (show (-2147483648) ≤ ab1 48 x.toNat ∧ ab1 48 x.toNat ≤ 2147483647 from bxb1.2 48 (x.toNat)) (show ab1 48 (x.toNat) = a 48 (x.toNat) from congrFun (fpb1.2 48 rfl) (x.toNat)) (fun ra1 ae1 => ?_)
        refine m_st (st2 := [.int (iI (a 48 x.toNat))]) (congrArg (fun z => Value.int (iI z) :: []) (congrFun (fpb1.2 48 rfl) (x.toNat))) ?_
        refine m_if_ne (tgt := 32) C ⟨by omega, by omega⟩ dX12_readAll_23 (by decide) (fun c2 => ?_) (fun c2 => ?_)
        · have hx0 : a 48 x.toNat ≠ 0 := by omega
          refine m_iload_n (j := 0) C dX12_readAll_32 rfl ?_
          refine m_istore_n (lv2 := [(3, .int (iI x)), (2, .int (iI x)), (1, .int (iI g)), (0, .ref h0)]) C dX12_readAll_33 (by decide) rfl ?_
          have Lp2 : ∀ (nn : Nat) (y : Int) (vb2 : Nat → Int) (ab2 : Nat → Nat → Int), 40201 - y < (nn : Int) → BX vb2 ab2 → fr [52, 53] [51] v a vb2 ab2 → (x ≤ y ∧ y ≤ v 50) → (x < y ∨ (y = x ∧ ¬ a 48 y.toNat = 0)) → (∀ j : Int, x ≤ j → j < y → a 48 j.toNat ≠ 0) → (RAI v a vb2 ab2 x g) → mw p l e (rmq 4 0 0) s m args below meth c G A 5 (MQ below (Qm G A (fun rq Lq Eq => ∃ (vq : Nat → Int) (aq : Nat → Nat → Int), mI G h0 ad ln vq aq Lq Eq ∧ (fun r v2 a2 => ∃ f : Int, r = some (.int (iI f)) ∧ fr [52, 53] [51] v a v2 a2 ∧ BX v2 a2 ∧ ((f = 0 ∨ f = 6 ∨ f = 9) ∧ RAX v a v2 a2 f)) rq vq aq)) args s 0 0 A) h0 ad ln vb2 ab2 0 0 34 [(3, .int (iI y)), (2, .int (iI x)), (1, .int (iI g)), (0, .ref h0)] [] := by
            intro nn
            induction nn with
            | zero =>
              intro y vb2 ab2 hm bxb2 fpb2 hy hy2 hy3 hI4
              exact absurd hm (by omega)
            | succ nn ih2 =>
              intro y vb2 ab2 hm bxb2 fpb2 hy hy2 hy3 hI4
              refine m_iload_n (j := 0) C dX12_readAll_34 rfl ?_
              refine m_aload_n (j := 3) C dX12_readAll_35 rfl ?_
              refine hv2 (show 0 ≤ vb2 50 ∧ vb2 50 ≤ 40200 from bxb2.1 50) (show vb2 50 = v 50 from fpb2.1 50 rfl) (fun rv2 ve2 => ?_)
              refine m_get (k := 50) C dX12_readAll_36 w6_109 (by decide) rfl ?_
              refine m_st (st2 := [.int (iI (v 50)), .int (iI y)]) (congrArg (fun z => Value.int (iI z) :: [.int (iI y)]) (fpb2.1 50 rfl)) ?_
              refine m_icmp_ge (tgt := 57) C ⟨by omega, by omega⟩ (r32_c (lo := 0) (hi := 40200) (Int.le_trans rv1.1 (Int.le_of_eq ve1)) (Int.le_trans (Int.le_of_eq ve1.symm) rv1.2) (by decide) (by decide)) dX12_readAll_39 (by decide) (fun c3 => ?_) (fun c3 => ?_)
              · have hye : y = v 50 ∨ a 48 y.toNat = 0 := by omega
                refine m_iload_n (j := 2) C dX12_readAll_57 rfl ?_
                refine m_if_eq (tgt := 73) C (r32_01 hg) dX12_readAll_58 (by decide) (fun c4 => ?_) (fun c4 => ?_)
                · clear hg
                  have hW9 : RAW v a vb2 ab2 x := hI4.word0 ⟨by omega, by omega⟩ hx0 (by omega)
                  refine m_iconst C dX12_readAll_73 ?_
                  refine m_istore_n (lv2 := [(1, .int (iI 1)), (3, .int (iI y)), (2, .int (iI x)), (0, .ref h0)]) C dX12_readAll_74 (by decide) rfl ?_
                  refine m_aload_n (j := 3) C dX12_readAll_75 rfl ?_
                  refine m_iload_n (j := 2) C dX12_readAll_76 rfl ?_
                  refine m_iload_n (j := 1) C dX12_readAll_77 rfl ?_
                  refine m_call (mc2 := 0) (ms2 := 0) (As := [.int (iI x), .int (iI y)]) (rest := []) C (E_readWord (q := x) (u := y) bxb2 (RWS.fr hW fpb2 rfl) (by omega)) dX12_readAll_78 kV_X12_339 rfl ck_13 rfl (Nat.le_of_ble_eq_true rfl) ⟨Nat.le_of_ble_eq_true rfl, Nat.le_of_ble_eq_true rfl⟩ ⟨Nat.le_of_ble_eq_true rfl, Nat.le_of_ble_eq_true rfl⟩ (fun rh1 vh1 ah1 h1 => ?_)
                  obtain ⟨f1, rfl, fn1, bn1, ex1, rx1⟩ := h1
                  refine hv2 (fpb2.call fn1 rfl rfl) (show f1 = 0 ∨ f1 = 6 ∨ f1 = 9 from ex1) (fun fq2 gf1 => ?_)
                  refine m_st (st2 := [.int (iI f1)]) rfl ?_
                  refine m_istore (lv2 := [(4, .int (iI f1)), (1, .int (iI 1)), (3, .int (iI y)), (2, .int (iI x)), (0, .ref h0)]) C dX12_readAll_81 (by decide) rfl ?_
                  refine m_iload (j := 0) C dX12_readAll_83 rfl ?_
                  refine m_if_le (tgt := 91) C ⟨by omega, by omega⟩ dX12_readAll_85 (by decide) (fun c5 => ?_) (fun c5 => ?_)
                  · refine m_iload_n (j := 2) C dX12_readAll_91 rfl ?_
                    refine m_istore_n (lv2 := [(2, .int (iI y)), (4, .int (iI f1)), (1, .int (iI 1)), (3, .int (iI y)), (0, .ref h0)]) C dX12_readAll_92 (by decide) rfl ?_
                    refine m_goto (tgt := 9) C dX12_readAll_93 (by decide) ?_
                    refine m_lv (lv2 := [(2, .int (iI y)), (1, .int (iI 1)), (0, .ref h0)]) [0, 2, 4] rfl ?_
                    exact ih1  1 y _ _ (by omega) bn1 fq2 (by omega) (by omega) ((hW9.run (v3 := v) (a3 := a) (KTA.fr fpb2 rfl) ⟨by omega, by omega, by omega⟩ hy3 hye rx1).1 (by omega))
                  · refine m_iload (j := 0) C dX12_readAll_88 rfl ?_
                    exact m_iret C dX12_readAll_90 rfl (Nat.le_of_ble_eq_true rfl) (Nat.le_of_ble_eq_true rfl) ⟨f1, rfl, fq2, bn1, ⟨(by omega), (hW9.run (KTA.fr fpb2 rfl) ⟨by omega, by omega, by omega⟩ hy3 hye rx1).2 (by omega)⟩⟩
                · replace hg := (hg.resolve_left c4)
                  refine m_aload_n (j := 3) C dX12_readAll_61 rfl ?_
                  refine m_bipush (z := 32) C dX12_readAll_62 (by decide) ?_
                  refine m_call (mc2 := 0) (ms2 := 0) (As := [.int (iI 32)]) (rest := []) C (E_tell (x := 32) bxb2 (by omega)) dX12_readAll_64 kV_X12_336 rfl ck_13 rfl (Nat.le_of_ble_eq_true rfl) ⟨Nat.le_of_ble_eq_true rfl, Nat.le_of_ble_eq_true rfl⟩ ⟨Nat.le_of_ble_eq_true rfl, Nat.le_of_ble_eq_true rfl⟩ (fun rh2 vh2 ah2 h2 => ?_)
                  obtain ⟨f2, rfl, fn2, bn2, ex2, tx1⟩ := h2
                  refine hv2 (fpb2.call fn2 rfl rfl) (show f2 = 0 ∨ f2 = 1 from ex2) (fun fq3 gf2 => ?_)
                  refine m_st (st2 := [.int (iI f2)]) rfl ?_
                  refine m_if_ne (tgt := 73) C (r32_01 gf2) dX12_readAll_67 (by decide) (fun c6 => ?_) (fun c6 => ?_)
                  · replace gf2 := (gf2.resolve_left c6)
                    have hW9 : RAW v a vh2 ah2 x := hI4.word1 ⟨by omega, by omega⟩ hx0 (by omega) tx1 (by omega)
                    refine m_iconst C dX12_readAll_73 ?_
                    refine m_istore_n (lv2 := [(1, .int (iI 1)), (3, .int (iI y)), (2, .int (iI x)), (0, .ref h0)]) C dX12_readAll_74 (by decide) rfl ?_
                    refine m_aload_n (j := 3) C dX12_readAll_75 rfl ?_
                    refine m_iload_n (j := 2) C dX12_readAll_76 rfl ?_
                    refine m_iload_n (j := 1) C dX12_readAll_77 rfl ?_
                    refine m_call (mc2 := 0) (ms2 := 0) (As := [.int (iI x), .int (iI y)]) (rest := []) C (E_readWord (q := x) (u := y) bn2 (RWS.fr hW fq3 rfl) (by omega)) dX12_readAll_78 kV_X12_339 rfl ck_13 rfl (Nat.le_of_ble_eq_true rfl) ⟨Nat.le_of_ble_eq_true rfl, Nat.le_of_ble_eq_true rfl⟩ ⟨Nat.le_of_ble_eq_true rfl, Nat.le_of_ble_eq_true rfl⟩ (fun rh3 vh3 ah3 h3 => ?_)
                    obtain ⟨f3, rfl, fn3, bn3, ex3, rx2⟩ := h3
                    refine hv2 (fq3.call fn3 rfl rfl) (show f3 = 0 ∨ f3 = 6 ∨ f3 = 9 from ex3) (fun fq4 gf3 => ?_)
                    refine m_st (st2 := [.int (iI f3)]) rfl ?_
                    refine m_istore (lv2 := [(4, .int (iI f3)), (1, .int (iI 1)), (3, .int (iI y)), (2, .int (iI x)), (0, .ref h0)]) C dX12_readAll_81 (by decide) rfl ?_
                    refine m_iload (j := 0) C dX12_readAll_83 rfl ?_
                    refine m_if_le (tgt := 91) C ⟨by omega, by omega⟩ dX12_readAll_85 (by decide) (fun c7 => ?_) (fun c7 => ?_)
                    · refine m_iload_n (j := 2) C dX12_readAll_91 rfl ?_
                      refine m_istore_n (lv2 := [(2, .int (iI y)), (4, .int (iI f3)), (1, .int (iI 1)), (3, .int (iI y)), (0, .ref h0)]) C dX12_readAll_92 (by decide) rfl ?_
                      refine m_goto (tgt := 9) C dX12_readAll_93 (by decide) ?_
                      refine m_lv (lv2 := [(2, .int (iI y)), (1, .int (iI 1)), (0, .ref h0)]) [0, 2, 4] rfl ?_
                      exact ih1  1 y _ _ (by omega) bn3 fq4 (by omega) (by omega) ((hW9.run (v3 := v) (a3 := a) (KTA.fr fq3 rfl) ⟨by omega, by omega, by omega⟩ hy3 hye rx2).1 (by omega))
                    · refine m_iload (j := 0) C dX12_readAll_88 rfl ?_
                      exact m_iret C dX12_readAll_90 rfl (Nat.le_of_ble_eq_true rfl) (Nat.le_of_ble_eq_true rfl) ⟨f3, rfl, fq4, bn3, ⟨(by omega), (hW9.run (KTA.fr fq3 rfl) ⟨by omega, by omega, by omega⟩ hy3 hye rx2).2 (by omega)⟩⟩
                  · clear gf2
                    refine m_bipush (z := 6) C dX12_readAll_70 (by decide) ?_
                    exact m_iret C dX12_readAll_72 rfl (Nat.le_of_ble_eq_true rfl) (Nat.le_of_ble_eq_true rfl) ⟨6, rfl, fq3, bn2, ⟨(by omega), hI4.wov ⟨by omega, by omega⟩ hx0 (by omega) tx1 (by omega)⟩⟩
              · refine m_aload_n (j := 3) C dX12_readAll_42 rfl ?_
                refine m_geta (k := 48) C dX12_readAll_43 w6_107 (by decide) rfl ?_
                refine m_iload_n (j := 0) C dX12_readAll_46 rfl ?_
                refine m_ald (k := 48) C dX12_readAll_47 rfl rfl (by decide) (by omega) (by show _ < ((_ : Nat) : Int); simp only [mlen]; omega) (by decide) ?_
                refine hv2 (show (-2147483648) ≤ ab2 48 y.toNat ∧ ab2 48 y.toNat ≤ 2147483647 from bxb2.2 48 (y.toNat)) (show ab2 48 (y.toNat) = a 48 (y.toNat) from congrFun (fpb2.2 48 rfl) (y.toNat)) (fun ra2 ae2 => ?_)
                refine m_st (st2 := [.int (iI (a 48 y.toNat))]) (congrArg (fun z => Value.int (iI z) :: []) (congrFun (fpb2.2 48 rfl) (y.toNat))) ?_
                refine m_if_eq (tgt := 57) C ⟨by omega, by omega⟩ dX12_readAll_48 (by decide) (fun c8 => ?_) (fun c8 => ?_)
                · have hye : y = v 50 ∨ a 48 y.toNat = 0 := by omega
                  refine m_iload_n (j := 2) C dX12_readAll_57 rfl ?_
                  refine m_if_eq (tgt := 73) C (r32_01 hg) dX12_readAll_58 (by decide) (fun c9 => ?_) (fun c9 => ?_)
                  · clear hg
                    have hW9 : RAW v a vb2 ab2 x := hI4.word0 ⟨by omega, by omega⟩ hx0 (by omega)
                    refine m_iconst C dX12_readAll_73 ?_
                    refine m_istore_n (lv2 := [(1, .int (iI 1)), (3, .int (iI y)), (2, .int (iI x)), (0, .ref h0)]) C dX12_readAll_74 (by decide) rfl ?_
                    refine m_aload_n (j := 3) C dX12_readAll_75 rfl ?_
                    refine m_iload_n (j := 2) C dX12_readAll_76 rfl ?_
                    refine m_iload_n (j := 1) C dX12_readAll_77 rfl ?_
                    refine m_call (mc2 := 0) (ms2 := 0) (As := [.int (iI x), .int (iI y)]) (rest := []) C (E_readWord (q := x) (u := y) bxb2 (RWS.fr hW fpb2 rfl) (by omega)) dX12_readAll_78 kV_X12_339 rfl ck_13 rfl (Nat.le_of_ble_eq_true rfl) ⟨Nat.le_of_ble_eq_true rfl, Nat.le_of_ble_eq_true rfl⟩ ⟨Nat.le_of_ble_eq_true rfl, Nat.le_of_ble_eq_true rfl⟩ (fun rh4 vh4 ah4 h4 => ?_)
                    obtain ⟨f4, rfl, fn4, bn4, ex4, rx3⟩ := h4
                    refine hv2 (fpb2.call fn4 rfl rfl) (show f4 = 0 ∨ f4 = 6 ∨ f4 = 9 from ex4) (fun fq5 gf4 => ?_)
                    refine m_st (st2 := [.int (iI f4)]) rfl ?_
                    refine m_istore (lv2 := [(4, .int (iI f4)), (1, .int (iI 1)), (3, .int (iI y)), (2, .int (iI x)), (0, .ref h0)]) C dX12_readAll_81 (by decide) rfl ?_
                    refine m_iload (j := 0) C dX12_readAll_83 rfl ?_
                    refine m_if_le (tgt := 91) C ⟨by omega, by omega⟩ dX12_readAll_85 (by decide) (fun c10 => ?_) (fun c10 => ?_)
                    · refine m_iload_n (j := 2) C dX12_readAll_91 rfl ?_
                      refine m_istore_n (lv2 := [(2, .int (iI y)), (4, .int (iI f4)), (1, .int (iI 1)), (3, .int (iI y)), (0, .ref h0)]) C dX12_readAll_92 (by decide) rfl ?_
                      refine m_goto (tgt := 9) C dX12_readAll_93 (by decide) ?_
                      refine m_lv (lv2 := [(2, .int (iI y)), (1, .int (iI 1)), (0, .ref h0)]) [0, 2, 4] rfl ?_
                      exact ih1  1 y _ _ (by omega) bn4 fq5 (by omega) (by omega) ((hW9.run (v3 := v) (a3 := a) (KTA.fr fpb2 rfl) ⟨by omega, by omega, by omega⟩ hy3 hye rx3).1 (by omega))
                    · refine m_iload (j := 0) C dX12_readAll_88 rfl ?_
                      exact m_iret C dX12_readAll_90 rfl (Nat.le_of_ble_eq_true rfl) (Nat.le_of_ble_eq_true rfl) ⟨f4, rfl, fq5, bn4, ⟨(by omega), (hW9.run (KTA.fr fpb2 rfl) ⟨by omega, by omega, by omega⟩ hy3 hye rx3).2 (by omega)⟩⟩
                  · replace hg := (hg.resolve_left c9)
                    refine m_aload_n (j := 3) C dX12_readAll_61 rfl ?_
                    refine m_bipush (z := 32) C dX12_readAll_62 (by decide) ?_
                    refine m_call (mc2 := 0) (ms2 := 0) (As := [.int (iI 32)]) (rest := []) C (E_tell (x := 32) bxb2 (by omega)) dX12_readAll_64 kV_X12_336 rfl ck_13 rfl (Nat.le_of_ble_eq_true rfl) ⟨Nat.le_of_ble_eq_true rfl, Nat.le_of_ble_eq_true rfl⟩ ⟨Nat.le_of_ble_eq_true rfl, Nat.le_of_ble_eq_true rfl⟩ (fun rh5 vh5 ah5 h5 => ?_)
                    obtain ⟨f5, rfl, fn5, bn5, ex5, tx2⟩ := h5
                    refine hv2 (fpb2.call fn5 rfl rfl) (show f5 = 0 ∨ f5 = 1 from ex5) (fun fq6 gf5 => ?_)
                    refine m_st (st2 := [.int (iI f5)]) rfl ?_
                    refine m_if_ne (tgt := 73) C (r32_01 gf5) dX12_readAll_67 (by decide) (fun c11 => ?_) (fun c11 => ?_)
                    · replace gf5 := (gf5.resolve_left c11)
                      have hW9 : RAW v a vh5 ah5 x := hI4.word1 ⟨by omega, by omega⟩ hx0 (by omega) tx2 (by omega)
                      refine m_iconst C dX12_readAll_73 ?_
                      refine m_istore_n (lv2 := [(1, .int (iI 1)), (3, .int (iI y)), (2, .int (iI x)), (0, .ref h0)]) C dX12_readAll_74 (by decide) rfl ?_
                      refine m_aload_n (j := 3) C dX12_readAll_75 rfl ?_
                      refine m_iload_n (j := 2) C dX12_readAll_76 rfl ?_
                      refine m_iload_n (j := 1) C dX12_readAll_77 rfl ?_
                      refine m_call (mc2 := 0) (ms2 := 0) (As := [.int (iI x), .int (iI y)]) (rest := []) C (E_readWord (q := x) (u := y) bn5 (RWS.fr hW fq6 rfl) (by omega)) dX12_readAll_78 kV_X12_339 rfl ck_13 rfl (Nat.le_of_ble_eq_true rfl) ⟨Nat.le_of_ble_eq_true rfl, Nat.le_of_ble_eq_true rfl⟩ ⟨Nat.le_of_ble_eq_true rfl, Nat.le_of_ble_eq_true rfl⟩ (fun rh6 vh6 ah6 h6 => ?_)
                      obtain ⟨f6, rfl, fn6, bn6, ex6, rx4⟩ := h6
                      refine hv2 (fq6.call fn6 rfl rfl) (show f6 = 0 ∨ f6 = 6 ∨ f6 = 9 from ex6) (fun fq7 gf6 => ?_)
                      refine m_st (st2 := [.int (iI f6)]) rfl ?_
                      refine m_istore (lv2 := [(4, .int (iI f6)), (1, .int (iI 1)), (3, .int (iI y)), (2, .int (iI x)), (0, .ref h0)]) C dX12_readAll_81 (by decide) rfl ?_
                      refine m_iload (j := 0) C dX12_readAll_83 rfl ?_
                      refine m_if_le (tgt := 91) C ⟨by omega, by omega⟩ dX12_readAll_85 (by decide) (fun c12 => ?_) (fun c12 => ?_)
                      · refine m_iload_n (j := 2) C dX12_readAll_91 rfl ?_
                        refine m_istore_n (lv2 := [(2, .int (iI y)), (4, .int (iI f6)), (1, .int (iI 1)), (3, .int (iI y)), (0, .ref h0)]) C dX12_readAll_92 (by decide) rfl ?_
                        refine m_goto (tgt := 9) C dX12_readAll_93 (by decide) ?_
                        refine m_lv (lv2 := [(2, .int (iI y)), (1, .int (iI 1)), (0, .ref h0)]) [0, 2, 4] rfl ?_
                        exact ih1  1 y _ _ (by omega) bn6 fq7 (by omega) (by omega) ((hW9.run (v3 := v) (a3 := a) (KTA.fr fq6 rfl) ⟨by omega, by omega, by omega⟩ hy3 hye rx4).1 (by omega))
                      · refine m_iload (j := 0) C dX12_readAll_88 rfl ?_
                        exact m_iret C dX12_readAll_90 rfl (Nat.le_of_ble_eq_true rfl) (Nat.le_of_ble_eq_true rfl) ⟨f6, rfl, fq7, bn6, ⟨(by omega), (hW9.run (KTA.fr fq6 rfl) ⟨by omega, by omega, by omega⟩ hy3 hye rx4).2 (by omega)⟩⟩
                    · clear gf5
                      refine m_bipush (z := 6) C dX12_readAll_70 (by decide) ?_
                      exact m_iret C dX12_readAll_72 rfl (Nat.le_of_ble_eq_true rfl) (Nat.le_of_ble_eq_true rfl) ⟨6, rfl, fq6, bn5, ⟨(by omega), hI4.wov ⟨by omega, by omega⟩ hx0 (by omega) tx2 (by omega)⟩⟩
                · refine m_iinc (z := y) (j := 0) (lv2 := [(3, .int (iI (y + 1))), (2, .int (iI x)), (1, .int (iI g)), (0, .ref h0)]) C dX12_readAll_51 rfl (by decide) rfl ?_
                  refine m_goto (tgt := 34) C dX12_readAll_54 (by decide) ?_
                  refine m_lv (lv2 := [(3, .int (iI (y + 1))), (2, .int (iI x)), (1, .int (iI g)), (0, .ref h0)]) [0, 1, 2, 3] rfl ?_
                  exact ih2  (y + 1) _ _ (by omega) bxb2 fpb2 (by omega) (by omega) (fun j j1 j2 => by
                      by_cases q9 : j < y
                      · exact hy3 j j1 q9
                      · rw [show j = y by omega]; omega) hI4
          refine m_lv (lv2 := [(3, .int (iI x)), (2, .int (iI x)), (1, .int (iI g)), (0, .ref h0)]) [0, 1, 2, 3] rfl ?_
          exact Lp2 40202 x _ _ (by omega) bxb1 fpb1 (by omega) (by omega) (fun j j1 j2 => absurd j1 (by omega)) hI
        · refine m_iinc (z := x) (j := 0) (lv2 := [(2, .int (iI (x + 1))), (1, .int (iI g)), (0, .ref h0)]) C dX12_readAll_26 rfl (by decide) rfl ?_
          refine m_goto (tgt := 9) C dX12_readAll_29 (by decide) ?_
          refine m_lv (lv2 := [(2, .int (iI (x + 1))), (1, .int (iI g)), (0, .ref h0)]) [0, 1, 2] rfl ?_
          exact ih1  g (x + 1) _ _ (by omega) bxb1 fpb1 (by omega) (by omega) (hI.blank ⟨by omega, by omega⟩ (by omega))
  have ra3 : (-2147483648) ≤ a 0 0 ∧ a 0 0 ≤ 2147483647 := bq1.2 0 (0)
  refine m_lv (lv2 := [(2, .int (iI 0)), (1, .int (iI 0)), (0, .ref h0)]) [0, 1, 2] rfl ?_
  exact Lp1 40202 0 0 _ _ (by omega) bq1 fq1 (by omega) (by omega) (RAI.init (by show 0 = 0; omega))
end
section
def rwx (E : List (Option (List Int))) (l : Int) : List Int := match rwe E l with
  | some (some xs) => xs
  | _ => []
def goon (hy : Int) (xs : List Int) : Prop := 0 < xs.length ∧ gd0 xs (xs.length - 1) = hy
def segl (hy : Int) (xs : List Int) : List Int := if 0 < xs.length ∧ gd0 xs (xs.length - 1) = hy then xs.take (xs.length - 1) else xs ++ [0]
def chl (E : List (Option (List Int))) (hy q : Int) : Nat → List Int
  | 0 => []
  | k + 1 => chl E hy q k ++ segl hy (rwx E (q + ((k : Nat) : Int)))
def ROK (E : List (Option (List Int))) (q k : Int) : Prop := ∀ i : Int, 0 ≤ i → i < k → ∃ xs, rwe E (q + i) = some (some xs)
def ROWL (v : Nat → Int) (a : Nat → Nat → Int) (xs : List Int) : Prop := v 50 = ((xs.length : Nat) : Int) ∧ ∀ (j : Nat) (x : Int), xs[j]? = some x → a 48 j = x
def RR0 (xs : List Int) : Nat → Int := fun j => (xs[j]?).getD 0
def RD2 (v : Nat → Int) (a : Nat → Nat → Int) (v1 : Nat → Int) (a1 : Nat → Nat → Int) (q k : Int) : Prop := ∀ E, SHA v a E → ROK E q k ∧ ROWL v1 a1 (chl E (v 33) q k.toNat)
def RD3 (v : Nat → Int) (a : Nat → Nat → Int) (v1 : Nat → Int) (a1 : Nat → Nat → Int) (q k i g : Int) : Prop := ∀ E, SHA v a E → ROK E q k ∧ ∃ xs, rwe E (q + k) = some (some xs) ∧ (g = 1 ↔ goon (v 33) xs) ∧ ROWL v1 a1 (chl E (v 33) q k.toNat ++ xs.take i.toNat)
def OKR (v : Nat → Int) (a : Nat → Nat → Int) (E : List (Option (List Int))) (t q n : Int) : Prop := WHL v a t ∧ 0 ≤ n ∧ ROK E q n
def RDR (v : Nat → Int) (a : Nat → Nat → Int) (v2 : Nat → Int) (a2 : Nat → Nat → Int) (t q n f : Int) : Prop := ∀ E, SHA v a E → (¬ OKR v a E t q n ∧ f = -1 ∧ v2 52 = v 52 ∧ a2 51 = a 51) ∨ (OKR v a E t q n ∧ (NZL a (gat0 a t) → NZL a (gat1 a t) → ∃ bs, RDA a (gat0 a t) (gat1 a t) (RR0 (chl E (v 33) q n.toNat)) f bs ∧ OUTL v2 a2 bs))
section RRD5
variable {v v1 v2 v3 : Nat → Int} {a a1 a2 a3 : Nat → Nat → Int} {E : List (Option (List Int))} {l l0 l1 xs ys bs : List Int} {R : Nat → Int} {x y g f w q k i t n z r d h : Int}
theorem ROWL.nil (h : v 50 = 0) : ROWL v a [] := ⟨h, fun j x e => by simp at e⟩
theorem ROWL.snoc (h : ROWL v a xs) (h50 : v2 50 = v 50 + 1) (h48 : a2 48 = va_up (a 48) (v 50).toNat x) : ROWL v2 a2 (xs ++ [x]) := by
  have e := h.1
  refine ⟨by rw [len1]; omega, fun j y ej => ?_⟩
  rw [h48]
  rcases ap1 ej with ⟨c, ej⟩ | ⟨c, ej⟩
  · rw [va_up_ne _ _ (by omega)]
    exact h.2 j y ej
  · rw [show j = (v 50).toNat by omega, va_up_self]
    exact ej
theorem RD2.init (h : v1 50 = 0) : RD2 v a v1 a1 q 0 := fun E _ => ⟨fun i h1 h2 => absurd h1 (by omega), ROWL.nil h⟩
theorem RD2.bad (h : RD2 v a v1 a1 q k) (hk : 0 ≤ k ∧ k < n) (hl : ¬ (0 ≤ q + k ∧ q + k < v 36) ∨ ((0 ≤ q + k ∧ q + k < v 36) ∧ a 34 (q + k).toNat < 0)) (hf : f = -1) (h52 : v2 52 = v 52 ∧ a2 51 = a 51) : RDR v a v2 a2 t q n f := fun E hE => Or.inl ⟨fun w => by
  obtain ⟨xs, e⟩ := w.2.2 k hk.1 hk.2
  exact hE.fault hl ⟨xs, e⟩, hf, h52.1, h52.2⟩
theorem RDR.nw (hw : ¬ WHL v a t ∨ n < 0) (hf : f = -1) (h52 : v2 52 = v 52 ∧ a2 51 = a 51) : RDR v a v2 a2 t q n f := fun E hE => Or.inl ⟨fun w => by
  rcases hw with hw | hw
  · exact hw w.1
  · have := w.2.1
    omega, hf, h52.1, h52.2⟩
theorem RD2.line (h : RD2 v a v1 a1 q k) (h0 : 0 ≤ q + k ∧ q + k < v 36) (h34 : 0 ≤ a 34 (q + k).toNat) (hg : (g = 1 ∧ 0 < a 34 (q + k).toNat ∧ a 35 (200 * (q + k) + a 34 (q + k).toNat - 1).toNat = v 33) ∨ (g = 0 ∧ ¬ (0 < a 34 (q + k).toNat ∧ a 35 (200 * (q + k) + a 34 (q + k).toNat - 1).toNat = v 33))) : RD3 v a v1 a1 q k 0 g := fun E hE => by
  obtain ⟨c1, c2⟩ := h E hE
  obtain ⟨xs, e1, e2, e3⟩ := hE.have_ h0.1 h0.2 h34
  refine ⟨c1, xs, e1, ?_, ?_⟩
  · unfold goon
    by_cases c : 0 < xs.length
    · have e4 := e3 (xs.length - 1) (by omega)
      rw [show 200 * (q + k).toNat + (xs.length - 1) = (200 * (q + k) + a 34 (q + k).toNat - 1).toNat by omega] at e4
      rw [← e4]
      constructor
      · intro e5
        rcases hg with ⟨_, _, g3⟩ | ⟨g1, _⟩
        · exact ⟨c, g3⟩
        · omega
      · intro e5
        rcases hg with ⟨g1, _⟩ | ⟨_, g2⟩
        · exact g1
        · exact absurd ⟨by omega, e5.2⟩ g2
    · constructor
      · intro e5
        omega
      · intro e5
        exact absurd e5.1 c
  · show ROWL v1 a1 (chl E (v 33) q k.toNat ++ [])
    rw [List.append_nil]
    exact c2
theorem RD3.cell (h : RD3 v a v1 a1 q k i g) (h0 : 0 ≤ q + k ∧ q + k < v 36) (hi : 0 ≤ i ∧ i < a 34 (q + k).toNat) (hz : z = a 35 (200 * (q + k) + i).toNat) (h50 : v2 50 = v1 50 + 1) (h48 : a2 48 = va_up (a1 48) (v1 50).toNat z) : RD3 v a v2 a2 q k (i + 1) g := fun E hE => by
  obtain ⟨c1, xs, e1, e2, e3⟩ := h E hE
  obtain ⟨ys, d1, d2, d3⟩ := hE.have_ h0.1 h0.2 (by omega)
  rw [e1] at d1
  cases d1
  refine ⟨c1, xs, e1, e2, ?_⟩
  have w := e3.snoc h50 h48
  have lt : i.toNat < xs.length := by omega
  have e4 : xs.take (i + 1).toNat = xs.take i.toNat ++ [z] := by
    have e5 := d3 i.toNat lt
    rw [show 200 * (q + k).toNat + i.toNat = (200 * (q + k) + i).toNat by omega, ← hz] at e5
    have e6 : gd0 xs i.toNat = xs[i.toNat] := by
      unfold gd0
      rw [List.getElem?_eq_getElem lt]
      rfl
    rw [show (i + 1).toNat = i.toNat + 1 by omega, List.take_succ_eq_append_getElem lt, e5, e6]
  rw [e4, ← List.append_assoc]
  exact w
theorem rwx_of (e : rwe E y = some (some xs)) : rwx E y = xs := by
  unfold rwx
  rw [e]
theorem RD3.endg (h : RD3 v a v1 a1 q k i g) (h0 : 0 ≤ q + k ∧ q + k < v 36) (hk : 0 ≤ k) (hg : g = 1) (hi : i = a 34 (q + k).toNat - 1) : RD2 v a v1 a1 q (k + 1) := fun E hE => by
  obtain ⟨c1, xs, e1, e2, e3⟩ := h E hE
  have ln : a 34 (q + k).toNat = ((xs.length : Nat) : Int) := by
    obtain ⟨y, y1, y2⟩ := hE.on h0.1 h0.2
    rw [e1] at y1
    cases y1
    rcases y2 with ⟨y2, _⟩ | ⟨ys, y2, y3, _⟩
    · cases y2
    · cases y2
      exact y3
  refine ⟨fun j h1 h2 => ?_, ?_⟩
  · by_cases c : j < k
    · exact c1 j h1 c
    · rw [show j = k by omega]
      exact ⟨xs, e1⟩
  · rw [show (k + 1).toNat = k.toNat + 1 by omega]
    show ROWL v1 a1 (chl E (v 33) q k.toNat ++ segl (v 33) (rwx E (q + ((k.toNat : Nat) : Int))))
    rw [show ((k.toNat : Nat) : Int) = k by omega, rwx_of e1]
    unfold segl
    rw [if_pos (show 0 < xs.length ∧ gd0 xs (xs.length - 1) = v 33 from e2.mp hg)]
    rw [show i.toNat = xs.length - 1 by omega] at e3
    exact e3
theorem RD3.endb (h : RD3 v a v1 a1 q k i g) (h0 : 0 ≤ q + k ∧ q + k < v 36) (hk : 0 ≤ k) (hg : g ≠ 1) (hi : i = a 34 (q + k).toNat) (h50 : v2 50 = v1 50 + 1) (h48 : a2 48 = va_up (a1 48) (v1 50).toNat 0) : RD2 v a v2 a2 q (k + 1) := fun E hE => by
  obtain ⟨c1, xs, e1, e2, e3⟩ := h E hE
  have ln : a 34 (q + k).toNat = ((xs.length : Nat) : Int) := by
    obtain ⟨y, y1, y2⟩ := hE.on h0.1 h0.2
    rw [e1] at y1
    cases y1
    rcases y2 with ⟨y2, _⟩ | ⟨ys, y2, y3, _⟩
    · cases y2
    · cases y2
      exact y3
  refine ⟨fun j h1 h2 => ?_, ?_⟩
  · by_cases c : j < k
    · exact c1 j h1 c
    · rw [show j = k by omega]
      exact ⟨xs, e1⟩
  · rw [show (k + 1).toNat = k.toNat + 1 by omega]
    show ROWL v2 a2 (chl E (v 33) q k.toNat ++ segl (v 33) (rwx E (q + ((k.toNat : Nat) : Int))))
    rw [show ((k.toNat : Nat) : Int) = k by omega, rwx_of e1]
    unfold segl
    rw [if_neg (show ¬ (0 < xs.length ∧ gd0 xs (xs.length - 1) = v 33) from fun c => hg (e2.mpr c)), ← List.append_assoc]
    rw [show i.toNat = xs.length by omega, List.take_length] at e3
    exact e3.snoc h50 h48
theorem rwl_rng : ∀ (n : Nat) (x : Int) (j : Nat) (d : Int), 0 ≤ x → (rng n x)[j]? = some d → 0 ≤ d := by
  intro n
  induction n with
  | zero => intro x j d _ e; simp [rng] at e
  | succ n ih =>
    intro x j d hx e
    cases j with
    | zero =>
      have e2 : some x = some d := e
      cases e2
      exact hx
    | succ j => exact ih (x + 1) j d (by omega) e
theorem rwl_pos {r b : Nat → Int} : ∀ (n : Nat) (t : Int) (j : Nat) (d : Int), (rwl r b n t)[j]? = some d → 0 ≤ d := by
  intro n
  induction n with
  | zero => intro t j d e; simp [rwl] at e
  | succ n ih =>
    intro t j d e
    rw [rwl_s] at e
    by_cases c : 0 ≤ t
    · rw [if_pos c] at e
      by_cases c2 : j < (rng (r t.toNat).toNat (200 * t)).length
      · rw [List.getElem?_append_left c2] at e
        exact rwl_rng _ _ _ _ (by omega) e
      · rw [List.getElem?_append_right (by omega)] at e
        exact ih _ _ _ e
    · rw [if_neg c] at e
      simp at e
theorem indl_rol {I : Int} {j : Nat} (hI : 0 ≤ I) (e : (indl a I)[j]? = some d) : rol d = I % 4 := by
  unfold indl at e
  split at e
  · cases j with
    | zero =>
      have e2 : some (-1 - I) = some d := e
      cases e2
      unfold rol
      rw [if_neg (by omega)]
      omega
    | succ j => simp at e
  · simp at e
theorem app_or {α : Type} {A B : List α} {j : Nat} {m : α} (e : (A ++ B)[j]? = some m) : (∃ i : Nat, A[i]? = some m) ∨ ∃ i : Nat, B[i]? = some m := by
  by_cases c : j < A.length
  · rw [List.getElem?_append_left c] at e
    exact Or.inl ⟨j, e⟩
  · rw [List.getElem?_append_right (by omega)] at e
    exact Or.inr ⟨_, e⟩
theorem rws1_rol {j : Nat} (ht : 0 ≤ t) (e : (rws1 a t)[j]? = some d) : rol d = 4 ∨ rol d = 0 ∨ rol d = 1 := by
  unfold rws1 at e
  rcases app_or e with ⟨i, e⟩ | ⟨i, e⟩
  · rcases app_or e with ⟨i, e⟩ | ⟨i, e⟩
    · have := rwl_pos _ _ _ _ e
      exact Or.inl (if_pos this)
    · have := indl_rol (by omega) e
      omega
  · have := indl_rol (by omega) e
    omega
theorem gat0_rol {j : Nat} (ht : 0 ≤ t) (h8 : a 6 t.toNat = 5 → 0 ≤ a 8 t.toNat) (e : (gat0 a t)[j]? = some d) : rol d ≠ 3 := by
  unfold gat0 at e
  by_cases c : a 6 t.toNat = 5
  · rw [if_pos c] at e
    rcases app_or e with ⟨i, e⟩ | ⟨i, e⟩
    · have := rws1_rol (h8 c) e
      omega
    · have := indl_rol (by omega) e
      omega
  · rw [if_neg c] at e
    have := rws1_rol ht e
    omega
theorem gat1_rol {j : Nat} (ht : 0 ≤ t) (h9 : a 6 t.toNat = 5 → 0 ≤ a 9 t.toNat) (e : (gat1 a t)[j]? = some d) : rol d ≠ 2 := by
  unfold gat1 at e
  by_cases c : a 6 t.toNat = 5
  · rw [if_pos c] at e
    rcases app_or e with ⟨i, e⟩ | ⟨i, e⟩
    · have := rws1_rol (h9 c) e
      omega
    · have := indl_rol (by omega) e
      omega
  · rw [if_neg c] at e
    simp at e
theorem gat_cg (h6 : a1 6 = a 6) (h8 : a1 8 = a 8) (h9 : a1 9 = a 9) (h10 : a1 10 = a 10) (h16 : a1 16 = a 16) : gat0 a1 t = gat0 a t ∧ gat1 a1 t = gat1 a t := by
  have i1 : ∀ I, indl a1 I = indl a I := fun I => by unfold indl; rw [h16]
  have r1 : ∀ t, rws1 a1 t = rws1 a t := fun t => by unfold rws1 RWL; rw [i1, i1, h10, h8]
  refine ⟨?_, ?_⟩
  · unfold gat0
    rw [h6, h8, r1, r1, i1]
  · unfold gat1
    rw [h6, h9, r1, i1]
theorem RDR.fin {V A A3 : List Nat} {v4 : Nat → Int} {a4 : Nat → Nat → Int} (hT : TBL v a) (h2 : RD2 v a v1 a1 q n) (hw : WHL v a t) (hn : 0 ≤ n) (hf1 : fr V A v a v1 a1) (cA : ([6, 8, 9, 10, 12, 13, 14, 15, 16, 17] : List Nat).all (fun k => !A.contains k) = true) (hG : GAT a1 a3 t) (hf3 : fr [] A3 v1 a1 v3 a3) (c3 : ([12, 13, 14, 15, 16, 17, 48] : List Nat).all (fun k => !A3.contains k) = true) (hx : RAX v3 a3 v4 a4 z) (h5 : (z = 0 ∧ f = v4 52 ∧ v4 52 ≤ 4000 ∧ v2 52 = v4 52 ∧ a2 51 = a4 51) ∨ (z ≠ 0 ∧ f = -1 ∧ v2 52 = 0)) : RDR v a v2 a2 t q n f := fun E hE => by
  obtain ⟨ok, rl⟩ := h2 E hE
  refine Or.inr ⟨⟨hw, hn, ok⟩, fun nz0 nz1 => ?_⟩
  have k1 : ∀ j, ([6, 8, 9, 10, 12, 13, 14, 15, 16, 17] : List Nat).contains j = true → a1 j = a j := fun j hj => hf1.2 j (by
    have w := List.all_eq_true.mp cA j (List.contains_iff_mem.mp hj)
    simpa using w)
  have k3 : ∀ j, ([12, 13, 14, 15, 16, 17, 48] : List Nat).contains j = true → a3 j = a1 j := fun j hj => hf3.2 j (by
    have w := List.all_eq_true.mp c3 j (List.contains_iff_mem.mp hj)
    simpa using w)
  refine hv7 ((k3 12 rfl).trans (k1 12 rfl)) ((k3 13 rfl).trans (k1 13 rfl)) ((k3 14 rfl).trans (k1 14 rfl)) ((k3 15 rfl).trans (k1 15 rfl)) ((k3 16 rfl).trans (k1 16 rfl)) ((k3 17 rfl).trans (k1 17 rfl)) (gat_cg (t := t) (k1 6 rfl) (k1 8 rfl) (k1 9 rfl) (k1 10 rfl) (k1 16 rfl)) (fun e12 e13 e14 e15 e16 e17 gc => ?_)
  obtain ⟨g0, g1⟩ := hG
  rw [gc.1] at g0
  rw [gc.2] at g1
  have wt := WHL.tr hw
  have tt := hT.1 t wt.1 wt.2.1
  have nz : ∀ l, NZL a l → NZL a3 l := fun l hl j d hd => by
    rw [rlen_cg e13 e16]
    exact ⟨(hl j d hd).1, fun k c1 c2 => by rw [dcl_cg e15 e17]; exact (hl j d hd).2 k c1 c2⟩
  have v50 : v3 50 = v1 50 := hf3.1 50 rfl
  have rac : RAC v3 a3 (gat0 a t) (gat1 a t) (RR0 (chl E (v 33) q n.toNat)) := by
    refine ⟨⟨g0.cg (k3 13 rfl) (k3 16 rfl), g1.cg (k3 13 rfl) (k3 16 rfl)⟩, ⟨nz _ nz0, nz _ nz1⟩, ⟨fun j d e => gat0_rol wt.1 (fun c => by omega) e, fun j d e => gat1_rol wt.1 (fun c => by omega) e⟩, fun j => ⟨fun hj => ?_, fun hj => ?_⟩⟩
    · have e := rl.1
      have lt : j < (chl E (v 33) q n.toNat).length := by omega
      have e2 := List.getElem?_eq_getElem lt
      unfold RR0
      rw [e2, k3 48 rfl, rl.2 j _ e2]
      rfl
    · have e := rl.1
      unfold RR0
      rw [List.getElem?_eq_none (by omega)]
      rfl
  rcases hx _ _ _ rac with ⟨z0, bs, w1, w2⟩ | ⟨z0, w1⟩
  · rcases h5 with ⟨_, p2, p3, p4, p5⟩ | ⟨p1, _⟩
    · have e := w2.1
      exact ⟨bs, Or.inl ⟨RFN_cg e12 e13 e14 e15 e16 e17 w1, by omega, by omega⟩, w2.fr p4 p5⟩
    · exact absurd z0 p1
  · rcases h5 with ⟨p1, _⟩ | ⟨_, p2, p3⟩
    · exact absurd p1 z0
    · refine ⟨[], Or.inr ⟨?_, p2, rfl⟩, p3, fun j x e => by simp at e⟩
      rcases w1 with w1 | w1
      · exact Or.inl (RWG_cg e12 e13 e14 e15 e16 e17 w1)
      · exact Or.inr (ROV_cg e12 e13 e14 e15 e16 e17 w1)
end RRD5
set_option maxHeartbeats 4000000 in
set_option maxRecDepth 100000 in
theorem E_putRow {l : Launch} {G : GT} {h0 : Nat} {ad ln : Nat → Nat} {v : Nat → Int} {a : Nat → Nat → Int}  {x y : Int} (hB : BX v a) (hx : -2147483648 ≤ x ∧ x ≤ 2147483647) (hy : -2147483648 ≤ y ∧ y ≤ 2147483647) (h50 : v 50 < 40200) : Mm l G yX12_putRow cX12_putRow 3 none 0 [.int (iI x), .int (iI y)] h0 ad ln v a 0 0 (fun r v2 a2 => r = none ∧ fr [50] [48, 49] v a v2 a2 ∧ BX v2 a2 ∧ ((v2 50 = v 50 + 1) ∧ a2 48 = va_up (a 48) (v 50).toNat x)) := by
  refine Mm.mk (by decide) (Nat.le_of_ble_eq_true rfl) ?_
  intro p e s m args below meth c A C
  have fp0 : fr [50] [48, 49] v a v a := fr.refl
  refine m_aload_n (j := 0) C dX12_putRow_0 rfl ?_
  refine m_geta (k := 48) C dX12_putRow_1 w6_107 (by decide) rfl ?_
  refine m_aload_n (j := 0) C dX12_putRow_4 rfl ?_
  have rv1 : 0 ≤ v 50 ∧ v 50 ≤ 40200 := hB.1 50
  refine m_get (k := 50) C dX12_putRow_5 w6_109 (by decide) rfl ?_
  refine m_iload_n (j := 1) C dX12_putRow_8 rfl ?_
  refine m_ast (k := 48) C dX12_putRow_9 rfl rfl (by decide) (by omega) (by show _ < ((_ : Nat) : Int); simp only [mlen]; omega) (by decide) ?_
  refine hv2 (show BX v (up2 a 48 (v 50).toNat x) from hB.set (k := 48) (i := (v 50).toNat) (z := x) (show (-2147483648) ≤ x ∧ x ≤ 2147483647 by omega)) (fp0.set (k := 48) (i := (v 50).toNat) (z := x) rfl) (fun bq1 fq1 => ?_)
  refine m_aload_n (j := 0) C dX12_putRow_10 rfl ?_
  refine m_geta (k := 49) C dX12_putRow_11 w6_108 (by decide) rfl ?_
  refine m_aload_n (j := 0) C dX12_putRow_14 rfl ?_
  refine m_get (k := 50) C dX12_putRow_15 w6_109 (by decide) rfl ?_
  refine m_iload_n (j := 2) C dX12_putRow_18 rfl ?_
  refine m_ast (k := 49) C dX12_putRow_19 rfl rfl (by decide) (by omega) (by show _ < ((_ : Nat) : Int); simp only [mlen]; omega) (by decide) ?_
  refine hv2 (show BX v (up2 (up2 a 48 (v 50).toNat x) 49 (v 50).toNat y) from bq1.set (k := 49) (i := (v 50).toNat) (z := y) (show (-2147483648) ≤ y ∧ y ≤ 2147483647 by omega)) (fq1.set (k := 49) (i := (v 50).toNat) (z := y) rfl) (fun bq2 fq2 => ?_)
  refine m_aload_n (j := 0) C dX12_putRow_20 rfl ?_
  refine m_dup C dX12_putRow_21 rfl ?_
  refine m_get (k := 50) C dX12_putRow_22 w6_109 (by decide) rfl ?_
  refine m_iconst C dX12_putRow_25 ?_
  refine m_iadd C dX12_putRow_26 ?_
  refine m_put (k := 50) (z := (v 50) + 1) C dX12_putRow_27 w6_109 (by decide) rfl rfl rfl ?_
  refine hv2 (show BX (va_up v 50 ((v 50) + 1)) (up2 (up2 a 48 (v 50).toNat x) 49 (v 50).toNat y) from bq2.put (k := 50) (z := (v 50) + 1) (show 0 ≤ ((v 50) + 1) ∧ ((v 50) + 1) ≤ 40200 by omega)) (fq2.put (k := 50) (z := (v 50) + 1) rfl) (fun bq3 fq3 => ?_)
  exact m_vret C dX12_putRow_30 rfl (Nat.le_of_ble_eq_true rfl) (Nat.le_of_ble_eq_true rfl) ⟨rfl, fq3, bq3, ⟨rfl, rfl⟩⟩
set_option maxHeartbeats 4000000 in
set_option maxRecDepth 100000 in
theorem N2_read {l : Launch} {G : GT} {h0 : Nat} {ad ln : Nat → Nat} {v : Nat → Int} {a : Nat → Nat → Int}  {t q n1 : Int} (hB : BX v a) (hT : TBL v a) (hW : RWS a) (ht : -2147483648 ≤ t ∧ t ≤ 2147483647) (hq : -2147483648 ≤ q ∧ q ≤ 2147483647) (hn1 : -2147483648 ≤ n1 ∧ n1 ≤ 2147483647) : Mm l G yX12_read cX12_read 11 (some .int) 36 [.int (iI t), .int (iI q), .int (iI n1)] h0 ad ln v a 0 0 (fun r v2 a2 => ∃ f : Int, r = some (.int (iI f)) ∧ fr [0, 1, 50, 52, 53] [44, 45, 46, 47, 48, 49, 51] v a v2 a2 ∧ BX v2 a2 ∧ (RWS a2 ∧ RDR v a v2 a2 t q n1 f)) := by
  refine Mm.mk (by decide) (Nat.le_of_ble_eq_true rfl) ?_
  intro p e s m args below meth c A C
  refine hv3 (show 0 ≤ v 4 ∧ v 4 ≤ 30 from hB.1 4) (show 0 ≤ v 36 ∧ v 36 ≤ 200 from hB.1 36) (show fr [0, 1, 50, 52, 53] [44, 45, 46, 47, 48, 49, 51] v a v a from fr.refl) (fun h30 r36 fp0 => ?_)
  refine m_aload_n (j := 0) C dX12_read_0 rfl ?_
  refine m_iload_n (j := 1) C dX12_read_1 rfl ?_
  have rv1 : 0 ≤ v 4 ∧ v 4 ≤ 30 := hB.1 4
  refine m_call (mc2 := 0) (ms2 := 0) (As := [.int (iI t)]) (rest := []) C (E_isWhole (t := t) hB (hT.fr fp0 rfl rfl) (by show -2147483648 ≤ t ∧ t ≤ 2147483647; omega)) dX12_read_2 kV_X12_171 rfl ck_13 rfl (Nat.le_of_ble_eq_true rfl) ⟨Nat.le_of_ble_eq_true rfl, Nat.le_of_ble_eq_true rfl⟩ ⟨Nat.le_of_ble_eq_true rfl, Nat.le_of_ble_eq_true rfl⟩ (fun rh1 vh1 ah1 h1 => ?_)
  obtain ⟨f1, rfl, fn1, bn1, ex1⟩ := h1
  obtain ⟨rfl, rfl⟩ := fn1.eq
  obtain ⟨ex1, tl1⟩ := ex1
  have gf1 : f1 = 0 ∨ (f1 = 1 ∧ 0 ≤ t ∧ t < (v 4)) := ex1
  refine m_st (st2 := [.int (iI f1)]) rfl ?_
  refine m_if_ne (tgt := 14) C (r32_0p gf1) dX12_read_5 (by decide) (fun c1 => ?_) (fun c1 => ?_)
  · replace gf1 := (gf1.resolve_left c1)
    refine m_iload_n (j := 3) C dX12_read_14 rfl ?_
    refine m_if_ge (tgt := 24) C ⟨by omega, by omega⟩ dX12_read_15 (by decide) (fun c2 => ?_) (fun c2 => ?_)
    · refine m_aload_n (j := 0) C dX12_read_24 rfl ?_
      refine m_iconst C dX12_read_25 ?_
      refine m_put (k := 50) (z := 0) C dX12_read_26 w6_109 (by decide) rfl rfl rfl ?_
      refine hv2 (show BX (va_up v 50 0) a from hB.put (k := 50) (z := 0) ⟨by decide, by decide⟩) (fp0.put (k := 50) (z := 0) rfl) (fun bq1 fq2 => ?_)
      refine m_iconst C dX12_read_29 ?_
      refine m_istore (lv2 := [(4, .int (iI 0)), (0, .ref h0), (1, .int (iI t)), (2, .int (iI q)), (3, .int (iI n1))]) C dX12_read_30 (by decide) rfl ?_
      have Lp1 : ∀ (nn : Nat) (k : Int) (vb1 : Nat → Int) (ab1 : Nat → Nat → Int), 201 - k < (nn : Int) → BX vb1 ab1 → fr [0, 1, 50, 52, 53] [44, 45, 46, 47, 48, 49, 51] v a vb1 ab1 → (0 ≤ k ∧ k ≤ n1) → (k = 0 ∨ (0 ≤ q ∧ q + k ≤ v 36)) → (vb1 50 ≤ 201 * k) → (RWS ab1) → (RD2 v a vb1 ab1 q k) → (vb1 52 = v 52 ∧ ab1 51 = a 51) → mw p l e (rmq 36 0 0) s m args below meth c G A 11 (MQ below (Qm G A (fun rq Lq Eq => ∃ (vq : Nat → Int) (aq : Nat → Nat → Int), mI G h0 ad ln vq aq Lq Eq ∧ (fun r v2 a2 => ∃ f : Int, r = some (.int (iI f)) ∧ fr [0, 1, 50, 52, 53] [44, 45, 46, 47, 48, 49, 51] v a v2 a2 ∧ BX v2 a2 ∧ (RWS a2 ∧ RDR v a v2 a2 t q n1 f)) rq vq aq)) args s 0 0 A) h0 ad ln vb1 ab1 0 0 32 [(4, .int (iI k)), (0, .ref h0), (1, .int (iI t)), (2, .int (iI q)), (3, .int (iI n1))] [] := by
        intro nn
        induction nn with
        | zero =>
          intro k vb1 ab1 hm bxb1 fpb1 hk hk2 h50 hW1 hD2 hK32
          exact absurd hm (by omega)
        | succ nn ih1 =>
          intro k vb1 ab1 hm bxb1 fpb1 hk hk2 h50 hW1 hD2 hK32
          refine m_iload (j := 0) C dX12_read_32 rfl ?_
          refine m_iload_n (j := 4) C dX12_read_34 rfl ?_
          refine m_icmp_ge (tgt := 209) C ⟨by omega, by omega⟩ ⟨by omega, by omega⟩ dX12_read_35 (by decide) (fun c3 => ?_) (fun c3 => ?_)
          · refine m_aload_n (j := 1) C dX12_read_209 rfl ?_
            refine m_iload_n (j := 2) C dX12_read_210 rfl ?_
            refine hv2 (show 0 ≤ vb1 4 ∧ vb1 4 ≤ 30 from bxb1.1 4) (show vb1 4 = v 4 from fpb1.1 4 rfl) (fun rv2 ve1 => ?_)
            refine m_call (mc2 := 0) (ms2 := 0) (As := [.int (iI t)]) (rest := []) C (E_gather (t := t) bxb1 hW1 (hT.fr fpb1 rfl rfl) (by show 0 ≤ t ∧ t < (vb1 4); omega)) dX12_read_211 kV_X12_354 rfl ck_13 rfl (Nat.le_of_ble_eq_true rfl) ⟨Nat.le_of_ble_eq_true rfl, Nat.le_of_ble_eq_true rfl⟩ ⟨Nat.le_of_ble_eq_true rfl, Nat.le_of_ble_eq_true rfl⟩ (fun rh2 vh2 ah2 h2 => ?_)
            obtain ⟨rfl, fn2, bn2, ex2⟩ := h2
            have fq3 := fpb1.call fn2 rfl rfl
            obtain ⟨pw1, ex2⟩ := ex2
            have tl2 := ex2
            refine m_st (st2 := []) rfl ?_
            refine m_aload_n (j := 1) C dX12_read_214 rfl ?_
            refine m_call (mc2 := 0) (ms2 := 0) (As := []) (rest := []) C (E_readAll bn2 pw1) dX12_read_215 kV_X12_357 rfl ck_13 rfl (Nat.le_of_ble_eq_true rfl) ⟨Nat.le_of_ble_eq_true rfl, Nat.le_of_ble_eq_true rfl⟩ ⟨Nat.le_of_ble_eq_true rfl, Nat.le_of_ble_eq_true rfl⟩ (fun rh3 vh3 ah3 h3 => ?_)
            obtain ⟨f3, rfl, fn3, bn3, ex3, rx1⟩ := h3
            refine hv3 (fq3.call fn3 rfl rfl) (show RWS ah3 from RWS.fr pw1 fn3 rfl) (show f3 = 0 ∨ f3 = 6 ∨ f3 = 9 from ex3) (fun fq4 pw2 gf3 => ?_)
            refine m_st (st2 := [.int (iI f3)]) rfl ?_
            refine m_istore (lv2 := [(4, .int (iI f3)), (0, .ref h0), (1, .int (iI t)), (2, .int (iI q)), (3, .int (iI n1))]) C dX12_read_218 (by decide) rfl ?_
            refine m_iload (j := 0) C dX12_read_220 rfl ?_
            refine m_if_ne (tgt := 234) C ⟨by omega, by omega⟩ dX12_read_222 (by decide) (fun c4 => ?_) (fun c4 => ?_)
            · replace gf3 := (gf3.resolve_left c4)
              refine m_aload_n (j := 1) C dX12_read_234 rfl ?_
              refine m_iconst C dX12_read_235 ?_
              refine m_put (k := 52) (z := 0) C dX12_read_236 w6_111 (by decide) rfl rfl rfl ?_
              refine hv2 (show BX (va_up vh3 52 0) ah3 from bn3.put (k := 52) (z := 0) ⟨by decide, by decide⟩) (fq4.put (k := 52) (z := 0) rfl) (fun bq2 fq5 => ?_)
              refine m_aload_n (j := 1) C dX12_read_239 rfl ?_
              have rv3 : 0 ≤ vh3 53 ∧ vh3 53 ≤ 40200 := bq2.1 53
              refine m_get (k := 53) C dX12_read_240 w6_112 (by decide) rfl ?_
              refine m_st (st2 := [.int (iI (vh3 53))]) rfl ?_
              refine m_aload_n (j := 1) C dX12_read_243 rfl ?_
              refine hv3 (show 0 ≤ vh3 50 ∧ vh3 50 ≤ 40200 from bq2.1 50) (show vh3 50 = vh2 50 from fn3.1 50 rfl) (show vh2 50 = vb1 50 from fn2.1 50 rfl) (fun rv4 ve2 ve3 => ?_)
              refine m_get (k := 50) C dX12_read_244 w6_109 (by decide) rfl ?_
              refine m_st (st2 := [.int (iI (vh3 50)), .int (iI (vh3 53))]) rfl ?_
              refine m_icmp_ge (tgt := 274) C (r32_c (lo := 0) (hi := 40200) rv3.1 rv3.2 (by decide) (by decide)) (r32_c (lo := 0) (hi := 40200) rv4.1 rv4.2 (by decide) (by decide)) dX12_read_247 (by decide) (fun c5 => ?_) (fun c5 => ?_)
              · refine m_aload_n (j := 1) C dX12_read_274 rfl ?_
                refine m_get (k := 53) C dX12_read_275 w6_112 (by decide) rfl ?_
                refine m_st (st2 := [.int (iI (vh3 53))]) rfl ?_
                refine m_if_le (tgt := 297) C (r32_c (lo := 0) (hi := 40200) rv3.1 rv3.2 (by decide) (by decide)) dX12_read_278 (by decide) (fun c6 => ?_) (fun c6 => ?_)
                · refine m_iconst C dX12_read_297 ?_
                  obtain ⟨zz1, hzz1, ezz1⟩ := iI_of (iI 0)
                  refine m_st (st2 := [.int (iI zz1)]) (by rw [ezz1]) ?_
                  refine m_istore (lv2 := [(5, .int (iI zz1)), (4, .int (iI f3)), (0, .ref h0), (1, .int (iI t)), (2, .int (iI q)), (3, .int (iI n1))]) C dX12_read_298 (by decide) rfl ?_
                  refine m_aload_n (j := 2) C dX12_read_300 rfl ?_
                  refine m_iload (j := 1) C dX12_read_301 rfl ?_
                  refine m_iload (j := 0) C dX12_read_303 rfl ?_
                  refine m_call (mc2 := 0) (ms2 := 0) (As := [.int (iI f3), .int (iI zz1)]) (rest := []) C (B_badAt (x := f3) (y := zz1) bq2 (by show -2147483648 ≤ f3 ∧ f3 ≤ 2147483647; omega) (by show -2147483648 ≤ zz1 ∧ zz1 ≤ 2147483647; omega)) dX12_read_305 kV_X12_240 rfl ck_13 rfl (Nat.le_of_ble_eq_true rfl) ⟨Nat.le_of_ble_eq_true rfl, Nat.le_of_ble_eq_true rfl⟩ ⟨Nat.le_of_ble_eq_true rfl, Nat.le_of_ble_eq_true rfl⟩ (fun rh4 vh4 ah4 h4 => ?_)
                  obtain ⟨f4, rfl, fn4, bn4, ex4⟩ := h4
                  refine hv3 (fq5.call fn4 rfl rfl) (show RWS ah4 from RWS.fr pw2 fn4 rfl) (show f4 = -1 from ex4) (fun fq6 pw3 gf4 => ?_)
                  refine m_st (st2 := [.int (iI f4)]) rfl ?_
                  refine hv2 (show 0 ≤ vh4 52 ∧ vh4 52 ≤ 4000 from bn4.1 52) (show vh4 52 = 0 from fn4.1 52 rfl) (fun rv5 ve4 => ?_)
                  exact m_iret C dX12_read_308 rfl (Nat.le_of_ble_eq_true rfl) (Nat.le_of_ble_eq_true rfl) ⟨f4, rfl, fq6, bn4, ⟨pw3, RDR.fin hT (by
                      have en : k = n1 := by omega
                      subst en
                      exact hD2) (tl1.mp (by omega)) (by omega) fpb1 rfl tl2 fn2 rfl rx1 (Or.inr ⟨by omega, by omega, by show (vh4 52) = 0; omega⟩)⟩⟩
                · refine m_aload_n (j := 1) C dX12_read_281 rfl ?_
                  refine m_geta (k := 49) C dX12_read_282 w6_108 (by decide) rfl ?_
                  refine m_aload_n (j := 1) C dX12_read_285 rfl ?_
                  refine m_get (k := 53) C dX12_read_286 w6_112 (by decide) rfl ?_
                  refine m_st (st2 := [.int (iI (vh3 53)), .ref (ad 49)]) rfl ?_
                  refine m_iconst C dX12_read_289 ?_
                  refine m_isub C dX12_read_290 ?_
                  refine m_ald (k := 49) C dX12_read_291 rfl rfl (by decide) (by omega) (by show _ < ((_ : Nat) : Int); simp only [mlen]; omega) (by decide) ?_
                  refine hv3 (show (-2147483648) ≤ ah3 49 ((vh3 53) - 1).toNat ∧ ah3 49 ((vh3 53) - 1).toNat ≤ 2147483647 from bq2.2 49 (((vh3 53) - 1).toNat)) (show ah3 49 (((vh3 53) - 1).toNat) = ah2 49 (((vh3 53) - 1).toNat) from congrFun (fn3.2 49 rfl) (((vh3 53) - 1).toNat)) (show ah2 49 (((vh3 53) - 1).toNat) = ab1 49 (((vh3 53) - 1).toNat) from congrFun (fn2.2 49 rfl) (((vh3 53) - 1).toNat)) (fun ra1 ae1 ae2 => ?_)
                  refine m_iconst C dX12_read_292 ?_
                  refine m_iadd C dX12_read_293 ?_
                  refine m_goto (tgt := 298) C dX12_read_294 (by decide) ?_
                  obtain ⟨zz2, hzz2, ezz2⟩ := iI_of (iI ((ah3 49 ((vh3 53) - 1).toNat) + 1))
                  refine m_st (st2 := [.int (iI zz2)]) (by rw [ezz2]) ?_
                  refine m_istore (lv2 := [(5, .int (iI zz2)), (4, .int (iI f3)), (0, .ref h0), (1, .int (iI t)), (2, .int (iI q)), (3, .int (iI n1))]) C dX12_read_298 (by decide) rfl ?_
                  refine m_aload_n (j := 2) C dX12_read_300 rfl ?_
                  refine m_iload (j := 1) C dX12_read_301 rfl ?_
                  refine m_iload (j := 0) C dX12_read_303 rfl ?_
                  refine m_call (mc2 := 0) (ms2 := 0) (As := [.int (iI f3), .int (iI zz2)]) (rest := []) C (B_badAt (x := f3) (y := zz2) bq2 (by show -2147483648 ≤ f3 ∧ f3 ≤ 2147483647; omega) (by show -2147483648 ≤ zz2 ∧ zz2 ≤ 2147483647; omega)) dX12_read_305 kV_X12_240 rfl ck_13 rfl (Nat.le_of_ble_eq_true rfl) ⟨Nat.le_of_ble_eq_true rfl, Nat.le_of_ble_eq_true rfl⟩ ⟨Nat.le_of_ble_eq_true rfl, Nat.le_of_ble_eq_true rfl⟩ (fun rh5 vh5 ah5 h5 => ?_)
                  obtain ⟨f5, rfl, fn5, bn5, ex5⟩ := h5
                  refine hv3 (fq5.call fn5 rfl rfl) (show RWS ah5 from RWS.fr pw2 fn5 rfl) (show f5 = -1 from ex5) (fun fq7 pw4 gf5 => ?_)
                  refine m_st (st2 := [.int (iI f5)]) rfl ?_
                  refine hv2 (show 0 ≤ vh5 52 ∧ vh5 52 ≤ 4000 from bn5.1 52) (show vh5 52 = 0 from fn5.1 52 rfl) (fun rv6 ve5 => ?_)
                  exact m_iret C dX12_read_308 rfl (Nat.le_of_ble_eq_true rfl) (Nat.le_of_ble_eq_true rfl) ⟨f5, rfl, fq7, bn5, ⟨pw4, RDR.fin hT (by
                      have en : k = n1 := by omega
                      subst en
                      exact hD2) (tl1.mp (by omega)) (by omega) fpb1 rfl tl2 fn2 rfl rx1 (Or.inr ⟨by omega, by omega, by show (vh5 52) = 0; omega⟩)⟩⟩
              · refine m_aload_n (j := 1) C dX12_read_250 rfl ?_
                refine m_geta (k := 48) C dX12_read_251 w6_107 (by decide) rfl ?_
                refine m_aload_n (j := 1) C dX12_read_254 rfl ?_
                refine m_get (k := 53) C dX12_read_255 w6_112 (by decide) rfl ?_
                refine m_st (st2 := [.int (iI (vh3 53)), .ref (ad 48)]) rfl ?_
                refine m_ald (k := 48) C dX12_read_258 rfl rfl (by decide) (by omega) (by show _ < ((_ : Nat) : Int); simp only [mlen]; omega) (by decide) ?_
                refine hv3 (show (-2147483648) ≤ ah3 48 (vh3 53).toNat ∧ ah3 48 (vh3 53).toNat ≤ 2147483647 from bq2.2 48 ((vh3 53).toNat)) (show ah3 48 ((vh3 53).toNat) = ah2 48 ((vh3 53).toNat) from congrFun (fn3.2 48 rfl) ((vh3 53).toNat)) (show ah2 48 ((vh3 53).toNat) = ab1 48 ((vh3 53).toNat) from congrFun (fn2.2 48 rfl) ((vh3 53).toNat)) (fun ra2 ae3 ae4 => ?_)
                refine m_if_eq (tgt := 274) C (r32_c (lo := (-2147483648)) (hi := 2147483647) ra2.1 ra2.2 (by decide) (by decide)) dX12_read_259 (by decide) (fun c7 => ?_) (fun c7 => ?_)
                · refine m_aload_n (j := 1) C dX12_read_274 rfl ?_
                  refine m_get (k := 53) C dX12_read_275 w6_112 (by decide) rfl ?_
                  refine m_st (st2 := [.int (iI (vh3 53))]) rfl ?_
                  refine m_if_le (tgt := 297) C (r32_c (lo := 0) (hi := 40200) rv3.1 rv3.2 (by decide) (by decide)) dX12_read_278 (by decide) (fun c8 => ?_) (fun c8 => ?_)
                  · refine m_iconst C dX12_read_297 ?_
                    obtain ⟨zz3, hzz3, ezz3⟩ := iI_of (iI 0)
                    refine m_st (st2 := [.int (iI zz3)]) (by rw [ezz3]) ?_
                    refine m_istore (lv2 := [(5, .int (iI zz3)), (4, .int (iI f3)), (0, .ref h0), (1, .int (iI t)), (2, .int (iI q)), (3, .int (iI n1))]) C dX12_read_298 (by decide) rfl ?_
                    refine m_aload_n (j := 2) C dX12_read_300 rfl ?_
                    refine m_iload (j := 1) C dX12_read_301 rfl ?_
                    refine m_iload (j := 0) C dX12_read_303 rfl ?_
                    refine m_call (mc2 := 0) (ms2 := 0) (As := [.int (iI f3), .int (iI zz3)]) (rest := []) C (B_badAt (x := f3) (y := zz3) bq2 (by show -2147483648 ≤ f3 ∧ f3 ≤ 2147483647; omega) (by show -2147483648 ≤ zz3 ∧ zz3 ≤ 2147483647; omega)) dX12_read_305 kV_X12_240 rfl ck_13 rfl (Nat.le_of_ble_eq_true rfl) ⟨Nat.le_of_ble_eq_true rfl, Nat.le_of_ble_eq_true rfl⟩ ⟨Nat.le_of_ble_eq_true rfl, Nat.le_of_ble_eq_true rfl⟩ (fun rh6 vh6 ah6 h6 => ?_)
                    obtain ⟨f6, rfl, fn6, bn6, ex6⟩ := h6
                    refine hv3 (fq5.call fn6 rfl rfl) (show RWS ah6 from RWS.fr pw2 fn6 rfl) (show f6 = -1 from ex6) (fun fq8 pw5 gf6 => ?_)
                    refine m_st (st2 := [.int (iI f6)]) rfl ?_
                    refine hv2 (show 0 ≤ vh6 52 ∧ vh6 52 ≤ 4000 from bn6.1 52) (show vh6 52 = 0 from fn6.1 52 rfl) (fun rv7 ve6 => ?_)
                    exact m_iret C dX12_read_308 rfl (Nat.le_of_ble_eq_true rfl) (Nat.le_of_ble_eq_true rfl) ⟨f6, rfl, fq8, bn6, ⟨pw5, RDR.fin hT (by
                        have en : k = n1 := by omega
                        subst en
                        exact hD2) (tl1.mp (by omega)) (by omega) fpb1 rfl tl2 fn2 rfl rx1 (Or.inr ⟨by omega, by omega, by show (vh6 52) = 0; omega⟩)⟩⟩
                  · refine m_aload_n (j := 1) C dX12_read_281 rfl ?_
                    refine m_geta (k := 49) C dX12_read_282 w6_108 (by decide) rfl ?_
                    refine m_aload_n (j := 1) C dX12_read_285 rfl ?_
                    refine m_get (k := 53) C dX12_read_286 w6_112 (by decide) rfl ?_
                    refine m_st (st2 := [.int (iI (vh3 53)), .ref (ad 49)]) rfl ?_
                    refine m_iconst C dX12_read_289 ?_
                    refine m_isub C dX12_read_290 ?_
                    refine m_ald (k := 49) C dX12_read_291 rfl rfl (by decide) (by omega) (by show _ < ((_ : Nat) : Int); simp only [mlen]; omega) (by decide) ?_
                    refine hv3 (show (-2147483648) ≤ ah3 49 ((vh3 53) - 1).toNat ∧ ah3 49 ((vh3 53) - 1).toNat ≤ 2147483647 from bq2.2 49 (((vh3 53) - 1).toNat)) (show ah3 49 (((vh3 53) - 1).toNat) = ah2 49 (((vh3 53) - 1).toNat) from congrFun (fn3.2 49 rfl) (((vh3 53) - 1).toNat)) (show ah2 49 (((vh3 53) - 1).toNat) = ab1 49 (((vh3 53) - 1).toNat) from congrFun (fn2.2 49 rfl) (((vh3 53) - 1).toNat)) (fun ra3 ae5 ae6 => ?_)
                    refine m_iconst C dX12_read_292 ?_
                    refine m_iadd C dX12_read_293 ?_
                    refine m_goto (tgt := 298) C dX12_read_294 (by decide) ?_
                    obtain ⟨zz4, hzz4, ezz4⟩ := iI_of (iI ((ah3 49 ((vh3 53) - 1).toNat) + 1))
                    refine m_st (st2 := [.int (iI zz4)]) (by rw [ezz4]) ?_
                    refine m_istore (lv2 := [(5, .int (iI zz4)), (4, .int (iI f3)), (0, .ref h0), (1, .int (iI t)), (2, .int (iI q)), (3, .int (iI n1))]) C dX12_read_298 (by decide) rfl ?_
                    refine m_aload_n (j := 2) C dX12_read_300 rfl ?_
                    refine m_iload (j := 1) C dX12_read_301 rfl ?_
                    refine m_iload (j := 0) C dX12_read_303 rfl ?_
                    refine m_call (mc2 := 0) (ms2 := 0) (As := [.int (iI f3), .int (iI zz4)]) (rest := []) C (B_badAt (x := f3) (y := zz4) bq2 (by show -2147483648 ≤ f3 ∧ f3 ≤ 2147483647; omega) (by show -2147483648 ≤ zz4 ∧ zz4 ≤ 2147483647; omega)) dX12_read_305 kV_X12_240 rfl ck_13 rfl (Nat.le_of_ble_eq_true rfl) ⟨Nat.le_of_ble_eq_true rfl, Nat.le_of_ble_eq_true rfl⟩ ⟨Nat.le_of_ble_eq_true rfl, Nat.le_of_ble_eq_true rfl⟩ (fun rh7 vh7 ah7 h7 => ?_)
                    obtain ⟨f7, rfl, fn7, bn7, ex7⟩ := h7
                    refine hv3 (fq5.call fn7 rfl rfl) (show RWS ah7 from RWS.fr pw2 fn7 rfl) (show f7 = -1 from ex7) (fun fq9 pw6 gf7 => ?_)
                    refine m_st (st2 := [.int (iI f7)]) rfl ?_
                    refine hv2 (show 0 ≤ vh7 52 ∧ vh7 52 ≤ 4000 from bn7.1 52) (show vh7 52 = 0 from fn7.1 52 rfl) (fun rv8 ve7 => ?_)
                    exact m_iret C dX12_read_308 rfl (Nat.le_of_ble_eq_true rfl) (Nat.le_of_ble_eq_true rfl) ⟨f7, rfl, fq9, bn7, ⟨pw6, RDR.fin hT (by
                        have en : k = n1 := by omega
                        subst en
                        exact hD2) (tl1.mp (by omega)) (by omega) fpb1 rfl tl2 fn2 rfl rx1 (Or.inr ⟨by omega, by omega, by show (vh7 52) = 0; omega⟩)⟩⟩
                · refine m_aload_n (j := 1) C dX12_read_262 rfl ?_
                  refine m_geta (k := 49) C dX12_read_263 w6_108 (by decide) rfl ?_
                  refine m_aload_n (j := 1) C dX12_read_266 rfl ?_
                  refine m_get (k := 53) C dX12_read_267 w6_112 (by decide) rfl ?_
                  refine m_st (st2 := [.int (iI (vh3 53)), .ref (ad 49)]) rfl ?_
                  refine m_ald (k := 49) C dX12_read_270 rfl rfl (by decide) (by omega) (by show _ < ((_ : Nat) : Int); simp only [mlen]; omega) (by decide) ?_
                  refine hv3 (show (-2147483648) ≤ ah3 49 (vh3 53).toNat ∧ ah3 49 (vh3 53).toNat ≤ 2147483647 from bq2.2 49 ((vh3 53).toNat)) (show ah3 49 ((vh3 53).toNat) = ah2 49 ((vh3 53).toNat) from congrFun (fn3.2 49 rfl) ((vh3 53).toNat)) (show ah2 49 ((vh3 53).toNat) = ab1 49 ((vh3 53).toNat) from congrFun (fn2.2 49 rfl) ((vh3 53).toNat)) (fun ra4 ae7 ae8 => ?_)
                  refine m_goto (tgt := 298) C dX12_read_271 (by decide) ?_
                  obtain ⟨zz5, hzz5, ezz5⟩ := iI_of (iI (ah3 49 (vh3 53).toNat))
                  refine m_st (st2 := [.int (iI zz5)]) (by rw [ezz5]) ?_
                  refine m_istore (lv2 := [(5, .int (iI zz5)), (4, .int (iI f3)), (0, .ref h0), (1, .int (iI t)), (2, .int (iI q)), (3, .int (iI n1))]) C dX12_read_298 (by decide) rfl ?_
                  refine m_aload_n (j := 2) C dX12_read_300 rfl ?_
                  refine m_iload (j := 1) C dX12_read_301 rfl ?_
                  refine m_iload (j := 0) C dX12_read_303 rfl ?_
                  refine m_call (mc2 := 0) (ms2 := 0) (As := [.int (iI f3), .int (iI zz5)]) (rest := []) C (B_badAt (x := f3) (y := zz5) bq2 (by show -2147483648 ≤ f3 ∧ f3 ≤ 2147483647; omega) (by show -2147483648 ≤ zz5 ∧ zz5 ≤ 2147483647; omega)) dX12_read_305 kV_X12_240 rfl ck_13 rfl (Nat.le_of_ble_eq_true rfl) ⟨Nat.le_of_ble_eq_true rfl, Nat.le_of_ble_eq_true rfl⟩ ⟨Nat.le_of_ble_eq_true rfl, Nat.le_of_ble_eq_true rfl⟩ (fun rh8 vh8 ah8 h8 => ?_)
                  obtain ⟨f8, rfl, fn8, bn8, ex8⟩ := h8
                  refine hv3 (fq5.call fn8 rfl rfl) (show RWS ah8 from RWS.fr pw2 fn8 rfl) (show f8 = -1 from ex8) (fun fq10 pw7 gf8 => ?_)
                  refine m_st (st2 := [.int (iI f8)]) rfl ?_
                  refine hv2 (show 0 ≤ vh8 52 ∧ vh8 52 ≤ 4000 from bn8.1 52) (show vh8 52 = 0 from fn8.1 52 rfl) (fun rv9 ve8 => ?_)
                  exact m_iret C dX12_read_308 rfl (Nat.le_of_ble_eq_true rfl) (Nat.le_of_ble_eq_true rfl) ⟨f8, rfl, fq10, bn8, ⟨pw7, RDR.fin hT (by
                      have en : k = n1 := by omega
                      subst en
                      exact hD2) (tl1.mp (by omega)) (by omega) fpb1 rfl tl2 fn2 rfl rx1 (Or.inr ⟨by omega, by omega, by show (vh8 52) = 0; omega⟩)⟩⟩
            · clear gf3
              refine m_aload_n (j := 1) C dX12_read_225 rfl ?_
              refine m_aload_n (j := 1) C dX12_read_226 rfl ?_
              have rv10 : 0 ≤ vh3 52 ∧ vh3 52 ≤ 4000 := bn3.1 52
              refine m_get (k := 52) C dX12_read_227 w6_111 (by decide) rfl ?_
              refine m_call (mc2 := 0) (ms2 := 0) (As := [.int (iI (vh3 52))]) (rest := []) C (B_fine (x := vh3 52) bn3 (by show -2147483648 ≤ (vh3 52) ∧ (vh3 52) ≤ 2147483647; omega)) dX12_read_230 kV_X12_158 rfl ck_13 rfl (Nat.le_of_ble_eq_true rfl) ⟨Nat.le_of_ble_eq_true rfl, Nat.le_of_ble_eq_true rfl⟩ ⟨Nat.le_of_ble_eq_true rfl, Nat.le_of_ble_eq_true rfl⟩ (fun rh9 vh9 ah9 h9 => ?_)
              obtain ⟨f9, rfl, fn9, bn9, ex9⟩ := h9
              refine hv3 (fq4.call fn9 rfl rfl) (show RWS ah9 from RWS.fr pw2 fn9 rfl) (show f9 = (vh3 52) from ex9) (fun fq11 pw8 gf9 => ?_)
              refine m_st (st2 := [.int (iI f9)]) rfl ?_
              have r51 : 0 ≤ vh3 52 ∧ vh3 52 ≤ 4000 := bn3.1 52
              exact m_iret C dX12_read_233 rfl (Nat.le_of_ble_eq_true rfl) (Nat.le_of_ble_eq_true rfl) ⟨f9, rfl, fq11, bn9, ⟨pw8, RDR.fin hT (by
                  have en : k = n1 := by omega
                  subst en
                  exact hD2) (tl1.mp (by omega)) (by omega) fpb1 rfl tl2 fn2 rfl rx1 (Or.inl ⟨by omega, by omega, by omega, fn9.1 52 rfl, fn9.2 51 rfl⟩)⟩⟩
          · refine m_iload_n (j := 3) C dX12_read_38 rfl ?_
            refine m_i2l (w := lI q) C dX12_read_39 (lI_of ⟨by omega, by omega⟩) ?_
            refine m_iload (j := 0) C dX12_read_40 rfl ?_
            refine m_i2l (w := lI k) C dX12_read_42 (lI_of ⟨by omega, by omega⟩) ?_
            refine m_ladd (w := lI (q + k)) C dX12_read_43 (lI_add _ _) ?_
            refine m_lstore (lv2 := [(5, .long (lI (q + k))), (4, .int (iI k)), (0, .ref h0), (1, .int (iI t)), (2, .int (iI q)), (3, .int (iI n1))]) C dX12_read_44 (by decide) rfl ?_
            refine m_lload (j := 0) C dX12_read_46 rfl ?_
            refine m_lconst (w := lI 0) C dX12_read_48 rfl ?_
            obtain ⟨lc1, hlc1, elc1⟩ := lcmp_c (x := (q + k)) (y := 0) ⟨by omega, by omega⟩ ⟨by omega, by omega⟩
            refine m_lcmp (w := iI lc1) C dX12_read_49 elc1 ?_
            have J1 : ∀ (y : Int) (vb2 : Nat → Int) (ab2 : Nat → Nat → Int), BX vb2 ab2 → fr [0, 1, 50, 52, 53] [44, 45, 46, 47, 48, 49, 51] v a vb2 ab2 → ((y = -1 ∧ ¬ (0 ≤ q + k ∧ q + k < v 36)) ∨ (y = q + k ∧ 0 ≤ y ∧ y < v 36)) → (vb2 50 ≤ 201 * k) → (RWS ab2) → (RD2 v a vb2 ab2 q k) → (vb2 52 = v 52 ∧ ab2 51 = a 51) → mw p l e (rmq 36 0 0) s m args below meth c G A 11 (MQ below (Qm G A (fun rq Lq Eq => ∃ (vq : Nat → Int) (aq : Nat → Nat → Int), mI G h0 ad ln vq aq Lq Eq ∧ (fun r v2 a2 => ∃ f : Int, r = some (.int (iI f)) ∧ fr [0, 1, 50, 52, 53] [44, 45, 46, 47, 48, 49, 51] v a v2 a2 ∧ BX v2 a2 ∧ (RWS a2 ∧ RDR v a v2 a2 t q n1 f)) rq vq aq)) args s 0 0 A) h0 ad ln vb2 ab2 0 0 71 [(5, .long (lI (q + k))), (4, .int (iI k)), (0, .ref h0), (1, .int (iI t)), (2, .int (iI q)), (3, .int (iI n1))] [.int (iI y)] := by
              intro y vb2 ab2 bxb2 fpb2 hy h501 hW2 hD71 hK71
              refine m_istore (lv2 := [(7, .int (iI y)), (5, .long (lI (q + k))), (4, .int (iI k)), (0, .ref h0), (1, .int (iI t)), (2, .int (iI q)), (3, .int (iI n1))]) C dX12_read_71 (by decide) rfl ?_
              refine m_aload_n (j := 3) C dX12_read_73 rfl ?_
              refine m_iload (j := 0) C dX12_read_74 rfl ?_
              refine hv2 (show 0 ≤ vb2 36 ∧ vb2 36 ≤ 200 from bxb2.1 36) (show vb2 36 = v 36 from fpb2.1 36 rfl) (fun rv11 ve9 => ?_)
              refine m_call (mc2 := 0) (ms2 := 0) (As := [.int (iI y)]) (rest := []) C (M_lineFault (l0 := y) bxb2.rg ⟨by omega, by omega⟩ ⟨bxb2.1 36, bxb2.2 34⟩) dX12_read_76 kV_X12_294 rfl ck_13 rfl (Nat.le_of_ble_eq_true rfl) ⟨Nat.le_of_ble_eq_true rfl, Nat.le_of_ble_eq_true rfl⟩ ⟨Nat.le_of_ble_eq_true rfl, Nat.le_of_ble_eq_true rfl⟩ (fun rh10 vh10 ah10 h10 => ?_)
              obtain ⟨f10, rfl, hf10, rfl, rfl⟩ := h10
              refine hv3 (show (f10 = 2 ∧ ¬ (0 ≤ y ∧ y < (vb2 36))) ∨ (f10 = 1 ∧ 0 ≤ y ∧ y < (vb2 36) ∧ ab2 34 y.toNat < 0) ∨ (f10 = 0 ∧ 0 ≤ y ∧ y < (vb2 36) ∧ 0 ≤ ab2 34 y.toNat) from hf10) (show (-1) ≤ ab2 34 y.toNat ∧ ab2 34 y.toNat ≤ 200 from bxb2.2 34 (y.toNat)) (show ab2 34 (y.toNat) = a 34 (y.toNat) from congrFun (fpb2.2 34 rfl) (y.toNat)) (fun gf10 ra5 ae9 => ?_)
              refine m_st (st2 := [.int (iI f10)]) rfl ?_
              refine m_if_le (tgt := 93) C ⟨by omega, by omega⟩ dX12_read_79 (by decide) (fun c9 => ?_) (fun c9 => ?_)
              · refine m_aload_n (j := 3) C dX12_read_93 rfl ?_
                refine m_geta (k := 34) C dX12_read_94 w6_93 (by decide) rfl ?_
                refine m_iload (j := 0) C dX12_read_97 rfl ?_
                refine m_ald (k := 34) C dX12_read_99 rfl rfl (by decide) (by omega) (by show _ < ((_ : Nat) : Int); simp only [mlen]; omega) (by decide) ?_
                refine m_st (st2 := [.int (iI (a 34 y.toNat))]) (congrArg (fun z => Value.int (iI z) :: []) (congrFun (fpb2.2 34 rfl) (y.toNat))) ?_
                refine m_istore (lv2 := [(8, .int (iI (a 34 y.toNat))), (7, .int (iI y)), (5, .long (lI (q + k))), (4, .int (iI k)), (0, .ref h0), (1, .int (iI t)), (2, .int (iI q)), (3, .int (iI n1))]) C dX12_read_100 (by decide) rfl ?_
                refine m_iload (j := 0) C dX12_read_102 rfl ?_
                have J2 : ∀ (g : Int) (vb3 : Nat → Int) (ab3 : Nat → Nat → Int), BX vb3 ab3 → fr [0, 1, 50, 52, 53] [44, 45, 46, 47, 48, 49, 51] v a vb3 ab3 → ((g = 1 ∧ 0 < a 34 y.toNat ∧ a 35 (200 * y + a 34 y.toNat - 1).toNat = v 33) ∨ (g = 0 ∧ ¬ (0 < a 34 y.toNat ∧ a 35 (200 * y + a 34 y.toNat - 1).toNat = v 33))) → (vb3 50 ≤ 201 * k) → (RWS ab3) → (RD2 v a vb3 ab3 q k) → (vb3 52 = v 52 ∧ ab3 51 = a 51) → mw p l e (rmq 36 0 0) s m args below meth c G A 11 (MQ below (Qm G A (fun rq Lq Eq => ∃ (vq : Nat → Int) (aq : Nat → Nat → Int), mI G h0 ad ln vq aq Lq Eq ∧ (fun r v2 a2 => ∃ f : Int, r = some (.int (iI f)) ∧ fr [0, 1, 50, 52, 53] [44, 45, 46, 47, 48, 49, 51] v a v2 a2 ∧ BX v2 a2 ∧ (RWS a2 ∧ RDR v a v2 a2 t q n1 f)) rq vq aq)) args s 0 0 A) h0 ad ln vb3 ab3 0 0 135 [(8, .int (iI (a 34 y.toNat))), (7, .int (iI y)), (5, .long (lI (q + k))), (4, .int (iI k)), (0, .ref h0), (1, .int (iI t)), (2, .int (iI q)), (3, .int (iI n1))] [.int (iI g)] := by
                  intro g vb3 ab3 bxb3 fpb3 hg h502 hW3 hD135 hK135
                  refine m_istore (lv2 := [(9, .int (iI g)), (8, .int (iI (a 34 y.toNat))), (7, .int (iI y)), (5, .long (lI (q + k))), (4, .int (iI k)), (0, .ref h0), (1, .int (iI t)), (2, .int (iI q)), (3, .int (iI n1))]) C dX12_read_135 (by decide) rfl ?_
                  refine m_iconst C dX12_read_137 ?_
                  refine m_istore (lv2 := [(10, .int (iI 0)), (9, .int (iI g)), (8, .int (iI (a 34 y.toNat))), (7, .int (iI y)), (5, .long (lI (q + k))), (4, .int (iI k)), (0, .ref h0), (1, .int (iI t)), (2, .int (iI q)), (3, .int (iI n1))]) C dX12_read_138 (by decide) rfl ?_
                  have Lp2 : ∀ (nn : Nat) (i1 : Int) (vb4 : Nat → Int) (ab4 : Nat → Nat → Int), 201 - i1 < (nn : Int) → BX vb4 ab4 → fr [0, 1, 50, 52, 53] [44, 45, 46, 47, 48, 49, 51] v a vb4 ab4 → (0 ≤ i1 ∧ i1 ≤ a 34 y.toNat ∧ (g = 1 → i1 ≤ a 34 y.toNat - 1)) → (vb4 50 ≤ 201 * k + i1) → (RWS ab4) → (RD3 v a vb4 ab4 q k i1 g) → (vb4 52 = v 52 ∧ ab4 51 = a 51) → mw p l e (rmq 36 0 0) s m args below meth c G A 11 (MQ below (Qm G A (fun rq Lq Eq => ∃ (vq : Nat → Int) (aq : Nat → Nat → Int), mI G h0 ad ln vq aq Lq Eq ∧ (fun r v2 a2 => ∃ f : Int, r = some (.int (iI f)) ∧ fr [0, 1, 50, 52, 53] [44, 45, 46, 47, 48, 49, 51] v a v2 a2 ∧ BX v2 a2 ∧ (RWS a2 ∧ RDR v a v2 a2 t q n1 f)) rq vq aq)) args s 0 0 A) h0 ad ln vb4 ab4 0 0 140 [(10, .int (iI i1)), (9, .int (iI g)), (8, .int (iI (a 34 y.toNat))), (7, .int (iI y)), (5, .long (lI (q + k))), (4, .int (iI k)), (0, .ref h0), (1, .int (iI t)), (2, .int (iI q)), (3, .int (iI n1))] [] := by
                    intro nn
                    induction nn with
                    | zero =>
                      intro i1 vb4 ab4 hm bxb4 fpb4 hi h503 hW4 hJ hK140
                      exact absurd hm (by omega)
                    | succ nn ih2 =>
                      intro i1 vb4 ab4 hm bxb4 fpb4 hi h503 hW4 hJ hK140
                      refine m_iload (j := 0) C dX12_read_140 rfl ?_
                      refine m_iload (j := 1) C dX12_read_142 rfl ?_
                      refine m_if_eq (tgt := 154) C ⟨by omega, by omega⟩ dX12_read_144 (by decide) (fun c10 => ?_) (fun c10 => ?_)
                      · replace hg := (hg.resolve_left (fun q => absurd (q.1.symm.trans c10) (by decide)))
                        refine m_iload (j := 2) C dX12_read_154 rfl ?_
                        refine m_icmp_ge (tgt := 192) C ⟨by omega, by omega⟩ ⟨by omega, by omega⟩ dX12_read_156 (by decide) (fun c11 => ?_) (fun c11 => ?_)
                        · refine m_iload (j := 1) C dX12_read_192 rfl ?_
                          refine m_if_ne (tgt := 203) C ⟨by omega, by omega⟩ dX12_read_194 (by decide) (fun z => absurd z (by omega)) (fun _ => ?_)
                          refine m_aload_n (j := 6) C dX12_read_197 rfl ?_
                          refine m_iconst C dX12_read_198 ?_
                          refine m_iconst C dX12_read_199 ?_
                          have rv12 : 0 ≤ vb4 50 ∧ vb4 50 ≤ 40200 := bxb4.1 50
                          refine m_call (mc2 := 0) (ms2 := 0) (As := [.int (iI 0), .int (iI 0)]) (rest := []) C (E_putRow (x := 0) (y := 0) bxb4 (by omega) (by omega) (by show (vb4 50) < 40200; omega)) dX12_read_200 kV_X12_351 rfl ck_13 rfl (Nat.le_of_ble_eq_true rfl) ⟨Nat.le_of_ble_eq_true rfl, Nat.le_of_ble_eq_true rfl⟩ ⟨Nat.le_of_ble_eq_true rfl, Nat.le_of_ble_eq_true rfl⟩ (fun rh11 vh11 ah11 h11 => ?_)
                          obtain ⟨rfl, fn10, bn10, ex10, pr1⟩ := h11
                          refine hv3 (fpb4.call fn10 rfl rfl) (show RWS ah11 from RWS.fr hW4 fn10 rfl) (show vh11 50 = (vb4 50) + 1 from ex10) (fun fq12 pw9 gfn10 => ?_)
                          refine m_st (st2 := []) rfl ?_
                          refine m_iinc (z := k) (j := 5) (lv2 := [(4, .int (iI (k + 1))), (10, .int (iI i1)), (9, .int (iI g)), (8, .int (iI (a 34 y.toNat))), (7, .int (iI y)), (5, .long (lI (q + k))), (0, .ref h0), (1, .int (iI t)), (2, .int (iI q)), (3, .int (iI n1))]) C dX12_read_203 rfl (by decide) rfl ?_
                          refine m_goto (tgt := 32) C dX12_read_206 (by decide) ?_
                          refine hv3 (show 0 ≤ vh11 50 ∧ vh11 50 ≤ 40200 from bn10.1 50) (show 0 ≤ vh11 52 ∧ vh11 52 ≤ 4000 from bn10.1 52) (show vh11 52 = vb4 52 from fn10.1 52 rfl) (fun rv13 rv14 ve10 => ?_)
                          refine m_lv (lv2 := [(4, .int (iI (k + 1))), (0, .ref h0), (1, .int (iI t)), (2, .int (iI q)), (3, .int (iI n1))]) [0, 6, 7, 8, 9] rfl ?_
                          exact ih1  (k + 1) _ _ (by omega) bn10 fq12 (by omega) (by omega) (by show (vh11 50) ≤ 201 * (k + 1); omega) pw9 (by
                              have ey : y = q + k := by omega
                              subst ey
                              exact hJ.endb ⟨by omega, by omega⟩ (by omega) (by omega) (by omega) ex10 pr1) ⟨by show (vh11 52) = v 52; have q := hK140.1; omega, (Eq.trans (show ah11 51 = ab4 51 from fn10.2 51 rfl) hK140.2)⟩
                        · refine m_aload_n (j := 6) C dX12_read_159 rfl ?_
                          refine m_aload_n (j := 6) C dX12_read_160 rfl ?_
                          refine m_geta (k := 35) C dX12_read_161 w6_94 (by decide) rfl ?_
                          refine m_sipush (z := 200) C dX12_read_164 (by decide) ?_
                          refine m_iload (j := 3) C dX12_read_167 rfl ?_
                          refine m_imul C dX12_read_169 ?_
                          refine m_iload (j := 0) C dX12_read_170 rfl ?_
                          refine m_iadd C dX12_read_172 ?_
                          refine m_ald (k := 35) C dX12_read_173 rfl rfl (by decide) (by omega) (by show _ < ((_ : Nat) : Int); simp only [mlen]; omega) (by decide) ?_
                          refine hv2 (show (-2147483648) ≤ ab4 35 ((200 * y) + i1).toNat ∧ ab4 35 ((200 * y) + i1).toNat ≤ 2147483647 from bxb4.2 35 (((200 * y) + i1).toNat)) (show ab4 35 (((200 * y) + i1).toNat) = a 35 (((200 * y) + i1).toNat) from congrFun (fpb4.2 35 rfl) (((200 * y) + i1).toNat)) (fun ra6 ae10 => ?_)
                          refine m_st (st2 := [.int (iI (a 35 ((200 * y) + i1).toNat)), .ref h0]) (congrArg (fun z => Value.int (iI z) :: [.ref h0]) (congrFun (fpb4.2 35 rfl) (((200 * y) + i1).toNat))) ?_
                          refine m_sipush (z := 1000) C dX12_read_174 (by decide) ?_
                          refine m_iload (j := 3) C dX12_read_177 rfl ?_
                          refine m_imul C dX12_read_179 ?_
                          refine m_iload (j := 0) C dX12_read_180 rfl ?_
                          refine m_iadd C dX12_read_182 ?_
                          have rv15 : 0 ≤ vb4 50 ∧ vb4 50 ≤ 40200 := bxb4.1 50
                          refine m_call (mc2 := 0) (ms2 := 0) (As := [.int (iI (a 35 ((200 * y) + i1).toNat)), .int (iI ((1000 * y) + i1))]) (rest := []) C (E_putRow (x := a 35 ((200 * y) + i1).toNat) (y := (1000 * y) + i1) bxb4 (by omega) (by omega) (by show (vb4 50) < 40200; omega)) dX12_read_183 kV_X12_351 rfl ck_13 rfl (Nat.le_of_ble_eq_true rfl) ⟨Nat.le_of_ble_eq_true rfl, Nat.le_of_ble_eq_true rfl⟩ ⟨Nat.le_of_ble_eq_true rfl, Nat.le_of_ble_eq_true rfl⟩ (fun rh12 vh12 ah12 h12 => ?_)
                          obtain ⟨rfl, fn11, bn11, ex11, pr2⟩ := h12
                          refine hv3 (fpb4.call fn11 rfl rfl) (show RWS ah12 from RWS.fr hW4 fn11 rfl) (show vh12 50 = (vb4 50) + 1 from ex11) (fun fq13 pw10 gfn11 => ?_)
                          refine m_st (st2 := []) rfl ?_
                          refine m_iinc (z := i1) (j := 0) (lv2 := [(10, .int (iI (i1 + 1))), (9, .int (iI g)), (8, .int (iI (a 34 y.toNat))), (7, .int (iI y)), (5, .long (lI (q + k))), (4, .int (iI k)), (0, .ref h0), (1, .int (iI t)), (2, .int (iI q)), (3, .int (iI n1))]) C dX12_read_186 rfl (by decide) rfl ?_
                          refine m_goto (tgt := 140) C dX12_read_189 (by decide) ?_
                          refine hv3 (show 0 ≤ vh12 50 ∧ vh12 50 ≤ 40200 from bn11.1 50) (show 0 ≤ vh12 52 ∧ vh12 52 ≤ 4000 from bn11.1 52) (show vh12 52 = vb4 52 from fn11.1 52 rfl) (fun rv16 rv17 ve11 => ?_)
                          refine m_lv (lv2 := [(10, .int (iI (i1 + 1))), (9, .int (iI g)), (8, .int (iI (a 34 y.toNat))), (7, .int (iI y)), (5, .long (lI (q + k))), (4, .int (iI k)), (0, .ref h0), (1, .int (iI t)), (2, .int (iI q)), (3, .int (iI n1))]) [0, 1, 2, 3, 4, 5, 6, 7, 8, 9] rfl ?_
                          exact ih2  (i1 + 1) _ _ (by omega) bn11 fq13 (by omega) (by show (vh12 50) ≤ 201 * k + (i1 + 1); omega) pw10 (by
                              have ey : y = q + k := by omega
                              subst ey
                              exact hJ.cell ⟨by omega, by omega⟩ ⟨by omega, by omega⟩ rfl ex11 pr2) ⟨by show (vh12 52) = v 52; have q := hK140.1; omega, (Eq.trans (show ah12 51 = ab4 51 from fn11.2 51 rfl) hK140.2)⟩
                      · replace hg := (hg.resolve_right (fun q => c10 q.1))
                        refine m_iload (j := 2) C dX12_read_147 rfl ?_
                        refine m_iconst C dX12_read_149 ?_
                        refine m_isub C dX12_read_150 ?_
                        refine m_goto (tgt := 156) C dX12_read_151 (by decide) ?_
                        refine m_icmp_ge (tgt := 192) C ⟨by omega, by omega⟩ ⟨by omega, by omega⟩ dX12_read_156 (by decide) (fun c12 => ?_) (fun c12 => ?_)
                        · refine m_iload (j := 1) C dX12_read_192 rfl ?_
                          refine m_if_ne (tgt := 203) C ⟨by omega, by omega⟩ dX12_read_194 (by decide) (fun _ => ?_) (fun z => absurd z (by omega))
                          refine m_iinc (z := k) (j := 5) (lv2 := [(4, .int (iI (k + 1))), (10, .int (iI i1)), (9, .int (iI g)), (8, .int (iI (a 34 y.toNat))), (7, .int (iI y)), (5, .long (lI (q + k))), (0, .ref h0), (1, .int (iI t)), (2, .int (iI q)), (3, .int (iI n1))]) C dX12_read_203 rfl (by decide) rfl ?_
                          refine m_goto (tgt := 32) C dX12_read_206 (by decide) ?_
                          refine hv2 (show 0 ≤ vb4 50 ∧ vb4 50 ≤ 40200 from bxb4.1 50) (show 0 ≤ vb4 52 ∧ vb4 52 ≤ 4000 from bxb4.1 52) (fun rv18 rv19 => ?_)
                          refine m_lv (lv2 := [(4, .int (iI (k + 1))), (0, .ref h0), (1, .int (iI t)), (2, .int (iI q)), (3, .int (iI n1))]) [0, 6, 7, 8, 9] rfl ?_
                          exact ih1  (k + 1) _ _ (by omega) bxb4 fpb4 (by omega) (by omega) (by show (vb4 50) ≤ 201 * (k + 1); omega) hW4 (by
                              have ey : y = q + k := by omega
                              subst ey
                              exact hJ.endg ⟨by omega, by omega⟩ (by omega) (by omega) (by omega)) ⟨by show (vb4 52) = v 52; have q := hK140.1; omega, hK140.2⟩
                        · refine m_aload_n (j := 6) C dX12_read_159 rfl ?_
                          refine m_aload_n (j := 6) C dX12_read_160 rfl ?_
                          refine m_geta (k := 35) C dX12_read_161 w6_94 (by decide) rfl ?_
                          refine m_sipush (z := 200) C dX12_read_164 (by decide) ?_
                          refine m_iload (j := 3) C dX12_read_167 rfl ?_
                          refine m_imul C dX12_read_169 ?_
                          refine m_iload (j := 0) C dX12_read_170 rfl ?_
                          refine m_iadd C dX12_read_172 ?_
                          refine m_ald (k := 35) C dX12_read_173 rfl rfl (by decide) (by omega) (by show _ < ((_ : Nat) : Int); simp only [mlen]; omega) (by decide) ?_
                          refine hv2 (show (-2147483648) ≤ ab4 35 ((200 * y) + i1).toNat ∧ ab4 35 ((200 * y) + i1).toNat ≤ 2147483647 from bxb4.2 35 (((200 * y) + i1).toNat)) (show ab4 35 (((200 * y) + i1).toNat) = a 35 (((200 * y) + i1).toNat) from congrFun (fpb4.2 35 rfl) (((200 * y) + i1).toNat)) (fun ra7 ae11 => ?_)
                          refine m_st (st2 := [.int (iI (a 35 ((200 * y) + i1).toNat)), .ref h0]) (congrArg (fun z => Value.int (iI z) :: [.ref h0]) (congrFun (fpb4.2 35 rfl) (((200 * y) + i1).toNat))) ?_
                          refine m_sipush (z := 1000) C dX12_read_174 (by decide) ?_
                          refine m_iload (j := 3) C dX12_read_177 rfl ?_
                          refine m_imul C dX12_read_179 ?_
                          refine m_iload (j := 0) C dX12_read_180 rfl ?_
                          refine m_iadd C dX12_read_182 ?_
                          have rv20 : 0 ≤ vb4 50 ∧ vb4 50 ≤ 40200 := bxb4.1 50
                          refine m_call (mc2 := 0) (ms2 := 0) (As := [.int (iI (a 35 ((200 * y) + i1).toNat)), .int (iI ((1000 * y) + i1))]) (rest := []) C (E_putRow (x := a 35 ((200 * y) + i1).toNat) (y := (1000 * y) + i1) bxb4 (by omega) (by omega) (by show (vb4 50) < 40200; omega)) dX12_read_183 kV_X12_351 rfl ck_13 rfl (Nat.le_of_ble_eq_true rfl) ⟨Nat.le_of_ble_eq_true rfl, Nat.le_of_ble_eq_true rfl⟩ ⟨Nat.le_of_ble_eq_true rfl, Nat.le_of_ble_eq_true rfl⟩ (fun rh13 vh13 ah13 h13 => ?_)
                          obtain ⟨rfl, fn12, bn12, ex12, pr3⟩ := h13
                          refine hv3 (fpb4.call fn12 rfl rfl) (show RWS ah13 from RWS.fr hW4 fn12 rfl) (show vh13 50 = (vb4 50) + 1 from ex12) (fun fq14 pw11 gfn12 => ?_)
                          refine m_st (st2 := []) rfl ?_
                          refine m_iinc (z := i1) (j := 0) (lv2 := [(10, .int (iI (i1 + 1))), (9, .int (iI g)), (8, .int (iI (a 34 y.toNat))), (7, .int (iI y)), (5, .long (lI (q + k))), (4, .int (iI k)), (0, .ref h0), (1, .int (iI t)), (2, .int (iI q)), (3, .int (iI n1))]) C dX12_read_186 rfl (by decide) rfl ?_
                          refine m_goto (tgt := 140) C dX12_read_189 (by decide) ?_
                          refine hv3 (show 0 ≤ vh13 50 ∧ vh13 50 ≤ 40200 from bn12.1 50) (show 0 ≤ vh13 52 ∧ vh13 52 ≤ 4000 from bn12.1 52) (show vh13 52 = vb4 52 from fn12.1 52 rfl) (fun rv21 rv22 ve12 => ?_)
                          refine m_lv (lv2 := [(10, .int (iI (i1 + 1))), (9, .int (iI g)), (8, .int (iI (a 34 y.toNat))), (7, .int (iI y)), (5, .long (lI (q + k))), (4, .int (iI k)), (0, .ref h0), (1, .int (iI t)), (2, .int (iI q)), (3, .int (iI n1))]) [0, 1, 2, 3, 4, 5, 6, 7, 8, 9] rfl ?_
                          exact ih2  (i1 + 1) _ _ (by omega) bn12 fq14 (by omega) (by show (vh13 50) ≤ 201 * k + (i1 + 1); omega) pw11 (by
                              have ey : y = q + k := by omega
                              subst ey
                              exact hJ.cell ⟨by omega, by omega⟩ ⟨by omega, by omega⟩ rfl ex12 pr3) ⟨by show (vh13 52) = v 52; have q := hK140.1; omega, (Eq.trans (show ah13 51 = ab4 51 from fn12.2 51 rfl) hK140.2)⟩
                  refine hv2 (show 0 ≤ vb3 50 ∧ vb3 50 ≤ 40200 from bxb3.1 50) (show 0 ≤ vb3 52 ∧ vb3 52 ≤ 4000 from bxb3.1 52) (fun rv23 rv24 => ?_)
                  refine m_lv (lv2 := [(10, .int (iI 0)), (9, .int (iI g)), (8, .int (iI (a 34 y.toNat))), (7, .int (iI y)), (5, .long (lI (q + k))), (4, .int (iI k)), (0, .ref h0), (1, .int (iI t)), (2, .int (iI q)), (3, .int (iI n1))]) [0, 1, 2, 3, 4, 5, 6, 7, 8, 9] rfl ?_
                  exact Lp2 202 0 _ _ (by omega) bxb3 fpb3 (by omega) (by show (vb3 50) ≤ 201 * k + 0; omega) hW3 (by
                      have ey : y = q + k := by omega
                      subst ey
                      exact hD135.line ⟨by omega, by omega⟩ (by omega) (by omega)) ⟨by show (vb3 52) = v 52; have q := hK135.1; omega, hK135.2⟩
                refine m_if_le (tgt := 134) C ⟨by omega, by omega⟩ dX12_read_104 (by decide) (fun c13 => ?_) (fun c13 => ?_)
                · refine m_iconst C dX12_read_134 ?_
                  refine hv2 (show 0 ≤ vb2 50 ∧ vb2 50 ≤ 40200 from bxb2.1 50) (show 0 ≤ vb2 52 ∧ vb2 52 ≤ 4000 from bxb2.1 52) (fun rv25 rv26 => ?_)
                  refine m_lv (lv2 := [(8, .int (iI (a 34 y.toNat))), (7, .int (iI y)), (5, .long (lI (q + k))), (4, .int (iI k)), (0, .ref h0), (1, .int (iI t)), (2, .int (iI q)), (3, .int (iI n1))]) [0, 1, 2, 3, 4, 5, 6, 7] rfl ?_
                  exact J2  0 _ _  bxb2 fpb2 (by omega) (by show (vb2 50) ≤ 201 * k; omega) hW2 hD71 ⟨by show (vb2 52) = v 52; have q := hK71.1; omega, hK71.2⟩
                · refine m_aload_n (j := 4) C dX12_read_107 rfl ?_
                  refine m_geta (k := 35) C dX12_read_108 w6_94 (by decide) rfl ?_
                  refine m_sipush (z := 200) C dX12_read_111 (by decide) ?_
                  refine m_iload (j := 1) C dX12_read_114 rfl ?_
                  refine m_imul C dX12_read_116 ?_
                  refine m_iload (j := 0) C dX12_read_117 rfl ?_
                  refine m_iadd C dX12_read_119 ?_
                  refine m_iconst C dX12_read_120 ?_
                  refine m_isub C dX12_read_121 ?_
                  refine m_ald (k := 35) C dX12_read_122 rfl rfl (by decide) (by omega) (by show _ < ((_ : Nat) : Int); simp only [mlen]; omega) (by decide) ?_
                  refine hv2 (show (-2147483648) ≤ ab2 35 (((200 * y) + (a 34 y.toNat)) - 1).toNat ∧ ab2 35 (((200 * y) + (a 34 y.toNat)) - 1).toNat ≤ 2147483647 from bxb2.2 35 ((((200 * y) + (a 34 y.toNat)) - 1).toNat)) (show ab2 35 ((((200 * y) + (a 34 y.toNat)) - 1).toNat) = a 35 ((((200 * y) + (a 34 y.toNat)) - 1).toNat) from congrFun (fpb2.2 35 rfl) ((((200 * y) + (a 34 y.toNat)) - 1).toNat)) (fun ra8 ae12 => ?_)
                  refine m_st (st2 := [.int (iI (a 35 (((200 * y) + (a 34 y.toNat)) - 1).toNat))]) (congrArg (fun z => Value.int (iI z) :: []) (congrFun (fpb2.2 35 rfl) ((((200 * y) + (a 34 y.toNat)) - 1).toNat))) ?_
                  refine m_aload_n (j := 4) C dX12_read_123 rfl ?_
                  refine hv2 (show (-2147483648) ≤ vb2 33 ∧ vb2 33 ≤ 2147483647 from bxb2.1 33) (show vb2 33 = v 33 from fpb2.1 33 rfl) (fun rv27 ve13 => ?_)
                  refine m_get (k := 33) C dX12_read_124 w6_92 (by decide) rfl ?_
                  refine m_st (st2 := [.int (iI (v 33)), .int (iI (a 35 (((200 * y) + (a 34 y.toNat)) - 1).toNat))]) (congrArg (fun z => Value.int (iI z) :: [.int (iI (a 35 (((200 * y) + (a 34 y.toNat)) - 1).toNat))]) (fpb2.1 33 rfl)) ?_
                  refine m_icmp_ne (tgt := 134) C ⟨by omega, by omega⟩ (r32_c (lo := (-2147483648)) (hi := 2147483647) (Int.le_trans rv27.1 (Int.le_of_eq ve13)) (Int.le_trans (Int.le_of_eq ve13.symm) rv27.2) (by decide) (by decide)) dX12_read_127 (by decide) (fun c14 => ?_) (fun c14 => ?_)
                  · refine m_iconst C dX12_read_134 ?_
                    refine hv2 (show 0 ≤ vb2 50 ∧ vb2 50 ≤ 40200 from bxb2.1 50) (show 0 ≤ vb2 52 ∧ vb2 52 ≤ 4000 from bxb2.1 52) (fun rv28 rv29 => ?_)
                    refine m_lv (lv2 := [(8, .int (iI (a 34 y.toNat))), (7, .int (iI y)), (5, .long (lI (q + k))), (4, .int (iI k)), (0, .ref h0), (1, .int (iI t)), (2, .int (iI q)), (3, .int (iI n1))]) [0, 1, 2, 3, 4, 5, 6, 7] rfl ?_
                    exact J2  0 _ _  bxb2 fpb2 (by omega) (by show (vb2 50) ≤ 201 * k; omega) hW2 hD71 ⟨by show (vb2 52) = v 52; have q := hK71.1; omega, hK71.2⟩
                  · refine m_iconst C dX12_read_130 ?_
                    refine m_goto (tgt := 135) C dX12_read_131 (by decide) ?_
                    refine hv2 (show 0 ≤ vb2 50 ∧ vb2 50 ≤ 40200 from bxb2.1 50) (show 0 ≤ vb2 52 ∧ vb2 52 ≤ 4000 from bxb2.1 52) (fun rv30 rv31 => ?_)
                    refine m_lv (lv2 := [(8, .int (iI (a 34 y.toNat))), (7, .int (iI y)), (5, .long (lI (q + k))), (4, .int (iI k)), (0, .ref h0), (1, .int (iI t)), (2, .int (iI q)), (3, .int (iI n1))]) [0, 1, 2, 3, 4, 5, 6, 7] rfl ?_
                    exact J2  1 _ _  bxb2 fpb2 (by omega) (by show (vb2 50) ≤ 201 * k; omega) hW2 hD71 ⟨by show (vb2 52) = v 52; have q := hK71.1; omega, hK71.2⟩
              · refine m_aload_n (j := 3) C dX12_read_82 rfl ?_
                refine m_aload_n (j := 3) C dX12_read_83 rfl ?_
                refine m_iload (j := 0) C dX12_read_84 rfl ?_
                refine m_call (mc2 := 0) (ms2 := 0) (As := [.int (iI y)]) (rest := [.ref h0]) C (M_lineFault (l0 := y) bxb2.rg ⟨by omega, by omega⟩ ⟨bxb2.1 36, bxb2.2 34⟩) dX12_read_86 kV_X12_294 rfl ck_13 rfl (Nat.le_of_ble_eq_true rfl) ⟨Nat.le_of_ble_eq_true rfl, Nat.le_of_ble_eq_true rfl⟩ ⟨Nat.le_of_ble_eq_true rfl, Nat.le_of_ble_eq_true rfl⟩ (fun rh14 vh14 ah14 h14 => ?_)
                obtain ⟨f11, rfl, hf11, rfl, rfl⟩ := h14
                have gf11 : (f11 = 2 ∧ ¬ (0 ≤ y ∧ y < (vb2 36))) ∨ (f11 = 1 ∧ 0 ≤ y ∧ y < (vb2 36) ∧ ab2 34 y.toNat < 0) ∨ (f11 = 0 ∧ 0 ≤ y ∧ y < (vb2 36) ∧ 0 ≤ ab2 34 y.toNat) := hf11
                refine m_st (st2 := [.int (iI f11), .ref h0]) rfl ?_
                refine m_call (mc2 := 0) (ms2 := 0) (As := [.int (iI f11)]) (rest := []) C (B_bad (x := f11) bxb2 (by show -2147483648 ≤ f11 ∧ f11 ≤ 2147483647; omega)) dX12_read_89 kV_X12_154 rfl ck_13 rfl (Nat.le_of_ble_eq_true rfl) ⟨Nat.le_of_ble_eq_true rfl, Nat.le_of_ble_eq_true rfl⟩ ⟨Nat.le_of_ble_eq_true rfl, Nat.le_of_ble_eq_true rfl⟩ (fun rh15 vh15 ah15 h15 => ?_)
                obtain ⟨f12, rfl, fn13, bn13, ex13⟩ := h15
                refine hv3 (fpb2.call fn13 rfl rfl) (show RWS ah15 from RWS.fr hW2 fn13 rfl) (show f12 = -1 from ex13) (fun fq15 pw12 gf12 => ?_)
                refine m_st (st2 := [.int (iI f12)]) rfl ?_
                refine hv2 (show 0 ≤ vh15 52 ∧ vh15 52 ≤ 4000 from bn13.1 52) (show vh15 52 = vb2 52 from fn13.1 52 rfl) (fun rv32 ve14 => ?_)
                exact m_iret C dX12_read_92 rfl (Nat.le_of_ble_eq_true rfl) (Nat.le_of_ble_eq_true rfl) ⟨f12, rfl, fq15, bn13, ⟨pw12, hD71.bad ⟨by omega, by omega⟩ (by
                    rcases hy with h9 | h9
                    · exact Or.inl h9.2
                    · have ey : y = q + k := h9.1
                      subst ey
                      omega) (by omega) ⟨by show (vh15 52) = v 52; have q := hK71.1; omega, (Eq.trans (show ah15 51 = ab2 51 from fn13.2 51 rfl) hK71.2)⟩⟩⟩
            refine m_if_lt (tgt := 64) C ⟨by omega, by omega⟩ dX12_read_50 (by decide) (fun c15 => ?_) (fun c15 => ?_)
            · refine m_iconst C dX12_read_64 ?_
              refine m_goto (tgt := 71) C dX12_read_65 (by decide) ?_
              refine hv2 (show 0 ≤ vb1 50 ∧ vb1 50 ≤ 40200 from bxb1.1 50) (show 0 ≤ vb1 52 ∧ vb1 52 ≤ 4000 from bxb1.1 52) (fun rv33 rv34 => ?_)
              refine m_lv (lv2 := [(5, .long (lI (q + k))), (4, .int (iI k)), (0, .ref h0), (1, .int (iI t)), (2, .int (iI q)), (3, .int (iI n1))]) [0, 1, 2, 3, 4, 5] rfl ?_
              exact J1  (-1) _ _  bxb1 fpb1 (by omega) (by show (vb1 50) ≤ 201 * k; omega) hW1 hD2 ⟨by show (vb1 52) = v 52; have q := hK32.1; omega, hK32.2⟩
            · refine m_lload (j := 0) C dX12_read_53 rfl ?_
              refine m_aload_n (j := 2) C dX12_read_55 rfl ?_
              refine hv2 (show 0 ≤ vb1 36 ∧ vb1 36 ≤ 200 from bxb1.1 36) (show vb1 36 = v 36 from fpb1.1 36 rfl) (fun rv35 ve15 => ?_)
              refine m_get (k := 36) C dX12_read_56 w6_95 (by decide) rfl ?_
              refine m_st (st2 := [.int (iI (v 36)), .long (lI (q + k))]) (congrArg (fun z => Value.int (iI z) :: [.long (lI (q + k))]) (fpb1.1 36 rfl)) ?_
              refine m_i2l (w := lI (v 36)) C dX12_read_59 (lI_of ⟨by omega, by omega⟩) ?_
              obtain ⟨lc2, hlc2, elc2⟩ := lcmp_c (x := (q + k)) (y := (v 36)) ⟨by omega, by omega⟩ ⟨by omega, by omega⟩
              refine m_lcmp (w := iI lc2) C dX12_read_60 elc2 ?_
              refine m_if_lt (tgt := 68) C ⟨by omega, by omega⟩ dX12_read_61 (by decide) (fun c16 => ?_) (fun c16 => ?_)
              · refine m_lload (j := 0) C dX12_read_68 rfl ?_
                refine m_l2i (w := iI (q + k)) C dX12_read_70 (lI_i _) ?_
                refine hv2 (show 0 ≤ vb1 50 ∧ vb1 50 ≤ 40200 from bxb1.1 50) (show 0 ≤ vb1 52 ∧ vb1 52 ≤ 4000 from bxb1.1 52) (fun rv36 rv37 => ?_)
                refine m_lv (lv2 := [(5, .long (lI (q + k))), (4, .int (iI k)), (0, .ref h0), (1, .int (iI t)), (2, .int (iI q)), (3, .int (iI n1))]) [0, 1, 2, 3, 4, 5] rfl ?_
                exact J1  (q + k) _ _  bxb1 fpb1 (by omega) (by show (vb1 50) ≤ 201 * k; omega) hW1 hD2 ⟨by show (vb1 52) = v 52; have q := hK32.1; omega, hK32.2⟩
              · refine m_iconst C dX12_read_64 ?_
                refine m_goto (tgt := 71) C dX12_read_65 (by decide) ?_
                refine hv2 (show 0 ≤ vb1 50 ∧ vb1 50 ≤ 40200 from bxb1.1 50) (show 0 ≤ vb1 52 ∧ vb1 52 ≤ 4000 from bxb1.1 52) (fun rv38 rv39 => ?_)
                refine m_lv (lv2 := [(5, .long (lI (q + k))), (4, .int (iI k)), (0, .ref h0), (1, .int (iI t)), (2, .int (iI q)), (3, .int (iI n1))]) [0, 1, 2, 3, 4, 5] rfl ?_
                exact J1  (-1) _ _  bxb1 fpb1 (by omega) (by show (vb1 50) ≤ 201 * k; omega) hW1 hD2 ⟨by show (vb1 52) = v 52; have q := hK32.1; omega, hK32.2⟩
      have rv40 : 0 ≤ v 52 ∧ v 52 ≤ 4000 := bq1.1 52
      refine m_lv (lv2 := [(4, .int (iI 0)), (0, .ref h0), (1, .int (iI t)), (2, .int (iI q)), (3, .int (iI n1))]) [0, 1, 2, 3, 4] rfl ?_
      exact Lp1 202 0 _ _ (by omega) bq1 fq2 (by omega) (by omega) (by show 0 ≤ 201 * 0; omega) hW (RD2.init (by show 0 = 0; omega)) ⟨by show (v 52) = v 52; omega, rfl⟩
    · refine m_aload_n (j := 0) C dX12_read_18 rfl ?_
      refine m_iconst C dX12_read_19 ?_
      refine m_call (mc2 := 0) (ms2 := 0) (As := [.int (iI 5)]) (rest := []) C (B_bad (x := 5) hB (by show -2147483648 ≤ (5 : Int) ∧ (5 : Int) ≤ 2147483647; omega)) dX12_read_20 kV_X12_154 rfl ck_13 rfl (Nat.le_of_ble_eq_true rfl) ⟨Nat.le_of_ble_eq_true rfl, Nat.le_of_ble_eq_true rfl⟩ ⟨Nat.le_of_ble_eq_true rfl, Nat.le_of_ble_eq_true rfl⟩ (fun rh16 vh16 ah16 h16 => ?_)
      obtain ⟨f13, rfl, fn14, bn14, ex14⟩ := h16
      refine hv3 (fp0.call fn14 rfl rfl) (show RWS ah16 from RWS.fr hW fn14 rfl) (show f13 = -1 from ex14) (fun fq16 pw13 gf13 => ?_)
      refine m_st (st2 := [.int (iI f13)]) rfl ?_
      refine hv2 (show 0 ≤ vh16 52 ∧ vh16 52 ≤ 4000 from bn14.1 52) (show vh16 52 = v 52 from fn14.1 52 rfl) (fun rv41 ve16 => ?_)
      exact m_iret C dX12_read_23 rfl (Nat.le_of_ble_eq_true rfl) (Nat.le_of_ble_eq_true rfl) ⟨f13, rfl, fq16, bn14, ⟨pw13, RDR.nw (Or.inr (by omega)) (by omega) ⟨by show (vh16 52) = v 52; omega, (show ah16 51 = a 51 from fn14.2 51 rfl)⟩⟩⟩
  · clear gf1
    refine m_aload_n (j := 0) C dX12_read_8 rfl ?_
    refine m_iconst C dX12_read_9 ?_
    refine m_call (mc2 := 0) (ms2 := 0) (As := [.int (iI 3)]) (rest := []) C (B_bad (x := 3) hB (by show -2147483648 ≤ (3 : Int) ∧ (3 : Int) ≤ 2147483647; omega)) dX12_read_10 kV_X12_154 rfl ck_13 rfl (Nat.le_of_ble_eq_true rfl) ⟨Nat.le_of_ble_eq_true rfl, Nat.le_of_ble_eq_true rfl⟩ ⟨Nat.le_of_ble_eq_true rfl, Nat.le_of_ble_eq_true rfl⟩ (fun rh17 vh17 ah17 h17 => ?_)
    obtain ⟨f14, rfl, fn15, bn15, ex15⟩ := h17
    refine hv3 (fp0.call fn15 rfl rfl) (show RWS ah17 from RWS.fr hW fn15 rfl) (show f14 = -1 from ex15) (fun fq17 pw14 gf14 => ?_)
    refine m_st (st2 := [.int (iI f14)]) rfl ?_
    refine hv2 (show 0 ≤ vh17 52 ∧ vh17 52 ≤ 4000 from bn15.1 52) (show vh17 52 = v 52 from fn15.1 52 rfl) (fun rv42 ve17 => ?_)
    exact m_iret C dX12_read_13 rfl (Nat.le_of_ble_eq_true rfl) (Nat.le_of_ble_eq_true rfl) ⟨f14, rfl, fq17, bn15, ⟨pw14, RDR.nw (Or.inl (fun q9 => absurd (tl1.mpr q9) (by omega))) (by omega) ⟨by show (vh17 52) = v 52; omega, (show ah17 51 = a 51 from fn15.2 51 rfl)⟩⟩⟩
end
section
def LKQ (F : Int32) (x y : Int) : Prop := (iI x ^^^ iI y) &&& F = iI 0
def MYR (a : Nat → Nat → Int) (C : Nat → Int) (F : Int32) (n d p h : Int) : Prop := ((1 ≤ rlen a d ∧ p + rlen a d ≤ n) ∧ (h = 1 → SMR a d)) ∧ ∀ k : Int, 0 ≤ k → k < rlen a d → LKQ F (dcl a d k) (C (p + k).toNat)
def MYB (C : Nat → Int) (F : Int32) (n p h : Int) : Prop := (h ≠ 1 ∧ p < n) ∧ LKQ F 0 (C p.toNat)
def MYO (a : Nat → Nat → Int) (C : Nat → Int) (F : Int32) (n p h : Int) : Option Int → Prop
  | none => MYB C F n p h
  | some d => MYR a C F n d p h
def onp (a : Nat → Nat → Int) (p : Int) : Option Int → Int
  | none => p + 1
  | some d => p + rlen a d
def ong (g : Int) : Option Int → Int
  | none => 0
  | some d => ngp d g
def onh : Option Int → Int
  | none => 0
  | some d => ngh d
def oou (a : Nat → Nat → Int) (h : Int) : Option Int → List Int
  | none => [32]
  | some d => rout a d h
def chs (l0 l1 : List Int) (g : Int) : List (Option Int) := none :: (if g = 0 then l0 else l1).map some
def pxs (w : List Int) (X : List (List Int)) : List (List Int) := X.map (fun u => w ++ u)
noncomputable def cif (P : Prop) (X : List (List Int)) : List (List Int) := @ite _ P (Classical.propDecidable P) X []
def fmp (f : Option Int → List (List Int)) : List (Option Int) → List (List Int)
  | [] => []
  | o :: l => f o ++ fmp f l
noncomputable def rdl (a : Nat → Nat → Int) (l0 l1 : List Int) (C : Nat → Int) (F : Int32) (n : Int) : Nat → Int → Int → Int → List (List Int)
  | 0, _, _, _ => []
  | m + 1, p, g, h => if p = n then (if h = 1 then [] else [[]]) else fmp (fun o => cif (MYO a C F n p h o) (pxs (oou a h o) (rdl a l0 l1 C F n m (onp a p o) (ong g o) (onh o)))) (chs l0 l1 g)
noncomputable def RDC (a : Nat → Nat → Int) (l0 l1 : List Int) (C : Nat → Int) (F : Int32) (n : Int) (p g h : Int) : List (List Int) := rdl a l0 l1 C F n ((n - p).toNat + 1) p g h
def KMQ (W : Nat) (Z K : List (List Int)) (m : Int) : Prop := K = Z.take W ∧ ((m = 1 ∧ W < Z.length) ∨ (m = 0 ∧ Z.length ≤ W))
section GSEM
variable {a a1 : Nat → Nat → Int} {l0 l1 : List Int} {C : Nat → Int} {F : Int32} {n p g h d x y m1 m2 : Int} {f f2 : Option Int → List (List Int)} {l : List (Option Int)} {o : Option Int} {X Y Z K K2 : List (List Int)} {w u : List Int} {k W : Nat} {P : Prop}
theorem cif_t (hp : P) : cif P X = X := if_pos hp
theorem cif_f (hp : ¬ P) : cif P X = [] := if_neg hp
theorem MYO.lt (hm : MYO a C F n p h o) : p < onp a p o ∧ onp a p o ≤ n := by
  cases o with
  | none =>
    have e : MYB C F n p h := hm
    show p < p + 1 ∧ p + 1 ≤ n
    have := e.1.2
    omega
  | some d =>
    have e : MYR a C F n d p h := hm
    show p < p + rlen a d ∧ p + rlen a d ≤ n
    have := e.1.1
    omega
theorem rdl_s : rdl a l0 l1 C F n (k + 1) p g h = if p = n then (if h = 1 then [] else [[]]) else fmp (fun o => cif (MYO a C F n p h o) (pxs (oou a h o) (rdl a l0 l1 C F n k (onp a p o) (ong g o) (onh o)))) (chs l0 l1 g) := rfl
theorem KMQ.init : KMQ W [] [] 0 := ⟨by rw [List.take_nil], Or.inr ⟨rfl, Nat.zero_le _⟩⟩
theorem KMQ.len (hk : KMQ W Z K x) (hx : x ≠ 1) : K = Z ∧ K.length ≤ W := by
  obtain ⟨e, q⟩ := hk
  rcases q with ⟨q1, q2⟩ | ⟨q1, q2⟩
  · exact absurd q1 hx
  · have e2 : K = Z := by rw [e, List.take_of_length_le q2]
    exact ⟨e2, by rw [e2]; exact q2⟩
theorem KMQ.push (hk : KMQ W Z K x) (hx : x ≠ 1) (hl : K.length < W) : KMQ W (Z ++ [w]) (K ++ [w]) 0 := by
  obtain ⟨e, _⟩ := hk.len hx
  subst e
  have q : (K ++ [w]).length ≤ W := by
    rw [List.length_append]
    show K.length + 1 ≤ W
    omega
  exact ⟨by rw [List.take_of_length_le q], Or.inr ⟨rfl, q⟩⟩
theorem KMQ.full (hk : KMQ W Z K x) (hx : x ≠ 1) (hl : K.length = W) : KMQ W (Z ++ [w]) K 1 := by
  obtain ⟨e, _⟩ := hk.len hx
  subst e
  refine ⟨by rw [List.take_append_of_le_length (by omega), List.take_of_length_le (by omega)], Or.inl ⟨rfl, ?_⟩⟩
  rw [List.length_append]
  show W < K.length + 1
  omega
theorem KMQ.uni (h1 : KMQ W Z K m1) (h2 : KMQ W Z K2 m2) : K = K2 ∧ m1 = m2 := by
  refine ⟨h1.1.trans h2.1.symm, ?_⟩
  rcases h1.2 with ⟨q1, q2⟩ | ⟨q1, q2⟩ <;> rcases h2.2 with ⟨q3, q4⟩ | ⟨q3, q4⟩ <;> omega
end GSEM
end
section
def KLQ (v : Nat → Int) (a : Nat → Nat → Int) (K : List (List Int)) : Prop := v 60 = ((K.length : Nat) : Int) ∧ ∀ (k : Nat) (w : List Int), K[k]? = some w → a 59 k = ((w.length : Nat) : Int) ∧ w.length ≤ 808 ∧ ∀ (j : Nat) (x : Int), w[j]? = some x → a 58 (808 * k + j) = x
def KPS (v : Nat → Int) (a : Nat → Nat → Int) (Z : List (List Int)) : Prop := ∃ K, KMQ (v 64).toNat Z K (v 61) ∧ KLQ v a K
section GGOS
variable {v v1 v2 v3 v4 : Nat → Int} {a a0 a1 a2 a3 a4 : Nat → Nat → Int} {l0 l1 : List Int} {C : Nat → Int} {x y k g h f pt r d z i j nx cp : Int} {V A : List Nat} {Z K : List (List Int)} {w u : List Int}
theorem KPS.cg (hk : KPS v a Z) (e60 : v1 60 = v 60) (e61 : v1 61 = v 61) (e64 : v1 64 = v 64) (e58 : a1 58 = a 58) (e59 : a1 59 = a 59) : KPS v1 a1 Z := by
  obtain ⟨K, k1, k2, k3⟩ := hk
  exact ⟨K, by rw [e61, e64]; exact k1, e60.trans k2, fun k w e => by rw [e58, e59]; exact k3 k w e⟩
end GGOS
end
section
def hs (H : Heap) : Nat := (H.toList.map (fun c => c.slots.size)).sum
def mu (H : Heap) : Nat := 16 * H.size + hs H
theorem sbn_hs {s t : State} {locs : List Loc} {k n : Nat} (h : s.sameButNew t locs k n) : hs t.heap = hs s.heap + ((t.heap.toList.drop s.heap.size).map (·.slots.size)).sum := by
  obtain ⟨-, h2, -, -, -, h6⟩ := h
  have e : (t.heap.toList.take s.heap.size).map (fun c => c.slots.size) = s.heap.toList.map (fun c => c.slots.size) := by
    apply List.ext_getElem?
    intro i
    rw [List.getElem?_map, List.getElem?_map]
    by_cases hi : i < s.heap.size
    · rw [List.getElem?_take_of_lt hi]
      obtain ⟨c2, g1, -, g3, -⟩ := h6 i s.heap[i] (Array.getElem?_eq_getElem hi)
      rw [Array.getElem?_toList, Array.getElem?_toList, g1, Array.getElem?_eq_getElem hi]
      exact congrArg some g3
    · rw [List.getElem?_eq_none (by rw [List.length_take, Array.length_toList]; omega), List.getElem?_eq_none (by rw [Array.length_toList]; omega)]
  unfold hs
  rw [← e, ← List.sum_append, ← List.map_append, List.take_append_drop]
section MUS
variable {p : Program} {l : Launch} {e : Env} {R : Room} {s : State} {m : MethodId} {args : Array Value} {below : List Frame} {meth : Method} {c : Code} {T : State} {locs : List Loc} {kc ks : Nat}
theorem stand_mu (X : Stand p l e R s m args below meth c T locs kc ks) : mu T.heap ≤ mu s.heap + (16 * kc + ks) := by
  have h := X.same
  refine hv3 (show hs T.heap = hs s.heap + ((T.heap.toList.drop s.heap.size).map (·.slots.size)).sum from sbn_hs (t := T.setVm s.vm) h) (show T.heap.size ≤ s.heap.size + kc from h.2.2.1) (show ((T.heap.toList.drop s.heap.size).map (·.slots.size)).sum ≤ ks from h.2.2.2.2.1) (fun h1 h2 h3 => ?_)
  unfold mu
  rw [h1]
  omega
theorem stand_narrow (X : Stand p l e R s m args below meth c T locs kc ks) {u : Nat} (hu : mu T.heap ≤ mu s.heap + u) : ∃ kc2 ks2 : Nat, 16 * kc2 + ks2 ≤ u ∧ Stand p l e R s m args below meth c T locs kc2 ks2 := by
  have h := X.same
  refine hv2 (show hs T.heap = hs s.heap + ((T.heap.toList.drop s.heap.size).map (·.slots.size)).sum from sbn_hs (t := T.setVm s.vm) h) (show s.heap.size ≤ T.heap.size from h.2.1) (fun h1 h2 => ?_)
  refine ⟨T.heap.size - s.heap.size, ((T.heap.toList.drop s.heap.size).map (·.slots.size)).sum, ?_, { X with same := ⟨h.1, h.2.1, ?_, h.2.2.2.1, Nat.le_refl _, h.2.2.2.2.2⟩ }⟩
  · unfold mu at hu; omega
  · show T.heap.size ≤ s.heap.size + (T.heap.size - s.heap.size); omega
end MUS
abbrev PU : Type := Option Value → List Nat → (Nat → va_E) → Nat → Prop
def Qu (G : GT) (A : Nat → Prop) (Post : PU) : Array Value → State → Outcome → State → Prop := fun _ st oc t => (∃ (v : Option Value) (L2 : List Nat) (E2 : Nat → va_E) (u : Nat), oc = .returned v ∧ Post v L2 E2 u ∧ mu t.heap ≤ mu st.heap + u ∧ va_P G.1 vwCl (va_pl L2 E2) t.heap ∧ va_D A (va_pl L2 E2)) ∧ va_F A st t
abbrev rmu (d r : Nat) : Room := { frames := d, cells := r / 16, slots := r, locals := 64 * d }
def Mir (mi : Nat) (U : State) : Prop := va_Mi "[Ljava/lang/Object;" mi U ∧ va_Dc U
theorem Mir.warm {mi : Nat} {s U : State} (h : Mir mi s) (hW : s.WarmedH U.vm) : Mir mi U := ⟨va_Mi.moved hW.alike h.1, va_Dc.moved hW.alike h.2⟩
def Pcu (G : GT) (mi : Nat) (L : List Nat) (E : Nat → va_E) (sz : Nat) (U : State) : Prop := Pcq G L E sz U ∧ Mir mi U
def Mu (l : Launch) (G : GT) (mi : Nat) (y : MethodName) (cc : ByteArray) (n : Nat) (ret : Option FieldType) (d : Nat) (av : List Value) (L : List Nat) (E : Nat → va_E) (r : Nat) (Post : PU) : Prop :=
  ∀ sz : Nat, Met l y (.code y cc n ret :: lw_g) (rmu d r) (va_Pc av (Pcu G mi L E sz)) (Qu G (va_A (va_pl L E) sz) Post) (r / 16) r (va_A (va_pl L E) sz)

def wu (p : Program) (l : Launch) (e : Env) (d0 r0 : Nat) (s : State) (m : MethodId) (args : Array Value) (below : List Frame) (meth : Method) (c : Code) (G : GT) (A : Nat → Prop) (nL : Nat) (Q : State → Prop) (L : List Nat) (E : Nat → va_E) (u pc : Nat) (lv : List (Nat × Value)) (st : List Value) : Prop := ∀ kc ks : Nat, 16 * kc + ks ≤ u → wq p l e (rmu d0 r0) s m args below meth c G A nL Q L E kc ks pc lv st
theorem Pcu.blind {G : GT} {mi : Nat} {L : List Nat} {E : Nat → va_E} {sz : Nat} {av : List Value} : FrameBlind (va_Pc av (Pcu G mi L E sz)) := by
  intro a U g mk q
  have h1 := Pcq.blind (G := G) (L := L) (E := E) (sz := sz) (av := av) a U g mk ⟨q.1, q.2.1⟩
  exact ⟨h1.1, h1.2, va_Mi.moved (u := U) (U := U.calling g mk a) (Vm.Alike.refl U.vm) q.2.2.1, va_Dc.moved (u := U) (U := U.calling g mk a) (Vm.Alike.refl U.vm) q.2.2.2⟩
section UQ
variable {p : Program} {l : Launch} {e : Env} {d0 r0 : Nat} {s : State} {m : MethodId} {args : Array Value} {below : List Frame} {meth : Method} {c : Code} {cc : ByteArray} {y : MethodName} {ret : Option FieldType} {G : GT} {A : Nat → Prop} {nL mi : Nat} {Q : State → Prop} {L : List Nat} {E : Nat → va_E} {u pc : Nat} {lv : List (Nat × Value)} {st : List Value} {Post : PU}
theorem Mu.mk {n d r : Nat} {av : List Value} (hy : plainName y.cls = true) (hn : (lg_sl av).length ≤ n) (body : ∀ (p : Program) (e : Env) (s : State) (m : MethodId) (args : Array Value) (below : List Frame) (meth : Method) (c : Code) (A : Nat → Prop), Cq p s m args meth c cc y ret G A n → Mir mi s → wu p l e d r s m args below meth c G A n (MQ below (Qu G A Post) args s (r / 16) r A) L E 0 0 (lv_args 0 av) []) : Mu l G mi y cc n ret d av L E r Post := by
  intro sz
  refine Met.ofW (cc := cc) (maxL := n) (ret := ret) hy rfl ?_
  intro p e s m args below meth c s₁ B hml hv
  obtain ⟨rfl, ⟨hsz, hP, hK, hD0, hZ, hN⟩, hM⟩ := hv
  subst hsz
  refine hv2 (atoms_spec (ws := .code y cc n ret :: lw_g) B.pre) (lv_entry av (n := n) hn) (fun hts hl => ?_)
  rw [lg_entry_eq]
  have hown := findClass_of_methodNamed B.named
  exact body p e s m _ below meth c _ ⟨B.exec, B.bytes, hml, hown, fun w hw => hts w (List.mem_cons_of_mem _ hw), hK, fun q h => Or.inr h, hZ, B.returns, B.notSynchronized, (name_of_methodNamed B.named B.method).1, hN⟩ hM 0 0 (Nat.le_refl _) s.heap [] _ hP hD0.self va_S.rf hl
theorem u_after (C : Cq p s m args meth c cc y ret G A nL) {r2 kc ks : Nat} {a2 : Array Value} {st0 rest : List Value} {P2 : PU} {H : Heap} {locs : List Loc} {ls : Array Slot} (hu : 16 * kc + ks ≤ u) (hD : va_D A (va_pl L E)) (hS : va_S A s.heap H locs) (hl : lv_has ls nL lv) (hr : va_Run p l e (rmu d0 r0) s m args below meth c H locs kc ks (r2 / 16) r2 (F0 m pc ls st0) rest (Qu G (va_A (va_pl L E) H.size) P2 a2) (va_A (va_pl L E) H.size)) (kk : ∀ (v : Option Value) (L2 : List Nat) (E2 : Nat → va_E) (u2 : Nat), P2 v L2 E2 u2 → wu p l e d0 r0 s m args below meth c G A nL Q L2 E2 (u + u2) (pc + 3) lv (v.toList ++ rest)) : W p l e (rmu d0 r0) s m args below meth c H locs kc ks Q (F0 m pc ls st0) := by
  have hF := pl_free hD hS C.2.2.2.2.2.2.1
  intro T hT X
  obtain ⟨v, st₀, t, T', Lc, h0, X', hL, e1, e2, ⟨⟨v', L', E', u2, hv, hp, hm, hP', hD'⟩, hz, hk⟩, stp⟩ := hr T hT X
  cases hv
  have hmu := stand_mu X
  rw [hT] at hmu
  rw [h0] at hz hk hm
  obtain ⟨kc2, ks2, hn, X''⟩ := stand_narrow X' (u := u + u2) (by rw [e1]; omega)
  have hS1 : va_S A s.heap T'.heap (locs ++ Lc) := ⟨Nat.le_trans hS.1 (by rw [e1]; exact hz), fun q h1 h2 => by rw [e1, hk q (Nat.lt_of_lt_of_le h1 hS.1) (fun z => h2 (hF q z))]; exact hS.2.1 q h1 h2, fun q hq => by
      rcases List.mem_append.mp hq with h | h
      · exact hS.2.2 q h
      · exact hF _ (hL q h)⟩
  obtain ⟨t2, a1, b1⟩ := kk v L' E' u2 hp kc2 ks2 hn T'.heap (locs ++ Lc) ls (by rw [e1]; exact hP') (hD'.weaken (fun _ q _ h => hF q.1 h)) hS1 hl T' rfl X''
  exact ⟨t2, stp t2 a1, b1⟩
theorem u_room {kc ks u r2 r0 : Nat} (h : 16 * kc + ks ≤ u) (hr : u + r2 ≤ r0) : kc + r2 / 16 ≤ r0 / 16 ∧ ks + r2 ≤ r0 := ⟨by omega, by omega⟩
theorem u_callV (C : Cq p s m args meth c cc y ret G A nL) (hM : Mir mi s) {y2 : MethodName} {cc2 : ByteArray} {n2 d2 r2 idx k2 : Nat} {P2 : PU} {As rest : List Value} {b ci N : Nat} {ret2 : Option FieldType} {T : u_T} {ty : Nat → FieldType} {f : Nat → Value} (M : Mu l G mi y2 cc2 n2 ret2 d2 (.ref b :: As) L E r2 P2) (d : decode cc pc = .ok (.invokevirtual idx, 3)) (hw : Wv y.cls idx y2 cc2 n2 ret2 k2) (hk : As.length = k2) (hb : b ∈ L) (hE : E b = ob ci N f) (ck : Ck ci y2.cls T N ty) (hst : st = As.reverse ++ .ref b :: rest) (hcat : (rest.map fun v => v.category).sum ≤ 8) (hR : d2 + 1 ≤ d0 ∧ 8 + (n2 + 11) + 64 * d2 ≤ 64 * d0) (hf : u + r2 ≤ r0) (kk : ∀ (v : Option Value) (L2 : List Nat) (E2 : Nat → va_E) (u2 : Nat), P2 v L2 E2 u2 → wu p l e d0 r0 s m args below meth c G A nL Q L2 E2 (u + u2) (pc + 3) lv (v.toList ++ rest)) : wu p l e d0 r0 s m args below meth c G A nL Q L E u pc lv st := by
  intro kc ks hu H locs ls hP hD hS hl
  subst hst
  obtain ⟨q0, hq⟩ := pl_at (E := E) hb
  obtain ⟨⟨w1, w2, w3, w4⟩, w5, w6⟩ := hw
  have hts := C.2.2.2.2.1
  exact u_after C hu hD hS hl (va_runV (As := As) (rest := rest) (Ts := lw_g) ⟨C.1, C.2.1, C.2.2.1, C.2.2.2.1, hts⟩ (M H.size) ⟨callB_of k2 hts (lw_goodIn w3) rfl rfl rfl (hts _ w2) (hts _ w1) w4 hR, hts _ w5, hts _ w6⟩ ⟨Pcu.blind, va_recv C.2.2.2.2.2.1 hP (ci := ci) (q0 := q0) ck.1 (by rw [hq, hE]; rfl), fun U hU hW => ⟨rfl, ⟨by rw [hU], by rw [hU]; exact hP, va_K.moved hW.alike C.2.2.2.2.2.1, hD.weaken (fun _ _ _ _ => trivial), C.2.2.2.2.2.2.2.1.pass hS (pl_free hD hS C.2.2.2.2.2.2.1) hW.alike hU, C.2.2.2.2.2.2.2.2.2.2.2.warm hW⟩, hM.warm hW⟩⟩ rfl hk hl.1 rfl (lv_room hcat) d (u_room hu hf)) kk
theorem u_callI (C : Cq p s m args meth c cc y ret G A nL) (hM : Mir mi s) {y2 : MethodName} {cc2 : ByteArray} {n2 d2 r2 idx k2 : Nat} {P2 : PU} {As rest : List Value} {b : Nat} (M : Mu l G mi y2 cc2 n2 none d2 (.ref b :: As) L E r2 P2) (d : decode cc pc = .ok (.invokespecial idx, 3)) (hw : Wi y.cls idx y2 cc2 n2 k2) (hk : As.length = k2) (hst : st = As.reverse ++ .ref b :: rest) (hcat : (rest.map fun v => v.category).sum ≤ 8) (hR : d2 + 1 ≤ d0 ∧ 8 + (n2 + 11) + 64 * d2 ≤ 64 * d0) (hf : u + r2 ≤ r0) (kk : ∀ (v : Option Value) (L2 : List Nat) (E2 : Nat → va_E) (u2 : Nat), P2 v L2 E2 u2 → wu p l e d0 r0 s m args below meth c G A nL Q L2 E2 (u + u2) (pc + 3) lv (v.toList ++ rest)) : wu p l e d0 r0 s m args below meth c G A nL Q L E u pc lv st := by
  intro kc ks hu H locs ls hP hD hS hl
  subst hst
  obtain ⟨⟨w1, w2, w3, w4⟩, w5, w6⟩ := hw
  have hts := C.2.2.2.2.1
  exact u_after C hu hD hS hl (va_runI (As := As) (rest := rest) (Ts := lw_g) ⟨C.1, C.2.1, C.2.2.1, C.2.2.2.1, hts⟩ (M H.size) ⟨callB_of k2 hts (lw_goodIn w3) rfl rfl rfl (hts _ w2) (hts _ w1) w4 hR, w5, hts _ w6⟩ ⟨Pcu.blind, fun U hU hW => ⟨rfl, ⟨by rw [hU], by rw [hU]; exact hP, va_K.moved hW.alike C.2.2.2.2.2.1, hD.weaken (fun _ _ _ _ => trivial), C.2.2.2.2.2.2.2.1.pass hS (pl_free hD hS C.2.2.2.2.2.2.1) hW.alike hU, C.2.2.2.2.2.2.2.2.2.2.2.warm hW⟩, hM.warm hW⟩⟩ rfl hk hl.1 rfl (lv_room hcat) d (u_room hu hf)) kk
theorem u_callS (C : Cq p s m args meth c cc y ret G A nL) (hM : Mir mi s) {y2 : MethodName} {cc2 : ByteArray} {n2 d2 r2 idx k2 : Nat} {P2 : PU} {As rest : List Value} {ret2 : Option FieldType} (M : Mu l G mi y2 cc2 n2 ret2 d2 As L E r2 P2) (d : decode cc pc = .ok (.invokestatic idx, 3)) (hw : Ws y.cls idx y2 cc2 n2 ret2 k2) (hk : As.length = k2) (hst : st = As.reverse ++ rest) (hcat : (rest.map fun v => v.category).sum ≤ 8) (hR : d2 + 1 ≤ d0 ∧ 8 + (n2 + 11) + 64 * d2 ≤ 64 * d0) (hf : u + r2 ≤ r0) (kk : ∀ (v : Option Value) (L2 : List Nat) (E2 : Nat → va_E) (u2 : Nat), P2 v L2 E2 u2 → wu p l e d0 r0 s m args below meth c G A nL Q L2 E2 (u + u2) (pc + 3) lv (v.toList ++ rest)) : wu p l e d0 r0 s m args below meth c G A nL Q L E u pc lv st := by
  intro kc ks hu H locs ls hP hD hS hl
  subst hst
  obtain ⟨⟨w1, w2, w3, w4⟩, w5⟩ := hw
  have hts := C.2.2.2.2.1
  exact u_after C hu hD hS hl (va_runS (As := As) (rest := rest) (Ts := lw_g) ⟨C.1, C.2.1, C.2.2.1, C.2.2.2.1, hts⟩ (M H.size) ⟨callB_of k2 hts (lw_goodIn w3) rfl rfl rfl (hts _ w2) (hts _ w1) w4 hR, hts _ w5⟩ ⟨Pcu.blind, fun U hU hW => ⟨rfl, ⟨by rw [hU], by rw [hU]; exact hP, va_K.moved hW.alike C.2.2.2.2.2.1, hD.weaken (fun _ _ _ _ => trivial), C.2.2.2.2.2.2.2.1.pass hS (pl_free hD hS C.2.2.2.2.2.2.1) hW.alike hU, C.2.2.2.2.2.2.2.2.2.2.2.warm hW⟩, hM.warm hW⟩⟩ rfl hk hl.1 rfl (lv_room hcat) d (u_room hu hf)) kk
theorem u_callIN (C : Cq p s m args meth c cc y ret G A nL) (hM : Mir mi s) {y2 : MethodName} {cc2 : ByteArray} {n2 d2 r2 idx k2 : Nat} {P2 : PU} {As rest : List Value} {b : Nat} {host : String} (M : Mu l G mi y2 cc2 n2 none d2 (.ref b :: As) L E r2 P2) (d : decode cc pc = .ok (.invokespecial idx, 3)) (hw : Wn y.cls idx y2 host cc2 n2 k2) (hk : As.length = k2) (hst : st = As.reverse ++ .ref b :: rest) (hcat : (rest.map fun v => v.category).sum ≤ 8) (hR : d2 + 1 ≤ d0 ∧ 8 + (n2 + 11) + 64 * d2 ≤ 64 * d0) (hf : u + r2 ≤ r0) (kk : ∀ (v : Option Value) (L2 : List Nat) (E2 : Nat → va_E) (u2 : Nat), P2 v L2 E2 u2 → wu p l e d0 r0 s m args below meth c G A nL Q L2 E2 (u + u2) (pc + 3) lv (v.toList ++ rest)) : wu p l e d0 r0 s m args below meth c G A nL Q L E u pc lv st := by
  intro kc ks hu H locs ls hP hD hS hl
  subst hst
  obtain ⟨⟨w1, w2, w3, w4⟩, w5, w6⟩ := hw
  have hts := C.2.2.2.2.1
  exact u_after C hu hD hS hl (va_runIN (As := As) (rest := rest) (Ts := lw_g) ⟨C.1, C.2.1, C.2.2.1, C.2.2.2.1, hts⟩ (M H.size) ⟨va_cnB k2 hts (lw_goodIn w3) rfl rfl rfl (C.2.2.2.2.2.2.2.2.2.2.2.1 _ _ _ _ w1) (hts _ w2) w4 hR, w5, hts _ w6⟩ ⟨Pcu.blind, fun U hU hW => ⟨rfl, ⟨by rw [hU], by rw [hU]; exact hP, va_K.moved hW.alike C.2.2.2.2.2.1, hD.weaken (fun _ _ _ _ => trivial), C.2.2.2.2.2.2.2.1.pass hS (pl_free hD hS C.2.2.2.2.2.2.1) hW.alike hU, C.2.2.2.2.2.2.2.2.2.2.2.warm hW⟩, hM.warm hW⟩⟩ rfl hk hl.1 rfl (lv_room hcat) d (u_room hu hf)) kk
theorem u_wid {kc ks u r0 : Nat} (h : 16 * kc + ks ≤ u) (hr : u ≤ r0) : kc ≤ r0 / 16 ∧ ks ≤ r0 := ⟨by omega, by omega⟩
theorem u_iret (C : Cq p s m args meth c cc y ret G A nL) {v : Int32} (d : decode cc pc = .ok (.ireturn, 1)) (hr : ret = some .int) (hur : u ≤ r0) (hp : Post (some (.int v)) L E u) : wu p l e d0 r0 s m args below meth c G A nL (MQ below (Qu G A Post) args s (r0 / 16) r0 A) L E u pc lv [.int v] := by
  intro kc ks hu H locs ls hP hD hS hl T hT X
  have hmu := stand_mu X
  rw [hT] at hmu
  refine W.widen (u_wid hu hur).1 (u_wid hu hur).2 ?_ T hT X
  exact W.iret C.1 C.2.1 (C.2.2.2.2.2.2.2.2.1.trans hr) (fun t ht hW => ⟨⟨_, L, E, u, rfl, hp, by rw [ht]; omega, by rw [ht]; exact hP, hD⟩, hS.F ht⟩) hS.2.2 d C.2.2.2.2.2.2.2.2.2.1
theorem u_zret (C : Cq p s m args meth c cc y ret G A nL) {v : Int32} (d : decode cc pc = .ok (.ireturn, 1)) (hr : ret = some .boolean) (hn : narrow .boolean (.int v) = .int v) (hur : u ≤ r0) (hp : Post (some (.int v)) L E u) : wu p l e d0 r0 s m args below meth c G A nL (MQ below (Qu G A Post) args s (r0 / 16) r0 A) L E u pc lv [.int v] := by
  intro kc ks hu H locs ls hP hD hS hl T hT X
  have hmu := stand_mu X
  rw [hT] at hmu
  refine W.widen (u_wid hu hur).1 (u_wid hu hur).2 ?_ T hT X
  exact W.zret C.1 C.2.1 (C.2.2.2.2.2.2.2.2.1.trans hr) hn (fun t ht hW => ⟨⟨_, L, E, u, rfl, hp, by rw [ht]; omega, by rw [ht]; exact hP, hD⟩, hS.F ht⟩) hS.2.2 d C.2.2.2.2.2.2.2.2.2.1
theorem u_vret (C : Cq p s m args meth c cc y ret G A nL) (d : decode cc pc = .ok (.return_, 1)) (hr : ret = none) (hur : u ≤ r0) (hp : Post none L E u) : wu p l e d0 r0 s m args below meth c G A nL (MQ below (Qu G A Post) args s (r0 / 16) r0 A) L E u pc lv [] := by
  intro kc ks hu H locs ls hP hD hS hl T hT X
  have hmu := stand_mu X
  rw [hT] at hmu
  refine W.widen (u_wid hu hur).1 (u_wid hu hur).2 ?_ T hT X
  exact W.vret C.1 C.2.1 (C.2.2.2.2.2.2.2.2.1.trans hr) (fun t ht hW => ⟨⟨_, L, E, u, rfl, hp, by rw [ht]; omega, by rw [ht]; exact hP, hD⟩, hS.F ht⟩) hS.2.2 d C.2.2.2.2.2.2.2.2.2.1
theorem u_aret (C : Cq p s m args meth c cc y ret G A nL) {v : Value} {rt : FieldType} (d : decode cc pc = .ok (.areturn, 1)) (hr : ret = some rt) (hrt : (∃ n, rt = .object n) ∨ ∃ t, rt = .array t) (hv : v = .null ∨ ∃ a, v = .ref a) (hur : u ≤ r0) (hp : Post (some v) L E u) : wu p l e d0 r0 s m args below meth c G A nL (MQ below (Qu G A Post) args s (r0 / 16) r0 A) L E u pc lv [v] := by
  intro kc ks hu H locs ls hP hD hS hl T hT X
  have hmu := stand_mu X
  rw [hT] at hmu
  refine W.widen (u_wid hu hur).1 (u_wid hu hur).2 ?_ T hT X
  exact W.aret C.1 C.2.1 (C.2.2.2.2.2.2.2.2.1.trans hr) hrt hv (fun t ht hW => ⟨⟨_, L, E, u, rfl, hp, by rw [ht]; omega, by rw [ht]; exact hP, hD⟩, hS.F ht⟩) hS.2.2 d C.2.2.2.2.2.2.2.2.2.1
end UQ
end
