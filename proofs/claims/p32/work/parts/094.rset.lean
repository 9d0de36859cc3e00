section
def nxe (T : Nat → Int) (N : Int) (s : Int × Nat × List (Int × List (Int × Nat × Int))) : Int × Nat × List (Int × List (Int × Nat × Int)) := if s.1 = 0 then (if N ≤ ((s.2.1 : Nat) : Int) then s else (if T s.2.1 = 94 then (2, s.2.1 + 1, (1, []) :: s.2.2) else (1, s.2.1, (1, []) :: s.2.2))) else (if (TWF T N ((s.2.1 : Nat) : Int)).2.length = 0 then (0, (TWF T N ((s.2.1 : Nat) : Int)).1 + 1, (if s.1 = 2 then 4 else 3, []) :: s.2.2) else (s.1, (TWF T N ((s.2.1 : Nat) : Int)).1, (2, (TWF T N ((s.2.1 : Nat) : Int)).2) :: s.2.2))
def evs (T : Nat → Int) (N : Int) : Nat → Int × Nat × List (Int × List (Int × Nat × Int))
  | 0 => (0, 0, [])
  | k + 1 => nxe T N (evs T N k)
def RNE (T : Nat → Int) (N m : Int) (p : Int) (es : List (Int × List (Int × Nat × Int))) : Prop := 0 ≤ p ∧ ∃ k, evs T N k = (m, p.toNat, es)
def ENDV (T : Nat → Int) (N : Int) (es : List (Int × List (Int × Nat × Int))) : Prop := ∃ p, RNE T N 0 p es ∧ N ≤ p
def WSS (a : Nat → Nat → Int) (t : Int) (w : List (Int × Nat × Int)) (cs : List Int) (st : Nat → Int) : Prop := WST a t w cs ∧ (a 6 t.toNat ≠ 5 → ∃ ps, SPS a (lts w) t 0 ((w.length : Nat) : Int) 0 ps ∧ cs = cls ps ∧ st = fun j => bgn ps 0 j (-1)) ∧ (a 6 t.toNat = 5 → st = fun _ => -1)
def STV (a : Nat → Nat → Int) (t wd hy : Int) (e : (Int × List (Int × Nat × Int))) (D0 : List (List Int)) (b0 : Nat) (D : List (List Int)) (b : Nat) : Prop := (e.1 = 1 ∧ D0.length < 200 ∧ D = D0 ++ [[]] ∧ b = D0.length) ∨ (e.1 = 2 ∧ (∃ D1 x1 cs st, D0 = D1 ++ [x1] ∧ WSS a t e.2 cs st ∧ flw (brk a t e.2 st) wd hy cs 201 0 D1 x1 = some D) ∧ b = b0) ∨ (e.1 = 3 ∧ D = D0 ∧ b = b0) ∨ (e.1 = 4 ∧ D = cnl wd b0 D0 ∧ b = b0)
def drs (a : Nat → Nat → Int) (t wd hy : Int) : List (Int × List (Int × Nat × Int)) → List (List Int) → Nat → Prop
  | [], D, b => D = [] ∧ b = 0
  | e :: es, D, b => ∃ D0 b0, drs a t wd hy es D0 b0 ∧ STV a t wd hy e D0 b0 D b
def BADV (T : Nat → Int) (N : Int) (a : Nat → Nat → Int) (t wd hy : Int) : Prop := ∃ m p es, RNE T N m p es ∧ ¬ ∃ D b, drs a t wd hy es D b
def SHH (v : Nat → Int) (a : Nat → Nat → Int) (D : List (List Int)) : Prop := v 36 = ((D.length : Nat) : Int) ∧ ∀ (l : Nat) (xs : List Int), D[l]? = some xs → a 34 l = ((xs.length : Nat) : Int) ∧ ∀ (j : Nat) (x : Int), xs[j]? = some x → a 35 (200 * l + j) = x
def SETD (v : Nat → Int) (a : Nat → Nat → Int) (t f : Int) (D : List (List Int)) : Prop := WHL v a t ∧ ∃ es b, ENDV (a 29) (v 30) es ∧ drs a t (v 31) (v 33) es D b ∧ f = ((D.length : Nat) : Int)
def SETN (v : Nat → Int) (a : Nat → Nat → Int) (t f : Int) : Prop := f = -1 ∧ (¬ WHL v a t ∨ (WHL v a t ∧ BADV (a 29) (v 30) a t (v 31) (v 33)))
def KSH (v : Nat → Int) (a : Nat → Nat → Int) (v2 : Nat → Int) (a2 : Nat → Nat → Int) : Prop := v2 36 = v 36 ∧ a2 34 = a 34 ∧ a2 35 = a 35
def SETX (v : Nat → Int) (a : Nat → Nat → Int) (v2 : Nat → Int) (a2 : Nat → Nat → Int) (t f : Int) : Prop := (SETN v a t f ∧ KSH v a v2 a2) ∨ ∃ D, SETD v a t f D ∧ SHH v2 a2 D
section EVNS
variable {v v1 v2 v3 : Nat → Int} {a a1 a2 a3 : Nat → Nat → Int} {T W : Nat → Int} {N q u p b f f1 f2 z x y m t n wd hy l r k : Int} {w : List (Int × Nat × Int)} {es es2 : List (Int × List (Int × Nat × Int))} {D D2 D0 : List (List Int)} {b0 b1 b2 : Nat} {cs ds xs : List Int} {st st2 : Nat → Int} {ps : List (Int × List Int)}
theorem snocx {α : Type} : ∀ D : List α, D.length ≠ 0 → ∃ D1 u, D = D1 ++ [u] := by
  intro D
  induction D with
  | nil => intro h; exact absurd rfl h
  | cons x D ih =>
    intro _
    by_cases c : D.length = 0
    · have e := List.length_eq_zero_iff.mp c
      subst e
      exact ⟨[], x, rfl⟩
    · obtain ⟨D1, u, e⟩ := ih c
      exact ⟨x :: D1, u, by rw [e]; rfl⟩
theorem app_inj {α : Type} {D1 D2 : List α} {u m : α} (h : D1 ++ [u] = D2 ++ [m]) : D1 = D2 ∧ u = m := by
  have h1 := congrArg List.length h
  rw [len1, len1] at h1
  have e := List.append_inj h (by omega)
  exact ⟨e.1, by have e2 := e.2; injection e2⟩
theorem evs_s (k : Nat) : evs T N (k + 1) = nxe T N (evs T N k) := rfl
theorem nxe_ext (s : Int × Nat × List (Int × List (Int × Nat × Int))) : ∃ r, (nxe T N s).2.2 = r ++ s.2.2 := by
  unfold nxe
  split
  · split
    · exact ⟨[], rfl⟩
    · split
      · exact ⟨[_], rfl⟩
      · exact ⟨[_], rfl⟩
  · split
    · exact ⟨[_], rfl⟩
    · exact ⟨[_], rfl⟩
theorem evs_ext (k : Nat) : ∀ d : Nat, ∃ r, (evs T N (k + d)).2.2 = r ++ (evs T N k).2.2 := by
  intro d
  induction d with
  | zero => exact ⟨[], rfl⟩
  | succ d ih =>
    obtain ⟨r, h⟩ := ih
    obtain ⟨r2, h2⟩ := nxe_ext (T := T) (N := N) (evs T N (k + d))
    refine ⟨r2 ++ r, ?_⟩
    rw [← Nat.add_assoc, evs_s, h2, h, List.append_assoc]
theorem evs_end {P k : Nat} (h : evs T N k = (0, P, es)) (hN : N ≤ ((P : Nat) : Int)) : ∀ d : Nat, evs T N (k + d) = (0, P, es) := by
  intro d
  induction d with
  | zero => exact h
  | succ d ih =>
    rw [← Nat.add_assoc, evs_s, ih]
    unfold nxe
    rw [if_pos (by show (0 : Int) = 0; rfl), if_pos (by show N ≤ ((P : Nat) : Int); exact hN)]
theorem RNE.sub (h : RNE T N m p es) (h2 : ENDV T N es2) : ∃ r, es2 = r ++ es := by
  obtain ⟨_, k, e⟩ := h
  obtain ⟨p2, ⟨_, k2, e2⟩, hN⟩ := h2
  have e3 := evs_end e2 (by omega) k
  obtain ⟨r, h4⟩ := evs_ext (T := T) (N := N) k k2
  rw [Nat.add_comm k k2, e3, e] at h4
  exact ⟨r, h4⟩
theorem ENDV.uni (h : ENDV T N es) (h2 : ENDV T N es2) : es = es2 := by
  obtain ⟨p, g, gN⟩ := h
  obtain ⟨p2, g2, gN2⟩ := h2
  obtain ⟨r, e⟩ := g.sub ⟨p2, g2, gN2⟩
  obtain ⟨r2, e2⟩ := g2.sub ⟨p, g, gN⟩
  refine hv2 (congrArg List.length e) (congrArg List.length e2) (fun l1 l2 => ?_)
  rw [List.length_append] at l1 l2
  have e0 : r = [] := List.length_eq_zero_iff.mp (by omega)
  rw [e, e0]
  rfl
theorem RNE.zero : RNE T N 0 0 [] := ⟨Int.le_refl _, 0, rfl⟩
theorem nxe0 (P : Nat) (hP : ((P : Nat) : Int) < N) : nxe T N (0, P, es) = if T P = 94 then (2, P + 1, (1, []) :: es) else (1, P, (1, []) :: es) := by
  unfold nxe
  rw [if_pos (by show (0 : Int) = 0; rfl), if_neg (by show ¬ N ≤ ((P : Nat) : Int); omega)]
theorem nxe1 (P : Nat) (hP : ((P : Nat) : Int) = p) (hm : m ≠ 0) : nxe T N (m, P, es) = if (TWF T N p).2.length = 0 then (0, (TWF T N p).1 + 1, (if m = 2 then 4 else 3, []) :: es) else (m, (TWF T N p).1, (2, (TWF T N p).2) :: es) := by
  subst hP
  unfold nxe
  rw [if_neg (by show ¬ m = 0; exact hm)]
theorem RNE.enter (h : RNE T N 0 p es) (hp : p < N) (hz : (T p.toNat = 94 ∧ z = p + 1 ∧ m = 2) ∨ (T p.toNat ≠ 94 ∧ z = p ∧ m = 1)) : RNE T N m z ((1, []) :: es) := by
  obtain ⟨h0, k, e⟩ := h
  refine ⟨by omega, k + 1, ?_⟩
  rw [evs_s, e, nxe0 (N := N) p.toNat (by omega)]
  rcases hz with ⟨e1, e2, e3⟩ | ⟨e1, e2, e3⟩
  · rw [if_pos e1, e3, show z.toNat = p.toNat + 1 by omega]
  · rw [if_neg e1, e3, e2]
theorem RNE.word (h : RNE T N m p es) (hm : m ≠ 0) (hr : TWF T N p = (z.toNat, w)) (hz : 0 ≤ z) (hw : w.length ≠ 0) : RNE T N m z ((2, w) :: es) := by
  obtain ⟨h0, k, e⟩ := h
  refine hv2 (show (TWF T N p).2 = w from congrArg Prod.snd hr) (show (TWF T N p).1 = z.toNat from congrArg Prod.fst hr) (fun e3 e4 => ?_)
  refine ⟨hz, k + 1, ?_⟩
  rw [evs_s, e, nxe1 (p := p) p.toNat (by omega) hm, e3, e4, if_neg hw]
theorem RNE.line (h : RNE T N m p es) (hm : m ≠ 0) (hr : TWF T N p = (z.toNat, w)) (hz : 0 ≤ z) (hw : w.length = 0) : RNE T N 0 (z + 1) ((if m = 2 then 4 else 3, []) :: es) := by
  obtain ⟨h0, k, e⟩ := h
  refine hv2 (show (TWF T N p).2 = w from congrArg Prod.snd hr) (show (TWF T N p).1 = z.toNat from congrArg Prod.fst hr) (fun e3 e4 => ?_)
  refine ⟨by omega, k + 1, ?_⟩
  rw [evs_s, e, nxe1 (p := p) p.toNat (by omega) hm, e3, e4, if_pos hw, show (z + 1).toNat = z.toNat + 1 by omega]
theorem ptp.uni2 (hT : TBL v a) (ht : 0 ≤ t ∧ t < v 4) {qs : List (Int × List Int)} (h : SPS a W t 0 n 0 ps) (h2 : SPS a W t 0 n 0 qs) : ps = qs := by
  obtain ⟨⟨y, h1, h3⟩, _⟩ := h
  obtain ⟨⟨z, g1, g3⟩, _⟩ := h2
  exact ptp.uni hT ht.1 ht.2 h1 h3 g1 g3
theorem WSS.uni (hT : TBL v a) (ht : 0 ≤ t ∧ t < v 4) (h : WSS a t w cs st) (h2 : WSS a t w ds st2) : cs = ds ∧ st = st2 := by
  obtain ⟨p1, p2, p3⟩ := h
  obtain ⟨q1, q2, q3⟩ := h2
  refine ⟨SWC.uni hT ht p1 q1, ?_⟩
  by_cases c : a 6 t.toNat = 5
  · rw [p3 c, q3 c]
  · obtain ⟨ps, k1, _, k3⟩ := p2 c
    obtain ⟨qs, j1, _, j3⟩ := q2 c
    rw [k3, j3, ptp.uni2 hT ht k1 j1]
theorem STV.uni {e : (Int × List (Int × Nat × Int))} {B1 B2 : Nat} (hT : TBL v a) (ht : 0 ≤ t ∧ t < v 4) (h : STV a t wd hy e D0 b0 D B1) (h2 : STV a t wd hy e D0 b0 D2 B2) : D = D2 ∧ B1 = B2 := by
  rcases h with ⟨e1, _, e2, e3⟩ | ⟨e1, ⟨D1, x1, cs, st, k1, k2, k3⟩, e3⟩ | ⟨e1, e2, e3⟩ | ⟨e1, e2, e3⟩ <;> rcases h2 with ⟨d1, _, d2, d3⟩ | ⟨d1, ⟨D3, x3, ds, st3, j1, j2, j3⟩, d3⟩ | ⟨d1, d2, d3⟩ | ⟨d1, d2, d3⟩
  · exact ⟨e2.trans d2.symm, e3.trans d3.symm⟩
  · omega
  · omega
  · omega
  · omega
  · obtain ⟨i1, i2⟩ := app_inj (k1.symm.trans j1)
    obtain ⟨c1, c2⟩ := WSS.uni hT ht k2 j2
    subst i1
    subst i2
    subst c1
    subst c2
    rw [k3] at j3
    injection j3 with j4
    exact ⟨j4, e3.trans d3.symm⟩
  · omega
  · omega
  · omega
  · omega
  · exact ⟨e2.trans d2.symm, e3.trans d3.symm⟩
  · omega
  · omega
  · omega
  · omega
  · exact ⟨e2.trans d2.symm, e3.trans d3.symm⟩
theorem drs.uni (hT : TBL v a) (ht : 0 ≤ t ∧ t < v 4) : ∀ (es : List (Int × List (Int × Nat × Int))) (D D2 : List (List Int)) (B1 B2 : Nat), drs a t wd hy es D B1 → drs a t wd hy es D2 B2 → D = D2 ∧ B1 = B2 := by
  intro es
  induction es with
  | nil =>
    intro D D2 B1 B2 h h2
    obtain ⟨e1, e2⟩ := h
    obtain ⟨d1, d2⟩ := h2
    exact ⟨e1.trans d1.symm, e2.trans d2.symm⟩
  | cons e es ih =>
    intro D D2 B1 B2 h h2
    obtain ⟨D3, b3, g1, g2⟩ := h
    obtain ⟨D4, b4, j1, j2⟩ := h2
    obtain ⟨i1, i2⟩ := ih D3 D4 b3 b4 g1 j1
    subst i1
    subst i2
    exact STV.uni hT ht g2 j2
theorem drs.tail : ∀ (rs : List (Int × List (Int × Nat × Int))) (es : List (Int × List (Int × Nat × Int))) (D : List (List Int)) (B : Nat), drs a t wd hy (rs ++ es) D B → ∃ D2 B2, drs a t wd hy es D2 B2 := by
  intro rs
  induction rs with
  | nil => intro es D B h; exact ⟨D, B, h⟩
  | cons e rs ih =>
    intro es D B h
    obtain ⟨D3, b3, g1, _⟩ := h
    exact ih es D3 b3 g1
theorem BADV.no {B : Nat} (h : BADV T N a t wd hy) (h2 : ENDV T N es) (h3 : drs a t wd hy es D B) : False := by
  obtain ⟨m, p, es1, g1, g2⟩ := h
  obtain ⟨r, e⟩ := g1.sub h2
  subst e
  exact g2 (drs.tail r es1 D B h3)
theorem SETD.uni (hT : TBL v a) (h : SETD v a t f1 D) (h2 : SETD v a t f2 D2) : f1 = f2 ∧ D = D2 := by
  obtain ⟨w1, es1, b1, p1, p2, p3⟩ := h
  obtain ⟨_, es3, b3, q1, q2, q3⟩ := h2
  refine hv2 (WHL.tr w1) (p1.uni q1) (fun ht e => ?_)
  subst e
  obtain ⟨e1, _⟩ := drs.uni hT ⟨ht.1, ht.2.1⟩ es1 D D2 b1 b3 p2 q2
  subst e1
  exact ⟨p3.trans q3.symm, rfl⟩
theorem SETN.no (h : SETN v a t f1) (h2 : SETD v a t f2 D) : False := by
  obtain ⟨_, g⟩ := h
  obtain ⟨w1, es1, b1, p1, p2, _⟩ := h2
  rcases g with g | ⟨_, g⟩
  · exact g w1
  · exact g.no p1 p2
theorem fnd_rng (hT : TBL v a) (h30 : v 4 ≤ 30) (h10 : ∀ i, a 10 i ≤ 200) : ∀ (n : Nat) (W : Nat → Int) (t r : Int), 0 ≤ t → t < v 4 → fnd a q u x n W t r → FNP a u x r := by
  intro n
  induction n with
  | zero => intro W t r _ _ h; exact False.elim h
  | succ n ih =>
    intro W t r h0 h4 h
    have ht := hT.1 t h0 h4
    have t8 : 1 ≤ a 6 t.toNat → a 6 t.toNat ≤ 3 → 0 ≤ a 8 t.toNat ∧ a 8 t.toNat < v 4 := by omega
    have t6 : a 6 t.toNat ≠ 1 → a 6 t.toNat ≠ 2 → a 6 t.toNat ≠ 3 → a 6 t.toNat < 1 ∨ 3 < a 6 t.toNat := by omega
    clear ht
    rw [fnd_s] at h
    obtain ⟨p1, p2, p3, p4⟩ := h
    by_cases k1 : a 6 t.toNat = 1
    · obtain ⟨y, z, e1, e2, e3⟩ := p1 k1
      rw [e3]
      exact cmb_rg (P := FNP a u x) (own_rg hT h30 h0 h4 (h10 _) e1) (ih W _ z (t8 (by omega) (by omega)).1 (t8 (by omega) (by omega)).2 e2)
    · by_cases k2 : a 6 t.toNat = 2
      · by_cases c : isD (W x.toNat)
        · exact own_rg hT h30 h0 h4 (h10 _) ((p2 k2).1 c)
        · exact ih W _ r (t8 (by omega) (by omega)).1 (t8 (by omega) (by omega)).2 ((p2 k2).2 c)
      · by_cases k3 : a 6 t.toNat = 3
        · obtain ⟨y, z, e1, e2, e3⟩ := p3 k3
          rw [e3]
          exact cmb_rg (P := FNP a u x) (own_rg hT h30 h0 h4 (h10 _) e1) (ih _ _ z (t8 (by omega) (by omega)).1 (t8 (by omega) (by omega)).2 e2)
        · exact own_rg hT h30 h0 h4 (h10 _) (p4 (t6 k1 k2 k3))
theorem PC1.rg (hT : TBL v a) (h30 : v 4 ≤ 30) (h10 : ∀ i, a 10 i ≤ 200) (ht : 0 ≤ t ∧ t < v 4) (h : PC1 a W t q u x l cs) : 1 ≤ l ∧ 1 ≤ cs.length := by
  obtain ⟨r, ⟨r0, e⟩, p⟩ := h
  rcases p with ⟨p4, p5⟩ | ⟨_, _, p6, p7⟩
  · have g := fnd_rng hT h30 h10 _ _ _ _ ht.1 ht.2 p4
    rcases g with g | ⟨g1, g2, g3, g4, g5⟩
    · omega
    · have e2 := RCL.len (a := a) (r := r) (by omega)
      rw [p5, List.length_append]
      omega
  · have g := fnd_rng hT h30 h10 _ _ _ _ ht.1 ht.2 p6
    rcases g with g | ⟨g1, g2, g3, g4, g5⟩
    · omega
    · have e2 := RCL.len (a := a) (r := r) (by omega)
      rw [p7, List.length_append]
      omega
theorem bgn_lt {i : Nat} : ∀ (ps : List (Int × List Int)) (m d : Int), (∀ p ∈ ps, 1 ≤ p.2.length) → d < m + (((cls ps).length : Nat) : Int) → bgn ps m i d < m + (((cls ps).length : Nat) : Int) := by
  intro ps
  induction ps with
  | nil => intro m d _ h; exact h
  | cons p ps ih =>
    intro m d hp h
    have e := hp p List.mem_cons_self
    rw [cls_cons, List.length_append] at h ⊢
    have g := ih (m + ((p.2.length : Nat) : Int)) (if i = p.1.toNat then m else d) (fun q hq => hp q (List.mem_cons_of_mem _ hq)) (by push_cast at h; split <;> omega)
    show bgn ps (m + ((p.2.length : Nat) : Int)) i (if i = p.1.toNat then m else d) < _
    push_cast
    omega
theorem ptp.ne (hl : ∀ x l cs, PC1 a W t q u x l cs → 1 ≤ l ∧ 1 ≤ cs.length) : ∀ (ps : List (Int × List Int)) (x y : Int), ptp a W t q u x ps y → ∀ p ∈ ps, 1 ≤ p.2.length := by
  intro ps
  induction ps with
  | nil => intro x y _ p hp; cases hp
  | cons p0 ps ih =>
    intro x y h p hp
    obtain ⟨_, _, l, h3, h4⟩ := h
    rcases List.mem_cons.mp hp with e | e
    · rw [e]; exact (hl x l _ h3).2
    · exact ih _ _ h4 p e
theorem ptp.mono (hl : ∀ x l cs, PC1 a W t q u x l cs → 1 ≤ l ∧ 1 ≤ cs.length) {i j : Nat} (hij : i < j) : ∀ (ps : List (Int × List Int)) (x m di dj : Int), ptp a W t q u x ps y → 0 ≤ x → 0 ≤ m → (0 ≤ di → 0 ≤ dj → di ≤ dj) → (x ≤ ((j : Nat) : Int) → dj = -1) → di ≤ m → dj ≤ m → 0 ≤ bgn ps m i di → 0 ≤ bgn ps m j dj → bgn ps m i di ≤ bgn ps m j dj := by
  intro ps
  induction ps with
  | nil => intro x m di dj _ _ _ c1 _ _ _ h1 h2; exact c1 h1 h2
  | cons p ps ih =>
    intro x m di dj h h0 hm c1 c2 c3 c4 h1 h2
    obtain ⟨_, e, l, h3, h4⟩ := h
    refine hv2 ((hl x l _ h3).1) (show p.1.toNat = x.toNat from by rw [e]) (fun l1 ex => ?_)
    refine ih (x + l) (m + ((p.2.length : Nat) : Int)) _ _ h4 (by omega) (by omega) ?_ ?_ ?_ ?_ h1 h2
    · intro g1 g2
      by_cases ci : i = p.1.toNat
      · rw [if_pos ci] at g1 ⊢
        rw [if_neg (by omega)] at g2 ⊢
        have := c2 (by omega)
        omega
      · rw [if_neg ci] at g1 ⊢
        by_cases cj : j = p.1.toNat
        · rw [if_pos cj]
          exact c3
        · rw [if_neg cj] at g2 ⊢
          exact c1 g1 g2
    · intro g
      rw [if_neg (by omega)]
      exact c2 (by omega)
    · split <;> omega
    · split <;> omega
theorem WSS.lt (hT : TBL v a) (h30 : v 4 ≤ 30) (h10 : ∀ i, a 10 i ≤ 200) (ht : 0 ≤ t ∧ t < v 4) (h : WSS a t w cs st) (h5 : a 6 t.toNat ≠ 5) (j : Nat) : st j < ((cs.length : Nat) : Int) := by
  obtain ⟨ps, ⟨⟨y, k1, _⟩, _⟩, k2, k3⟩ := h.2.1 h5
  rw [k3, k2]
  have g := bgn_lt (i := j) ps 0 (-1) (ptp.ne (fun x l cs hp => PC1.rg hT h30 h10 ht hp) ps 0 y k1) (by omega)
  rw [Int.zero_add] at g
  exact g
theorem WSS.mono (hT : TBL v a) (h30 : v 4 ≤ 30) (h10 : ∀ i, a 10 i ≤ 200) (ht : 0 ≤ t ∧ t < v 4) (h : WSS a t w cs st) (h5 : a 6 t.toNat ≠ 5) {i j : Nat} (hij : i < j) (h1 : 0 ≤ st i) (h2 : 0 ≤ st j) : st i ≤ st j := by
  obtain ⟨ps, ⟨⟨y, k1, _⟩, _⟩, k2, k3⟩ := h.2.1 h5
  rw [k3] at h1 h2 ⊢
  exact ptp.mono (fun x l cs hp => PC1.rg hT h30 h10 ht hp) hij ps 0 0 (-1) (-1) k1 (by omega) (by omega) (fun g => absurd g (by decide)) (fun _ => rfl) (by decide) (by decide) h1 h2
theorem SWT.wss (hs : SWT v1 a1 v2 a2 t f) (hb : SWB v1 a1 v2 a2 t f) (hf : f = 1) (hT : TBL v a) (h30 : v 4 ≤ 30) (h10 : ∀ i, a 10 i ≤ 200) (ht : 0 ≤ t ∧ t < v 4) (hE : TBE a1 a) (hw : WDH v1 a1 w) (h12 : ∀ i, 0 ≤ a 12 i) : ∃ cs st, WSS a t w cs st ∧ MDH v2 a2 cs ∧ (a 6 t.toNat ≠ 5 → ∀ j : Nat, j < w.length → a2 26 j = st j ∧ st j < ((cs.length : Nat) : Int)) := by
  refine hv3 (lts_w hw) (hw.1) (hE 6 (by decide)) (fun ag e e6 => ?_)
  obtain ⟨cs, g1, g2⟩ := hs.2.1 hf
  rw [e] at g1
  have ws : WST a t w cs := SWC_w ag h12 (SWC_cg hE g1)
  by_cases h5 : a 6 t.toNat = 5
  · exact ⟨cs, fun _ => -1, ⟨ws, fun c => absurd h5 c, fun _ => rfl⟩, g2, fun c => absurd h5 c⟩
  · obtain ⟨ps, k1, k2, k3⟩ := hb hf (by rw [e6]; exact h5)
    rw [e] at k1 k3
    have k4 := SPS_cg hE k1
    have k5 : SPS a (lts w) t 0 ((w.length : Nat) : Int) 0 ps := by
      obtain ⟨⟨y, j1, j2⟩, j3⟩ := k4
      exact ⟨⟨y, ptp_w ag (Int.le_refl _) h12 ps 0 y (Int.le_refl _) j1, j2⟩, j3⟩
    have ec : cs = cls ps := SWC.uni hT ht ws (Or.inl ⟨h5, ps, k5, rfl⟩)
    have wss : WSS a t w cs (fun j => bgn ps 0 j (-1)) := ⟨ws, fun _ => ⟨ps, k5, ec, rfl⟩, fun c => absurd c h5⟩
    exact ⟨cs, _, wss, g2, fun _ j hj => ⟨k3 j (by omega), wss.lt hT h30 h10 ht h5 j⟩⟩
theorem SWC.pos (hT : TBL v a) (h30 : v 4 ≤ 30) (h10 : ∀ i, a 10 i ≤ 200) (h16 : ∀ i, 0 ≤ a 16 i) (ht : 0 ≤ t ∧ t < v 4) (hn : 0 < n) (h : SWC a W n t cs) : 1 ≤ cs.length := by
  rcases h with ⟨_, ps, ⟨⟨y, k1, k2⟩, _⟩, k3⟩ | ⟨h5, _, js, ps, g, x, k1, k2, k3⟩
  · cases ps with
    | nil => cases k1; omega
    | cons p ps =>
      have g := ptp.ne (fun x l cs hp => PC1.rg hT h30 h10 ht hp) _ 0 y k1 p List.mem_cons_self
      rw [k3, cls_cons, List.length_append]
      omega
  · have tt := hT.1 t ht.1 ht.2
    cases js with
    | cons p js =>
      obtain ⟨_, _, k4, _⟩ := k1
      have e := ICL.len (a := a) (r := ind4 t 0) (h16 _)
      rw [k3]
      show 1 ≤ (((cls p.2 ++ ICL a (ind4 t 0)) ++ jcl a t (1 - 0) js) ++ cls ps).length
      rw [List.length_append, List.length_append, List.length_append]
      omega
    | nil =>
      obtain ⟨e1, e2⟩ := k1
      obtain ⟨_, _, _, z, j1, j2⟩ := k2
      cases ps with
      | nil => cases j1; omega
      | cons p ps =>
        have tp : 0 ≤ prt a t g ∧ prt a t g < v 4 := by
          unfold prt
          split <;> omega
        have g := ptp.ne (fun x l cs hp => PC1.rg hT h30 h10 tp hp) _ _ z j1 p List.mem_cons_self
        rw [k3, cls_cons, List.length_append, List.length_append]
        omega
theorem flw_len {br : Int → Int → Int} : ∀ (n d : Nat) (D : List (List Int)) (xs : List Int) (D2 : List (List Int)), flw br wd hy cs n d D xs = some D2 → D.length + 1 ≤ D2.length := by
  intro n
  induction n with
  | zero => intro d D xs D2 h; cases h
  | succ n ih =>
    intro d D xs D2 h
    rw [flw_s] at h
    split at h
    · injection h with h1
      rw [← h1, len1]
      exact Nat.le_refl _
    · split at h
      · split at h
        · have g := ih _ _ _ _ h
          rw [len1] at g
          omega
        · cases h
      · split at h
        · injection h with h1
          rw [← h1, len1]
          exact Nat.le_refl _
        · split at h
          · have g := ih _ _ _ _ h
            rw [len1] at g
            omega
          · cases h
end EVNS
def SE2 (v : Nat → Int) (a : Nat → Nat → Int) (v1 : Nat → Int) (a1 : Nat → Nat → Int) (t x : Int) : Prop := ∃ es D b, RNE (a 29) (v 30) 0 x es ∧ drs a t (v 31) (v 33) es D b ∧ DRH v1 a1 D
def SE3 (v : Nat → Int) (a : Nat → Nat → Int) (v1 : Nat → Int) (a1 : Nat → Nat → Int) (t g q p : Int) : Prop := ∃ es D b, RNE (a 29) (v 30) (1 + g) p es ∧ drs a t (v 31) (v 33) es D b ∧ DRH v1 a1 D ∧ ((b : Nat) : Int) = q ∧ b < D.length
def SE4 (v : Nat → Int) (a : Nat → Nat → Int) (v1 : Nat → Int) (a1 : Nat → Nat → Int) (t g q z : Int) : Prop := ∃ p w, SE3 v a v1 a1 t g q p ∧ TWF (a 29) (v 30) p = (z.toNat, w) ∧ WDH v1 a1 w
def SC1 (a1 : Nat → Nat → Int) (y : Int) : Prop := ∀ l : Nat, ((l : Nat) : Int) < y → a1 34 l = a1 37 l ∧ ∀ j : Nat, ((j : Nat) : Int) < a1 37 l → a1 35 (200 * l + j) = a1 38 (200 * l + j)
def SC2 (a1 : Nat → Nat → Int) (y z : Int) : Prop := SC1 a1 y ∧ a1 34 y.toNat = a1 37 y.toNat ∧ ∀ j : Nat, ((j : Nat) : Int) < z → a1 35 (200 * y.toNat + j) = a1 38 (200 * y.toNat + j)
def SE5 (v : Nat → Int) (a : Nat → Nat → Int) (v1 : Nat → Int) (a1 : Nat → Nat → Int) (t : Int) : Prop := ∃ es D b, ENDV (a 29) (v 30) es ∧ drs a t (v 31) (v 33) es D b ∧ DRH v1 a1 D ∧ v1 36 = v1 39
section RSET
variable {v v1 v2 v3 : Nat → Int} {a a1 a2 a3 : Nat → Nat → Int} {q u p b f f1 f2 z x y m t n g k c : Int} {w : List (Int × Nat × Int)} {es : List (Int × List (Int × Nat × Int))} {D : List (List Int)} {i i2 : Nat} {cs : List Int} {st : Nat → Int}
theorem SE2.init (h : v1 39 = 0) : SE2 v a v1 a1 t 0 := ⟨[], [], 0, RNE.zero, ⟨rfl, rfl⟩, h, fun l xs e => by simp at e⟩
theorem SE2.fr (h : SE2 v a v1 a1 t x) (hv : v2 39 = v1 39) (h37 : a2 37 = a1 37) (h38 : a2 38 = a1 38) : SE2 v a v2 a2 t x := by
  obtain ⟨es, D, b, h1, h2, h3⟩ := h
  exact ⟨es, D, b, h1, h2, h3.fr hv h37 h38⟩
theorem SE2.enter (h : SE2 v a v1 a1 t x) (hx : x < v 30) (hz : (a 29 x.toNat = 94 ∧ y = x + 1 ∧ g = 1) ∨ (a 29 x.toNat ≠ 94 ∧ y = x ∧ g = 0)) (hn : NLX v1 a1 v2 a2 f) (hf : f = 1) (h5 : q = v1 39) : SE3 v a v2 a2 t g q y := by
  obtain ⟨es, D, b, h1, h2, h3⟩ := h
  rcases hn D h3 with ⟨_, n2, n3⟩ | ⟨n1, _⟩
  · refine ⟨_, _, D.length, h1.enter hx (z := y) (m := 1 + g) (by omega), ⟨D, b, h2, Or.inl ⟨rfl, n2, rfl, rfl⟩⟩, n3, ?_, by rw [len1]; omega⟩
    rw [h5]
    exact h3.1.symm
  · omega
theorem SE2.nroom (h : SE2 v a v1 a1 t x) (hx : x < v 30) (hT : TBL v a) (ht : 0 ≤ t ∧ t < v 4) (hn : NLX v1 a1 v2 a2 f) (hf : f ≠ 1) : BADV (a 29) (v 30) a t (v 31) (v 33) := by
  obtain ⟨es, D, b, h1, h2, h3⟩ := h
  rcases hn D h3 with ⟨n1, _⟩ | ⟨_, n2⟩
  · exact absurd n1 hf
  · have no : ∀ D2 b2, ¬ drs a t (v 31) (v 33) ((1, []) :: es) D2 b2 := fun D2 b2 g => by
      obtain ⟨D0, b0, g1, g2⟩ := g
      obtain ⟨e1, _⟩ := drs.uni hT ht es D0 D b0 b g1 h2
      subst e1
      rcases g2 with ⟨_, q2, _⟩ | ⟨q1, _⟩ | ⟨q1, _⟩ | ⟨q1, _⟩
      · omega
      · exact absurd q1 (by decide)
      · exact absurd q1 (by decide)
      · exact absurd q1 (by decide)
    by_cases c : a 29 x.toNat = 94
    · exact ⟨2, x + 1, _, h1.enter hx (Or.inl ⟨c, rfl, rfl⟩), fun ⟨D2, b2, g⟩ => no D2 b2 g⟩
    · exact ⟨1, x, _, h1.enter hx (Or.inr ⟨c, rfl, rfl⟩), fun ⟨D2, b2, g⟩ => no D2 b2 g⟩
theorem SE3.take (h : SE3 v a v1 a1 t g q p) (hx : TKX (a 29) (v 30) v2 a2 p z) (hv : v2 39 = v1 39) (h37 : a2 37 = a1 37) (h38 : a2 38 = a1 38) : SE4 v a v2 a2 t g q z := by
  obtain ⟨w, h1, h2⟩ := hx
  obtain ⟨es, D, b, k1, k2, k3, k4, k5⟩ := h
  exact ⟨p, w, ⟨es, D, b, k1, k2, k3.fr hv h37 h38, k4, k5⟩, h1, h2⟩
theorem SE4.lineC (h : SE4 v a v1 a1 t g q z) (h23 : v1 23 = 0) (hz : 0 ≤ z) (hg : g = 1) (h31 : v1 31 = v 31) (hc : CNX v1 a1 v2 a2 q) : SE2 v a v2 a2 t (z + 1) := by
  obtain ⟨p, w, ⟨es, D, b, k1, k2, k3, k4, k5⟩, h1, h2⟩ := h
  have e := h2.1
  have g1 := k1.line (by omega) h1 hz (by omega)
  rw [if_pos (by omega)] at g1
  refine ⟨_, _, b, g1, ⟨D, b, k2, Or.inr (Or.inr (Or.inr ⟨rfl, rfl, rfl⟩))⟩, ?_⟩
  have g2 := hc D k3
  rw [h31, show q.toNat = b by omega] at g2
  exact g2
theorem SE4.lineN (h : SE4 v a v1 a1 t g q z) (h23 : v1 23 = 0) (hz : 0 ≤ z) (hg : g = 0) : SE2 v a v1 a1 t (z + 1) := by
  obtain ⟨p, w, ⟨es, D, b, k1, k2, k3, k4, k5⟩, h1, h2⟩ := h
  have e := h2.1
  have g1 := k1.line (by omega) h1 hz (by omega)
  rw [if_neg (by omega)] at g1
  exact ⟨_, _, b, g1, ⟨D, b, k2, Or.inr (Or.inr (Or.inl ⟨rfl, rfl, rfl⟩))⟩, k3⟩
theorem SE4.bad (h : SE4 v a v1 a1 t g q z) (hg : g = 0 ∨ g = 1) (hz : 0 ≤ z) (h23 : v1 23 ≠ 0) (hs : SWT v1 a1 v2 a2 t f) (hf : f ≠ 1) (hE : TBE a1 a) (h12 : ∀ i, 0 ≤ a 12 i) (h13 : ∀ i, 0 ≤ a1 12 i) : BADV (a 29) (v 30) a t (v 31) (v 33) := by
  obtain ⟨p, w, ⟨es, D, b, k1, k2, k3, k4, k5⟩, h1, h2⟩ := h
  have e := h2.1
  refine ⟨_, _, _, k1.word (by omega) h1 hz (by omega), fun ⟨D2, b2, D0, b0, _, j2⟩ => ?_⟩
  rcases j2 with ⟨q1, _⟩ | ⟨_, ⟨D1, x1, cs, st, _, j4, _⟩, _⟩ | ⟨q1, _⟩ | ⟨q1, _⟩
  · exact absurd (show (2 : Int) = 1 from q1) (by decide)
  · exact (hs.wst hE h2 h12 h13).2 hf ⟨cs, j4.1⟩
  · exact absurd (show (2 : Int) = 3 from q1) (by decide)
  · exact absurd (show (2 : Int) = 4 from q1) (by decide)
theorem SE4.flow (h : SE4 v a v1 a1 t g q z) (hg : g = 0 ∨ g = 1) (hz : 0 ≤ z) (h23 : v1 23 ≠ 0) (hT : TBL v a) (h30 : v 4 ≤ 30) (h10 : ∀ i, a 10 i ≤ 200) (ht : 0 ≤ t ∧ t < v 4) (hs : SWT v1 a1 v2 a2 t f1) (hb : SWB v1 a1 v2 a2 t f1) (hf : f1 = 1) (hE : TBE a1 a) (h12 : ∀ i, 0 ≤ a 12 i) (h6 : a2 6 = a 6) (h21 : a2 21 = a1 21) (h22 : a2 22 = a1 22) (v23 : v2 23 = v1 23) (v39 : v2 39 = v1 39) (h37 : a2 37 = a1 37) (h38 : a2 38 = a1 38) (v31 : v2 31 = v 31) (v33 : v2 33 = v 33) (hF : FLT v2 a2 v3 a3 t f2) : (f2 = 1 → SE3 v a v3 a3 t g q z) ∧ (f2 ≠ 1 → BADV (a 29) (v 30) a t (v 31) (v 33)) := by
  obtain ⟨p, w, ⟨es, D, b, k1, k2, k3, k4, k5⟩, h1, h2⟩ := h
  have e := h2.1
  obtain ⟨cs, st, w1, w2, w3⟩ := hs.wss hb hf hT h30 h10 ht hE h2 h12
  obtain ⟨D1, x1, eD⟩ := snocx D (by omega)
  have cx : FCX v2 a2 t D1 x1 cs w st := ⟨by rw [← eD]; exact k3.fr v39 h37 h38, w2, ⟨v23.trans e, fun j y ej => by rw [hs.1, h21, h22]; exact h2.2 j y ej⟩, by unfold BGT; rw [h6]; exact w3⟩
  obtain ⟨F1, F2⟩ := hF D1 x1 cs w st cx
  have eV : FLV v2 a2 t D1 x1 cs w st = flw (brk a t w st) (v 31) (v 33) cs 201 0 D1 x1 := by
    unfold FLV brk
    rw [h6, v31, v33]
  rw [eV] at F1 F2
  have rn := k1.word (by omega) h1 hz (by omega)
  refine ⟨fun c => ?_, fun c => ?_⟩
  · obtain ⟨D2, g1, g2⟩ := F1 c
    refine hv2 (flw_len _ _ _ _ _ g1) (congrArg List.length eD) (fun gl el => ?_)
    rw [len1] at el
    exact ⟨_, D2, b, rn, ⟨D, b, k2, Or.inr (Or.inl ⟨rfl, ⟨D1, x1, cs, st, eD, w1, g1⟩, rfl⟩)⟩, g2, k4, by omega⟩
  · have g1 := F2 c
    refine ⟨_, _, _, rn, fun ⟨D2, b2, D0, b0, j1, j2⟩ => ?_⟩
    obtain ⟨e1, _⟩ := drs.uni hT ht es D0 D b0 b j1 k2
    subst e1
    rcases j2 with ⟨q1, _⟩ | ⟨_, ⟨D3, x3, ds, s3, j3, j4, j5⟩, _⟩ | ⟨q1, _⟩ | ⟨q1, _⟩
    · exact absurd (show (2 : Int) = 1 from q1) (by decide)
    · obtain ⟨i1, i2⟩ := app_inj (eD.symm.trans j3)
      obtain ⟨c1, c2⟩ := WSS.uni hT ht w1 j4
      subst i1
      subst i2
      subst c1
      subst c2
      rw [g1] at j5
      cases j5
    · exact absurd (show (2 : Int) = 3 from q1) (by decide)
    · exact absurd (show (2 : Int) = 4 from q1) (by decide)
theorem SE2.fin (h : SE2 v a v1 a1 t x) (hx : v 30 ≤ x) (hv : v2 39 = v1 39) (h36 : v2 36 = v1 39) : SE5 v a v2 a1 t := by
  obtain ⟨es, D, b, h1, h2, h3⟩ := h
  exact ⟨es, D, b, ⟨x, h1, hx⟩, h2, h3.fr hv rfl rfl, by omega⟩
theorem SE5.fr (h : SE5 v a v1 a1 t) (h37 : a2 37 = a1 37) (h38 : a2 38 = a1 38) : SE5 v a v1 a2 t := by
  obtain ⟨es, D, b, h1, h2, h3, h4⟩ := h
  exact ⟨es, D, b, h1, h2, h3.fr rfl h37 h38, h4⟩
theorem SC1.init (hy : y = 0) : SC1 a1 y := fun l hl => absurd hl (by omega)
theorem SC1.go (h : SC1 a1 y) (hy : 0 ≤ y) (hi : i = y.toNat) (hz : z = a1 37 y.toNat) : SC2 (up2 a1 34 i z) y 0 := by
  subst hi
  refine ⟨fun l hl => ?_, ?_, fun j hj => absurd hj (by omega)⟩
  · obtain ⟨g1, g2⟩ := h l hl
    refine ⟨by rw [up2_j (by omega), up2_k (by decide)]; exact g1, fun j hj => ?_⟩
    rw [up2_k (by decide)] at hj
    rw [up2_k (by decide), up2_k (by decide)]
    exact g2 j hj
  · rw [up2_s, up2_k (by decide)]
    exact hz
theorem SC2.mv (h : SC2 a1 y k) (hb : ∀ l, a1 37 l ≤ 200) (hy : 0 ≤ y) (hk : 0 ≤ k ∧ k < 200) (hi : i = (200 * y + k).toNat) (hz : z = a1 38 (200 * y + k).toNat) : SC2 (up2 a1 35 i z) y (k + 1) := by
  obtain ⟨h1, h2, h3⟩ := h
  refine hv2 (show i = 200 * y.toNat + k.toNat from by omega) (show z = a1 38 i from by rw [hz, hi]) (fun ei ez => ?_)
  refine ⟨fun l hl => ?_, by rw [up2_k (by decide), up2_k (by decide)]; exact h2, fun j hj => ?_⟩
  · obtain ⟨g1, g2⟩ := h1 l hl
    have b1 := hb l
    refine ⟨by rw [up2_k (by decide), up2_k (by decide)]; exact g1, fun j hj => ?_⟩
    rw [up2_k (by decide)] at hj
    rw [up2_j (by omega), up2_k (by decide)]
    exact g2 j hj
  · by_cases c : ((j : Nat) : Int) = k
    · rw [show 200 * y.toNat + j = i by omega, up2_s, up2_k (by decide)]
      exact ez
    · rw [up2_j (by omega), up2_k (by decide)]
      exact h3 j (by omega)
theorem SC2.fin (h : SC2 a1 y k) (hy : 0 ≤ y) (hk : a1 37 y.toNat ≤ k) : SC1 a1 (y + 1) := fun l hl => by
  by_cases c : ((l : Nat) : Int) < y
  · exact h.1 l c
  · have e : l = y.toNat := by omega
    subst e
    exact ⟨h.2.1, fun j hj => h.2.2 j (by omega)⟩
theorem SETX.ok (hw : WHL v a t) (h : SE5 v a v1 a1 t) (hc : SC1 a1 y) (hy : v1 36 ≤ y) (hf : f = v1 36) (h36 : v2 36 = v1 36) (h34 : a2 34 = a1 34) (h35 : a2 35 = a1 35) : SETX v a v2 a2 t f := by
  obtain ⟨es, D, b, h1, h2, h3, h4⟩ := h
  have e := h3.1
  refine Or.inr ⟨D, ⟨hw, es, b, h1, h2, by omega⟩, by omega, fun l xs ex => ?_⟩
  have lt := gl3 ex
  obtain ⟨g1, g2⟩ := h3.2 l xs ex
  obtain ⟨c1, c2⟩ := hc l (by omega)
  rw [h34, h35]
  refine ⟨c1.trans g1, fun j z ej => ?_⟩
  have lj := gl3 ej
  rw [c2 j (by omega)]
  exact g2 j z ej
theorem SETX.n1 (h : ¬ WHL v a t) (hf : f = -1) (hk : KSH v a v2 a2) : SETX v a v2 a2 t f := Or.inl ⟨⟨hf, Or.inl h⟩, hk⟩
theorem SETX.n2 (hw : WHL v a t) (h : BADV (a 29) (v 30) a t (v 31) (v 33)) (hf : f = -1) (hk : KSH v a v2 a2) : SETX v a v2 a2 t f := Or.inl ⟨⟨hf, Or.inr ⟨hw, h⟩⟩, hk⟩
theorem KSH.refl : KSH v a v a := ⟨rfl, rfl, rfl⟩
theorem KSH.fr {V A : List Nat} (h : KSH v a v1 a1) (f1 : fr V A v1 a1 v2 a2) (h36 : V.contains 36 = false) (h34 : A.contains 34 = false) (h35 : A.contains 35 = false) : KSH v a v2 a2 := ⟨(f1.1 36 h36).trans h.1, (f1.2 34 h34).trans h.2.1, (f1.2 35 h35).trans h.2.2⟩
theorem SWT.pos (hs : SWT v1 a1 v2 a2 t f) (hf : f = 1) (hT : TBL v1 a1) (hB : BX v1 a1) (ht : 0 ≤ t ∧ t < v1 4) (hn : 0 < v1 23) : 1 ≤ v2 25 := by
  obtain ⟨cs, g1, g2⟩ := hs.2.1 hf
  refine hv2 (SWC.pos hT (hB.1 4).2 (fun i => (hB.2 10 i).2) (fun i => (hB.2 16 i).1) ht hn g1) (g2.1) (fun g e => ?_)
  omega
end RSET
set_option maxHeartbeats 4000000 in
set_option maxRecDepth 100000 in
theorem N2_set {l : Launch} {G : GT} {h0 : Nat} {ad ln : Nat → Nat} {v : Nat → Int} {a : Nat → Nat → Int}  {t : Int} (hB : BX v a) (hT : TBL v a) (ht : -2147483648 ≤ t ∧ t ≤ 2147483647) : Mm l G yX12_set cX12_set 7 (some .int) 66 [.int (iI t)] h0 ad ln v a 0 0 (fun r v2 a2 => ∃ f : Int, r = some (.int (iI f)) ∧ fr [0, 1, 23, 25, 28, 36, 39] [20, 21, 22, 24, 26, 27, 34, 35, 37, 38] v a v2 a2 ∧ BX v2 a2 ∧ (SETX v a v2 a2 t f)) := by
  refine Mm.mk (by decide) (Nat.le_of_ble_eq_true rfl) ?_
  intro p e s m args below meth c A C
  refine hv3 (show 0 ≤ v 4 ∧ v 4 ≤ 30 from hB.1 4) (show 0 ≤ v 30 ∧ v 30 ≤ 500 from hB.1 30) (show fr [0, 1, 23, 25, 28, 36, 39] [20, 21, 22, 24, 26, 27, 34, 35, 37, 38] v a v a from fr.refl) (fun h30 r30 fp0 => ?_)
  refine m_aload_n (j := 0) C dX12_set_0 rfl ?_
  refine m_iload_n (j := 1) C dX12_set_1 rfl ?_
  have rv1 : 0 ≤ v 4 ∧ v 4 ≤ 30 := hB.1 4
  refine m_call (mc2 := 0) (ms2 := 0) (As := [.int (iI t)]) (rest := []) C (E_isWhole (t := t) hB (hT.fr fp0 rfl rfl) (by show -2147483648 ≤ t ∧ t ≤ 2147483647; omega)) dX12_set_2 kV_X12_171 rfl ck_13 rfl (Nat.le_of_ble_eq_true rfl) ⟨Nat.le_of_ble_eq_true rfl, Nat.le_of_ble_eq_true rfl⟩ ⟨Nat.le_of_ble_eq_true rfl, Nat.le_of_ble_eq_true rfl⟩ (fun rh1 vh1 ah1 h1 => ?_)
  obtain ⟨f1, rfl, fn1, bn1, ex1⟩ := h1
  obtain ⟨rfl, rfl⟩ := fn1.eq
  obtain ⟨ex1, tl1⟩ := ex1
  have gf1 : f1 = 0 ∨ (f1 = 1 ∧ 0 ≤ t ∧ t < (v 4)) := ex1
  refine m_st (st2 := [.int (iI f1)]) rfl ?_
  refine m_if_ne (tgt := 14) C (r32_0p gf1) dX12_set_5 (by decide) (fun c1 => ?_) (fun c1 => ?_)
  · replace gf1 := (gf1.resolve_left c1)
    refine m_aload_n (j := 0) C dX12_set_14 rfl ?_
    refine m_iconst C dX12_set_15 ?_
    refine m_put (k := 39) (z := 0) C dX12_set_16 w6_98 (by decide) rfl rfl rfl ?_
    refine hv2 (show BX (va_up v 39 0) a from hB.put (k := 39) (z := 0) ⟨by decide, by decide⟩) (fp0.put (k := 39) (z := 0) rfl) (fun bq1 fq2 => ?_)
    refine m_iconst C dX12_set_19 ?_
    refine m_istore_n (lv2 := [(2, .int (iI 0)), (0, .ref h0), (1, .int (iI t))]) C dX12_set_20 (by decide) rfl ?_
    have Lp1 : ∀ (nn : Nat) (x : Int) (vb1 : Nat → Int) (ab1 : Nat → Nat → Int), 502 - x < (nn : Int) → BX vb1 ab1 → fr [0, 1, 23, 25, 28, 36, 39] [20, 21, 22, 24, 26, 27, 34, 35, 37, 38] v a vb1 ab1 → (0 ≤ x ∧ x ≤ 501) → (KSH v a vb1 ab1) → (SE2 v a vb1 ab1 t x) → mw p l e (rmq 66 0 0) s m args below meth c G A 7 (MQ below (Qm G A (fun rq Lq Eq => ∃ (vq : Nat → Int) (aq : Nat → Nat → Int), mI G h0 ad ln vq aq Lq Eq ∧ (fun r v2 a2 => ∃ f : Int, r = some (.int (iI f)) ∧ fr [0, 1, 23, 25, 28, 36, 39] [20, 21, 22, 24, 26, 27, 34, 35, 37, 38] v a v2 a2 ∧ BX v2 a2 ∧ (SETX v a v2 a2 t f)) rq vq aq)) args s 0 0 A) h0 ad ln vb1 ab1 0 0 21 [(2, .int (iI x)), (0, .ref h0), (1, .int (iI t))] [] := by
      intro nn
      induction nn with
      | zero =>
        intro x vb1 ab1 hm bxb1 fpb1 hx hK21 hS1
        exact absurd hm (by omega)
      | succ nn ih1 =>
        intro x vb1 ab1 hm bxb1 fpb1 hx hK21 hS1
        refine m_iload_n (j := 0) C dX12_set_21 rfl ?_
        refine m_aload_n (j := 1) C dX12_set_22 rfl ?_
        refine hv2 (show 0 ≤ vb1 30 ∧ vb1 30 ≤ 500 from bxb1.1 30) (show vb1 30 = v 30 from fpb1.1 30 rfl) (fun rv2 ve1 => ?_)
        refine m_get (k := 30) C dX12_set_23 w6_89 (by decide) rfl ?_
        refine m_st (st2 := [.int (iI (v 30)), .int (iI x)]) (congrArg (fun z => Value.int (iI z) :: [.int (iI x)]) (fpb1.1 30 rfl)) ?_
        refine m_icmp_ge (tgt := 157) C (r32_c (lo := 0) (hi := 501) hx.1 hx.2 (by decide) (by decide)) (r32_c (lo := 0) (hi := 500) (Int.le_trans rv2.1 (Int.le_of_eq ve1)) (Int.le_trans (Int.le_of_eq ve1.symm) rv2.2) (by decide) (by decide)) dX12_set_26 (by decide) (fun c2 => ?_) (fun c2 => ?_)
        · refine m_aload_n (j := 1) C dX12_set_157 rfl ?_
          refine m_aload_n (j := 1) C dX12_set_158 rfl ?_
          have rv3 : 0 ≤ vb1 39 ∧ vb1 39 ≤ 200 := bxb1.1 39
          refine m_get (k := 39) C dX12_set_159 w6_98 (by decide) rfl ?_
          refine m_put (k := 36) (z := vb1 39) C dX12_set_162 w6_95 (by decide) rfl rfl rfl ?_
          refine hv2 (show BX (va_up vb1 36 (vb1 39)) ab1 from bxb1.put (k := 36) (z := vb1 39) (show 0 ≤ (vb1 39) ∧ (vb1 39) ≤ 200 by omega)) (fpb1.put (k := 36) (z := vb1 39) rfl) (fun bq2 fq3 => ?_)
          refine m_iconst C dX12_set_165 ?_
          refine m_istore_n (lv2 := [(3, .int (iI 0)), (2, .int (iI x)), (0, .ref h0), (1, .int (iI t))]) C dX12_set_166 (by decide) rfl ?_
          have Lp2 : ∀ (nn : Nat) (y : Int) (vb2 : Nat → Int) (ab2 : Nat → Nat → Int), 201 - y < (nn : Int) → BX vb2 ab2 → fr [0, 1, 23, 25, 28, 36, 39] [20, 21, 22, 24, 26, 27, 34, 35, 37, 38] v a vb2 ab2 → (0 ≤ y ∧ y ≤ 200) → (SE5 v a vb2 ab2 t) → (SC1 ab2 y) → mw p l e (rmq 66 0 0) s m args below meth c G A 7 (MQ below (Qm G A (fun rq Lq Eq => ∃ (vq : Nat → Int) (aq : Nat → Nat → Int), mI G h0 ad ln vq aq Lq Eq ∧ (fun r v2 a2 => ∃ f : Int, r = some (.int (iI f)) ∧ fr [0, 1, 23, 25, 28, 36, 39] [20, 21, 22, 24, 26, 27, 34, 35, 37, 38] v a v2 a2 ∧ BX v2 a2 ∧ (SETX v a v2 a2 t f)) rq vq aq)) args s 0 0 A) h0 ad ln vb2 ab2 0 0 167 [(3, .int (iI y)), (2, .int (iI x)), (0, .ref h0), (1, .int (iI t))] [] := by
            intro nn
            induction nn with
            | zero =>
              intro y vb2 ab2 hm bxb2 fpb2 hy hS5 hC1
              exact absurd hm (by omega)
            | succ nn ih2 =>
              intro y vb2 ab2 hm bxb2 fpb2 hy hS5 hC1
              refine m_iload_n (j := 0) C dX12_set_167 rfl ?_
              refine m_aload_n (j := 2) C dX12_set_168 rfl ?_
              have rv4 : 0 ≤ vb2 36 ∧ vb2 36 ≤ 200 := bxb2.1 36
              refine m_get (k := 36) C dX12_set_169 w6_95 (by decide) rfl ?_
              refine m_icmp_ge (tgt := 239) C (r32_c (lo := 0) (hi := 200) hy.1 hy.2 (by decide) (by decide)) (r32_c (lo := 0) (hi := 200) rv4.1 rv4.2 (by decide) (by decide)) dX12_set_172 (by decide) (fun c3 => ?_) (fun c3 => ?_)
              · refine m_aload_n (j := 2) C dX12_set_239 rfl ?_
                refine m_aload_n (j := 2) C dX12_set_240 rfl ?_
                refine m_get (k := 36) C dX12_set_241 w6_95 (by decide) rfl ?_
                refine m_call (mc2 := 0) (ms2 := 0) (As := [.int (iI (vb2 36))]) (rest := []) C (B_fine (x := vb2 36) bxb2 (by show -2147483648 ≤ (vb2 36) ∧ (vb2 36) ≤ 2147483647; omega)) dX12_set_244 kV_X12_158 rfl ck_13 rfl (Nat.le_of_ble_eq_true rfl) ⟨Nat.le_of_ble_eq_true rfl, Nat.le_of_ble_eq_true rfl⟩ ⟨Nat.le_of_ble_eq_true rfl, Nat.le_of_ble_eq_true rfl⟩ (fun rh2 vh2 ah2 h2 => ?_)
                obtain ⟨f2, rfl, fn2, bn2, ex2⟩ := h2
                refine hv2 (fpb2.call fn2 rfl rfl) (show f2 = (vb2 36) from ex2) (fun fq4 gf2 => ?_)
                refine m_st (st2 := [.int (iI f2)]) rfl ?_
                exact m_iret C dX12_set_247 rfl (Nat.le_of_ble_eq_true rfl) (Nat.le_of_ble_eq_true rfl) ⟨f2, rfl, fq4, bn2, (SETX.ok (tl1.mp (by omega)) hS5 hC1 (by omega) (by omega) (fn2.1 36 rfl) (fn2.2 34 rfl) (fn2.2 35 rfl))⟩
              · refine m_aload_n (j := 2) C dX12_set_175 rfl ?_
                refine m_geta (k := 34) C dX12_set_176 w6_93 (by decide) rfl ?_
                refine m_iload_n (j := 0) C dX12_set_179 rfl ?_
                refine m_aload_n (j := 2) C dX12_set_180 rfl ?_
                refine m_geta (k := 37) C dX12_set_181 w6_96 (by decide) rfl ?_
                refine m_iload_n (j := 0) C dX12_set_184 rfl ?_
                refine m_ald (k := 37) C dX12_set_185 rfl rfl (by decide) (by omega) (by show _ < ((_ : Nat) : Int); simp only [mlen]; omega) (by decide) ?_
                have ra1 : 0 ≤ ab2 37 y.toNat ∧ ab2 37 y.toNat ≤ 200 := bxb2.2 37 (y.toNat)
                refine m_ast (k := 34) C dX12_set_186 rfl rfl (by decide) (by omega) (by show _ < ((_ : Nat) : Int); simp only [mlen]; omega) (by decide) ?_
                refine hv2 (show BX vb2 (up2 ab2 34 y.toNat (ab2 37 y.toNat)) from bxb2.set (k := 34) (i := y.toNat) (z := ab2 37 y.toNat) (show (-1) ≤ (ab2 37 y.toNat) ∧ (ab2 37 y.toNat) ≤ 200 by omega)) (fpb2.set (k := 34) (i := y.toNat) (z := ab2 37 y.toNat) rfl) (fun bq3 fq5 => ?_)
                refine m_iconst C dX12_set_187 ?_
                refine m_istore (lv2 := [(4, .int (iI 0)), (3, .int (iI y)), (2, .int (iI x)), (0, .ref h0), (1, .int (iI t))]) C dX12_set_188 (by decide) rfl ?_
                have Lp3 : ∀ (nn : Nat) (z : Int) (vb3 : Nat → Int) (ab3 : Nat → Nat → Int), 201 - z < (nn : Int) → BX vb3 ab3 → fr [0, 1, 23, 25, 28, 36, 39] [20, 21, 22, 24, 26, 27, 34, 35, 37, 38] v a vb3 ab3 → (0 ≤ z ∧ z ≤ 200) → (SE5 v a vb3 ab3 t) → (SC2 ab3 y z) → mw p l e (rmq 66 0 0) s m args below meth c G A 7 (MQ below (Qm G A (fun rq Lq Eq => ∃ (vq : Nat → Int) (aq : Nat → Nat → Int), mI G h0 ad ln vq aq Lq Eq ∧ (fun r v2 a2 => ∃ f : Int, r = some (.int (iI f)) ∧ fr [0, 1, 23, 25, 28, 36, 39] [20, 21, 22, 24, 26, 27, 34, 35, 37, 38] v a v2 a2 ∧ BX v2 a2 ∧ (SETX v a v2 a2 t f)) rq vq aq)) args s 0 0 A) h0 ad ln vb3 ab3 0 0 190 [(4, .int (iI z)), (3, .int (iI y)), (2, .int (iI x)), (0, .ref h0), (1, .int (iI t))] [] := by
                  intro nn
                  induction nn with
                  | zero =>
                    intro z vb3 ab3 hm bxb3 fpb3 hz hS6 hC2
                    exact absurd hm (by omega)
                  | succ nn ih3 =>
                    intro z vb3 ab3 hm bxb3 fpb3 hz hS6 hC2
                    refine m_iload (j := 0) C dX12_set_190 rfl ?_
                    refine m_aload_n (j := 3) C dX12_set_192 rfl ?_
                    refine m_geta (k := 37) C dX12_set_193 w6_96 (by decide) rfl ?_
                    refine m_iload_n (j := 1) C dX12_set_196 rfl ?_
                    refine m_ald (k := 37) C dX12_set_197 rfl rfl (by decide) (by omega) (by show _ < ((_ : Nat) : Int); simp only [mlen]; omega) (by decide) ?_
                    have ra2 : 0 ≤ ab3 37 y.toNat ∧ ab3 37 y.toNat ≤ 200 := bxb3.2 37 (y.toNat)
                    refine m_icmp_ge (tgt := 233) C (r32_c (lo := 0) (hi := 200) hz.1 hz.2 (by decide) (by decide)) (r32_c (lo := 0) (hi := 200) ra2.1 ra2.2 (by decide) (by decide)) dX12_set_198 (by decide) (fun c4 => ?_) (fun c4 => ?_)
                    · refine m_iinc (z := y) (j := 1) (lv2 := [(3, .int (iI (y + 1))), (4, .int (iI z)), (2, .int (iI x)), (0, .ref h0), (1, .int (iI t))]) C dX12_set_233 rfl (by decide) rfl ?_
                      refine m_goto (tgt := 167) C dX12_set_236 (by decide) ?_
                      refine m_lv (lv2 := [(3, .int (iI (y + 1))), (2, .int (iI x)), (0, .ref h0), (1, .int (iI t))]) [0, 2, 3, 4] rfl ?_
                      exact ih2  (y + 1) _ _ (by omega) bxb3 fpb3 (by omega) hS6 (SC2.fin hC2 (by omega) (by omega))
                    · refine m_aload_n (j := 3) C dX12_set_201 rfl ?_
                      refine m_geta (k := 35) C dX12_set_202 w6_94 (by decide) rfl ?_
                      refine m_sipush (z := 200) C dX12_set_205 (by decide) ?_
                      refine m_iload_n (j := 1) C dX12_set_208 rfl ?_
                      refine m_imul C dX12_set_209 ?_
                      refine m_iload (j := 0) C dX12_set_210 rfl ?_
                      refine m_iadd C dX12_set_212 ?_
                      refine m_aload_n (j := 3) C dX12_set_213 rfl ?_
                      refine m_geta (k := 38) C dX12_set_214 w6_97 (by decide) rfl ?_
                      refine m_sipush (z := 200) C dX12_set_217 (by decide) ?_
                      refine m_iload_n (j := 1) C dX12_set_220 rfl ?_
                      refine m_imul C dX12_set_221 ?_
                      refine m_iload (j := 0) C dX12_set_222 rfl ?_
                      refine m_iadd C dX12_set_224 ?_
                      refine m_ald (k := 38) C dX12_set_225 rfl rfl (by decide) (by omega) (by show _ < ((_ : Nat) : Int); simp only [mlen]; omega) (by decide) ?_
                      have ra3 : (-2147483648) ≤ ab3 38 ((200 * y) + z).toNat ∧ ab3 38 ((200 * y) + z).toNat ≤ 2147483647 := bxb3.2 38 (((200 * y) + z).toNat)
                      refine m_ast (k := 35) C dX12_set_226 rfl rfl (by decide) (by omega) (by show _ < ((_ : Nat) : Int); simp only [mlen]; omega) (by decide) ?_
                      refine hv2 (show BX vb3 (up2 ab3 35 ((200 * y) + z).toNat (ab3 38 ((200 * y) + z).toNat)) from bxb3.set (k := 35) (i := ((200 * y) + z).toNat) (z := ab3 38 ((200 * y) + z).toNat) (show (-2147483648) ≤ (ab3 38 ((200 * y) + z).toNat) ∧ (ab3 38 ((200 * y) + z).toNat) ≤ 2147483647 by omega)) (fpb3.set (k := 35) (i := ((200 * y) + z).toNat) (z := ab3 38 ((200 * y) + z).toNat) rfl) (fun bq4 fq6 => ?_)
                      refine m_iinc (z := z) (j := 0) (lv2 := [(4, .int (iI (z + 1))), (3, .int (iI y)), (2, .int (iI x)), (0, .ref h0), (1, .int (iI t))]) C dX12_set_227 rfl (by decide) rfl ?_
                      refine m_goto (tgt := 190) C dX12_set_230 (by decide) ?_
                      refine m_lv (lv2 := [(4, .int (iI (z + 1))), (3, .int (iI y)), (2, .int (iI x)), (0, .ref h0), (1, .int (iI t))]) [0, 1, 2, 3, 4] rfl ?_
                      exact ih3  (z + 1) _ _ (by omega) bq4 fq6 (by omega) (SE5.fr hS6 (funext fun _ => up2_k (by decide)) (funext fun _ => up2_k (by decide))) (SC2.mv hC2 (fun l => (bxb3.2 37 l).2) (by omega) ⟨by omega, by omega⟩ rfl rfl)
                refine m_lv (lv2 := [(4, .int (iI 0)), (3, .int (iI y)), (2, .int (iI x)), (0, .ref h0), (1, .int (iI t))]) [0, 1, 2, 3, 4] rfl ?_
                exact Lp3 202 0 _ _ (by omega) bq3 fq5 (by omega) (SE5.fr hS5 (funext fun _ => up2_k (by decide)) (funext fun _ => up2_k (by decide))) (SC1.go hC1 (by omega) rfl rfl)
          refine m_lv (lv2 := [(3, .int (iI 0)), (2, .int (iI x)), (0, .ref h0), (1, .int (iI t))]) [0, 1, 2, 3] rfl ?_
          exact Lp2 202 0 _ _ (by omega) bq2 fq3 (by omega) (SE2.fin hS1 (by omega) (va_up_ne _ _ (by decide)) (va_up_self _ _ _)) (SC1.init rfl)
        · refine m_aload_n (j := 1) C dX12_set_29 rfl ?_
          refine m_iload_n (j := 0) C dX12_set_30 rfl ?_
          refine m_call (mc2 := 0) (ms2 := 0) (As := [.int (iI x)]) (rest := []) C (E_lineEnd (q := x) bxb1 (by show 0 ≤ x ∧ x ≤ 1000; omega)) dX12_set_31 kV_X12_261 rfl ck_13 rfl (Nat.le_of_ble_eq_true rfl) ⟨Nat.le_of_ble_eq_true rfl, Nat.le_of_ble_eq_true rfl⟩ ⟨Nat.le_of_ble_eq_true rfl, Nat.le_of_ble_eq_true rfl⟩ (fun rh3 vh3 ah3 h3 => ?_)
          obtain ⟨f3, rfl, fn3, bn3, ex3⟩ := h3
          obtain ⟨rfl, rfl⟩ := fn3.eq
          obtain ⟨ex3, tl2⟩ := ex3
          refine hv2 (show x ≤ f3 ∧ (f3 = x ∨ f3 ≤ (vb1 30)) from ex3) (show LEX (a 29) (v 30) x f3 from (by have q1 := tl2; rw [fpb1.2 29 rfl, fpb1.1 30 rfl] at q1; exact q1)) (fun gf3 lef3 => ?_)
          refine m_st (st2 := [.int (iI f3)]) rfl ?_
          replace gf3 : x ≤ f3 ∧ f3 ≤ vb1 30 := by omega
          refine m_istore_n (lv2 := [(3, .int (iI f3)), (2, .int (iI x)), (0, .ref h0), (1, .int (iI t))]) C dX12_set_34 (by decide) rfl ?_
          refine m_aload_n (j := 2) C dX12_set_35 rfl ?_
          refine m_geta (k := 29) C dX12_set_36 w6_88 (by decide) rfl ?_
          refine m_iload_n (j := 1) C dX12_set_39 rfl ?_
          refine m_ald (k := 29) C dX12_set_40 rfl rfl (by decide) (by omega) (by show _ < ((_ : Nat) : Int); simp only [mlen]; omega) (by decide) ?_
          refine hv2 (show (-2147483648) ≤ ab1 29 x.toNat ∧ ab1 29 x.toNat ≤ 2147483647 from bxb1.2 29 (x.toNat)) (show ab1 29 (x.toNat) = a 29 (x.toNat) from congrFun (fpb1.2 29 rfl) (x.toNat)) (fun ra4 ae1 => ?_)
          refine m_st (st2 := [.int (iI (a 29 x.toNat))]) (congrArg (fun z => Value.int (iI z) :: []) (congrFun (fpb1.2 29 rfl) (x.toNat))) ?_
          refine m_bipush (z := 94) C dX12_set_41 (by decide) ?_
          have J1 : ∀ (g : Int) (vb4 : Nat → Int) (ab4 : Nat → Nat → Int), BX vb4 ab4 → fr [0, 1, 23, 25, 28, 36, 39] [20, 21, 22, 24, 26, 27, 34, 35, 37, 38] v a vb4 ab4 → (g = 0 ∨ g = 1) → (KSH v a vb4 ab4) → ((g = 1 ∧ a 29 x.toNat = 94) ∨ (g = 0 ∧ a 29 x.toNat ≠ 94)) → (SE2 v a vb4 ab4 t x) → mw p l e (rmq 66 0 0) s m args below meth c G A 7 (MQ below (Qm G A (fun rq Lq Eq => ∃ (vq : Nat → Int) (aq : Nat → Nat → Int), mI G h0 ad ln vq aq Lq Eq ∧ (fun r v2 a2 => ∃ f : Int, r = some (.int (iI f)) ∧ fr [0, 1, 23, 25, 28, 36, 39] [20, 21, 22, 24, 26, 27, 34, 35, 37, 38] v a v2 a2 ∧ BX v2 a2 ∧ (SETX v a v2 a2 t f)) rq vq aq)) args s 0 0 A) h0 ad ln vb4 ab4 0 0 51 [(3, .int (iI f3)), (2, .int (iI x)), (0, .ref h0), (1, .int (iI t))] [.int (iI g)] := by
            intro g vb4 ab4 bxb4 fpb4 hg hK51 hg2 hS2
            refine m_istore (lv2 := [(4, .int (iI g)), (3, .int (iI f3)), (2, .int (iI x)), (0, .ref h0), (1, .int (iI t))]) C dX12_set_51 (by decide) rfl ?_
            refine m_aload_n (j := 3) C dX12_set_53 rfl ?_
            have rv5 : 0 ≤ vb4 39 ∧ vb4 39 ≤ 200 := bxb4.1 39
            refine m_get (k := 39) C dX12_set_54 w6_98 (by decide) rfl ?_
            refine m_istore (lv2 := [(5, .int (iI (vb4 39))), (4, .int (iI g)), (3, .int (iI f3)), (2, .int (iI x)), (0, .ref h0), (1, .int (iI t))]) C dX12_set_57 (by decide) rfl ?_
            refine m_aload_n (j := 4) C dX12_set_59 rfl ?_
            refine m_call (mc2 := 0) (ms2 := 0) (As := []) (rest := []) C (M_newLine bxb4.rg (bxb4.1 39)) dX12_set_60 kV_X12_257 rfl ck_13 rfl (Nat.le_of_ble_eq_true rfl) ⟨Nat.le_of_ble_eq_true rfl, Nat.le_of_ble_eq_true rfl⟩ ⟨Nat.le_of_ble_eq_true rfl, Nat.le_of_ble_eq_true rfl⟩ (fun rh4 vh4 ah4 h4 => ?_)
            obtain ⟨f4, rfl, fn4, bn4, ex4, nx1⟩ := W_newLine2 bxb4 h4
            refine hv3 (fpb4.call fn4 rfl rfl) (show (f4 = 1 ∧ vh4 39 = vb4 39 + 1 ∧ ah4 37 (vh4 39 - 1).toNat = 0) ∨ f4 = 0 from ex4) (hK51.fr fn4 rfl rfl rfl) (fun fq8 gf4 ks1 => ?_)
            refine m_st (st2 := [.int (iI f4)]) rfl ?_
            refine m_if_ne (tgt := 73) C (r32_p0 gf4) dX12_set_63 (by decide) (fun c5 => ?_) (fun c5 => ?_)
            · replace gf4 := (gf4.resolve_right c5)
              refine m_aload_n (j := 4) C dX12_set_73 rfl ?_
              refine m_iload (j := 1) C dX12_set_74 rfl ?_
              have J2 : ∀ (y : Int) (vb5 : Nat → Int) (ab5 : Nat → Nat → Int), BX vb5 ab5 → fr [0, 1, 23, 25, 28, 36, 39] [20, 21, 22, 24, 26, 27, 34, 35, 37, 38] v a vb5 ab5 → (y = x ∨ y = x + 1) → (1 ≤ vb5 39) → (KSH v a vb5 ab5) → ((g = 1 ∧ y = x + 1) ∨ (g = 0 ∧ y = x)) → (SE3 v a vb5 ab5 t g (vb4 39) y) → mw p l e (rmq 66 0 0) s m args below meth c G A 7 (MQ below (Qm G A (fun rq Lq Eq => ∃ (vq : Nat → Int) (aq : Nat → Nat → Int), mI G h0 ad ln vq aq Lq Eq ∧ (fun r v2 a2 => ∃ f : Int, r = some (.int (iI f)) ∧ fr [0, 1, 23, 25, 28, 36, 39] [20, 21, 22, 24, 26, 27, 34, 35, 37, 38] v a v2 a2 ∧ BX v2 a2 ∧ (SETX v a v2 a2 t f)) rq vq aq)) args s 0 0 A) h0 ad ln vb5 ab5 0 0 86 [(5, .int (iI (vb4 39))), (4, .int (iI g)), (3, .int (iI f3)), (2, .int (iI x)), (0, .ref h0), (1, .int (iI t))] [.int (iI y), .ref h0] := by
                intro y vb5 ab5 bxb5 fpb5 hy hn hK86 hy2 hS3
                refine m_iload_n (j := 2) C dX12_set_86 rfl ?_
                refine hv4 (show 0 ≤ vb5 30 ∧ vb5 30 ≤ 500 from bxb5.1 30) (show vb5 30 = v 30 from fpb5.1 30 rfl) (show 0 ≤ vb5 23 ∧ vb5 23 ≤ 500 from bxb5.1 23) (show 0 ≤ vb5 39 ∧ vb5 39 ≤ 200 from bxb5.1 39) (fun rv6 ve2 rv7 rv8 => ?_)
                have tkp1 : TKP (a 29) (v 30) y f3 := LEX.tkp lef3 (by omega) (by omega) (by omega)
                refine m_call (mc2 := 0) (ms2 := 0) (As := [.int (iI y), .int (iI f3)]) (rest := []) C (E_takeWord (q := y) (u := f3) bxb5 (by omega) (by omega) (TKP.cg tkp1 (fpb5.2 29 rfl) (fpb5.1 30 rfl))) dX12_set_87 kV_X12_264 rfl ck_13 rfl (Nat.le_of_ble_eq_true rfl) ⟨Nat.le_of_ble_eq_true rfl, Nat.le_of_ble_eq_true rfl⟩ ⟨Nat.le_of_ble_eq_true rfl, Nat.le_of_ble_eq_true rfl⟩ (fun rh5 vh5 ah5 h5 => ?_)
                obtain ⟨f5, rfl, fn5, bn5, ex5, tl3⟩ := h5
                refine hv6 (fpb5.call fn5 rfl rfl) (show 0 ≤ vh5 23 ∧ vh5 23 ≤ 500 from bn5.1 23) (show (f5 = y ∨ (y ≤ f5 ∧ f5 ≤ f3)) ∧ (vh5 23) ≤ f5 - y from ex5) (show (vh5 23) ≠ 0 ∨ f5 = f3 from tl3.2) (show TKX (a 29) (v 30) vh5 ah5 y f5 from (by have q1 := tl3.1; rw [fpb5.2 29 rfl, fpb5.1 30 rfl] at q1; exact q1)) (hK86.fr fn5 rfl rfl rfl) (fun fq9 rv9 gf5 hf5 tk1 ks2 => ?_)
                have se1 := SE3.take hS3 tk1 (fn5.1 39 rfl) (fn5.2 37 rfl) (fn5.2 38 rfl)
                refine m_st (st2 := [.int (iI f5)]) rfl ?_
                refine m_istore (lv2 := [(6, .int (iI f5)), (5, .int (iI (vb4 39))), (4, .int (iI g)), (3, .int (iI f3)), (2, .int (iI x)), (0, .ref h0), (1, .int (iI t))]) C dX12_set_90 (by decide) rfl ?_
                have Lp4 : ∀ (nn : Nat) (w1 : Int) (vb6 : Nat → Int) (ab6 : Nat → Nat → Int), 1005 - 2 * w1 + min 1 (vb6 23) < (nn : Int) → BX vb6 ab6 → fr [0, 1, 23, 25, 28, 36, 39] [20, 21, 22, 24, 26, 27, 34, 35, 37, 38] v a vb6 ab6 → (0 ≤ w1 ∧ w1 ≤ 501) → (1 ≤ vb6 39) → (0 ≤ vb6 23 ∧ vb6 23 ≤ 500) → (y ≤ w1 ∧ w1 ≤ f3) → (vb6 23 ≠ 0 ∨ w1 = f3) → (KSH v a vb6 ab6) → (SE4 v a vb6 ab6 t g (vb4 39) w1) → mw p l e (rmq 66 0 0) s m args below meth c G A 7 (MQ below (Qm G A (fun rq Lq Eq => ∃ (vq : Nat → Int) (aq : Nat → Nat → Int), mI G h0 ad ln vq aq Lq Eq ∧ (fun r v2 a2 => ∃ f : Int, r = some (.int (iI f)) ∧ fr [0, 1, 23, 25, 28, 36, 39] [20, 21, 22, 24, 26, 27, 34, 35, 37, 38] v a v2 a2 ∧ BX v2 a2 ∧ (SETX v a v2 a2 t f)) rq vq aq)) args s 0 0 A) h0 ad ln vb6 ab6 0 0 92 [(6, .int (iI w1)), (5, .int (iI (vb4 39))), (4, .int (iI g)), (3, .int (iI f3)), (2, .int (iI x)), (0, .ref h0), (1, .int (iI t))] [] := by
                  intro nn
                  induction nn with
                  | zero =>
                    intro w1 vb6 ab6 hm bxb6 fpb6 hw hn2 h23 hwr hto hK92 hS4
                    clear hy hy2 hg2 gf5 hf5
                    exact absurd hm (by omega)
                  | succ nn ih4 =>
                    intro w1 vb6 ab6 hm bxb6 fpb6 hw hn2 h23 hwr hto hK92 hS4
                    clear hy hy2 hg2 gf5 hf5
                    refine m_aload_n (j := 5) C dX12_set_92 rfl ?_
                    have rv10 : 0 ≤ vb6 23 ∧ vb6 23 ≤ 500 := bxb6.1 23
                    refine m_get (k := 23) C dX12_set_93 w6_82 (by decide) rfl ?_
                    refine m_if_le (tgt := 139) C (r32_c (lo := 0) (hi := 500) rv10.1 rv10.2 (by decide) (by decide)) dX12_set_96 (by decide) (fun c6 => ?_) (fun c6 => ?_)
                    · refine m_iload (j := 2) C dX12_set_139 rfl ?_
                      refine m_if_eq (tgt := 150) C (r32_01 hg) dX12_set_141 (by decide) (fun c7 => ?_) (fun c7 => ?_)
                      · refine m_iload_n (j := 3) C dX12_set_150 rfl ?_
                        refine m_iconst C dX12_set_151 ?_
                        refine m_iadd C dX12_set_152 ?_
                        refine m_istore_n (lv2 := [(2, .int (iI (f3 + 1))), (6, .int (iI w1)), (5, .int (iI (vb4 39))), (4, .int (iI g)), (3, .int (iI f3)), (0, .ref h0), (1, .int (iI t))]) C dX12_set_153 (by decide) rfl ?_
                        refine m_goto (tgt := 21) C dX12_set_154 (by decide) ?_
                        refine m_lv (lv2 := [(2, .int (iI (f3 + 1))), (0, .ref h0), (1, .int (iI t))]) [0, 5, 6] rfl ?_
                        exact ih1  (f3 + 1) _ _ (by omega) bxb6 fpb6 (by omega) hK92 (by have e := SE4.lineN hS4 (by omega) (by omega) (by omega); rw [show w1 = f3 by omega] at e; exact e)
                      · refine m_aload_n (j := 5) C dX12_set_144 rfl ?_
                        refine m_iload (j := 1) C dX12_set_145 rfl ?_
                        refine m_call (mc2 := 0) (ms2 := 0) (As := [.int (iI (vb4 39))]) (rest := []) C (E_centre (q := vb4 39) bxb6 (by show 0 ≤ (vb4 39) ∧ (vb4 39) ≤ 200; omega)) dX12_set_147 kV_X12_276 rfl ck_13 rfl (Nat.le_of_ble_eq_true rfl) ⟨Nat.le_of_ble_eq_true rfl, Nat.le_of_ble_eq_true rfl⟩ ⟨Nat.le_of_ble_eq_true rfl, Nat.le_of_ble_eq_true rfl⟩ (fun rh6 vh6 ah6 h6 => ?_)
                        obtain ⟨rfl, fn6, bn6, ex6⟩ := h6
                        refine hv3 (fpb6.call fn6 rfl rfl) (ex6) (hK92.fr fn6 rfl rfl rfl) (fun fq10 tl4 ks3 => ?_)
                        refine m_st (st2 := []) rfl ?_
                        refine m_iload_n (j := 3) C dX12_set_150 rfl ?_
                        refine m_iconst C dX12_set_151 ?_
                        refine m_iadd C dX12_set_152 ?_
                        refine m_istore_n (lv2 := [(2, .int (iI (f3 + 1))), (6, .int (iI w1)), (5, .int (iI (vb4 39))), (4, .int (iI g)), (3, .int (iI f3)), (0, .ref h0), (1, .int (iI t))]) C dX12_set_153 (by decide) rfl ?_
                        refine m_goto (tgt := 21) C dX12_set_154 (by decide) ?_
                        refine m_lv (lv2 := [(2, .int (iI (f3 + 1))), (0, .ref h0), (1, .int (iI t))]) [0, 5, 6] rfl ?_
                        exact ih1  (f3 + 1) _ _ (by omega) bn6 fq10 (by omega) ks3 (by have e := SE4.lineC hS4 (by omega) (by omega) (by omega) (fpb6.1 31 rfl) tl4; rw [show w1 = f3 by omega] at e; exact e)
                    · refine m_aload_n (j := 5) C dX12_set_99 rfl ?_
                      refine m_iload_n (j := 6) C dX12_set_100 rfl ?_
                      refine hv2 (show 0 ≤ vb6 4 ∧ vb6 4 ≤ 30 from bxb6.1 4) (show vb6 4 = v 4 from fpb6.1 4 rfl) (fun rv11 ve3 => ?_)
                      refine m_call (mc2 := 0) (ms2 := 0) (As := [.int (iI t)]) (rest := []) C (E_setWord (t := t) bxb6 (hT.fr fpb6 rfl rfl) (by show 0 ≤ t ∧ t < (vb6 4); omega)) dX12_set_101 kV_X12_267 rfl ck_13 rfl (Nat.le_of_ble_eq_true rfl) ⟨Nat.le_of_ble_eq_true rfl, Nat.le_of_ble_eq_true rfl⟩ ⟨Nat.le_of_ble_eq_true rfl, Nat.le_of_ble_eq_true rfl⟩ (fun rh7 vh7 ah7 h7 => ?_)
                      obtain ⟨f7, rfl, fn7, bn7, ex7⟩ := h7
                      have fq11 := fpb6.call fn7 rfl rfl
                      obtain ⟨ex7, tl5⟩ := ex7
                      refine hv3 (show 0 ≤ vh7 25 ∧ vh7 25 ≤ 208 from bn7.1 25) (show f7 = 0 ∨ (f7 = 1 ∧ (vh7 25) ≤ 200) from ex7) (hK92.fr fn7 rfl rfl rfl) (fun rv12 gf7 ks4 => ?_)
                      have spf7 : f7 = 1 → 1 ≤ (vh7 25) := fun e => SWT.pos tl5.1 e (hT.fr fpb6 rfl rfl) bxb6 ⟨by omega, by have e4 := fpb6.1 4 rfl; omega⟩ (by omega)
                      refine m_st (st2 := [.int (iI f7)]) rfl ?_
                      refine m_if_ne (tgt := 112) C (r32_0p gf7) dX12_set_104 (by decide) (fun c8 => ?_) (fun c8 => ?_)
                      · replace gf7 := (gf7.resolve_left c8)
                        refine m_aload_n (j := 5) C dX12_set_112 rfl ?_
                        refine m_iload_n (j := 6) C dX12_set_113 rfl ?_
                        refine hv2 (show 0 ≤ vh7 39 ∧ vh7 39 ≤ 200 from bn7.1 39) (show vh7 39 = vb6 39 from fn7.1 39 rfl) (fun rv13 ve4 => ?_)
                        refine m_call (mc2 := 0) (ms2 := 0) (As := [.int (iI t)]) (rest := []) C (E_flow (t := t) bn7 (by show 0 ≤ t ∧ t < 30; omega) (by show 1 ≤ (vh7 39); omega) (by show 1 ≤ (vh7 25) ∧ (vh7 25) ≤ 200; omega)) dX12_set_114 kV_X12_273 rfl ck_13 rfl (Nat.le_of_ble_eq_true rfl) ⟨Nat.le_of_ble_eq_true rfl, Nat.le_of_ble_eq_true rfl⟩ ⟨Nat.le_of_ble_eq_true rfl, Nat.le_of_ble_eq_true rfl⟩ (fun rh8 vh8 ah8 h8 => ?_)
                        obtain ⟨f8, rfl, fn8, bn8, ex8⟩ := h8
                        have fq12 := fq11.call fn8 rfl rfl
                        obtain ⟨ex8, tl6⟩ := ex8
                        refine hv3 (show 0 ≤ vh8 39 ∧ vh8 39 ≤ 200 from bn8.1 39) (show f8 = 0 ∨ (f8 = 1 ∧ 1 ≤ (vh8 39)) from ex8) (ks4.fr fn8 rfl rfl rfl) (fun rv14 gf8 ks5 => ?_)
                        have fw1 := SE4.flow hS4 hg (by omega) (by omega) hT (hB.1 4).2 (fun i => (hB.2 10 i).2) ⟨by omega, by omega⟩ tl5.1 tl5.2 (by omega) (TBE.fr fpb6 rfl) (fun i => (hB.2 12 i).1) (fq11.2 6 rfl) (fn7.2 21 rfl) (fn7.2 22 rfl) (fn7.1 23 rfl) (fn7.1 39 rfl) (fn7.2 37 rfl) (fn7.2 38 rfl) (fq11.1 31 rfl) (fq11.1 33 rfl) tl6
                        refine m_st (st2 := [.int (iI f8)]) rfl ?_
                        refine m_if_ne (tgt := 127) C (r32_0p gf8) dX12_set_117 (by decide) (fun c9 => ?_) (fun c9 => ?_)
                        · replace gf8 := (gf8.resolve_left c9)
                          refine m_aload_n (j := 5) C dX12_set_127 rfl ?_
                          refine m_iload (j := 0) C dX12_set_128 rfl ?_
                          refine m_iload_n (j := 3) C dX12_set_130 rfl ?_
                          refine hv7 (show 0 ≤ vh8 30 ∧ vh8 30 ≤ 500 from bn8.1 30) (show vh8 30 = vh7 30 from fn8.1 30 rfl) (show vh7 30 = vb6 30 from fn7.1 30 rfl) (show vb6 30 = v 30 from fpb6.1 30 rfl) (show 0 ≤ vh8 23 ∧ vh8 23 ≤ 500 from bn8.1 23) (show vh8 23 = vh7 23 from fn8.1 23 rfl) (show vh7 23 = vb6 23 from fn7.1 23 rfl) (fun rv15 ve5 ve6 ve7 rv16 ve8 ve9 => ?_)
                          refine m_call (mc2 := 0) (ms2 := 0) (As := [.int (iI w1), .int (iI f3)]) (rest := []) C (E_takeWord (q := w1) (u := f3) bn8 (by omega) (by omega) (TKP.cg (tkp1.sub ⟨by omega, by omega⟩) (fq12.2 29 rfl) (fq12.1 30 rfl))) dX12_set_131 kV_X12_264 rfl ck_13 rfl (Nat.le_of_ble_eq_true rfl) ⟨Nat.le_of_ble_eq_true rfl, Nat.le_of_ble_eq_true rfl⟩ ⟨Nat.le_of_ble_eq_true rfl, Nat.le_of_ble_eq_true rfl⟩ (fun rh9 vh9 ah9 h9 => ?_)
                          obtain ⟨f9, rfl, fn9, bn9, ex9, tl7⟩ := h9
                          refine hv6 (fq12.call fn9 rfl rfl) (show 0 ≤ vh9 23 ∧ vh9 23 ≤ 500 from bn9.1 23) (show (f9 = w1 ∨ (w1 ≤ f9 ∧ f9 ≤ f3)) ∧ (vh9 23) ≤ f9 - w1 from ex9) (show (vh9 23) ≠ 0 ∨ f9 = f3 from tl7.2) (show TKX (a 29) (v 30) vh9 ah9 w1 f9 from (by have q1 := tl7.1; rw [fq12.2 29 rfl, fq12.1 30 rfl] at q1; exact q1)) (ks5.fr fn9 rfl rfl rfl) (fun fq13 rv17 gf9 hf9 tk2 ks6 => ?_)
                          have se2 := SE3.take (fw1.1 (by omega)) tk2 (fn9.1 39 rfl) (fn9.2 37 rfl) (fn9.2 38 rfl)
                          refine m_st (st2 := [.int (iI f9)]) rfl ?_
                          refine m_istore (lv2 := [(6, .int (iI f9)), (5, .int (iI (vb4 39))), (4, .int (iI g)), (3, .int (iI f3)), (2, .int (iI x)), (0, .ref h0), (1, .int (iI t))]) C dX12_set_134 (by decide) rfl ?_
                          refine m_goto (tgt := 92) C dX12_set_136 (by decide) ?_
                          refine hv2 (show 0 ≤ vh9 39 ∧ vh9 39 ≤ 200 from bn9.1 39) (show vh9 39 = vh8 39 from fn9.1 39 rfl) (fun rv18 ve10 => ?_)
                          refine m_lv (lv2 := [(6, .int (iI f9)), (5, .int (iI (vb4 39))), (4, .int (iI g)), (3, .int (iI f3)), (2, .int (iI x)), (0, .ref h0), (1, .int (iI t))]) [0, 1, 2, 3, 4, 5, 6] rfl ?_
                          exact ih4  f9 _ _ (by omega) bn9 fq13 (by omega) (by show 1 ≤ (vh9 39); omega) (by show 0 ≤ (vh9 23) ∧ (vh9 23) ≤ 500; omega) (by omega) (by show (vh9 23) ≠ 0 ∨ f9 = f3; omega) ks6 se2
                        · clear gf8
                          refine m_aload_n (j := 5) C dX12_set_120 rfl ?_
                          refine m_bipush (z := 6) C dX12_set_121 (by decide) ?_
                          refine m_call (mc2 := 0) (ms2 := 0) (As := [.int (iI 6)]) (rest := []) C (B_bad (x := 6) bn8 (by show -2147483648 ≤ (6 : Int) ∧ (6 : Int) ≤ 2147483647; omega)) dX12_set_123 kV_X12_154 rfl ck_13 rfl (Nat.le_of_ble_eq_true rfl) ⟨Nat.le_of_ble_eq_true rfl, Nat.le_of_ble_eq_true rfl⟩ ⟨Nat.le_of_ble_eq_true rfl, Nat.le_of_ble_eq_true rfl⟩ (fun rh10 vh10 ah10 h10 => ?_)
                          obtain ⟨f10, rfl, fn10, bn10, ex10⟩ := h10
                          refine hv2 (fq12.call fn10 rfl rfl) (show f10 = -1 from ex10) (fun fq14 gf10 => ?_)
                          refine m_st (st2 := [.int (iI f10)]) rfl ?_
                          exact m_iret C dX12_set_126 rfl (Nat.le_of_ble_eq_true rfl) (Nat.le_of_ble_eq_true rfl) ⟨f10, rfl, fq14, bn10, (SETX.n2 (tl1.mp (by omega)) (fw1.2 (by omega)) (by omega) (ks5.fr fn10 rfl rfl rfl))⟩
                      · clear gf7
                        refine m_aload_n (j := 5) C dX12_set_107 rfl ?_
                        refine m_call (mc2 := 0) (ms2 := 0) (As := []) (rest := []) C (B_notSet  bn7 ) dX12_set_108 kV_X12_270 rfl ck_13 rfl (Nat.le_of_ble_eq_true rfl) ⟨Nat.le_of_ble_eq_true rfl, Nat.le_of_ble_eq_true rfl⟩ ⟨Nat.le_of_ble_eq_true rfl, Nat.le_of_ble_eq_true rfl⟩ (fun rh11 vh11 ah11 h11 => ?_)
                        obtain ⟨f11, rfl, fn11, bn11, ex11⟩ := h11
                        refine hv2 (fq11.call fn11 rfl rfl) (show f11 = -1 from ex11) (fun fq15 gf11 => ?_)
                        refine m_st (st2 := [.int (iI f11)]) rfl ?_
                        exact m_iret C dX12_set_111 rfl (Nat.le_of_ble_eq_true rfl) (Nat.le_of_ble_eq_true rfl) ⟨f11, rfl, fq15, bn11, (SETX.n2 (tl1.mp (by omega)) (SE4.bad hS4 hg (by omega) (by omega) tl5.1 (by omega) (TBE.fr fpb6 rfl) (fun i => (hB.2 12 i).1) (fun i => (bxb6.2 12 i).1)) (by omega) (ks4.fr fn11 rfl rfl rfl))⟩
                refine hv2 (show 0 ≤ vh5 39 ∧ vh5 39 ≤ 200 from bn5.1 39) (show vh5 39 = vb5 39 from fn5.1 39 rfl) (fun rv19 ve11 => ?_)
                refine m_lv (lv2 := [(6, .int (iI f5)), (5, .int (iI (vb4 39))), (4, .int (iI g)), (3, .int (iI f3)), (2, .int (iI x)), (0, .ref h0), (1, .int (iI t))]) [0, 1, 2, 3, 4, 5, 6] rfl ?_
                exact Lp4 1010 f5 _ _ (by omega) bn5 fq9 (by omega) (by show 1 ≤ (vh5 39); omega) (by show 0 ≤ (vh5 23) ∧ (vh5 23) ≤ 500; omega) (by omega) (by show (vh5 23) ≠ 0 ∨ f5 = f3; omega) ks2 se1
              refine m_if_eq (tgt := 85) C (r32_01 hg) dX12_set_76 (by decide) (fun c10 => ?_) (fun c10 => ?_)
              · replace hg2 := (hg2.resolve_left (fun q => absurd (q.1.symm.trans c10) (by decide)))
                refine m_iload_n (j := 3) C dX12_set_85 rfl ?_
                have rv20 : 0 ≤ vh4 39 ∧ vh4 39 ≤ 200 := bn4.1 39
                refine m_lv (lv2 := [(5, .int (iI (vb4 39))), (4, .int (iI g)), (3, .int (iI f3)), (2, .int (iI x)), (0, .ref h0), (1, .int (iI t))]) [0, 1, 2, 3, 4, 5] rfl ?_
                exact J2  x _ _  bn4 fq8 (by omega) (by show 1 ≤ (vh4 39); omega) ks1 (by omega) (SE2.enter hS2 (by omega) (by omega) nx1 (by omega) rfl)
              · replace hg2 := (hg2.resolve_right (fun q => c10 q.1))
                refine m_iload_n (j := 3) C dX12_set_79 rfl ?_
                refine m_iconst C dX12_set_80 ?_
                refine m_iadd C dX12_set_81 ?_
                refine m_goto (tgt := 86) C dX12_set_82 (by decide) ?_
                have rv21 : 0 ≤ vh4 39 ∧ vh4 39 ≤ 200 := bn4.1 39
                refine m_lv (lv2 := [(5, .int (iI (vb4 39))), (4, .int (iI g)), (3, .int (iI f3)), (2, .int (iI x)), (0, .ref h0), (1, .int (iI t))]) [0, 1, 2, 3, 4, 5] rfl ?_
                exact J2  (x + 1) _ _  bn4 fq8 (by omega) (by show 1 ≤ (vh4 39); omega) ks1 (by omega) (SE2.enter hS2 (by omega) (by omega) nx1 (by omega) rfl)
            · clear gf4
              refine m_aload_n (j := 4) C dX12_set_66 rfl ?_
              refine m_bipush (z := 6) C dX12_set_67 (by decide) ?_
              refine m_call (mc2 := 0) (ms2 := 0) (As := [.int (iI 6)]) (rest := []) C (B_bad (x := 6) bn4 (by show -2147483648 ≤ (6 : Int) ∧ (6 : Int) ≤ 2147483647; omega)) dX12_set_69 kV_X12_154 rfl ck_13 rfl (Nat.le_of_ble_eq_true rfl) ⟨Nat.le_of_ble_eq_true rfl, Nat.le_of_ble_eq_true rfl⟩ ⟨Nat.le_of_ble_eq_true rfl, Nat.le_of_ble_eq_true rfl⟩ (fun rh12 vh12 ah12 h12 => ?_)
              obtain ⟨f12, rfl, fn12, bn12, ex12⟩ := h12
              refine hv2 (fq8.call fn12 rfl rfl) (show f12 = -1 from ex12) (fun fq16 gf12 => ?_)
              refine m_st (st2 := [.int (iI f12)]) rfl ?_
              exact m_iret C dX12_set_72 rfl (Nat.le_of_ble_eq_true rfl) (Nat.le_of_ble_eq_true rfl) ⟨f12, rfl, fq16, bn12, (SETX.n2 (tl1.mp (by omega)) (SE2.nroom hS2 (by omega) hT ⟨by omega, by omega⟩ nx1 (by omega)) (by omega) (ks1.fr fn12 rfl rfl rfl))⟩
          refine m_icmp_ne (tgt := 50) C ⟨by omega, by omega⟩ ⟨by decide, by decide⟩ dX12_set_43 (by decide) (fun c11 => ?_) (fun c11 => ?_)
          · refine m_iconst C dX12_set_50 ?_
            refine m_lv (lv2 := [(3, .int (iI f3)), (2, .int (iI x)), (0, .ref h0), (1, .int (iI t))]) [0, 1, 2, 3] rfl ?_
            exact J1  0 _ _  bxb1 fpb1 (by omega) hK21 (by omega) hS1
          · refine m_iconst C dX12_set_46 ?_
            refine m_goto (tgt := 51) C dX12_set_47 (by decide) ?_
            refine m_lv (lv2 := [(3, .int (iI f3)), (2, .int (iI x)), (0, .ref h0), (1, .int (iI t))]) [0, 1, 2, 3] rfl ?_
            exact J1  1 _ _  bxb1 fpb1 (by omega) hK21 (by omega) hS1
    refine m_lv (lv2 := [(2, .int (iI 0)), (0, .ref h0), (1, .int (iI t))]) [0, 1, 2] rfl ?_
    exact Lp1 503 0 _ _ (by omega) bq1 fq2 (by omega) ⟨va_up_ne _ _ (by decide), rfl, rfl⟩ (SE2.init (va_up_self _ _ _))
  · clear gf1
    refine m_aload_n (j := 0) C dX12_set_8 rfl ?_
    refine m_iconst C dX12_set_9 ?_
    refine m_call (mc2 := 0) (ms2 := 0) (As := [.int (iI 3)]) (rest := []) C (B_bad (x := 3) hB (by show -2147483648 ≤ (3 : Int) ∧ (3 : Int) ≤ 2147483647; omega)) dX12_set_10 kV_X12_154 rfl ck_13 rfl (Nat.le_of_ble_eq_true rfl) ⟨Nat.le_of_ble_eq_true rfl, Nat.le_of_ble_eq_true rfl⟩ ⟨Nat.le_of_ble_eq_true rfl, Nat.le_of_ble_eq_true rfl⟩ (fun rh13 vh13 ah13 h13 => ?_)
    obtain ⟨f13, rfl, fn13, bn13, ex13⟩ := h13
    refine hv2 (fp0.call fn13 rfl rfl) (show f13 = -1 from ex13) (fun fq17 gf13 => ?_)
    refine m_st (st2 := [.int (iI f13)]) rfl ?_
    exact m_iret C dX12_set_13 rfl (Nat.le_of_ble_eq_true rfl) (Nat.le_of_ble_eq_true rfl) ⟨f13, rfl, fq17, bn13, (SETX.n1 (fun q => absurd (tl1.mpr q) (by omega)) (by omega) ((KSH.refl (v := v) (a := a)).fr fn13 rfl rfl rfl))⟩
end
section
def rwe (E : List (Option (List Int))) (l : Int) : Option (Option (List Int)) := if 0 ≤ l then E[l.toNat]? else none
def RWA (a : Nat → Nat → Int) (l : Nat) (x : Option (List Int)) : Prop := (x = none ∧ a 34 l < 0) ∨ ∃ xs, x = some xs ∧ a 34 l = ((xs.length : Nat) : Int) ∧ ∀ (j : Nat) (y : Int), xs[j]? = some y → a 35 (200 * l + j) = y
def SHA (v : Nat → Int) (a : Nat → Nat → Int) (E : List (Option (List Int))) : Prop := v 36 = ((E.length : Nat) : Int) ∧ ∀ (l : Nat) (x : Option (List Int)), E[l]? = some x → RWA a l x
def mpr (n : Nat) (F : Nat → Int) : List Int := (List.range n).map F
def gd0 (xs : List Int) (j : Nat) : Int := (xs[j]?).getD 0
def LOSX (E : List (Option (List Int))) (l f : Int) (E2 : List (Option (List Int))) : Prop := ((∃ x, rwe E l = some x) ∧ E2 = E.set l.toNat none ∧ f = 1) ∨ (rwe E l = none ∧ E2 = E ∧ f = -1)
def CUTX (E : List (Option (List Int))) (l n f : Int) (E2 : List (Option (List Int))) : Prop := ((0 ≤ n ∧ n ≤ 200) ∧ ∃ xs, rwe E l = some (some xs) ∧ E2 = E.set l.toNat (some (mpr n.toNat (gd0 xs))) ∧ f = n) ∨ ((¬ ((0 ≤ n ∧ n ≤ 200) ∧ ∃ xs, rwe E l = some (some xs))) ∧ E2 = E ∧ f = -1)
def cpx (xs ys : List Int) (w x n : Nat) : List Int := mpr ys.length (fun j => if x ≤ j ∧ j < x + n then gd0 xs (w + (j - x)) else gd0 ys j)
def CPK (E : List (Option (List Int))) (q w u x n : Int) (xs ys : List Int) : Prop := rwe E q = some (some xs) ∧ rwe E u = some (some ys) ∧ 0 ≤ n ∧ 0 ≤ w ∧ 0 ≤ x ∧ w + n ≤ ((xs.length : Nat) : Int) ∧ x + n ≤ ((ys.length : Nat) : Int)
def CPRX (E : List (Option (List Int))) (q w u x n f : Int) (E2 : List (Option (List Int))) : Prop := (∃ xs ys, CPK E q w u x n xs ys ∧ E2 = E.set u.toNat (some (cpx xs ys w.toNat x.toNat n.toNat)) ∧ f = n) ∨ ((¬ ∃ xs ys, CPK E q w u x n xs ys) ∧ E2 = E ∧ f = -1)
def cst (E : List (Option (List Int))) (q u : Int) (E2 : List (Option (List Int))) : Prop := ∃ xs y, rwe E q = some (some xs) ∧ rwe E u = some y ∧ E2 = E.set u.toNat (some xs)
def cpn (E : List (Option (List Int))) (q u : Int) : Nat → List (Option (List Int)) → Prop
  | 0, E2 => E2 = E
  | k + 1, E2 => ∃ E1, cpn E q u k E1 ∧ cst E1 (q + ((k : Nat) : Int)) (u + ((k : Nat) : Int)) E2
def CPLX (E : List (Option (List Int))) (q u n c f : Int) (E2 : List (Option (List Int))) (c2 : Int) : Prop := ((n < 0 ∨ 10 < n) ∧ E2 = E ∧ f = -1 ∧ c2 = c) ∨ ((0 ≤ n ∧ n ≤ 10) ∧ ((cpn E q u n.toNat E2 ∧ f = n ∧ c2 = n) ∨ ∃ k : Nat, ((k : Nat) : Int) < n ∧ cpn E q u k E2 ∧ (¬ ∃ E3, cst E2 (q + ((k : Nat) : Int)) (u + ((k : Nat) : Int)) E3) ∧ f = -1 ∧ c2 = ((k : Nat) : Int)))
section CONT
variable {v v2 : Nat → Int} {a a2 : Nat → Nat → Int} {E E1 E2 E3 : List (Option (List Int))} {l i n q u w x f f1 f2 c c1 c2 : Int} {k : Nat} {xs ys : List Int}
theorem mpr_len {n : Nat} {F : Nat → Int} : (mpr n F).length = n := by
  unfold mpr
  rw [List.length_map, List.length_range]
theorem mpr_at {n j : Nat} {F : Nat → Int} {y : Int} (h : (mpr n F)[j]? = some y) : j < n ∧ y = F j := by
  have lt := gl3 h
  rw [mpr_len] at lt
  refine ⟨lt, ?_⟩
  unfold mpr at h
  rw [List.getElem?_map, List.getElem?_range lt] at h
  exact (Option.some.inj h).symm
theorem gd0_at {j : Nat} {y : Int} (h : xs[j]? = some y) : gd0 xs j = y := by
  unfold gd0
  rw [h]
  rfl
theorem gd0_out {j : Nat} (h : xs.length ≤ j) : gd0 xs j = 0 := by
  unfold gd0
  rw [List.getElem?_eq_none h]
  rfl
theorem gd0_lt {j : Nat} (h : j < xs.length) : xs[j]? = some (gd0 xs j) := by
  rw [gd0_at (List.getElem?_eq_getElem h)]
  exact List.getElem?_eq_getElem h
theorem rwl_lt {y : Option (List Int)} (h : rwe E l = some y) : 0 ≤ l ∧ l < ((E.length : Nat) : Int) ∧ E[l.toNat]? = some y := by
  unfold rwe at h
  by_cases c0 : 0 ≤ l
  · rw [if_pos c0] at h
    have lt := gl3 h
    exact ⟨c0, by omega, h⟩
  · rw [if_neg c0] at h
    cases h
theorem rwl_in (h0 : 0 ≤ l) (h : l < ((E.length : Nat) : Int)) : ∃ y, rwe E l = some y ∧ E[l.toNat]? = some y := by
  have lt : l.toNat < E.length := by omega
  refine ⟨_, ?_, List.getElem?_eq_getElem lt⟩
  unfold rwe
  rw [if_pos h0]
  exact List.getElem?_eq_getElem lt
theorem rwl_out (h : ¬ (0 ≤ l ∧ l < ((E.length : Nat) : Int))) : rwe E l = none := by
  unfold rwe
  by_cases c0 : 0 ≤ l
  · rw [if_pos c0]
    exact List.getElem?_eq_none (by omega)
  · rw [if_neg c0]
theorem SHA.off (h : SHA v a E) (hl : ¬ (0 ≤ l ∧ l < v 36)) : rwe E l = none := rwl_out (by have e := h.1; omega)
theorem SHA.on (h : SHA v a E) (h0 : 0 ≤ l) (hl : l < v 36) : ∃ y, rwe E l = some y ∧ RWA a l.toNat y := by
  obtain ⟨y, y1, y2⟩ := rwl_in (E := E) h0 (by have e := h.1; omega)
  exact ⟨y, y1, h.2 _ y y2⟩
theorem SHA.lack (h : SHA v a E) (h0 : 0 ≤ l) (hl : l < v 36) (hn : a 34 l.toNat < 0) : rwe E l = some none := by
  obtain ⟨y, y1, y2⟩ := h.on h0 hl
  rcases y2 with ⟨e, _⟩ | ⟨xs, _, e, _⟩
  · rw [y1, e]
  · omega
theorem SHA.have_ (h : SHA v a E) (h0 : 0 ≤ l) (hl : l < v 36) (hn : 0 ≤ a 34 l.toNat) : ∃ xs, rwe E l = some (some xs) ∧ a 34 l.toNat = ((xs.length : Nat) : Int) ∧ ∀ j : Nat, j < xs.length → a 35 (200 * l.toNat + j) = gd0 xs j := by
  obtain ⟨y, y1, y2⟩ := h.on h0 hl
  rcases y2 with ⟨_, e⟩ | ⟨xs, e1, e2, e3⟩
  · omega
  · exact ⟨xs, by rw [y1, e1], e2, fun j hj => e3 j _ (gd0_lt hj)⟩
theorem LOSX.uni (h : LOSX E l f1 E1) (h2 : LOSX E l f2 E2) : f1 = f2 ∧ E1 = E2 := by
  rcases h with ⟨⟨x, e1⟩, e2, e3⟩ | ⟨e1, e2, e3⟩ <;> rcases h2 with ⟨⟨y, d1⟩, d2, d3⟩ | ⟨d1, d2, d3⟩
  · exact ⟨e3.trans d3.symm, e2.trans d2.symm⟩
  · rw [e1] at d1
    cases d1
  · rw [e1] at d1
    cases d1
  · exact ⟨e3.trans d3.symm, e2.trans d2.symm⟩
theorem CUTX.uni (h : CUTX E l n f1 E1) (h2 : CUTX E l n f2 E2) : f1 = f2 ∧ E1 = E2 := by
  rcases h with ⟨e0, xs, e1, e2, e3⟩ | ⟨e1, e2, e3⟩ <;> rcases h2 with ⟨d0, ys, d1, d2, d3⟩ | ⟨d1, d2, d3⟩
  · rw [e1] at d1
    cases d1
    exact ⟨e3.trans d3.symm, e2.trans d2.symm⟩
  · exact absurd ⟨e0, xs, e1⟩ d1
  · exact absurd ⟨d0, ys, d1⟩ e1
  · exact ⟨e3.trans d3.symm, e2.trans d2.symm⟩
theorem CPRX.uni (h : CPRX E q w u x n f1 E1) (h2 : CPRX E q w u x n f2 E2) : f1 = f2 ∧ E1 = E2 := by
  rcases h with ⟨xs, ys, e1, e2, e3⟩ | ⟨e1, e2, e3⟩ <;> rcases h2 with ⟨zs, us, d1, d2, d3⟩ | ⟨d1, d2, d3⟩
  · have i1 := e1.1.symm.trans d1.1
    have i2 := e1.2.1.symm.trans d1.2.1
    cases i1
    cases i2
    exact ⟨e3.trans d3.symm, e2.trans d2.symm⟩
  · exact absurd ⟨xs, ys, e1⟩ d1
  · exact absurd ⟨zs, us, d1⟩ e1
  · exact ⟨e3.trans d3.symm, e2.trans d2.symm⟩
theorem cst.uni (h : cst E q u E1) (h2 : cst E q u E2) : E1 = E2 := by
  obtain ⟨xs, y, e1, e2, e3⟩ := h
  obtain ⟨ys, z, d1, d2, d3⟩ := h2
  rw [e1] at d1
  cases d1
  rw [e3, d3]
theorem cpn.uni : ∀ (k : Nat) (E1 E2 : List (Option (List Int))), cpn E q u k E1 → cpn E q u k E2 → E1 = E2 := by
  intro k
  induction k with
  | zero => intro E1 E2 h h2; exact h.trans h2.symm
  | succ k ih =>
    intro E1 E2 h h2
    obtain ⟨A, a1, a2⟩ := h
    obtain ⟨B, b1, b2⟩ := h2
    have e := ih A B a1 b1
    subst e
    exact cst.uni a2 b2
theorem cpn.less {m : Nat} (hm : k < m) : ∀ E1, cpn E q u m E1 → ∃ E2 E3, cpn E q u k E2 ∧ cst E2 (q + ((k : Nat) : Int)) (u + ((k : Nat) : Int)) E3 := by
  induction m with
  | zero => omega
  | succ m ih =>
    intro E1 h
    obtain ⟨A, a1, a2⟩ := h
    by_cases c0 : k = m
    · subst c0
      exact ⟨A, E1, a1, a2⟩
    · exact ih (by omega) A a1
theorem cpn.stop {m : Nat} (h1 : cpn E q u k E1) (n1 : ¬ ∃ E3, cst E1 (q + ((k : Nat) : Int)) (u + ((k : Nat) : Int)) E3) (h2 : cpn E q u m E2) (hm : k < m) : False := by
  obtain ⟨A, B, a1, a2⟩ := cpn.less hm E2 h2
  have e := cpn.uni k A E1 a1 h1
  subst e
  exact n1 ⟨B, a2⟩
theorem CPLX.uni (h : CPLX E q u n c f1 E1 c1) (h2 : CPLX E q u n c f2 E2 c2) : f1 = f2 ∧ E1 = E2 ∧ c1 = c2 := by
  rcases h with ⟨e0, e1, e2, e3⟩ | ⟨e0, ⟨e1, e2, e3⟩ | ⟨k, e1, e2, e3, e4, e5⟩⟩ <;> rcases h2 with ⟨d0, d1, d2, d3⟩ | ⟨d0, ⟨d1, d2, d3⟩ | ⟨m, d1, d2, d3, d4, d5⟩⟩
  · exact ⟨e2.trans d2.symm, e1.trans d1.symm, e3.trans d3.symm⟩
  · omega
  · omega
  · omega
  · exact ⟨e2.trans d2.symm, cpn.uni _ _ _ e1 d1, e3.trans d3.symm⟩
  · exact (cpn.stop d2 d3 e1 (by omega)).elim
  · omega
  · exact (cpn.stop e2 e3 d1 (by omega)).elim
  · by_cases c0 : k = m
    · subst c0
      exact ⟨e4.trans d4.symm, cpn.uni _ _ _ e2 d2, e5.trans d5.symm⟩
    · by_cases c3 : k < m
      · exact (cpn.stop e2 e3 d2 c3).elim
      · exact (cpn.stop d2 d3 e2 (by omega)).elim
end CONT
end
section
def LSA (v : Nat → Int) (a : Nat → Nat → Int) (v2 : Nat → Int) (a2 : Nat → Nat → Int) (l f : Int) : Prop := ∀ E, SHA v a E → ∃ E2, LOSX E l f E2 ∧ SHA v2 a2 E2
def CTA (v : Nat → Int) (a : Nat → Nat → Int) (v2 : Nat → Int) (a2 : Nat → Nat → Int) (l n f : Int) : Prop := ∀ E, SHA v a E → ∃ E2, CUTX E l n f E2 ∧ SHA v2 a2 E2
def CT1 (a : Nat → Nat → Int) (a1 : Nat → Nat → Int) (l k : Int) : Prop := a1 34 = a 34 ∧ ∀ j : Nat, a1 35 j = if 200 * l + a 34 l.toNat ≤ ((j : Nat) : Int) ∧ ((j : Nat) : Int) < 200 * l + k then 0 else a 35 j
def CRA (v : Nat → Int) (a : Nat → Nat → Int) (v2 : Nat → Int) (a2 : Nat → Nat → Int) (q w u x n f : Int) : Prop := ∀ E, SHA v a E → ∃ E2, CPRX E q w u x n f E2 ∧ SHA v2 a2 E2
def CR1 (a : Nat → Nat → Int) (a1 : Nat → Nat → Int) (p t n g k : Int) : Prop := a1 34 = a 34 ∧ ∀ j : Nat, a1 35 j = if (g = 0 ∧ t ≤ ((j : Nat) : Int) ∧ ((j : Nat) : Int) < t + k) ∨ (g ≠ 0 ∧ t + (n - k) ≤ ((j : Nat) : Int) ∧ ((j : Nat) : Int) < t + n) then a 35 (((j : Nat) : Int) - t + p).toNat else a 35 j
def KSA (v : Nat → Int) (a : Nat → Nat → Int) (v2 : Nat → Int) (a2 : Nat → Nat → Int) : Prop := v2 36 = v 36 ∧ a2 34 = a 34 ∧ a2 35 = a 35
section RSHT
variable {v v1 v2 : Nat → Int} {a a1 a2 a3 : Nat → Nat → Int} {E E2 : List (Option (List Int))} {l i n q u w x f k z p t g : Int} {m m2 : Nat} {y : Option (List Int)} {xs ys : List Int}
theorem SHA.cg (h : SHA v a E) (hk : KSA v a v2 a2) : SHA v2 a2 E := by
  obtain ⟨k1, k2, k3⟩ := hk
  refine ⟨k1.trans h.1, fun l x e => ?_⟩
  unfold RWA
  rw [k2, k3]
  exact h.2 l x e
theorem SHA.set (h : SHA v a E) (hb : ∀ j, a 34 j ≤ 200) (h0 : 0 ≤ l ∧ l < v 36) (h36 : v2 36 = v 36) (hr : RWA a2 l.toNat y) (ho : ∀ j : Nat, j ≠ l.toNat → a2 34 j = a 34 j ∧ ∀ o : Nat, o < 200 → a2 35 (200 * j + o) = a 35 (200 * j + o)) : SHA v2 a2 (E.set l.toNat y) := by
  obtain ⟨h1, h2⟩ := h
  refine ⟨by rw [List.length_set]; omega, fun j x e => ?_⟩
  rw [List.getElem?_set] at e
  by_cases c : l.toNat = j
  · rw [if_pos c] at e
    split at e
    · cases e
      rw [← c]
      exact hr
    · cases e
  · rw [if_neg c] at e
    obtain ⟨o1, o2⟩ := ho j (fun e2 => c e2.symm)
    rcases h2 j x e with ⟨d1, d2⟩ | ⟨xs, d1, d2, d3⟩
    · exact Or.inl ⟨d1, by omega⟩
    · refine Or.inr ⟨xs, d1, by omega, fun o z ez => ?_⟩
      refine hv2 (gl3 ez) (hb j) (fun lt b => ?_)
      rw [o2 o (by omega)]
      exact d3 o z ez
theorem SHA.fault (h : SHA v a E) (hl : ¬ (0 ≤ l ∧ l < v 36) ∨ ((0 ≤ l ∧ l < v 36) ∧ a 34 l.toNat < 0)) : ¬ ∃ xs, rwe E l = some (some xs) := fun e => by
  obtain ⟨xs, e⟩ := e
  rcases hl with c | ⟨c1, c2⟩
  · rw [h.off c] at e
    cases e
  · rw [h.lack c1.1 c1.2 c2] at e
    cases e
theorem LSA.bad (hl : ¬ (0 ≤ l ∧ l < v 36)) (hf : f = -1) (hk : KSA v a v2 a2) : LSA v a v2 a2 l f := fun E h => ⟨E, Or.inr ⟨h.off hl, rfl, hf⟩, h.cg hk⟩
theorem LSA.ok (hb : ∀ j, a 34 j ≤ 200) (h0 : 0 ≤ l ∧ l < v 36) (hf : f = 1) (h36 : v2 36 = v 36) (h34 : a2 34 = up2 a 34 l.toNat (-1) 34) (h35 : a2 35 = up2 a 34 l.toNat (-1) 35) : LSA v a v2 a2 l f := fun E h => by
  obtain ⟨y, y1, _⟩ := h.on h0.1 h0.2
  refine ⟨_, Or.inl ⟨⟨y, y1⟩, rfl, hf⟩, h.set hb h0 h36 (Or.inl ⟨rfl, ?_⟩) (fun j hj => ⟨?_, fun o _ => ?_⟩)⟩
  · rw [h34, up2_s]
    decide
  · rw [h34, up2_j hj]
  · rw [h35, up2_k (by decide)]
theorem CT1.zero (hk : k = a 34 l.toNat) : CT1 a a l k := ⟨rfl, fun j => by rw [if_neg (by omega)]⟩
theorem CT1.step (h : CT1 a a1 l k) (hk : a 34 l.toNat ≤ k ∧ 0 ≤ 200 * l + k) (hm : m = (200 * l + k).toNat) : CT1 a (up2 a1 35 m 0) l (k + 1) := by
  obtain ⟨h1, h2⟩ := h
  refine ⟨by rw [← h1]; funext j; exact up2_k (by decide), fun j => ?_⟩
  by_cases c : j = m
  · rw [c, up2_s, if_pos (by omega)]
  · rw [up2_j c, h2 j]
    by_cases c2 : 200 * l + a 34 l.toNat ≤ ((j : Nat) : Int) ∧ ((j : Nat) : Int) < 200 * l + k
    · rw [if_pos c2, if_pos (by omega)]
    · rw [if_neg c2, if_neg (by omega)]
theorem CTA.bad (hl : (n < 0 ∨ 200 < n) ∨ (¬ (0 ≤ l ∧ l < v 36) ∨ ((0 ≤ l ∧ l < v 36) ∧ a 34 l.toNat < 0))) (hf : f = -1) (hk : KSA v a v2 a2) : CTA v a v2 a2 l n f := fun E h => by
  refine ⟨E, Or.inr ⟨fun ⟨c, xs, e⟩ => ?_, rfl, hf⟩, h.cg hk⟩
  rcases hl with c2 | c2
  · omega
  · exact h.fault c2 ⟨xs, e⟩
theorem CTA.ok (hb : ∀ j, a 34 j ≤ 200) (h0 : 0 ≤ l ∧ l < v 36) (hn : 0 ≤ n ∧ n ≤ 200) (hp : 0 ≤ a 34 l.toNat) (hc : CT1 a a1 l k) (hk : (k = a 34 l.toNat ∨ k ≤ n) ∧ n ≤ k) (hf : f = n) (h36 : v2 36 = v 36) (h34 : a2 34 = up2 a1 34 l.toNat n 34) (h35 : a2 35 = up2 a1 34 l.toNat n 35) : CTA v a v2 a2 l n f := fun E h => by
  obtain ⟨xs, e1, e2, e3⟩ := h.have_ h0.1 h0.2 hp
  obtain ⟨c1, c2⟩ := hc
  have b := hb l.toNat
  refine ⟨_, Or.inl ⟨hn, xs, e1, rfl, hf⟩, h.set hb h0 h36 (Or.inr ⟨_, rfl, ?_, fun j y ey => ?_⟩) (fun j hj => ⟨?_, fun o ho => ?_⟩)⟩
  · rw [h34, up2_s, mpr_len]
    omega
  · obtain ⟨m1, m2⟩ := mpr_at ey
    rw [h35, up2_k (by decide), c2, m2]
    by_cases c : j < xs.length
    · rw [if_neg (by omega)]
      exact e3 j c
    · rw [if_pos (by omega), gd0_out (by omega)]
  · rw [h34, up2_j hj, c1]
  · rw [h35, up2_k (by decide), c2, if_neg (by omega)]
theorem CR1.zero (hk : k = 0) (h34 : a1 34 = a 34 ∧ a1 35 = a 35) : CR1 a a1 p t n g k := ⟨h34.1, fun j => by rw [if_neg (by omega), h34.2]⟩
theorem CR1.step (h : CR1 a a1 p t n g k) (hg : (g = 0 ∧ z = k) ∨ (g = 1 ∧ z = n - 1 - k)) (hk : 0 ≤ k ∧ k < n) (hp : 0 ≤ p ∧ 0 ≤ t) (ho : (g = 1 ∧ p < t) ∨ (g = 0 ∧ (t ≤ p ∨ t + n ≤ p ∨ p + n ≤ t))) (hm : m = (t + z).toNat) (hm2 : m2 = (p + z).toNat) : CR1 a (up2 a1 35 m (a1 35 m2)) p t n g (k + 1) := by
  obtain ⟨h1, h2⟩ := h
  refine ⟨by rw [← h1]; funext j; exact up2_k (by decide), fun j => ?_⟩
  by_cases c : j = m
  · rw [c, up2_s, if_pos (by omega), h2 m2, if_neg (by omega), show ((m : Nat) : Int) - t + p = ((m2 : Nat) : Int) by omega, Int.toNat_natCast]
  · rw [up2_j c, h2 j]
    by_cases c2 : (g = 0 ∧ t ≤ ((j : Nat) : Int) ∧ ((j : Nat) : Int) < t + k) ∨ (g ≠ 0 ∧ t + (n - k) ≤ ((j : Nat) : Int) ∧ ((j : Nat) : Int) < t + n)
    · rw [if_pos c2, if_pos (by omega)]
    · rw [if_neg c2, if_neg (by omega)]
theorem CRA.bad (hf : f = -1) (hk : KSA v a v2 a2) (hn : ¬ (((0 ≤ q ∧ q < v 36) ∧ 0 ≤ a 34 q.toNat) ∧ ((0 ≤ u ∧ u < v 36) ∧ 0 ≤ a 34 u.toNat) ∧ 0 ≤ n ∧ 0 ≤ w ∧ 0 ≤ x ∧ w + n ≤ a 34 q.toNat ∧ x + n ≤ a 34 u.toNat)) : CRA v a v2 a2 q w u x n f := fun E h => by
  refine ⟨E, Or.inr ⟨fun ⟨xs, ys, e1, e2, e3, e4, e5, e6, e7⟩ => hn ?_, rfl, hf⟩, h.cg hk⟩
  have k : ∀ l zs, rwe E l = some (some zs) → (0 ≤ l ∧ l < v 36) ∧ a 34 l.toNat = ((zs.length : Nat) : Int) := fun l zs e => by
    obtain ⟨r1, r2, r3⟩ := rwl_lt e
    refine ⟨⟨r1, by have q := h.1; omega⟩, ?_⟩
    rcases h.2 _ _ r3 with ⟨d, _⟩ | ⟨ws, d1, d2, _⟩
    · cases d
    · cases d1
      exact d2
  obtain ⟨a1, a2⟩ := k q xs e1
  obtain ⟨b1, b2⟩ := k u ys e2
  exact ⟨⟨a1, by omega⟩, ⟨b1, by omega⟩, e3, e4, e5, by omega, by omega⟩
theorem CRA.ok (hb : ∀ j, a 34 j ≤ 200) (hq : (0 ≤ q ∧ q < v 36) ∧ 0 ≤ a 34 q.toNat) (hu : (0 ≤ u ∧ u < v 36) ∧ 0 ≤ a 34 u.toNat) (hn : 0 ≤ n) (hw : 0 ≤ w) (hx : 0 ≤ x) (h1 : w + n ≤ a 34 q.toNat) (h2 : x + n ≤ a 34 u.toNat) (hc : CR1 a a1 (200 * q + w) (200 * u + x) n g k) (hk : k = n) (hf : f = n) (h36 : v2 36 = v 36) (h34 : a2 34 = a1 34) (h35 : a2 35 = a1 35) : CRA v a v2 a2 q w u x n f := fun E h => by
  obtain ⟨xs, e1, e2, e3⟩ := h.have_ hq.1.1 hq.1.2 hq.2
  obtain ⟨ys, d1, d2, d3⟩ := h.have_ hu.1.1 hu.1.2 hu.2
  obtain ⟨c1, c2⟩ := hc
  refine hv2 (hb u.toNat) (hb q.toNat) (fun b b3 => ?_)
  refine ⟨_, Or.inl ⟨xs, ys, ⟨e1, d1, hn, hw, hx, by omega, by omega⟩, rfl, hf⟩, h.set hb hu.1 h36 (Or.inr ⟨_, rfl, ?_, fun j y ey => ?_⟩) (fun j hj => ⟨?_, fun o ho => ?_⟩)⟩
  · unfold cpx
    rw [h34, c1, mpr_len]
    exact d2
  · unfold cpx at ey
    obtain ⟨m1, m2⟩ := mpr_at ey
    rw [h35, c2, m2]
    by_cases c : x.toNat ≤ j ∧ j < x.toNat + n.toNat
    · rw [if_pos (by omega), if_pos c, ← e3 _ (by omega)]
      congr 1
      omega
    · rw [if_neg (by omega), if_neg c]
      exact d3 j m1
  · rw [h34, c1]
  · rw [h35, c2, if_neg (by omega)]
end RSHT
set_option maxHeartbeats 4000000 in
set_option maxRecDepth 100000 in
theorem N2_lose {l : Launch} {G : GT} {h0 : Nat} {ad ln : Nat → Nat} {v : Nat → Int} {a : Nat → Nat → Int}  {l0 : Int} (hB : BX v a) (hl0 : -2147483648 ≤ l0 ∧ l0 ≤ 2147483647) : Mm l G yX12_lose cX12_lose 2 (some .int) 2 [.int (iI l0)] h0 ad ln v a 0 0 (fun r v2 a2 => ∃ f : Int, r = some (.int (iI f)) ∧ fr [0, 1] [34] v a v2 a2 ∧ BX v2 a2 ∧ (LSA v a v2 a2 l0 f)) := by
  refine Mm.mk (by decide) (Nat.le_of_ble_eq_true rfl) ?_
  intro p e s m args below meth c A C
  have fp0 : fr [0, 1] [34] v a v a := fr.refl
  refine m_iload_n (j := 1) C dX12_lose_0 rfl ?_
  refine m_iconst C dX12_lose_1 ?_
  refine m_aload_n (j := 0) C dX12_lose_2 rfl ?_
  have rv1 : 0 ≤ v 36 ∧ v 36 ≤ 200 := hB.1 36
  refine m_get (k := 36) C dX12_lose_3 w6_95 (by decide) rfl ?_
  refine m_iconst C dX12_lose_6 ?_
  refine m_isub C dX12_lose_7 ?_
  refine m_callS (As := [.int (iI l0), .int (iI 0), .int (iI ((v 36) - 1))]) (rest := []) C (fun L E => s_isIn (iI l0) (iI 0) (iI ((v 36) - 1))) dX12_lose_8 kS_X12_174 rfl rfl (Nat.le_of_ble_eq_true rfl) ⟨Nat.le_of_ble_eq_true rfl, Nat.le_of_ble_eq_true rfl⟩ ⟨Nat.le_of_ble_eq_true rfl, Nat.le_of_ble_eq_true rfl⟩ ?_
  rcases inn_c (x := l0) (lo := 0) (hi := (v 36) - 1) ⟨by omega, by omega⟩ ⟨by decide, by decide⟩ ⟨by omega, by omega⟩ with ⟨h1a, h1b, h1e⟩ | ⟨h1a, h1e⟩
  · refine m_st (st2 := [.int (iI 1)]) (by rw [h1e]) ?_
    refine m_if_ne (tgt := 20) C ⟨by decide, by decide⟩ dX12_lose_11 (by decide) (fun _ => ?_) (fun z => absurd z (by omega))
    refine m_aload_n (j := 0) C dX12_lose_20 rfl ?_
    refine m_geta (k := 34) C dX12_lose_21 w6_93 (by decide) rfl ?_
    refine m_iload_n (j := 1) C dX12_lose_24 rfl ?_
    refine m_iconst C dX12_lose_25 ?_
    refine m_ast (k := 34) C dX12_lose_26 rfl rfl (by decide) (by omega) (by show _ < ((_ : Nat) : Int); simp only [mlen]; omega) (by decide) ?_
    refine hv2 (show BX v (up2 a 34 l0.toNat (-1)) from hB.set (k := 34) (i := l0.toNat) (z := (-1)) ⟨by decide, by decide⟩) (fp0.set (k := 34) (i := l0.toNat) (z := (-1)) rfl) (fun bq1 fq1 => ?_)
    refine m_aload_n (j := 0) C dX12_lose_27 rfl ?_
    refine m_iconst C dX12_lose_28 ?_
    refine m_call (mc2 := 0) (ms2 := 0) (As := [.int (iI 1)]) (rest := []) C (B_fine (x := 1) bq1 (by show -2147483648 ≤ (1 : Int) ∧ (1 : Int) ≤ 2147483647; omega)) dX12_lose_29 kV_X12_158 rfl ck_13 rfl (Nat.le_of_ble_eq_true rfl) ⟨Nat.le_of_ble_eq_true rfl, Nat.le_of_ble_eq_true rfl⟩ ⟨Nat.le_of_ble_eq_true rfl, Nat.le_of_ble_eq_true rfl⟩ (fun rh2 vh2 ah2 h2 => ?_)
    obtain ⟨f1, rfl, fn1, bn1, ex1⟩ := h2
    refine hv2 (fq1.call fn1 rfl rfl) (show f1 = (1 : Int) from ex1) (fun fq2 gf1 => ?_)
    refine m_st (st2 := [.int (iI f1)]) rfl ?_
    exact m_iret C dX12_lose_32 rfl (Nat.le_of_ble_eq_true rfl) (Nat.le_of_ble_eq_true rfl) ⟨f1, rfl, fq2, bn1, (LSA.ok (fun j => (hB.2 34 j).2) ⟨by omega, by omega⟩ (by omega) (fn1.1 36 rfl) (fn1.2 34 rfl) (fn1.2 35 rfl))⟩
  · refine m_st (st2 := [.int (iI 0)]) (by rw [h1e]) ?_
    refine m_if_ne (tgt := 20) C ⟨by decide, by decide⟩ dX12_lose_11 (by decide) (fun z => absurd z (by omega)) (fun _ => ?_)
    refine m_aload_n (j := 0) C dX12_lose_14 rfl ?_
    refine m_iconst C dX12_lose_15 ?_
    refine m_call (mc2 := 0) (ms2 := 0) (As := [.int (iI 2)]) (rest := []) C (B_bad (x := 2) hB (by show -2147483648 ≤ (2 : Int) ∧ (2 : Int) ≤ 2147483647; omega)) dX12_lose_16 kV_X12_154 rfl ck_13 rfl (Nat.le_of_ble_eq_true rfl) ⟨Nat.le_of_ble_eq_true rfl, Nat.le_of_ble_eq_true rfl⟩ ⟨Nat.le_of_ble_eq_true rfl, Nat.le_of_ble_eq_true rfl⟩ (fun rh3 vh3 ah3 h3 => ?_)
    obtain ⟨f2, rfl, fn2, bn2, ex2⟩ := h3
    refine hv2 (fp0.call fn2 rfl rfl) (show f2 = -1 from ex2) (fun fq3 gf2 => ?_)
    refine m_st (st2 := [.int (iI f2)]) rfl ?_
    exact m_iret C dX12_lose_19 rfl (Nat.le_of_ble_eq_true rfl) (Nat.le_of_ble_eq_true rfl) ⟨f2, rfl, fq3, bn2, (LSA.bad (by omega) (by omega) ⟨fn2.1 36 rfl, fn2.2 34 rfl, fn2.2 35 rfl⟩)⟩
set_option maxHeartbeats 4000000 in
set_option maxRecDepth 100000 in
theorem N2_cut {l : Launch} {G : GT} {h0 : Nat} {ad ln : Nat → Nat} {v : Nat → Int} {a : Nat → Nat → Int}  {l0 n1 : Int} (hB : BX v a) (hl0 : -2147483648 ≤ l0 ∧ l0 ≤ 2147483647) (hn1 : -2147483648 ≤ n1 ∧ n1 ≤ 2147483647) : Mm l G yX12_cut cX12_cut 4 (some .int) 2 [.int (iI l0), .int (iI n1)] h0 ad ln v a 0 0 (fun r v2 a2 => ∃ f : Int, r = some (.int (iI f)) ∧ fr [0, 1] [34, 35] v a v2 a2 ∧ BX v2 a2 ∧ (CTA v a v2 a2 l0 n1 f)) := by
  refine Mm.mk (by decide) (Nat.le_of_ble_eq_true rfl) ?_
  intro p e s m args below meth c A C
  refine hv2 (show 0 ≤ v 36 ∧ v 36 ≤ 200 from hB.1 36) (show fr [0, 1] [34, 35] v a v a from fr.refl) (fun r36 fp0 => ?_)
  refine m_iload_n (j := 2) C dX12_cut_0 rfl ?_
  refine m_sipush (z := 200) C dX12_cut_1 (by decide) ?_
  refine m_icmp_le (tgt := 14) C ⟨by omega, by omega⟩ ⟨by decide, by decide⟩ dX12_cut_4 (by decide) (fun c1 => ?_) (fun c1 => ?_)
  · refine m_iload_n (j := 2) C dX12_cut_14 rfl ?_
    refine m_if_ge (tgt := 24) C ⟨by omega, by omega⟩ dX12_cut_15 (by decide) (fun c2 => ?_) (fun c2 => ?_)
    · refine m_aload_n (j := 0) C dX12_cut_24 rfl ?_
      refine m_iload_n (j := 1) C dX12_cut_25 rfl ?_
      have rv1 : 0 ≤ v 36 ∧ v 36 ≤ 200 := hB.1 36
      refine m_call (mc2 := 0) (ms2 := 0) (As := [.int (iI l0)]) (rest := []) C (M_lineFault (l0 := l0) hB.rg ⟨by omega, by omega⟩ ⟨hB.1 36, hB.2 34⟩) dX12_cut_26 kV_X12_294 rfl ck_13 rfl (Nat.le_of_ble_eq_true rfl) ⟨Nat.le_of_ble_eq_true rfl, Nat.le_of_ble_eq_true rfl⟩ ⟨Nat.le_of_ble_eq_true rfl, Nat.le_of_ble_eq_true rfl⟩ (fun rh1 vh1 ah1 h1 => ?_)
      obtain ⟨f1, rfl, hf1, rfl, rfl⟩ := h1
      refine hv2 (show (f1 = 2 ∧ ¬ (0 ≤ l0 ∧ l0 < (v 36))) ∨ (f1 = 1 ∧ 0 ≤ l0 ∧ l0 < (v 36) ∧ a 34 l0.toNat < 0) ∨ (f1 = 0 ∧ 0 ≤ l0 ∧ l0 < (v 36) ∧ 0 ≤ a 34 l0.toNat) from hf1) (show (-1) ≤ a 34 l0.toNat ∧ a 34 l0.toNat ≤ 200 from hB.2 34 (l0.toNat)) (fun gf1 ra1 => ?_)
      refine m_st (st2 := [.int (iI f1)]) rfl ?_
      refine m_if_le (tgt := 42) C ⟨by omega, by omega⟩ dX12_cut_29 (by decide) (fun c3 => ?_) (fun c3 => ?_)
      · refine m_aload_n (j := 0) C dX12_cut_42 rfl ?_
        refine m_geta (k := 34) C dX12_cut_43 w6_93 (by decide) rfl ?_
        refine m_iload_n (j := 1) C dX12_cut_46 rfl ?_
        refine m_ald (k := 34) C dX12_cut_47 rfl rfl (by decide) (by omega) (by show _ < ((_ : Nat) : Int); simp only [mlen]; omega) (by decide) ?_
        refine m_istore_n (lv2 := [(3, .int (iI (a 34 l0.toNat))), (0, .ref h0), (1, .int (iI l0)), (2, .int (iI n1))]) C dX12_cut_48 (by decide) rfl ?_
        have Lp1 : ∀ (nn : Nat) (k : Int) (vb1 : Nat → Int) (ab1 : Nat → Nat → Int), 201 - k < (nn : Int) → BX vb1 ab1 → fr [0, 1] [34, 35] v a vb1 ab1 → (0 ≤ k ∧ (k ≤ n1 ∨ k ≤ 200)) → ((k = a 34 l0.toNat ∨ k ≤ n1) ∧ a 34 l0.toNat ≤ k) → (CT1 a ab1 l0 k) → mw p l e (rmq 2 0 0) s m args below meth c G A 4 (MQ below (Qm G A (fun rq Lq Eq => ∃ (vq : Nat → Int) (aq : Nat → Nat → Int), mI G h0 ad ln vq aq Lq Eq ∧ (fun r v2 a2 => ∃ f : Int, r = some (.int (iI f)) ∧ fr [0, 1] [34, 35] v a v2 a2 ∧ BX v2 a2 ∧ (CTA v a v2 a2 l0 n1 f)) rq vq aq)) args s 0 0 A) h0 ad ln vb1 ab1 0 0 49 [(3, .int (iI k)), (0, .ref h0), (1, .int (iI l0)), (2, .int (iI n1))] [] := by
          intro nn
          induction nn with
          | zero =>
            intro k vb1 ab1 hm bxb1 fpb1 hk hk2 hC
            exact absurd hm (by omega)
          | succ nn ih1 =>
            intro k vb1 ab1 hm bxb1 fpb1 hk hk2 hC
            refine m_iload_n (j := 0) C dX12_cut_49 rfl ?_
            refine m_iload_n (j := 3) C dX12_cut_50 rfl ?_
            refine m_icmp_ge (tgt := 73) C ⟨by omega, by omega⟩ ⟨by omega, by omega⟩ dX12_cut_51 (by decide) (fun c4 => ?_) (fun c4 => ?_)
            · refine m_aload_n (j := 1) C dX12_cut_73 rfl ?_
              refine m_geta (k := 34) C dX12_cut_74 w6_93 (by decide) rfl ?_
              refine m_iload_n (j := 2) C dX12_cut_77 rfl ?_
              refine m_iload_n (j := 3) C dX12_cut_78 rfl ?_
              refine m_ast (k := 34) C dX12_cut_79 rfl rfl (by decide) (by omega) (by show _ < ((_ : Nat) : Int); simp only [mlen]; omega) (by decide) ?_
              refine hv2 (show BX vb1 (up2 ab1 34 l0.toNat n1) from bxb1.set (k := 34) (i := l0.toNat) (z := n1) (show (-1) ≤ n1 ∧ n1 ≤ 200 by omega)) (fpb1.set (k := 34) (i := l0.toNat) (z := n1) rfl) (fun bq1 fq1 => ?_)
              refine m_aload_n (j := 1) C dX12_cut_80 rfl ?_
              refine m_iload_n (j := 3) C dX12_cut_81 rfl ?_
              refine m_call (mc2 := 0) (ms2 := 0) (As := [.int (iI n1)]) (rest := []) C (B_fine (x := n1) bq1 (by show -2147483648 ≤ n1 ∧ n1 ≤ 2147483647; omega)) dX12_cut_82 kV_X12_158 rfl ck_13 rfl (Nat.le_of_ble_eq_true rfl) ⟨Nat.le_of_ble_eq_true rfl, Nat.le_of_ble_eq_true rfl⟩ ⟨Nat.le_of_ble_eq_true rfl, Nat.le_of_ble_eq_true rfl⟩ (fun rh2 vh2 ah2 h2 => ?_)
              obtain ⟨f2, rfl, fn1, bn1, ex1⟩ := h2
              refine hv2 (fq1.call fn1 rfl rfl) (show f2 = n1 from ex1) (fun fq2 gf2 => ?_)
              refine m_st (st2 := [.int (iI f2)]) rfl ?_
              exact m_iret C dX12_cut_85 rfl (Nat.le_of_ble_eq_true rfl) (Nat.le_of_ble_eq_true rfl) ⟨f2, rfl, fq2, bn1, (CTA.ok (fun j => (hB.2 34 j).2) ⟨by omega, by omega⟩ ⟨by omega, by omega⟩ (by omega) hC (by omega) (by omega) (fq2.1 36 rfl) (fn1.2 34 rfl) (fn1.2 35 rfl))⟩
            · refine m_aload_n (j := 1) C dX12_cut_54 rfl ?_
              refine m_geta (k := 35) C dX12_cut_55 w6_94 (by decide) rfl ?_
              refine m_sipush (z := 200) C dX12_cut_58 (by decide) ?_
              refine m_iload_n (j := 2) C dX12_cut_61 rfl ?_
              refine m_imul C dX12_cut_62 ?_
              refine m_iload_n (j := 0) C dX12_cut_63 rfl ?_
              refine m_iadd C dX12_cut_64 ?_
              refine m_iconst C dX12_cut_65 ?_
              refine m_ast (k := 35) C dX12_cut_66 rfl rfl (by decide) (by omega) (by show _ < ((_ : Nat) : Int); simp only [mlen]; omega) (by decide) ?_
              refine hv2 (show BX vb1 (up2 ab1 35 ((200 * l0) + k).toNat 0) from bxb1.set (k := 35) (i := ((200 * l0) + k).toNat) (z := 0) ⟨by decide, by decide⟩) (fpb1.set (k := 35) (i := ((200 * l0) + k).toNat) (z := 0) rfl) (fun bq2 fq3 => ?_)
              refine m_iinc (z := k) (j := 0) (lv2 := [(3, .int (iI (k + 1))), (0, .ref h0), (1, .int (iI l0)), (2, .int (iI n1))]) C dX12_cut_67 rfl (by decide) rfl ?_
              refine m_goto (tgt := 49) C dX12_cut_70 (by decide) ?_
              refine m_lv (lv2 := [(3, .int (iI (k + 1))), (0, .ref h0), (1, .int (iI l0)), (2, .int (iI n1))]) [0, 1, 2, 3] rfl ?_
              exact ih1  (k + 1) _ _ (by omega) bq2 fq3 (by omega) (by omega) (CT1.step hC ⟨by omega, by omega⟩ rfl)
        refine m_lv (lv2 := [(3, .int (iI (a 34 l0.toNat))), (0, .ref h0), (1, .int (iI l0)), (2, .int (iI n1))]) [0, 1, 2, 3] rfl ?_
        exact Lp1 202 (a 34 l0.toNat) _ _ (by omega) hB fp0 (by omega) (by omega) (CT1.zero rfl)
      · refine m_aload_n (j := 0) C dX12_cut_32 rfl ?_
        refine m_aload_n (j := 0) C dX12_cut_33 rfl ?_
        refine m_iload_n (j := 1) C dX12_cut_34 rfl ?_
        refine m_call (mc2 := 0) (ms2 := 0) (As := [.int (iI l0)]) (rest := [.ref h0]) C (M_lineFault (l0 := l0) hB.rg ⟨by omega, by omega⟩ ⟨hB.1 36, hB.2 34⟩) dX12_cut_35 kV_X12_294 rfl ck_13 rfl (Nat.le_of_ble_eq_true rfl) ⟨Nat.le_of_ble_eq_true rfl, Nat.le_of_ble_eq_true rfl⟩ ⟨Nat.le_of_ble_eq_true rfl, Nat.le_of_ble_eq_true rfl⟩ (fun rh3 vh3 ah3 h3 => ?_)
        obtain ⟨f3, rfl, hf3, rfl, rfl⟩ := h3
        have gf3 : (f3 = 2 ∧ ¬ (0 ≤ l0 ∧ l0 < (v 36))) ∨ (f3 = 1 ∧ 0 ≤ l0 ∧ l0 < (v 36) ∧ a 34 l0.toNat < 0) ∨ (f3 = 0 ∧ 0 ≤ l0 ∧ l0 < (v 36) ∧ 0 ≤ a 34 l0.toNat) := hf3
        refine m_st (st2 := [.int (iI f3), .ref h0]) rfl ?_
        refine m_call (mc2 := 0) (ms2 := 0) (As := [.int (iI f3)]) (rest := []) C (B_bad (x := f3) hB (by show -2147483648 ≤ f3 ∧ f3 ≤ 2147483647; omega)) dX12_cut_38 kV_X12_154 rfl ck_13 rfl (Nat.le_of_ble_eq_true rfl) ⟨Nat.le_of_ble_eq_true rfl, Nat.le_of_ble_eq_true rfl⟩ ⟨Nat.le_of_ble_eq_true rfl, Nat.le_of_ble_eq_true rfl⟩ (fun rh4 vh4 ah4 h4 => ?_)
        obtain ⟨f4, rfl, fn2, bn2, ex2⟩ := h4
        refine hv2 (fp0.call fn2 rfl rfl) (show f4 = -1 from ex2) (fun fq4 gf4 => ?_)
        refine m_st (st2 := [.int (iI f4)]) rfl ?_
        exact m_iret C dX12_cut_41 rfl (Nat.le_of_ble_eq_true rfl) (Nat.le_of_ble_eq_true rfl) ⟨f4, rfl, fq4, bn2, (CTA.bad (by omega) (by omega) ⟨fn2.1 36 rfl, fn2.2 34 rfl, fn2.2 35 rfl⟩)⟩
    · refine m_aload_n (j := 0) C dX12_cut_18 rfl ?_
      refine m_iconst C dX12_cut_19 ?_
      refine m_call (mc2 := 0) (ms2 := 0) (As := [.int (iI 5)]) (rest := []) C (B_bad (x := 5) hB (by show -2147483648 ≤ (5 : Int) ∧ (5 : Int) ≤ 2147483647; omega)) dX12_cut_20 kV_X12_154 rfl ck_13 rfl (Nat.le_of_ble_eq_true rfl) ⟨Nat.le_of_ble_eq_true rfl, Nat.le_of_ble_eq_true rfl⟩ ⟨Nat.le_of_ble_eq_true rfl, Nat.le_of_ble_eq_true rfl⟩ (fun rh5 vh5 ah5 h5 => ?_)
      obtain ⟨f5, rfl, fn3, bn3, ex3⟩ := h5
      refine hv2 (fp0.call fn3 rfl rfl) (show f5 = -1 from ex3) (fun fq5 gf5 => ?_)
      refine m_st (st2 := [.int (iI f5)]) rfl ?_
      exact m_iret C dX12_cut_23 rfl (Nat.le_of_ble_eq_true rfl) (Nat.le_of_ble_eq_true rfl) ⟨f5, rfl, fq5, bn3, (CTA.bad (by omega) (by omega) ⟨fn3.1 36 rfl, fn3.2 34 rfl, fn3.2 35 rfl⟩)⟩
  · refine m_aload_n (j := 0) C dX12_cut_7 rfl ?_
    refine m_bipush (z := 6) C dX12_cut_8 (by decide) ?_
    refine m_call (mc2 := 0) (ms2 := 0) (As := [.int (iI 6)]) (rest := []) C (B_bad (x := 6) hB (by show -2147483648 ≤ (6 : Int) ∧ (6 : Int) ≤ 2147483647; omega)) dX12_cut_10 kV_X12_154 rfl ck_13 rfl (Nat.le_of_ble_eq_true rfl) ⟨Nat.le_of_ble_eq_true rfl, Nat.le_of_ble_eq_true rfl⟩ ⟨Nat.le_of_ble_eq_true rfl, Nat.le_of_ble_eq_true rfl⟩ (fun rh6 vh6 ah6 h6 => ?_)
    obtain ⟨f6, rfl, fn4, bn4, ex4⟩ := h6
    refine hv2 (fp0.call fn4 rfl rfl) (show f6 = -1 from ex4) (fun fq6 gf6 => ?_)
    refine m_st (st2 := [.int (iI f6)]) rfl ?_
    exact m_iret C dX12_cut_13 rfl (Nat.le_of_ble_eq_true rfl) (Nat.le_of_ble_eq_true rfl) ⟨f6, rfl, fq6, bn4, (CTA.bad (by omega) (by omega) ⟨fn4.1 36 rfl, fn4.2 34 rfl, fn4.2 35 rfl⟩)⟩
set_option maxHeartbeats 4000000 in
set_option maxRecDepth 100000 in
theorem N2_copyRow {l : Launch} {G : GT} {h0 : Nat} {ad ln : Nat → Nat} {v : Nat → Int} {a : Nat → Nat → Int}  {q w1 u x n1 : Int} (hB : BX v a) (hq : -2147483648 ≤ q ∧ q ≤ 2147483647) (hw1 : -2147483648 ≤ w1 ∧ w1 ≤ 2147483647) (hu : -2147483648 ≤ u ∧ u ≤ 2147483647) (hx : -2147483648 ≤ x ∧ x ≤ 2147483647) (hn1 : -2147483648 ≤ n1 ∧ n1 ≤ 2147483647) : Mm l G yX12_copyRow cX12_copyRow 11 (some .int) 1 [.int (iI q), .int (iI w1), .int (iI u), .int (iI x), .int (iI n1)] h0 ad ln v a 0 0 (fun r v2 a2 => ∃ f : Int, r = some (.int (iI f)) ∧ fr [0, 1] [35] v a v2 a2 ∧ BX v2 a2 ∧ (CRA v a v2 a2 q w1 u x n1 f)) := by
  refine Mm.mk (by decide) (Nat.le_of_ble_eq_true rfl) ?_
  intro p e s m args below meth c A C
  refine hv2 (show 0 ≤ v 36 ∧ v 36 ≤ 200 from hB.1 36) (show fr [0, 1] [35] v a v a from fr.refl) (fun r36 fp0 => ?_)
  refine m_iload_n (j := 1) C dX12_copyRow_0 rfl ?_
  refine m_iconst C dX12_copyRow_1 ?_
  refine m_aload_n (j := 0) C dX12_copyRow_2 rfl ?_
  have rv1 : 0 ≤ v 36 ∧ v 36 ≤ 200 := hB.1 36
  refine m_get (k := 36) C dX12_copyRow_3 w6_95 (by decide) rfl ?_
  refine m_iconst C dX12_copyRow_6 ?_
  refine m_isub C dX12_copyRow_7 ?_
  refine m_callS (As := [.int (iI q), .int (iI 0), .int (iI ((v 36) - 1))]) (rest := []) C (fun L E => s_isIn (iI q) (iI 0) (iI ((v 36) - 1))) dX12_copyRow_8 kS_X12_174 rfl rfl (Nat.le_of_ble_eq_true rfl) ⟨Nat.le_of_ble_eq_true rfl, Nat.le_of_ble_eq_true rfl⟩ ⟨Nat.le_of_ble_eq_true rfl, Nat.le_of_ble_eq_true rfl⟩ ?_
  rcases inn_c (x := q) (lo := 0) (hi := (v 36) - 1) ⟨by omega, by omega⟩ ⟨by decide, by decide⟩ ⟨by omega, by omega⟩ with ⟨h1a, h1b, h1e⟩ | ⟨h1a, h1e⟩
  · refine m_st (st2 := [.int (iI 1)]) (by rw [h1e]) ?_
    refine m_if_eq (tgt := 28) C ⟨by decide, by decide⟩ dX12_copyRow_11 (by decide) (fun z => absurd z (by omega)) (fun _ => ?_)
    refine m_iload_n (j := 3) C dX12_copyRow_14 rfl ?_
    refine m_iconst C dX12_copyRow_15 ?_
    refine m_aload_n (j := 0) C dX12_copyRow_16 rfl ?_
    refine m_get (k := 36) C dX12_copyRow_17 w6_95 (by decide) rfl ?_
    refine m_iconst C dX12_copyRow_20 ?_
    refine m_isub C dX12_copyRow_21 ?_
    refine m_callS (As := [.int (iI u), .int (iI 0), .int (iI ((v 36) - 1))]) (rest := []) C (fun L E => s_isIn (iI u) (iI 0) (iI ((v 36) - 1))) dX12_copyRow_22 kS_X12_174 rfl rfl (Nat.le_of_ble_eq_true rfl) ⟨Nat.le_of_ble_eq_true rfl, Nat.le_of_ble_eq_true rfl⟩ ⟨Nat.le_of_ble_eq_true rfl, Nat.le_of_ble_eq_true rfl⟩ ?_
    rcases inn_c (x := u) (lo := 0) (hi := (v 36) - 1) ⟨by omega, by omega⟩ ⟨by decide, by decide⟩ ⟨by omega, by omega⟩ with ⟨h2a, h2b, h2e⟩ | ⟨h2a, h2e⟩
    · refine m_st (st2 := [.int (iI 1)]) (by rw [h2e]) ?_
      refine m_if_ne (tgt := 34) C ⟨by decide, by decide⟩ dX12_copyRow_25 (by decide) (fun _ => ?_) (fun z => absurd z (by omega))
      refine m_aload_n (j := 0) C dX12_copyRow_34 rfl ?_
      refine m_geta (k := 34) C dX12_copyRow_35 w6_93 (by decide) rfl ?_
      refine m_iload_n (j := 1) C dX12_copyRow_38 rfl ?_
      refine m_ald (k := 34) C dX12_copyRow_39 rfl rfl (by decide) (by omega) (by show _ < ((_ : Nat) : Int); simp only [mlen]; omega) (by decide) ?_
      have ra1 : (-1) ≤ a 34 q.toNat ∧ a 34 q.toNat ≤ 200 := hB.2 34 (q.toNat)
      refine m_if_lt (tgt := 52) C (r32_c (lo := (-1)) (hi := 200) ra1.1 ra1.2 (by decide) (by decide)) dX12_copyRow_40 (by decide) (fun c1 => ?_) (fun c1 => ?_)
      · refine m_aload_n (j := 0) C dX12_copyRow_52 rfl ?_
        refine m_iconst C dX12_copyRow_53 ?_
        refine m_call (mc2 := 0) (ms2 := 0) (As := [.int (iI 1)]) (rest := []) C (B_bad (x := 1) hB (by show -2147483648 ≤ (1 : Int) ∧ (1 : Int) ≤ 2147483647; omega)) dX12_copyRow_54 kV_X12_154 rfl ck_13 rfl (Nat.le_of_ble_eq_true rfl) ⟨Nat.le_of_ble_eq_true rfl, Nat.le_of_ble_eq_true rfl⟩ ⟨Nat.le_of_ble_eq_true rfl, Nat.le_of_ble_eq_true rfl⟩ (fun rh3 vh3 ah3 h3 => ?_)
        obtain ⟨f1, rfl, fn1, bn1, ex1⟩ := h3
        refine hv2 (fp0.call fn1 rfl rfl) (show f1 = -1 from ex1) (fun fq1 gf1 => ?_)
        refine m_st (st2 := [.int (iI f1)]) rfl ?_
        exact m_iret C dX12_copyRow_57 rfl (Nat.le_of_ble_eq_true rfl) (Nat.le_of_ble_eq_true rfl) ⟨f1, rfl, fq1, bn1, (CRA.bad (by omega) ⟨fn1.1 36 rfl, fn1.2 34 rfl, fn1.2 35 rfl⟩ (by omega))⟩
      · refine m_aload_n (j := 0) C dX12_copyRow_43 rfl ?_
        refine m_geta (k := 34) C dX12_copyRow_44 w6_93 (by decide) rfl ?_
        refine m_iload_n (j := 3) C dX12_copyRow_47 rfl ?_
        refine m_ald (k := 34) C dX12_copyRow_48 rfl rfl (by decide) (by omega) (by show _ < ((_ : Nat) : Int); simp only [mlen]; omega) (by decide) ?_
        have ra2 : (-1) ≤ a 34 u.toNat ∧ a 34 u.toNat ≤ 200 := hB.2 34 (u.toNat)
        refine m_if_ge (tgt := 58) C (r32_c (lo := (-1)) (hi := 200) ra2.1 ra2.2 (by decide) (by decide)) dX12_copyRow_49 (by decide) (fun c2 => ?_) (fun c2 => ?_)
        · refine m_iload (j := 5) C dX12_copyRow_58 rfl ?_
          refine m_if_lt (tgt := 99) C ⟨by omega, by omega⟩ dX12_copyRow_60 (by decide) (fun c3 => ?_) (fun c3 => ?_)
          · refine m_aload_n (j := 0) C dX12_copyRow_99 rfl ?_
            refine m_iconst C dX12_copyRow_100 ?_
            refine m_call (mc2 := 0) (ms2 := 0) (As := [.int (iI 2)]) (rest := []) C (B_bad (x := 2) hB (by show -2147483648 ≤ (2 : Int) ∧ (2 : Int) ≤ 2147483647; omega)) dX12_copyRow_101 kV_X12_154 rfl ck_13 rfl (Nat.le_of_ble_eq_true rfl) ⟨Nat.le_of_ble_eq_true rfl, Nat.le_of_ble_eq_true rfl⟩ ⟨Nat.le_of_ble_eq_true rfl, Nat.le_of_ble_eq_true rfl⟩ (fun rh4 vh4 ah4 h4 => ?_)
            obtain ⟨f2, rfl, fn2, bn2, ex2⟩ := h4
            refine hv2 (fp0.call fn2 rfl rfl) (show f2 = -1 from ex2) (fun fq2 gf2 => ?_)
            refine m_st (st2 := [.int (iI f2)]) rfl ?_
            exact m_iret C dX12_copyRow_104 rfl (Nat.le_of_ble_eq_true rfl) (Nat.le_of_ble_eq_true rfl) ⟨f2, rfl, fq2, bn2, (CRA.bad (by omega) ⟨fn2.1 36 rfl, fn2.2 34 rfl, fn2.2 35 rfl⟩ (by omega))⟩
          · refine m_iload_n (j := 2) C dX12_copyRow_63 rfl ?_
            refine m_if_lt (tgt := 99) C ⟨by omega, by omega⟩ dX12_copyRow_64 (by decide) (fun c4 => ?_) (fun c4 => ?_)
            · refine m_aload_n (j := 0) C dX12_copyRow_99 rfl ?_
              refine m_iconst C dX12_copyRow_100 ?_
              refine m_call (mc2 := 0) (ms2 := 0) (As := [.int (iI 2)]) (rest := []) C (B_bad (x := 2) hB (by show -2147483648 ≤ (2 : Int) ∧ (2 : Int) ≤ 2147483647; omega)) dX12_copyRow_101 kV_X12_154 rfl ck_13 rfl (Nat.le_of_ble_eq_true rfl) ⟨Nat.le_of_ble_eq_true rfl, Nat.le_of_ble_eq_true rfl⟩ ⟨Nat.le_of_ble_eq_true rfl, Nat.le_of_ble_eq_true rfl⟩ (fun rh5 vh5 ah5 h5 => ?_)
              obtain ⟨f3, rfl, fn3, bn3, ex3⟩ := h5
              refine hv2 (fp0.call fn3 rfl rfl) (show f3 = -1 from ex3) (fun fq3 gf3 => ?_)
              refine m_st (st2 := [.int (iI f3)]) rfl ?_
              exact m_iret C dX12_copyRow_104 rfl (Nat.le_of_ble_eq_true rfl) (Nat.le_of_ble_eq_true rfl) ⟨f3, rfl, fq3, bn3, (CRA.bad (by omega) ⟨fn3.1 36 rfl, fn3.2 34 rfl, fn3.2 35 rfl⟩ (by omega))⟩
            · refine m_iload (j := 4) C dX12_copyRow_67 rfl ?_
              refine m_if_lt (tgt := 99) C ⟨by omega, by omega⟩ dX12_copyRow_69 (by decide) (fun c5 => ?_) (fun c5 => ?_)
              · refine m_aload_n (j := 0) C dX12_copyRow_99 rfl ?_
                refine m_iconst C dX12_copyRow_100 ?_
                refine m_call (mc2 := 0) (ms2 := 0) (As := [.int (iI 2)]) (rest := []) C (B_bad (x := 2) hB (by show -2147483648 ≤ (2 : Int) ∧ (2 : Int) ≤ 2147483647; omega)) dX12_copyRow_101 kV_X12_154 rfl ck_13 rfl (Nat.le_of_ble_eq_true rfl) ⟨Nat.le_of_ble_eq_true rfl, Nat.le_of_ble_eq_true rfl⟩ ⟨Nat.le_of_ble_eq_true rfl, Nat.le_of_ble_eq_true rfl⟩ (fun rh6 vh6 ah6 h6 => ?_)
                obtain ⟨f4, rfl, fn4, bn4, ex4⟩ := h6
                refine hv2 (fp0.call fn4 rfl rfl) (show f4 = -1 from ex4) (fun fq4 gf4 => ?_)
                refine m_st (st2 := [.int (iI f4)]) rfl ?_
                exact m_iret C dX12_copyRow_104 rfl (Nat.le_of_ble_eq_true rfl) (Nat.le_of_ble_eq_true rfl) ⟨f4, rfl, fq4, bn4, (CRA.bad (by omega) ⟨fn4.1 36 rfl, fn4.2 34 rfl, fn4.2 35 rfl⟩ (by omega))⟩
              · refine m_iload (j := 5) C dX12_copyRow_72 rfl ?_
                refine m_aload_n (j := 0) C dX12_copyRow_74 rfl ?_
                refine m_geta (k := 34) C dX12_copyRow_75 w6_93 (by decide) rfl ?_
                refine m_iload_n (j := 1) C dX12_copyRow_78 rfl ?_
                refine m_ald (k := 34) C dX12_copyRow_79 rfl rfl (by decide) (by omega) (by show _ < ((_ : Nat) : Int); simp only [mlen]; omega) (by decide) ?_
                refine m_iload_n (j := 2) C dX12_copyRow_80 rfl ?_
                refine m_isub C dX12_copyRow_81 ?_
                refine m_icmp_gt (tgt := 99) C ⟨by omega, by omega⟩ ⟨by omega, by omega⟩ dX12_copyRow_82 (by decide) (fun c6 => ?_) (fun c6 => ?_)
                · refine m_aload_n (j := 0) C dX12_copyRow_99 rfl ?_
                  refine m_iconst C dX12_copyRow_100 ?_
                  refine m_call (mc2 := 0) (ms2 := 0) (As := [.int (iI 2)]) (rest := []) C (B_bad (x := 2) hB (by show -2147483648 ≤ (2 : Int) ∧ (2 : Int) ≤ 2147483647; omega)) dX12_copyRow_101 kV_X12_154 rfl ck_13 rfl (Nat.le_of_ble_eq_true rfl) ⟨Nat.le_of_ble_eq_true rfl, Nat.le_of_ble_eq_true rfl⟩ ⟨Nat.le_of_ble_eq_true rfl, Nat.le_of_ble_eq_true rfl⟩ (fun rh7 vh7 ah7 h7 => ?_)
                  obtain ⟨f5, rfl, fn5, bn5, ex5⟩ := h7
                  refine hv2 (fp0.call fn5 rfl rfl) (show f5 = -1 from ex5) (fun fq5 gf5 => ?_)
                  refine m_st (st2 := [.int (iI f5)]) rfl ?_
                  exact m_iret C dX12_copyRow_104 rfl (Nat.le_of_ble_eq_true rfl) (Nat.le_of_ble_eq_true rfl) ⟨f5, rfl, fq5, bn5, (CRA.bad (by omega) ⟨fn5.1 36 rfl, fn5.2 34 rfl, fn5.2 35 rfl⟩ (by omega))⟩
                · refine m_iload (j := 5) C dX12_copyRow_85 rfl ?_
                  refine m_aload_n (j := 0) C dX12_copyRow_87 rfl ?_
                  refine m_geta (k := 34) C dX12_copyRow_88 w6_93 (by decide) rfl ?_
                  refine m_iload_n (j := 3) C dX12_copyRow_91 rfl ?_
                  refine m_ald (k := 34) C dX12_copyRow_92 rfl rfl (by decide) (by omega) (by show _ < ((_ : Nat) : Int); simp only [mlen]; omega) (by decide) ?_
                  refine m_iload (j := 4) C dX12_copyRow_93 rfl ?_
                  refine m_isub C dX12_copyRow_95 ?_
                  refine m_icmp_le (tgt := 105) C ⟨by omega, by omega⟩ ⟨by omega, by omega⟩ dX12_copyRow_96 (by decide) (fun c7 => ?_) (fun c7 => ?_)
                  · refine m_sipush (z := 200) C dX12_copyRow_105 (by decide) ?_
                    refine m_iload_n (j := 1) C dX12_copyRow_108 rfl ?_
                    refine m_imul C dX12_copyRow_109 ?_
                    refine m_iload_n (j := 2) C dX12_copyRow_110 rfl ?_
                    refine m_iadd C dX12_copyRow_111 ?_
                    refine m_istore (lv2 := [(6, .int (iI ((200 * q) + w1))), (0, .ref h0), (1, .int (iI q)), (2, .int (iI w1)), (3, .int (iI u)), (4, .int (iI x)), (5, .int (iI n1))]) C dX12_copyRow_112 (by decide) rfl ?_
                    refine m_sipush (z := 200) C dX12_copyRow_114 (by decide) ?_
                    refine m_iload_n (j := 4) C dX12_copyRow_117 rfl ?_
                    refine m_imul C dX12_copyRow_118 ?_
                    refine m_iload (j := 5) C dX12_copyRow_119 rfl ?_
                    refine m_iadd C dX12_copyRow_121 ?_
                    refine m_istore (lv2 := [(7, .int (iI ((200 * u) + x))), (6, .int (iI ((200 * q) + w1))), (0, .ref h0), (1, .int (iI q)), (2, .int (iI w1)), (3, .int (iI u)), (4, .int (iI x)), (5, .int (iI n1))]) C dX12_copyRow_122 (by decide) rfl ?_
                    refine m_iload_n (j := 3) C dX12_copyRow_124 rfl ?_
                    refine m_iload_n (j := 5) C dX12_copyRow_125 rfl ?_
                    have J1 : ∀ (g : Int) (vb1 : Nat → Int) (ab1 : Nat → Nat → Int), BX vb1 ab1 → fr [0, 1] [35] v a vb1 ab1 → (g = 0 ∨ g = 1) → ((g = 1 ∧ q = u ∧ w1 < x) ∨ (g = 0 ∧ (q ≠ u ∨ x ≤ w1))) → (ab1 34 = a 34 ∧ ab1 35 = a 35) → mw p l e (rmq 1 0 0) s m args below meth c G A 11 (MQ below (Qm G A (fun rq Lq Eq => ∃ (vq : Nat → Int) (aq : Nat → Nat → Int), mI G h0 ad ln vq aq Lq Eq ∧ (fun r v2 a2 => ∃ f : Int, r = some (.int (iI f)) ∧ fr [0, 1] [35] v a v2 a2 ∧ BX v2 a2 ∧ (CRA v a v2 a2 q w1 u x n1 f)) rq vq aq)) args s 0 0 A) h0 ad ln vb1 ab1 0 0 140 [(7, .int (iI ((200 * u) + x))), (6, .int (iI ((200 * q) + w1))), (0, .ref h0), (1, .int (iI q)), (2, .int (iI w1)), (3, .int (iI u)), (4, .int (iI x)), (5, .int (iI n1))] [.int (iI g)] := by
                      intro g vb1 ab1 bxb1 fpb1 hg hg2 hKK
                      refine m_istore (lv2 := [(8, .int (iI g)), (7, .int (iI ((200 * u) + x))), (6, .int (iI ((200 * q) + w1))), (0, .ref h0), (1, .int (iI q)), (2, .int (iI w1)), (3, .int (iI u)), (4, .int (iI x)), (5, .int (iI n1))]) C dX12_copyRow_140 (by decide) rfl ?_
                      refine m_iconst C dX12_copyRow_142 ?_
                      refine m_istore (lv2 := [(9, .int (iI 0)), (8, .int (iI g)), (7, .int (iI ((200 * u) + x))), (6, .int (iI ((200 * q) + w1))), (0, .ref h0), (1, .int (iI q)), (2, .int (iI w1)), (3, .int (iI u)), (4, .int (iI x)), (5, .int (iI n1))]) C dX12_copyRow_143 (by decide) rfl ?_
                      have Lp1 : ∀ (nn : Nat) (i1 : Int) (vb2 : Nat → Int) (ab2 : Nat → Nat → Int), 201 - i1 < (nn : Int) → BX vb2 ab2 → fr [0, 1] [35] v a vb2 ab2 → (0 ≤ i1 ∧ i1 ≤ n1) → ((g = 1 ∧ q = u ∧ w1 < x) ∨ (g = 0 ∧ (q ≠ u ∨ x ≤ w1))) → (CR1 a ab2 (200 * q + w1) (200 * u + x) n1 g i1) → mw p l e (rmq 1 0 0) s m args below meth c G A 11 (MQ below (Qm G A (fun rq Lq Eq => ∃ (vq : Nat → Int) (aq : Nat → Nat → Int), mI G h0 ad ln vq aq Lq Eq ∧ (fun r v2 a2 => ∃ f : Int, r = some (.int (iI f)) ∧ fr [0, 1] [35] v a v2 a2 ∧ BX v2 a2 ∧ (CRA v a v2 a2 q w1 u x n1 f)) rq vq aq)) args s 0 0 A) h0 ad ln vb2 ab2 0 0 145 [(9, .int (iI i1)), (8, .int (iI g)), (7, .int (iI ((200 * u) + x))), (6, .int (iI ((200 * q) + w1))), (0, .ref h0), (1, .int (iI q)), (2, .int (iI w1)), (3, .int (iI u)), (4, .int (iI x)), (5, .int (iI n1))] [] := by
                        intro nn
                        induction nn with
                        | zero =>
                          intro i1 vb2 ab2 hm bxb2 fpb2 hi hg3 hC
                          exact absurd hm (by omega)
                        | succ nn ih1 =>
                          intro i1 vb2 ab2 hm bxb2 fpb2 hi hg3 hC
                          refine m_iload (j := 0) C dX12_copyRow_145 rfl ?_
                          refine m_iload (j := 9) C dX12_copyRow_147 rfl ?_
                          refine m_icmp_ge (tgt := 197) C ⟨by omega, by omega⟩ ⟨by omega, by omega⟩ dX12_copyRow_149 (by decide) (fun c8 => ?_) (fun c8 => ?_)
                          · refine m_aload_n (j := 4) C dX12_copyRow_197 rfl ?_
                            refine m_iload (j := 9) C dX12_copyRow_198 rfl ?_
                            refine m_call (mc2 := 0) (ms2 := 0) (As := [.int (iI n1)]) (rest := []) C (B_fine (x := n1) bxb2 (by show -2147483648 ≤ n1 ∧ n1 ≤ 2147483647; omega)) dX12_copyRow_200 kV_X12_158 rfl ck_13 rfl (Nat.le_of_ble_eq_true rfl) ⟨Nat.le_of_ble_eq_true rfl, Nat.le_of_ble_eq_true rfl⟩ ⟨Nat.le_of_ble_eq_true rfl, Nat.le_of_ble_eq_true rfl⟩ (fun rh8 vh8 ah8 h8 => ?_)
                            obtain ⟨f6, rfl, fn6, bn6, ex6⟩ := h8
                            refine hv2 (fpb2.call fn6 rfl rfl) (show f6 = n1 from ex6) (fun fq6 gf6 => ?_)
                            refine m_st (st2 := [.int (iI f6)]) rfl ?_
                            exact m_iret C dX12_copyRow_203 rfl (Nat.le_of_ble_eq_true rfl) (Nat.le_of_ble_eq_true rfl) ⟨f6, rfl, fq6, bn6, (CRA.ok (fun j => (hB.2 34 j).2) ⟨⟨by omega, by omega⟩, by omega⟩ ⟨⟨by omega, by omega⟩, by omega⟩ (by omega) (by omega) (by omega) (by omega) (by omega) hC (by omega) (by omega) (fq6.1 36 rfl) (fn6.2 34 rfl) (fn6.2 35 rfl))⟩
                          · refine m_iload (j := 1) C dX12_copyRow_152 rfl ?_
                            have J2 : ∀ (k : Int) (vb3 : Nat → Int) (ab3 : Nat → Nat → Int), BX vb3 ab3 → fr [0, 1] [35] v a vb3 ab3 → (0 ≤ k ∧ k < n1) → ((g = 0 ∧ k = i1) ∨ (g = 1 ∧ k = n1 - 1 - i1)) → (CR1 a ab3 (200 * q + w1) (200 * u + x) n1 g i1) → mw p l e (rmq 1 0 0) s m args below meth c G A 11 (MQ below (Qm G A (fun rq Lq Eq => ∃ (vq : Nat → Int) (aq : Nat → Nat → Int), mI G h0 ad ln vq aq Lq Eq ∧ (fun r v2 a2 => ∃ f : Int, r = some (.int (iI f)) ∧ fr [0, 1] [35] v a v2 a2 ∧ BX v2 a2 ∧ (CRA v a v2 a2 q w1 u x n1 f)) rq vq aq)) args s 0 0 A) h0 ad ln vb3 ab3 0 0 169 [(9, .int (iI i1)), (8, .int (iI g)), (7, .int (iI ((200 * u) + x))), (6, .int (iI ((200 * q) + w1))), (0, .ref h0), (1, .int (iI q)), (2, .int (iI w1)), (3, .int (iI u)), (4, .int (iI x)), (5, .int (iI n1))] [.int (iI k)] := by
                              intro k vb3 ab3 bxb3 fpb3 hk hkg hC2
                              refine m_istore (lv2 := [(10, .int (iI k)), (9, .int (iI i1)), (8, .int (iI g)), (7, .int (iI ((200 * u) + x))), (6, .int (iI ((200 * q) + w1))), (0, .ref h0), (1, .int (iI q)), (2, .int (iI w1)), (3, .int (iI u)), (4, .int (iI x)), (5, .int (iI n1))]) C dX12_copyRow_169 (by decide) rfl ?_
                              refine m_aload_n (j := 5) C dX12_copyRow_171 rfl ?_
                              refine m_geta (k := 35) C dX12_copyRow_172 w6_94 (by decide) rfl ?_
                              refine m_iload (j := 3) C dX12_copyRow_175 rfl ?_
                              refine m_iload (j := 0) C dX12_copyRow_177 rfl ?_
                              refine m_iadd C dX12_copyRow_179 ?_
                              refine m_aload_n (j := 5) C dX12_copyRow_180 rfl ?_
                              refine m_geta (k := 35) C dX12_copyRow_181 w6_94 (by decide) rfl ?_
                              refine m_iload (j := 4) C dX12_copyRow_184 rfl ?_
                              refine m_iload (j := 0) C dX12_copyRow_186 rfl ?_
                              refine m_iadd C dX12_copyRow_188 ?_
                              refine m_ald (k := 35) C dX12_copyRow_189 rfl rfl (by decide) (by omega) (by show _ < ((_ : Nat) : Int); simp only [mlen]; omega) (by decide) ?_
                              have ra3 : (-2147483648) ≤ ab3 35 (((200 * q) + w1) + k).toNat ∧ ab3 35 (((200 * q) + w1) + k).toNat ≤ 2147483647 := bxb3.2 35 ((((200 * q) + w1) + k).toNat)
                              refine m_ast (k := 35) C dX12_copyRow_190 rfl rfl (by decide) (by omega) (by show _ < ((_ : Nat) : Int); simp only [mlen]; omega) (by decide) ?_
                              refine hv2 (show BX vb3 (up2 ab3 35 (((200 * u) + x) + k).toNat (ab3 35 (((200 * q) + w1) + k).toNat)) from bxb3.set (k := 35) (i := (((200 * u) + x) + k).toNat) (z := ab3 35 (((200 * q) + w1) + k).toNat) (show (-2147483648) ≤ (ab3 35 (((200 * q) + w1) + k).toNat) ∧ (ab3 35 (((200 * q) + w1) + k).toNat) ≤ 2147483647 by omega)) (fpb3.set (k := 35) (i := (((200 * u) + x) + k).toNat) (z := ab3 35 (((200 * q) + w1) + k).toNat) rfl) (fun bq1 fq7 => ?_)
                              refine m_iinc (z := i1) (j := 1) (lv2 := [(9, .int (iI (i1 + 1))), (10, .int (iI k)), (8, .int (iI g)), (7, .int (iI ((200 * u) + x))), (6, .int (iI ((200 * q) + w1))), (0, .ref h0), (1, .int (iI q)), (2, .int (iI w1)), (3, .int (iI u)), (4, .int (iI x)), (5, .int (iI n1))]) C dX12_copyRow_191 rfl (by decide) rfl ?_
                              refine m_goto (tgt := 145) C dX12_copyRow_194 (by decide) ?_
                              refine m_lv (lv2 := [(9, .int (iI (i1 + 1))), (8, .int (iI g)), (7, .int (iI ((200 * u) + x))), (6, .int (iI ((200 * q) + w1))), (0, .ref h0), (1, .int (iI q)), (2, .int (iI w1)), (3, .int (iI u)), (4, .int (iI x)), (5, .int (iI n1))]) [0, 2, 3, 4, 5, 6, 7, 8, 9, 10] rfl ?_
                              exact ih1  (i1 + 1) _ _ (by omega) bq1 fq7 (by omega) (by omega) (CR1.step hC2 (by omega) ⟨by omega, by omega⟩ ⟨by omega, by omega⟩ (by omega) rfl rfl)
                            refine m_if_eq (tgt := 167) C (r32_01 hg) dX12_copyRow_154 (by decide) (fun c9 => ?_) (fun c9 => ?_)
                            · clear hg
                              replace hg2 := (hg2.resolve_left (fun q => absurd (q.1.symm.trans c9) (by decide)))
                              refine m_iload (j := 0) C dX12_copyRow_167 rfl ?_
                              refine m_lv (lv2 := [(9, .int (iI i1)), (8, .int (iI g)), (7, .int (iI ((200 * u) + x))), (6, .int (iI ((200 * q) + w1))), (0, .ref h0), (1, .int (iI q)), (2, .int (iI w1)), (3, .int (iI u)), (4, .int (iI x)), (5, .int (iI n1))]) [0, 1, 2, 3, 4, 5, 6, 7, 8, 9] rfl ?_
                              exact J2  i1 _ _  bxb2 fpb2 (by omega) (by omega) hC
                            · replace hg := (hg.resolve_left c9)
                              replace hg2 := (hg2.resolve_right (fun q => c9 q.1))
                              refine m_iload (j := 9) C dX12_copyRow_157 rfl ?_
                              refine m_iconst C dX12_copyRow_159 ?_
                              refine m_isub C dX12_copyRow_160 ?_
                              refine m_iload (j := 0) C dX12_copyRow_161 rfl ?_
                              refine m_isub C dX12_copyRow_163 ?_
                              refine m_goto (tgt := 169) C dX12_copyRow_164 (by decide) ?_
                              refine m_lv (lv2 := [(9, .int (iI i1)), (8, .int (iI g)), (7, .int (iI ((200 * u) + x))), (6, .int (iI ((200 * q) + w1))), (0, .ref h0), (1, .int (iI q)), (2, .int (iI w1)), (3, .int (iI u)), (4, .int (iI x)), (5, .int (iI n1))]) [0, 1, 2, 3, 4, 5, 6, 7, 8, 9] rfl ?_
                              exact J2  ((n1 - 1) - i1) _ _  bxb2 fpb2 (by omega) (by omega) hC
                      refine m_lv (lv2 := [(9, .int (iI 0)), (8, .int (iI g)), (7, .int (iI ((200 * u) + x))), (6, .int (iI ((200 * q) + w1))), (0, .ref h0), (1, .int (iI q)), (2, .int (iI w1)), (3, .int (iI u)), (4, .int (iI x)), (5, .int (iI n1))]) [0, 1, 2, 3, 4, 5, 6, 7, 8, 9] rfl ?_
                      exact Lp1 202 0 _ _ (by omega) bxb1 fpb1 (by omega) (by omega) (CR1.zero rfl hKK)
                    refine m_icmp_ne (tgt := 139) C ⟨by omega, by omega⟩ ⟨by omega, by omega⟩ dX12_copyRow_126 (by decide) (fun c10 => ?_) (fun c10 => ?_)
                    · refine m_iconst C dX12_copyRow_139 ?_
                      refine m_lv (lv2 := [(7, .int (iI ((200 * u) + x))), (6, .int (iI ((200 * q) + w1))), (0, .ref h0), (1, .int (iI q)), (2, .int (iI w1)), (3, .int (iI u)), (4, .int (iI x)), (5, .int (iI n1))]) [0, 1, 2, 3, 4, 5, 6, 7] rfl ?_
                      exact J1  0 _ _  hB fp0 (by omega) (by omega) ⟨rfl, rfl⟩
                    · refine m_iload_n (j := 4) C dX12_copyRow_129 rfl ?_
                      refine m_iload (j := 6) C dX12_copyRow_130 rfl ?_
                      refine m_icmp_ge (tgt := 139) C ⟨by omega, by omega⟩ ⟨by omega, by omega⟩ dX12_copyRow_132 (by decide) (fun c11 => ?_) (fun c11 => ?_)
                      · refine m_iconst C dX12_copyRow_139 ?_
                        refine m_lv (lv2 := [(7, .int (iI ((200 * u) + x))), (6, .int (iI ((200 * q) + w1))), (0, .ref h0), (1, .int (iI q)), (2, .int (iI w1)), (3, .int (iI u)), (4, .int (iI x)), (5, .int (iI n1))]) [0, 1, 2, 3, 4, 5, 6, 7] rfl ?_
                        exact J1  0 _ _  hB fp0 (by omega) (by omega) ⟨rfl, rfl⟩
                      · refine m_iconst C dX12_copyRow_135 ?_
                        refine m_goto (tgt := 140) C dX12_copyRow_136 (by decide) ?_
                        refine m_lv (lv2 := [(7, .int (iI ((200 * u) + x))), (6, .int (iI ((200 * q) + w1))), (0, .ref h0), (1, .int (iI q)), (2, .int (iI w1)), (3, .int (iI u)), (4, .int (iI x)), (5, .int (iI n1))]) [0, 1, 2, 3, 4, 5, 6, 7] rfl ?_
                        exact J1  1 _ _  hB fp0 (by omega) (by omega) ⟨rfl, rfl⟩
                  · refine m_aload_n (j := 0) C dX12_copyRow_99 rfl ?_
                    refine m_iconst C dX12_copyRow_100 ?_
                    refine m_call (mc2 := 0) (ms2 := 0) (As := [.int (iI 2)]) (rest := []) C (B_bad (x := 2) hB (by show -2147483648 ≤ (2 : Int) ∧ (2 : Int) ≤ 2147483647; omega)) dX12_copyRow_101 kV_X12_154 rfl ck_13 rfl (Nat.le_of_ble_eq_true rfl) ⟨Nat.le_of_ble_eq_true rfl, Nat.le_of_ble_eq_true rfl⟩ ⟨Nat.le_of_ble_eq_true rfl, Nat.le_of_ble_eq_true rfl⟩ (fun rh9 vh9 ah9 h9 => ?_)
                    obtain ⟨f7, rfl, fn7, bn7, ex7⟩ := h9
                    refine hv2 (fp0.call fn7 rfl rfl) (show f7 = -1 from ex7) (fun fq8 gf7 => ?_)
                    refine m_st (st2 := [.int (iI f7)]) rfl ?_
                    exact m_iret C dX12_copyRow_104 rfl (Nat.le_of_ble_eq_true rfl) (Nat.le_of_ble_eq_true rfl) ⟨f7, rfl, fq8, bn7, (CRA.bad (by omega) ⟨fn7.1 36 rfl, fn7.2 34 rfl, fn7.2 35 rfl⟩ (by omega))⟩
        · refine m_aload_n (j := 0) C dX12_copyRow_52 rfl ?_
          refine m_iconst C dX12_copyRow_53 ?_
          refine m_call (mc2 := 0) (ms2 := 0) (As := [.int (iI 1)]) (rest := []) C (B_bad (x := 1) hB (by show -2147483648 ≤ (1 : Int) ∧ (1 : Int) ≤ 2147483647; omega)) dX12_copyRow_54 kV_X12_154 rfl ck_13 rfl (Nat.le_of_ble_eq_true rfl) ⟨Nat.le_of_ble_eq_true rfl, Nat.le_of_ble_eq_true rfl⟩ ⟨Nat.le_of_ble_eq_true rfl, Nat.le_of_ble_eq_true rfl⟩ (fun rh10 vh10 ah10 h10 => ?_)
          obtain ⟨f8, rfl, fn8, bn8, ex8⟩ := h10
          refine hv2 (fp0.call fn8 rfl rfl) (show f8 = -1 from ex8) (fun fq9 gf8 => ?_)
          refine m_st (st2 := [.int (iI f8)]) rfl ?_
          exact m_iret C dX12_copyRow_57 rfl (Nat.le_of_ble_eq_true rfl) (Nat.le_of_ble_eq_true rfl) ⟨f8, rfl, fq9, bn8, (CRA.bad (by omega) ⟨fn8.1 36 rfl, fn8.2 34 rfl, fn8.2 35 rfl⟩ (by omega))⟩
    · refine m_st (st2 := [.int (iI 0)]) (by rw [h2e]) ?_
      refine m_if_ne (tgt := 34) C ⟨by decide, by decide⟩ dX12_copyRow_25 (by decide) (fun z => absurd z (by omega)) (fun _ => ?_)
      refine m_aload_n (j := 0) C dX12_copyRow_28 rfl ?_
      refine m_iconst C dX12_copyRow_29 ?_
      refine m_call (mc2 := 0) (ms2 := 0) (As := [.int (iI 2)]) (rest := []) C (B_bad (x := 2) hB (by show -2147483648 ≤ (2 : Int) ∧ (2 : Int) ≤ 2147483647; omega)) dX12_copyRow_30 kV_X12_154 rfl ck_13 rfl (Nat.le_of_ble_eq_true rfl) ⟨Nat.le_of_ble_eq_true rfl, Nat.le_of_ble_eq_true rfl⟩ ⟨Nat.le_of_ble_eq_true rfl, Nat.le_of_ble_eq_true rfl⟩ (fun rh11 vh11 ah11 h11 => ?_)
      obtain ⟨f9, rfl, fn9, bn9, ex9⟩ := h11
      refine hv2 (fp0.call fn9 rfl rfl) (show f9 = -1 from ex9) (fun fq10 gf9 => ?_)
      refine m_st (st2 := [.int (iI f9)]) rfl ?_
      exact m_iret C dX12_copyRow_33 rfl (Nat.le_of_ble_eq_true rfl) (Nat.le_of_ble_eq_true rfl) ⟨f9, rfl, fq10, bn9, (CRA.bad (by omega) ⟨fn9.1 36 rfl, fn9.2 34 rfl, fn9.2 35 rfl⟩ (by omega))⟩
  · refine m_st (st2 := [.int (iI 0)]) (by rw [h1e]) ?_
    refine m_if_eq (tgt := 28) C ⟨by decide, by decide⟩ dX12_copyRow_11 (by decide) (fun _ => ?_) (fun z => absurd z (by omega))
    refine m_aload_n (j := 0) C dX12_copyRow_28 rfl ?_
    refine m_iconst C dX12_copyRow_29 ?_
    refine m_call (mc2 := 0) (ms2 := 0) (As := [.int (iI 2)]) (rest := []) C (B_bad (x := 2) hB (by show -2147483648 ≤ (2 : Int) ∧ (2 : Int) ≤ 2147483647; omega)) dX12_copyRow_30 kV_X12_154 rfl ck_13 rfl (Nat.le_of_ble_eq_true rfl) ⟨Nat.le_of_ble_eq_true rfl, Nat.le_of_ble_eq_true rfl⟩ ⟨Nat.le_of_ble_eq_true rfl, Nat.le_of_ble_eq_true rfl⟩ (fun rh12 vh12 ah12 h12 => ?_)
    obtain ⟨f10, rfl, fn10, bn10, ex10⟩ := h12
    refine hv2 (fp0.call fn10 rfl rfl) (show f10 = -1 from ex10) (fun fq11 gf10 => ?_)
    refine m_st (st2 := [.int (iI f10)]) rfl ?_
    exact m_iret C dX12_copyRow_33 rfl (Nat.le_of_ble_eq_true rfl) (Nat.le_of_ble_eq_true rfl) ⟨f10, rfl, fq11, bn10, (CRA.bad (by omega) ⟨fn10.1 36 rfl, fn10.2 34 rfl, fn10.2 35 rfl⟩ (by omega))⟩
def CPA (v : Nat → Int) (a : Nat → Nat → Int) (v2 : Nat → Int) (a2 : Nat → Nat → Int) (q u n f : Int) : Prop := ∀ E, SHA v a E → ∃ E2, CPLX E q u n (v 42) f E2 (v2 42) ∧ SHA v2 a2 E2
def CL1 (v : Nat → Int) (a : Nat → Nat → Int) (v1 : Nat → Int) (a1 : Nat → Nat → Int) (q u k : Int) : Prop := ∀ E, SHA v a E → ∃ E1, cpn E q u k.toNat E1 ∧ SHA v1 a1 E1
def CL2 (v : Nat → Int) (a : Nat → Nat → Int) (v1 : Nat → Int) (a1 : Nat → Nat → Int) (q u k x y i : Int) : Prop := ∃ a3, CL1 v a v1 a3 q u k ∧ (∀ j, a3 34 j ≤ 200) ∧ (∀ j : Nat, a1 34 j = if j = y.toNat then a3 34 x.toNat else a3 34 j) ∧ 0 ≤ a3 34 x.toNat ∧ ∀ j : Nat, a1 35 j = if 200 * y ≤ ((j : Nat) : Int) ∧ ((j : Nat) : Int) < 200 * y + i then a3 35 (((j : Nat) : Int) - 200 * y + 200 * x).toNat else a3 35 j
section CPLS
variable {v v1 v2 v3 : Nat → Int} {a a1 a2 : Nat → Nat → Int} {E E2 : List (Option (List Int))} {q u n f k x y z i : Int} {m m2 : Nat}
theorem CL1.zero (hk : k = 0) (h : KSA v a v1 a1) : CL1 v a v1 a1 q u k := fun E hE => ⟨E, by rw [hk]; rfl, hE.cg h⟩
theorem CL1.fr (h : CL1 v a v1 a1 q u k) (hk : KSA v1 a1 v2 a2) : CL1 v a v2 a2 q u k := fun E hE => by
  obtain ⟨E1, e1, e2⟩ := h E hE
  exact ⟨E1, e1, e2.cg hk⟩
theorem CL1.go (h : CL1 v a v1 a1 q u k) (hb : ∀ j, a1 34 j ≤ 200) (hm : m = y.toNat) (hz : z = a1 34 x.toNat) (hx : 0 ≤ a1 34 x.toNat) : CL2 v a v1 (up2 a1 34 m z) q u k x y 0 := by
  refine ⟨a1, h, hb, fun j => ?_, hx, fun j => ?_⟩
  · subst hm
    by_cases c : j = y.toNat
    · rw [c, up2_s, if_pos rfl]
      exact hz
    · rw [up2_j c, if_neg c]
  · rw [if_neg (by omega), up2_k (by decide)]
theorem CL2.step (h : CL2 v a v1 a1 q u k x y i) (hx : 0 ≤ x ∧ 0 ≤ y) (hi : 0 ≤ i ∧ i < 200) (hm : m = (200 * y + i).toNat) (hm2 : m2 = (200 * x + i).toNat) : CL2 v a v1 (up2 a1 35 m (a1 35 m2)) q u k x y (i + 1) := by
  obtain ⟨a3, h1, hb, h2, h3, h4⟩ := h
  refine ⟨a3, h1, hb, fun j => by rw [up2_k (by decide)]; exact h2 j, h3, fun j => ?_⟩
  by_cases c : j = m
  · rw [c, up2_s, if_pos (by omega), h4 m2, if_neg (by omega), show ((m : Nat) : Int) - 200 * y + 200 * x = ((m2 : Nat) : Int) by omega, Int.toNat_natCast]
  · rw [up2_j c, h4 j]
    by_cases c2 : 200 * y ≤ ((j : Nat) : Int) ∧ ((j : Nat) : Int) < 200 * y + i
    · rw [if_pos c2, if_pos (by omega)]
    · rw [if_neg c2, if_neg (by omega)]
theorem CL2.fin (h : CL2 v a v1 a1 q u k x y i) (hk : 0 ≤ k) (hx : x = q + k) (hy : y = u + k) (h0 : (0 ≤ x ∧ x < v1 36) ∧ (0 ≤ y ∧ y < v1 36)) (hi : a1 34 x.toNat ≤ i ∧ i ≤ 200) (h36 : v2 36 = v1 36) : CL1 v a v2 a1 q u (k + 1) := fun E hE => by
  obtain ⟨a3, h1, hb, h2, h3, h4⟩ := h
  obtain ⟨E1, e1, e2⟩ := h1 E hE
  obtain ⟨xs, d1, d2, d3⟩ := e2.have_ h0.1.1 h0.1.2 h3
  obtain ⟨yy, d4, _⟩ := e2.on h0.2.1 h0.2.2
  have ex : a1 34 x.toNat = a3 34 x.toNat := by
    rw [h2 x.toNat]
    split
    · rfl
    · rfl
  have b := hb x.toNat
  refine ⟨E1.set y.toNat (some xs), ?_, e2.set hb h0.2 h36 (Or.inr ⟨xs, rfl, ?_, fun j z ez => ?_⟩) (fun j hj => ⟨?_, fun o ho => ?_⟩)⟩
  · rw [show (k + 1).toNat = k.toNat + 1 by omega]
    refine ⟨E1, e1, xs, yy, ?_, ?_, ?_⟩
    · rw [show q + ((k.toNat : Nat) : Int) = x by omega]
      exact d1
    · rw [show u + ((k.toNat : Nat) : Int) = y by omega]
      exact d4
    · rw [show u + ((k.toNat : Nat) : Int) = y by omega]
  · rw [h2, if_pos rfl]
    exact d2
  · have lt := gl3 ez
    rw [h4, if_pos (by omega), show (((200 * y.toNat + j : Nat) : Int) - 200 * y + 200 * x).toNat = 200 * x.toNat + j by omega, d3 j lt]
    exact gd0_at ez
  · rw [h2, if_neg hj]
  · rw [h4, if_neg (by omega)]
theorem CPA.bad0 (hn : n < 0 ∨ 10 < n) (hf : f = -1) (h42 : v2 42 = v 42) (hk : KSA v a v2 a2) : CPA v a v2 a2 q u n f := fun E hE => ⟨E, Or.inl ⟨hn, rfl, hf, h42⟩, hE.cg hk⟩
theorem CPA.stop (h : CL1 v a v1 a1 q u k) (hk : 0 ≤ k ∧ k < n) (hn : n ≤ 10) (hx : x = q + k) (hy : y = u + k) (hw : ¬ ((0 ≤ x ∧ x < v1 36) ∧ (0 ≤ y ∧ y < v1 36)) ∨ ((0 ≤ x ∧ x < v1 36) ∧ a1 34 x.toNat < 0)) (hf : f = -1) (h42 : v2 42 = k) (hs : KSA v1 a1 v2 a2) : CPA v a v2 a2 q u n f := fun E hE => by
  obtain ⟨E1, e1, e2⟩ := h E hE
  refine ⟨E1, Or.inr ⟨⟨by omega, hn⟩, Or.inr ⟨k.toNat, by omega, e1, fun ⟨E3, xs, yy, c1, c2, _⟩ => ?_, hf, by omega⟩⟩, e2.cg hs⟩
  rw [show q + ((k.toNat : Nat) : Int) = x by omega] at c1
  rw [show u + ((k.toNat : Nat) : Int) = y by omega] at c2
  rcases hw with c | ⟨c, c3⟩
  · obtain ⟨r1, r2, _⟩ := rwl_lt c1
    obtain ⟨r3, r4, _⟩ := rwl_lt c2
    have e := e2.1
    exact c ⟨⟨r1, by omega⟩, r3, by omega⟩
  · exact e2.fault (Or.inr ⟨c, c3⟩) ⟨xs, c1⟩
theorem CPA.ok (h : CL1 v a v1 a1 q u k) (hk : k = n) (hn : 0 ≤ n ∧ n ≤ 10) (hf : f = n) (h42 : v2 42 = n) (hs : KSA v1 a1 v2 a2) : CPA v a v2 a2 q u n f := fun E hE => by
  obtain ⟨E1, e1, e2⟩ := h E hE
  rw [hk] at e1
  exact ⟨E1, Or.inr ⟨hn, Or.inl ⟨e1, hf, h42⟩⟩, e2.cg hs⟩
end CPLS
set_option maxHeartbeats 4000000 in
set_option maxRecDepth 100000 in
theorem N2_copyLines {l : Launch} {G : GT} {h0 : Nat} {ad ln : Nat → Nat} {v : Nat → Int} {a : Nat → Nat → Int}  {q u n1 : Int} (hB : BX v a) (hq : -2147483648 ≤ q ∧ q ≤ 2147483647) (hu : -2147483648 ≤ u ∧ u ≤ 2147483647) (hn1 : -2147483648 ≤ n1 ∧ n1 ≤ 2147483647) : Mm l G yX12_copyLines cX12_copyLines 10 (some .int) 1 [.int (iI q), .int (iI u), .int (iI n1)] h0 ad ln v a 0 0 (fun r v2 a2 => ∃ f : Int, r = some (.int (iI f)) ∧ fr [0, 1, 42] [34, 35] v a v2 a2 ∧ BX v2 a2 ∧ (CPA v a v2 a2 q u n1 f)) := by
  refine Mm.mk (by decide) (Nat.le_of_ble_eq_true rfl) ?_
  intro p e s m args below meth c A C
  refine hv2 (show 0 ≤ v 36 ∧ v 36 ≤ 200 from hB.1 36) (show fr [0, 1, 42] [34, 35] v a v a from fr.refl) (fun r36 fp0 => ?_)
  refine m_iload_n (j := 3) C dX12_copyLines_0 rfl ?_
  refine m_bipush (z := 10) C dX12_copyLines_1 (by decide) ?_
  refine m_icmp_le (tgt := 13) C ⟨by omega, by omega⟩ ⟨by decide, by decide⟩ dX12_copyLines_3 (by decide) (fun c1 => ?_) (fun c1 => ?_)
  · refine m_iload_n (j := 3) C dX12_copyLines_13 rfl ?_
    refine m_if_ge (tgt := 23) C ⟨by omega, by omega⟩ dX12_copyLines_14 (by decide) (fun c2 => ?_) (fun c2 => ?_)
    · refine m_aload_n (j := 0) C dX12_copyLines_23 rfl ?_
      refine m_iconst C dX12_copyLines_24 ?_
      refine m_put (k := 42) (z := 0) C dX12_copyLines_25 w6_101 (by decide) rfl rfl rfl ?_
      refine hv2 (show BX (va_up v 42 0) a from hB.put (k := 42) (z := 0) ⟨by decide, by decide⟩) (fp0.put (k := 42) (z := 0) rfl) (fun bq1 fq1 => ?_)
      refine m_iconst C dX12_copyLines_28 ?_
      refine m_istore (lv2 := [(4, .int (iI 0)), (0, .ref h0), (1, .int (iI q)), (2, .int (iI u)), (3, .int (iI n1))]) C dX12_copyLines_29 (by decide) rfl ?_
      have Lp1 : ∀ (nn : Nat) (k : Int) (vb1 : Nat → Int) (ab1 : Nat → Nat → Int), 11 - k < (nn : Int) → BX vb1 ab1 → fr [0, 1, 42] [34, 35] v a vb1 ab1 → (0 ≤ k ∧ k ≤ n1) → (vb1 42 = k) → (vb1 36 = v 36) → (CL1 v a vb1 ab1 q u k) → mw p l e (rmq 1 0 0) s m args below meth c G A 10 (MQ below (Qm G A (fun rq Lq Eq => ∃ (vq : Nat → Int) (aq : Nat → Nat → Int), mI G h0 ad ln vq aq Lq Eq ∧ (fun r v2 a2 => ∃ f : Int, r = some (.int (iI f)) ∧ fr [0, 1, 42] [34, 35] v a v2 a2 ∧ BX v2 a2 ∧ (CPA v a v2 a2 q u n1 f)) rq vq aq)) args s 0 0 A) h0 ad ln vb1 ab1 0 0 31 [(4, .int (iI k)), (0, .ref h0), (1, .int (iI q)), (2, .int (iI u)), (3, .int (iI n1))] [] := by
        intro nn
        induction nn with
        | zero =>
          intro k vb1 ab1 hm bxb1 fpb1 hk hc h36 hA
          exact absurd hm (by omega)
        | succ nn ih1 =>
          intro k vb1 ab1 hm bxb1 fpb1 hk hc h36 hA
          refine m_iload (j := 0) C dX12_copyLines_31 rfl ?_
          refine m_iload_n (j := 4) C dX12_copyLines_33 rfl ?_
          refine m_icmp_ge (tgt := 196) C ⟨by omega, by omega⟩ ⟨by omega, by omega⟩ dX12_copyLines_34 (by decide) (fun c3 => ?_) (fun c3 => ?_)
          · refine m_aload_n (j := 1) C dX12_copyLines_196 rfl ?_
            refine m_iload_n (j := 4) C dX12_copyLines_197 rfl ?_
            refine m_call (mc2 := 0) (ms2 := 0) (As := [.int (iI n1)]) (rest := []) C (B_fine (x := n1) bxb1 (by show -2147483648 ≤ n1 ∧ n1 ≤ 2147483647; omega)) dX12_copyLines_198 kV_X12_158 rfl ck_13 rfl (Nat.le_of_ble_eq_true rfl) ⟨Nat.le_of_ble_eq_true rfl, Nat.le_of_ble_eq_true rfl⟩ ⟨Nat.le_of_ble_eq_true rfl, Nat.le_of_ble_eq_true rfl⟩ (fun rh1 vh1 ah1 h1 => ?_)
            obtain ⟨f1, rfl, fn1, bn1, ex1⟩ := h1
            refine hv2 (fpb1.call fn1 rfl rfl) (show f1 = n1 from ex1) (fun fq2 gf1 => ?_)
            refine m_st (st2 := [.int (iI f1)]) rfl ?_
            refine hv2 (show (-2147483648) ≤ vh1 42 ∧ vh1 42 ≤ 2147483647 from bn1.1 42) (show vh1 42 = vb1 42 from fn1.1 42 rfl) (fun rv1 ve1 => ?_)
            exact m_iret C dX12_copyLines_201 rfl (Nat.le_of_ble_eq_true rfl) (Nat.le_of_ble_eq_true rfl) ⟨f1, rfl, fq2, bn1, (CPA.ok hA (by omega) ⟨by omega, by omega⟩ (by omega) (by omega) ⟨fn1.1 36 rfl, fn1.2 34 rfl, fn1.2 35 rfl⟩)⟩
          · refine m_iload_n (j := 2) C dX12_copyLines_37 rfl ?_
            refine m_i2l (w := lI q) C dX12_copyLines_38 (lI_of ⟨by omega, by omega⟩) ?_
            refine m_iload (j := 0) C dX12_copyLines_39 rfl ?_
            refine m_i2l (w := lI k) C dX12_copyLines_41 (lI_of ⟨by omega, by omega⟩) ?_
            refine m_ladd (w := lI (q + k)) C dX12_copyLines_42 (lI_add _ _) ?_
            refine m_lstore (lv2 := [(5, .long (lI (q + k))), (4, .int (iI k)), (0, .ref h0), (1, .int (iI q)), (2, .int (iI u)), (3, .int (iI n1))]) C dX12_copyLines_43 (by decide) rfl ?_
            refine m_iload_n (j := 4) C dX12_copyLines_45 rfl ?_
            refine m_i2l (w := lI u) C dX12_copyLines_46 (lI_of ⟨by omega, by omega⟩) ?_
            refine m_iload (j := 1) C dX12_copyLines_47 rfl ?_
            refine m_i2l (w := lI k) C dX12_copyLines_49 (lI_of ⟨by omega, by omega⟩) ?_
            refine m_ladd (w := lI (u + k)) C dX12_copyLines_50 (lI_add _ _) ?_
            refine m_lstore (lv2 := [(7, .long (lI (u + k))), (5, .long (lI (q + k))), (4, .int (iI k)), (0, .ref h0), (1, .int (iI q)), (2, .int (iI u)), (3, .int (iI n1))]) C dX12_copyLines_51 (by decide) rfl ?_
            refine m_lload (j := 1) C dX12_copyLines_53 rfl ?_
            refine m_lconst (w := lI 0) C dX12_copyLines_55 rfl ?_
            obtain ⟨lc1, hlc1, elc1⟩ := lcmp_c (x := (q + k)) (y := 0) ⟨by omega, by omega⟩ ⟨by omega, by omega⟩
            refine m_lcmp (w := iI lc1) C dX12_copyLines_56 elc1 ?_
            refine m_if_lt (tgt := 89) C ⟨by omega, by omega⟩ dX12_copyLines_57 (by decide) (fun c4 => ?_) (fun c4 => ?_)
            · refine m_aload_n (j := 3) C dX12_copyLines_89 rfl ?_
              refine m_iconst C dX12_copyLines_90 ?_
              refine m_call (mc2 := 0) (ms2 := 0) (As := [.int (iI 2)]) (rest := []) C (B_bad (x := 2) bxb1 (by show -2147483648 ≤ (2 : Int) ∧ (2 : Int) ≤ 2147483647; omega)) dX12_copyLines_91 kV_X12_154 rfl ck_13 rfl (Nat.le_of_ble_eq_true rfl) ⟨Nat.le_of_ble_eq_true rfl, Nat.le_of_ble_eq_true rfl⟩ ⟨Nat.le_of_ble_eq_true rfl, Nat.le_of_ble_eq_true rfl⟩ (fun rh2 vh2 ah2 h2 => ?_)
              obtain ⟨f2, rfl, fn2, bn2, ex2⟩ := h2
              refine hv2 (fpb1.call fn2 rfl rfl) (show f2 = -1 from ex2) (fun fq3 gf2 => ?_)
              refine m_st (st2 := [.int (iI f2)]) rfl ?_
              refine hv2 (show (-2147483648) ≤ vh2 42 ∧ vh2 42 ≤ 2147483647 from bn2.1 42) (show vh2 42 = vb1 42 from fn2.1 42 rfl) (fun rv2 ve2 => ?_)
              exact m_iret C dX12_copyLines_94 rfl (Nat.le_of_ble_eq_true rfl) (Nat.le_of_ble_eq_true rfl) ⟨f2, rfl, fq3, bn2, (CPA.stop hA ⟨by omega, by omega⟩ (by omega) rfl rfl (by omega) (by omega) (by omega) ⟨fn2.1 36 rfl, fn2.2 34 rfl, fn2.2 35 rfl⟩)⟩
            · refine m_lload (j := 1) C dX12_copyLines_60 rfl ?_
              refine m_aload_n (j := 3) C dX12_copyLines_62 rfl ?_
              refine hv2 (show 0 ≤ vb1 36 ∧ vb1 36 ≤ 200 from bxb1.1 36) (show vb1 36 = v 36 from fpb1.1 36 rfl) (fun rv3 ve3 => ?_)
              refine m_get (k := 36) C dX12_copyLines_63 w6_95 (by decide) rfl ?_
              refine m_st (st2 := [.int (iI (v 36)), .long (lI (q + k))]) (congrArg (fun z => Value.int (iI z) :: [.long (lI (q + k))]) (fpb1.1 36 rfl)) ?_
              refine m_i2l (w := lI (v 36)) C dX12_copyLines_66 (lI_of ⟨by omega, by omega⟩) ?_
              obtain ⟨lc2, hlc2, elc2⟩ := lcmp_c (x := (q + k)) (y := (v 36)) ⟨by omega, by omega⟩ ⟨by omega, by omega⟩
              refine m_lcmp (w := iI lc2) C dX12_copyLines_67 elc2 ?_
              refine m_if_ge (tgt := 89) C ⟨by omega, by omega⟩ dX12_copyLines_68 (by decide) (fun c5 => ?_) (fun c5 => ?_)
              · refine m_aload_n (j := 3) C dX12_copyLines_89 rfl ?_
                refine m_iconst C dX12_copyLines_90 ?_
                refine m_call (mc2 := 0) (ms2 := 0) (As := [.int (iI 2)]) (rest := []) C (B_bad (x := 2) bxb1 (by show -2147483648 ≤ (2 : Int) ∧ (2 : Int) ≤ 2147483647; omega)) dX12_copyLines_91 kV_X12_154 rfl ck_13 rfl (Nat.le_of_ble_eq_true rfl) ⟨Nat.le_of_ble_eq_true rfl, Nat.le_of_ble_eq_true rfl⟩ ⟨Nat.le_of_ble_eq_true rfl, Nat.le_of_ble_eq_true rfl⟩ (fun rh3 vh3 ah3 h3 => ?_)
                obtain ⟨f3, rfl, fn3, bn3, ex3⟩ := h3
                refine hv2 (fpb1.call fn3 rfl rfl) (show f3 = -1 from ex3) (fun fq4 gf3 => ?_)
                refine m_st (st2 := [.int (iI f3)]) rfl ?_
                refine hv2 (show (-2147483648) ≤ vh3 42 ∧ vh3 42 ≤ 2147483647 from bn3.1 42) (show vh3 42 = vb1 42 from fn3.1 42 rfl) (fun rv4 ve4 => ?_)
                exact m_iret C dX12_copyLines_94 rfl (Nat.le_of_ble_eq_true rfl) (Nat.le_of_ble_eq_true rfl) ⟨f3, rfl, fq4, bn3, (CPA.stop hA ⟨by omega, by omega⟩ (by omega) rfl rfl (by omega) (by omega) (by omega) ⟨fn3.1 36 rfl, fn3.2 34 rfl, fn3.2 35 rfl⟩)⟩
              · refine m_lload (j := 0) C dX12_copyLines_71 rfl ?_
                refine m_lconst (w := lI 0) C dX12_copyLines_73 rfl ?_
                obtain ⟨lc3, hlc3, elc3⟩ := lcmp_c (x := (u + k)) (y := 0) ⟨by omega, by omega⟩ ⟨by omega, by omega⟩
                refine m_lcmp (w := iI lc3) C dX12_copyLines_74 elc3 ?_
                refine m_if_lt (tgt := 89) C ⟨by omega, by omega⟩ dX12_copyLines_75 (by decide) (fun c6 => ?_) (fun c6 => ?_)
                · refine m_aload_n (j := 3) C dX12_copyLines_89 rfl ?_
                  refine m_iconst C dX12_copyLines_90 ?_
                  refine m_call (mc2 := 0) (ms2 := 0) (As := [.int (iI 2)]) (rest := []) C (B_bad (x := 2) bxb1 (by show -2147483648 ≤ (2 : Int) ∧ (2 : Int) ≤ 2147483647; omega)) dX12_copyLines_91 kV_X12_154 rfl ck_13 rfl (Nat.le_of_ble_eq_true rfl) ⟨Nat.le_of_ble_eq_true rfl, Nat.le_of_ble_eq_true rfl⟩ ⟨Nat.le_of_ble_eq_true rfl, Nat.le_of_ble_eq_true rfl⟩ (fun rh4 vh4 ah4 h4 => ?_)
                  obtain ⟨f4, rfl, fn4, bn4, ex4⟩ := h4
                  refine hv2 (fpb1.call fn4 rfl rfl) (show f4 = -1 from ex4) (fun fq5 gf4 => ?_)
                  refine m_st (st2 := [.int (iI f4)]) rfl ?_
                  refine hv2 (show (-2147483648) ≤ vh4 42 ∧ vh4 42 ≤ 2147483647 from bn4.1 42) (show vh4 42 = vb1 42 from fn4.1 42 rfl) (fun rv5 ve5 => ?_)
                  exact m_iret C dX12_copyLines_94 rfl (Nat.le_of_ble_eq_true rfl) (Nat.le_of_ble_eq_true rfl) ⟨f4, rfl, fq5, bn4, (CPA.stop hA ⟨by omega, by omega⟩ (by omega) rfl rfl (by omega) (by omega) (by omega) ⟨fn4.1 36 rfl, fn4.2 34 rfl, fn4.2 35 rfl⟩)⟩
                · refine m_lload (j := 0) C dX12_copyLines_78 rfl ?_
                  refine m_aload_n (j := 3) C dX12_copyLines_80 rfl ?_
                  refine m_get (k := 36) C dX12_copyLines_81 w6_95 (by decide) rfl ?_
                  refine m_st (st2 := [.int (iI (v 36)), .long (lI (u + k))]) (congrArg (fun z => Value.int (iI z) :: [.long (lI (u + k))]) (fpb1.1 36 rfl)) ?_
                  refine m_i2l (w := lI (v 36)) C dX12_copyLines_84 (lI_of ⟨by omega, by omega⟩) ?_
                  obtain ⟨lc4, hlc4, elc4⟩ := lcmp_c (x := (u + k)) (y := (v 36)) ⟨by omega, by omega⟩ ⟨by omega, by omega⟩
                  refine m_lcmp (w := iI lc4) C dX12_copyLines_85 elc4 ?_
                  refine m_if_lt (tgt := 95) C ⟨by omega, by omega⟩ dX12_copyLines_86 (by decide) (fun c7 => ?_) (fun c7 => ?_)
                  · refine m_aload_n (j := 3) C dX12_copyLines_95 rfl ?_
                    refine m_geta (k := 34) C dX12_copyLines_96 w6_93 (by decide) rfl ?_
                    refine m_lload (j := 1) C dX12_copyLines_99 rfl ?_
                    refine m_l2i (w := iI (q + k)) C dX12_copyLines_101 (lI_i _) ?_
                    refine m_ald (k := 34) C dX12_copyLines_102 rfl rfl (by decide) (by omega) (by show _ < ((_ : Nat) : Int); simp only [mlen]; omega) (by decide) ?_
                    have ra1 : (-1) ≤ ab1 34 (q + k).toNat ∧ ab1 34 (q + k).toNat ≤ 200 := bxb1.2 34 ((q + k).toNat)
                    refine m_if_ge (tgt := 112) C (r32_c (lo := (-1)) (hi := 200) ra1.1 ra1.2 (by decide) (by decide)) dX12_copyLines_103 (by decide) (fun c8 => ?_) (fun c8 => ?_)
                    · refine m_aload_n (j := 3) C dX12_copyLines_112 rfl ?_
                      refine m_geta (k := 34) C dX12_copyLines_113 w6_93 (by decide) rfl ?_
                      refine m_lload (j := 0) C dX12_copyLines_116 rfl ?_
                      refine m_l2i (w := iI (u + k)) C dX12_copyLines_118 (lI_i _) ?_
                      refine m_aload_n (j := 3) C dX12_copyLines_119 rfl ?_
                      refine m_geta (k := 34) C dX12_copyLines_120 w6_93 (by decide) rfl ?_
                      refine m_lload (j := 1) C dX12_copyLines_123 rfl ?_
                      refine m_l2i (w := iI (q + k)) C dX12_copyLines_125 (lI_i _) ?_
                      refine m_ald (k := 34) C dX12_copyLines_126 rfl rfl (by decide) (by omega) (by show _ < ((_ : Nat) : Int); simp only [mlen]; omega) (by decide) ?_
                      refine m_ast (k := 34) C dX12_copyLines_127 rfl rfl (by decide) (by omega) (by show _ < ((_ : Nat) : Int); simp only [mlen]; omega) (by decide) ?_
                      refine hv2 (show BX vb1 (up2 ab1 34 (u + k).toNat (ab1 34 (q + k).toNat)) from bxb1.set (k := 34) (i := (u + k).toNat) (z := ab1 34 (q + k).toNat) (show (-1) ≤ (ab1 34 (q + k).toNat) ∧ (ab1 34 (q + k).toNat) ≤ 200 by omega)) (fpb1.set (k := 34) (i := (u + k).toNat) (z := ab1 34 (q + k).toNat) rfl) (fun bq2 fq6 => ?_)
                      refine m_iconst C dX12_copyLines_128 ?_
                      refine m_istore (lv2 := [(9, .int (iI 0)), (7, .long (lI (u + k))), (5, .long (lI (q + k))), (4, .int (iI k)), (0, .ref h0), (1, .int (iI q)), (2, .int (iI u)), (3, .int (iI n1))]) C dX12_copyLines_129 (by decide) rfl ?_
                      have Lp2 : ∀ (nn : Nat) (i1 : Int) (vb2 : Nat → Int) (ab2 : Nat → Nat → Int), 201 - i1 < (nn : Int) → BX vb2 ab2 → fr [0, 1, 42] [34, 35] v a vb2 ab2 → (0 ≤ i1 ∧ i1 ≤ 200) → (vb2 42 = k) → (vb2 36 = v 36) → (CL2 v a vb2 ab2 q u k (q + k) (u + k) i1) → mw p l e (rmq 1 0 0) s m args below meth c G A 10 (MQ below (Qm G A (fun rq Lq Eq => ∃ (vq : Nat → Int) (aq : Nat → Nat → Int), mI G h0 ad ln vq aq Lq Eq ∧ (fun r v2 a2 => ∃ f : Int, r = some (.int (iI f)) ∧ fr [0, 1, 42] [34, 35] v a v2 a2 ∧ BX v2 a2 ∧ (CPA v a v2 a2 q u n1 f)) rq vq aq)) args s 0 0 A) h0 ad ln vb2 ab2 0 0 131 [(9, .int (iI i1)), (7, .long (lI (u + k))), (5, .long (lI (q + k))), (4, .int (iI k)), (0, .ref h0), (1, .int (iI q)), (2, .int (iI u)), (3, .int (iI n1))] [] := by
                        intro nn
                        induction nn with
                        | zero =>
                          intro i1 vb2 ab2 hm bxb2 fpb2 hi hc2 h36b hD
                          exact absurd hm (by omega)
                        | succ nn ih2 =>
                          intro i1 vb2 ab2 hm bxb2 fpb2 hi hc2 h36b hD
                          refine m_iload (j := 0) C dX12_copyLines_131 rfl ?_
                          refine m_aload_n (j := 4) C dX12_copyLines_133 rfl ?_
                          refine m_geta (k := 34) C dX12_copyLines_134 w6_93 (by decide) rfl ?_
                          refine m_lload (j := 2) C dX12_copyLines_137 rfl ?_
                          refine m_l2i (w := iI (q + k)) C dX12_copyLines_139 (lI_i _) ?_
                          refine m_ald (k := 34) C dX12_copyLines_140 rfl rfl (by decide) (by omega) (by show _ < ((_ : Nat) : Int); simp only [mlen]; omega) (by decide) ?_
                          have ra2 : (-1) ≤ ab2 34 (q + k).toNat ∧ ab2 34 (q + k).toNat ≤ 200 := bxb2.2 34 ((q + k).toNat)
                          refine m_icmp_ge (tgt := 180) C (r32_c (lo := 0) (hi := 200) hi.1 hi.2 (by decide) (by decide)) (r32_c (lo := (-1)) (hi := 200) ra2.1 ra2.2 (by decide) (by decide)) dX12_copyLines_141 (by decide) (fun c9 => ?_) (fun c9 => ?_)
                          · refine m_aload_n (j := 4) C dX12_copyLines_180 rfl ?_
                            refine m_dup C dX12_copyLines_181 rfl ?_
                            have rv6 : (-2147483648) ≤ vb2 42 ∧ vb2 42 ≤ 2147483647 := bxb2.1 42
                            refine m_get (k := 42) C dX12_copyLines_182 w6_101 (by decide) rfl ?_
                            refine m_iconst C dX12_copyLines_185 ?_
                            refine m_iadd C dX12_copyLines_186 ?_
                            refine m_put (k := 42) (z := (vb2 42) + 1) C dX12_copyLines_187 w6_101 (by decide) rfl rfl rfl ?_
                            refine hv2 (show BX (va_up vb2 42 ((vb2 42) + 1)) ab2 from bxb2.put (k := 42) (z := (vb2 42) + 1) (show (-2147483648) ≤ ((vb2 42) + 1) ∧ ((vb2 42) + 1) ≤ 2147483647 by omega)) (fpb2.put (k := 42) (z := (vb2 42) + 1) rfl) (fun bq3 fq7 => ?_)
                            refine m_iinc (z := k) (j := 3) (lv2 := [(4, .int (iI (k + 1))), (9, .int (iI i1)), (7, .long (lI (u + k))), (5, .long (lI (q + k))), (0, .ref h0), (1, .int (iI q)), (2, .int (iI u)), (3, .int (iI n1))]) C dX12_copyLines_190 rfl (by decide) rfl ?_
                            refine m_goto (tgt := 31) C dX12_copyLines_193 (by decide) ?_
                            refine hv2 (show 0 ≤ vb2 36 ∧ vb2 36 ≤ 200 from bq3.1 36) (show vb2 36 = v 36 from fpb2.1 36 rfl) (fun rv7 ve6 => ?_)
                            refine m_lv (lv2 := [(4, .int (iI (k + 1))), (0, .ref h0), (1, .int (iI q)), (2, .int (iI u)), (3, .int (iI n1))]) [0, 4, 5, 6, 7] rfl ?_
                            exact ih1  (k + 1) _ _ (by omega) bq3 fq7 (by omega) (by show ((vb2 42) + 1) = (k + 1); omega) (by show (vb2 36) = v 36; omega) (CL2.fin hD (by omega) rfl rfl ⟨⟨by omega, by omega⟩, by omega, by omega⟩ ⟨by omega, by omega⟩ (va_up_ne _ _ (by decide)))
                          · refine m_aload_n (j := 4) C dX12_copyLines_144 rfl ?_
                            refine m_geta (k := 35) C dX12_copyLines_145 w6_94 (by decide) rfl ?_
                            refine m_sipush (z := 200) C dX12_copyLines_148 (by decide) ?_
                            refine m_lload (j := 1) C dX12_copyLines_151 rfl ?_
                            refine m_l2i (w := iI (u + k)) C dX12_copyLines_153 (lI_i _) ?_
                            refine m_imul C dX12_copyLines_154 ?_
                            refine m_iload (j := 0) C dX12_copyLines_155 rfl ?_
                            refine m_iadd C dX12_copyLines_157 ?_
                            refine m_aload_n (j := 4) C dX12_copyLines_158 rfl ?_
                            refine m_geta (k := 35) C dX12_copyLines_159 w6_94 (by decide) rfl ?_
                            refine m_sipush (z := 200) C dX12_copyLines_162 (by decide) ?_
                            refine m_lload (j := 2) C dX12_copyLines_165 rfl ?_
                            refine m_l2i (w := iI (q + k)) C dX12_copyLines_167 (lI_i _) ?_
                            refine m_imul C dX12_copyLines_168 ?_
                            refine m_iload (j := 0) C dX12_copyLines_169 rfl ?_
                            refine m_iadd C dX12_copyLines_171 ?_
                            refine m_ald (k := 35) C dX12_copyLines_172 rfl rfl (by decide) (by omega) (by show _ < ((_ : Nat) : Int); simp only [mlen]; omega) (by decide) ?_
                            have ra3 : (-2147483648) ≤ ab2 35 ((200 * (q + k)) + i1).toNat ∧ ab2 35 ((200 * (q + k)) + i1).toNat ≤ 2147483647 := bxb2.2 35 (((200 * (q + k)) + i1).toNat)
                            refine m_ast (k := 35) C dX12_copyLines_173 rfl rfl (by decide) (by omega) (by show _ < ((_ : Nat) : Int); simp only [mlen]; omega) (by decide) ?_
                            refine hv2 (show BX vb2 (up2 ab2 35 ((200 * (u + k)) + i1).toNat (ab2 35 ((200 * (q + k)) + i1).toNat)) from bxb2.set (k := 35) (i := ((200 * (u + k)) + i1).toNat) (z := ab2 35 ((200 * (q + k)) + i1).toNat) (show (-2147483648) ≤ (ab2 35 ((200 * (q + k)) + i1).toNat) ∧ (ab2 35 ((200 * (q + k)) + i1).toNat) ≤ 2147483647 by omega)) (fpb2.set (k := 35) (i := ((200 * (u + k)) + i1).toNat) (z := ab2 35 ((200 * (q + k)) + i1).toNat) rfl) (fun bq4 fq8 => ?_)
                            refine m_iinc (z := i1) (j := 0) (lv2 := [(9, .int (iI (i1 + 1))), (7, .long (lI (u + k))), (5, .long (lI (q + k))), (4, .int (iI k)), (0, .ref h0), (1, .int (iI q)), (2, .int (iI u)), (3, .int (iI n1))]) C dX12_copyLines_174 rfl (by decide) rfl ?_
                            refine m_goto (tgt := 131) C dX12_copyLines_177 (by decide) ?_
                            refine hv3 (show (-2147483648) ≤ vb2 42 ∧ vb2 42 ≤ 2147483647 from bq4.1 42) (show 0 ≤ vb2 36 ∧ vb2 36 ≤ 200 from bq4.1 36) (show vb2 36 = v 36 from fpb2.1 36 rfl) (fun rv8 rv9 ve7 => ?_)
                            refine m_lv (lv2 := [(9, .int (iI (i1 + 1))), (7, .long (lI (u + k))), (5, .long (lI (q + k))), (4, .int (iI k)), (0, .ref h0), (1, .int (iI q)), (2, .int (iI u)), (3, .int (iI n1))]) [0, 1, 2, 3, 4, 5, 6, 7] rfl ?_
                            exact ih2  (i1 + 1) _ _ (by omega) bq4 fq8 (by omega) (by show (vb2 42) = k; omega) (by show (vb2 36) = v 36; omega) (CL2.step hD ⟨by omega, by omega⟩ ⟨by omega, by omega⟩ rfl rfl)
                      have rv10 : (-2147483648) ≤ vb1 42 ∧ vb1 42 ≤ 2147483647 := bq2.1 42
                      refine m_lv (lv2 := [(9, .int (iI 0)), (7, .long (lI (u + k))), (5, .long (lI (q + k))), (4, .int (iI k)), (0, .ref h0), (1, .int (iI q)), (2, .int (iI u)), (3, .int (iI n1))]) [0, 1, 2, 3, 4, 5, 6, 7] rfl ?_
                      exact Lp2 202 0 _ _ (by omega) bq2 fq6 (by omega) (by show (vb1 42) = k; omega) (by show (vb1 36) = v 36; omega) (CL1.go hA (fun j => (bxb1.2 34 j).2) rfl rfl (by omega))
                    · refine m_aload_n (j := 3) C dX12_copyLines_106 rfl ?_
                      refine m_iconst C dX12_copyLines_107 ?_
                      refine m_call (mc2 := 0) (ms2 := 0) (As := [.int (iI 1)]) (rest := []) C (B_bad (x := 1) bxb1 (by show -2147483648 ≤ (1 : Int) ∧ (1 : Int) ≤ 2147483647; omega)) dX12_copyLines_108 kV_X12_154 rfl ck_13 rfl (Nat.le_of_ble_eq_true rfl) ⟨Nat.le_of_ble_eq_true rfl, Nat.le_of_ble_eq_true rfl⟩ ⟨Nat.le_of_ble_eq_true rfl, Nat.le_of_ble_eq_true rfl⟩ (fun rh5 vh5 ah5 h5 => ?_)
                      obtain ⟨f5, rfl, fn5, bn5, ex5⟩ := h5
                      refine hv2 (fpb1.call fn5 rfl rfl) (show f5 = -1 from ex5) (fun fq9 gf5 => ?_)
                      refine m_st (st2 := [.int (iI f5)]) rfl ?_
                      refine hv2 (show (-2147483648) ≤ vh5 42 ∧ vh5 42 ≤ 2147483647 from bn5.1 42) (show vh5 42 = vb1 42 from fn5.1 42 rfl) (fun rv11 ve8 => ?_)
                      exact m_iret C dX12_copyLines_111 rfl (Nat.le_of_ble_eq_true rfl) (Nat.le_of_ble_eq_true rfl) ⟨f5, rfl, fq9, bn5, (CPA.stop hA ⟨by omega, by omega⟩ (by omega) rfl rfl (by omega) (by omega) (by omega) ⟨fn5.1 36 rfl, fn5.2 34 rfl, fn5.2 35 rfl⟩)⟩
                  · refine m_aload_n (j := 3) C dX12_copyLines_89 rfl ?_
                    refine m_iconst C dX12_copyLines_90 ?_
                    refine m_call (mc2 := 0) (ms2 := 0) (As := [.int (iI 2)]) (rest := []) C (B_bad (x := 2) bxb1 (by show -2147483648 ≤ (2 : Int) ∧ (2 : Int) ≤ 2147483647; omega)) dX12_copyLines_91 kV_X12_154 rfl ck_13 rfl (Nat.le_of_ble_eq_true rfl) ⟨Nat.le_of_ble_eq_true rfl, Nat.le_of_ble_eq_true rfl⟩ ⟨Nat.le_of_ble_eq_true rfl, Nat.le_of_ble_eq_true rfl⟩ (fun rh6 vh6 ah6 h6 => ?_)
                    obtain ⟨f6, rfl, fn6, bn6, ex6⟩ := h6
                    refine hv2 (fpb1.call fn6 rfl rfl) (show f6 = -1 from ex6) (fun fq10 gf6 => ?_)
                    refine m_st (st2 := [.int (iI f6)]) rfl ?_
                    refine hv2 (show (-2147483648) ≤ vh6 42 ∧ vh6 42 ≤ 2147483647 from bn6.1 42) (show vh6 42 = vb1 42 from fn6.1 42 rfl) (fun rv12 ve9 => ?_)
                    exact m_iret C dX12_copyLines_94 rfl (Nat.le_of_ble_eq_true rfl) (Nat.le_of_ble_eq_true rfl) ⟨f6, rfl, fq10, bn6, (CPA.stop hA ⟨by omega, by omega⟩ (by omega) rfl rfl (by omega) (by omega) (by omega) ⟨fn6.1 36 rfl, fn6.2 34 rfl, fn6.2 35 rfl⟩)⟩
      have rv13 : 0 ≤ v 36 ∧ v 36 ≤ 200 := bq1.1 36
      refine m_lv (lv2 := [(4, .int (iI 0)), (0, .ref h0), (1, .int (iI q)), (2, .int (iI u)), (3, .int (iI n1))]) [0, 1, 2, 3, 4] rfl ?_
      exact Lp1 12 0 _ _ (by omega) bq1 fq1 (by omega) (by show 0 = 0; omega) (by show (v 36) = v 36; omega) (CL1.zero rfl ⟨va_up_ne _ _ (by decide), rfl, rfl⟩)
    · refine m_aload_n (j := 0) C dX12_copyLines_17 rfl ?_
      refine m_iconst C dX12_copyLines_18 ?_
      refine m_call (mc2 := 0) (ms2 := 0) (As := [.int (iI 5)]) (rest := []) C (B_bad (x := 5) hB (by show -2147483648 ≤ (5 : Int) ∧ (5 : Int) ≤ 2147483647; omega)) dX12_copyLines_19 kV_X12_154 rfl ck_13 rfl (Nat.le_of_ble_eq_true rfl) ⟨Nat.le_of_ble_eq_true rfl, Nat.le_of_ble_eq_true rfl⟩ ⟨Nat.le_of_ble_eq_true rfl, Nat.le_of_ble_eq_true rfl⟩ (fun rh7 vh7 ah7 h7 => ?_)
      obtain ⟨f7, rfl, fn7, bn7, ex7⟩ := h7
      refine hv2 (fp0.call fn7 rfl rfl) (show f7 = -1 from ex7) (fun fq11 gf7 => ?_)
      refine m_st (st2 := [.int (iI f7)]) rfl ?_
      refine hv2 (show (-2147483648) ≤ vh7 42 ∧ vh7 42 ≤ 2147483647 from bn7.1 42) (show vh7 42 = v 42 from fn7.1 42 rfl) (fun rv14 ve10 => ?_)
      exact m_iret C dX12_copyLines_22 rfl (Nat.le_of_ble_eq_true rfl) (Nat.le_of_ble_eq_true rfl) ⟨f7, rfl, fq11, bn7, (CPA.bad0 (by omega) (by omega) (by omega) ⟨fn7.1 36 rfl, fn7.2 34 rfl, fn7.2 35 rfl⟩)⟩
  · refine m_aload_n (j := 0) C dX12_copyLines_6 rfl ?_
    refine m_bipush (z := 6) C dX12_copyLines_7 (by decide) ?_
    refine m_call (mc2 := 0) (ms2 := 0) (As := [.int (iI 6)]) (rest := []) C (B_bad (x := 6) hB (by show -2147483648 ≤ (6 : Int) ∧ (6 : Int) ≤ 2147483647; omega)) dX12_copyLines_9 kV_X12_154 rfl ck_13 rfl (Nat.le_of_ble_eq_true rfl) ⟨Nat.le_of_ble_eq_true rfl, Nat.le_of_ble_eq_true rfl⟩ ⟨Nat.le_of_ble_eq_true rfl, Nat.le_of_ble_eq_true rfl⟩ (fun rh8 vh8 ah8 h8 => ?_)
    obtain ⟨f8, rfl, fn8, bn8, ex8⟩ := h8
    refine hv2 (fp0.call fn8 rfl rfl) (show f8 = -1 from ex8) (fun fq12 gf8 => ?_)
    refine m_st (st2 := [.int (iI f8)]) rfl ?_
    refine hv2 (show (-2147483648) ≤ vh8 42 ∧ vh8 42 ≤ 2147483647 from bn8.1 42) (show vh8 42 = v 42 from fn8.1 42 rfl) (fun rv15 ve11 => ?_)
    exact m_iret C dX12_copyLines_12 rfl (Nat.le_of_ble_eq_true rfl) (Nat.le_of_ble_eq_true rfl) ⟨f8, rfl, fq12, bn8, (CPA.bad0 (by omega) (by omega) (by omega) ⟨fn8.1 36 rfl, fn8.2 34 rfl, fn8.2 35 rfl⟩)⟩
def bcs (s : Int32) : List Int → Int32
  | [] => s
  | x :: xs => bcs (s + bcn (iI x)) xs
def emb (E : List (Option (List Int))) (q wd : Int) : Nat → Int32 → Prop
  | 0, s => s = 0
  | k + 1, s => ∃ s0, emb E q wd k s0 ∧ ((rwe E (q + ((k : Nat) : Int)) = some none ∧ s = s0) ∨ ∃ xs, rwe E (q + ((k : Nat) : Int)) = some (some xs) ∧ ((xs.length : Nat) : Int) ≤ wd ∧ s = bcs s0 xs)
def EMS (E : List (Option (List Int))) (q wd : Int) (k : Nat) (s : Int32) (f : Int) : Prop := (rwe E (q + ((k : Nat) : Int)) = none ∧ f = -1) ∨ ∃ xs, rwe E (q + ((k : Nat) : Int)) = some (some xs) ∧ wd < ((xs.length : Nat) : Int) ∧ iI f = s
def EMBX (E : List (Option (List Int))) (q n wd : Int) (c : Int32) (f : Int) (c2 : Int32) : Prop := ((n < 0 ∨ 200 < n) ∧ f = -1 ∧ c2 = c) ∨ ((0 ≤ n ∧ n ≤ 200) ∧ ((emb E q wd n.toNat (iI f) ∧ c2 = c + iI n) ∨ ∃ (k : Nat) (s : Int32), ((k : Nat) : Int) < n ∧ emb E q wd k s ∧ EMS E q wd k s f ∧ c2 = c + iI (((k : Nat) : Int) + 1)))
def EMA (v : Nat → Int) (a : Nat → Nat → Int) (v2 : Nat → Int) (q n f : Int) : Prop := ∀ E, SHA v a E → EMBX E q n (v 31) (iI (v 43)) f (iI (v2 43))
def EM1 (v : Nat → Int) (a : Nat → Nat → Int) (q k s : Int) : Prop := ∀ E, SHA v a E → emb E q (v 31) k.toNat (iI s)
def EM2 (v : Nat → Int) (a : Nat → Nat → Int) (q k i s : Int) : Prop := ∃ s0, EM1 v a q k s0 ∧ iI s = bcs (iI s0) (mpr i.toNat (fun j => a 35 (200 * (q + k) + ((j : Nat) : Int)).toNat))
section EMBS
variable {v v1 v2 : Nat → Int} {a : Nat → Nat → Int} {E : List (Option (List Int))} {q n f f1 f2 wd k i z x y s1 s2 : Int} {c c1 c2 s t : Int32} {xs : List Int}
theorem bcs_snoc : ∀ (xs : List Int) (s : Int32) (x : Int), bcs s (xs ++ [x]) = bcs s xs + bcn (iI x) := by
  intro xs
  induction xs with
  | nil => intro s x; rfl
  | cons y xs ih => intro s x; exact ih (s + bcn (iI y)) x
theorem bcs_add : ∀ (xs : List Int) (s : Int32), bcs s xs = s + bcs 0 xs := by
  intro xs
  induction xs with
  | nil => intro s; exact (Int32.add_zero s).symm
  | cons y xs ih =>
    intro s
    show bcs (s + bcn (iI y)) xs = s + bcs (0 + bcn (iI y)) xs
    rw [ih (s + bcn (iI y)), ih (0 + bcn (iI y)), Int32.zero_add, Int32.add_assoc]
theorem emb.uni : ∀ (k : Nat) (s t : Int32), emb E q wd k s → emb E q wd k t → s = t := by
  intro k
  induction k with
  | zero => intro s t h h2; exact h.trans h2.symm
  | succ k ih =>
    intro s t h h2
    obtain ⟨s0, a1, a2⟩ := h
    obtain ⟨t0, b1, b2⟩ := h2
    have e := ih s0 t0 a1 b1
    rcases a2 with ⟨e1, e2⟩ | ⟨xs, e1, _, e2⟩ <;> rcases b2 with ⟨d1, d2⟩ | ⟨ys, d1, _, d2⟩
    · rw [e2, d2, e]
    · rw [e1] at d1; cases d1
    · rw [e1] at d1; cases d1
    · rw [e1] at d1; cases d1
      rw [e2, d2, e]
theorem emb.less {k m : Nat} (hm : k < m) : ∀ s, emb E q wd m s → rwe E (q + ((k : Nat) : Int)) = some none ∨ ∃ xs, rwe E (q + ((k : Nat) : Int)) = some (some xs) ∧ ((xs.length : Nat) : Int) ≤ wd := by
  induction m with
  | zero => omega
  | succ m ih =>
    intro s h
    obtain ⟨s0, a1, a2⟩ := h
    by_cases c0 : k = m
    · subst c0
      rcases a2 with ⟨e1, _⟩ | ⟨xs, e1, e2, _⟩
      · exact Or.inl e1
      · exact Or.inr ⟨xs, e1, e2⟩
    · exact ih (by omega) s0 a1
theorem emb.stop {k m : Nat} (h1 : EMS E q wd k s f) (h2 : emb E q wd m t) (hm : k < m) : False := by
  rcases h1 with ⟨e, _⟩ | ⟨xs, e, e2, _⟩ <;> rcases emb.less hm t h2 with d | ⟨ys, d, d2⟩
  · rw [e] at d; cases d
  · rw [e] at d; cases d
  · rw [e] at d; cases d
  · rw [e] at d; cases d
    omega
theorem EMBX.uni (h : EMBX E q n wd c f1 c1) (h2 : EMBX E q n wd c f2 c2) : iI f1 = iI f2 ∧ c1 = c2 := by
  rcases h with ⟨e0, e1, e2⟩ | ⟨e0, ⟨e1, e2⟩ | ⟨k, s, e1, e2, e3, e4⟩⟩ <;> rcases h2 with ⟨d0, d1, d2⟩ | ⟨d0, ⟨d1, d2⟩ | ⟨m, t, d1, d2, d3, d4⟩⟩
  · exact ⟨by rw [e1, d1], e2.trans d2.symm⟩
  · omega
  · omega
  · omega
  · exact ⟨emb.uni _ _ _ e1 d1, e2.trans d2.symm⟩
  · exact (emb.stop d3 e1 (by omega)).elim
  · omega
  · exact (emb.stop e3 d1 (by omega)).elim
  · by_cases c0 : k = m
    · subst c0
      have es := emb.uni k s t e2 d2
      refine ⟨?_, e4.trans d4.symm⟩
      rcases e3 with ⟨g1, g2⟩ | ⟨xs, g1, _, g2⟩ <;> rcases d3 with ⟨b1, b2⟩ | ⟨ys, b1, _, b2⟩
      · rw [g2, b2]
      · rw [g1] at b1; cases b1
      · rw [g1] at b1; cases b1
      · rw [g2, b2, es]
    · by_cases c3 : k < m
      · exact (emb.stop e3 d2 c3).elim
      · exact (emb.stop d3 e2 (by omega)).elim
theorem EM1.zero (hk : k = 0) (hs : s1 = 0) : EM1 v a q k s1 := fun E hE => by
  rw [hk, hs]
  rfl
theorem EM1.go (h : EM1 v a q k s1) (hi : i = 0) : EM2 v a q k i s1 := ⟨s1, h, by rw [hi]; rfl⟩
theorem EM2.step (h : EM2 v a q k i s1) (hi : 0 ≤ i) (hx : x = a 35 (200 * (q + k) + i).toNat) (hz : bcn (iI x) = iI z) (hy : iI (s1 + z) = iI y) : EM2 v a q k (i + 1) y := by
  obtain ⟨s0, g1, g2⟩ := h
  refine ⟨s0, g1, ?_⟩
  rw [show (i + 1).toNat = i.toNat + 1 by omega]
  have e : mpr (i.toNat + 1) (fun j => a 35 (200 * (q + k) + ((j : Nat) : Int)).toNat) = mpr i.toNat (fun j => a 35 (200 * (q + k) + ((j : Nat) : Int)).toNat) ++ [a 35 (200 * (q + k) + ((i.toNat : Nat) : Int)).toNat] := by
    unfold mpr
    rw [List.range_succ, List.map_append]
    rfl
  have ea : iI (s1 + z) = iI s1 + iI z := Int32.ofInt_add s1 z
  rw [e, bcs_snoc, ← g2, ← hy, ea, show ((i.toNat : Nat) : Int) = i by omega, ← hx, hz]
theorem EM2.fin (h : EM2 v a q k i s1) (hk : 0 ≤ k) (h0 : 0 ≤ q + k ∧ q + k < v 36) (hw : a 34 (q + k).toNat ≤ v 31) (hi : (i = 0 ∧ a 34 (q + k).toNat ≤ 0) ∨ i = a 34 (q + k).toNat) : EM1 v a q (k + 1) s1 := fun E hE => by
  obtain ⟨s0, g1, g2⟩ := h
  rw [show (k + 1).toNat = k.toNat + 1 by omega]
  refine ⟨iI s0, g1 E hE, ?_⟩
  rw [show q + ((k.toNat : Nat) : Int) = q + k by omega]
  by_cases c0 : a 34 (q + k).toNat < 0
  · refine Or.inl ⟨hE.lack h0.1 h0.2 c0, ?_⟩
    rw [g2, show i.toNat = 0 by omega]
    rfl
  · obtain ⟨xs, e1, e2, e3⟩ := hE.have_ h0.1 h0.2 (by omega)
    refine Or.inr ⟨xs, e1, by omega, ?_⟩
    rw [g2]
    congr 1
    refine List.ext_getElem? (fun j => ?_)
    by_cases cj : j < xs.length
    · have lt : j < (mpr i.toNat (fun j => a 35 (200 * (q + k) + ((j : Nat) : Int)).toNat)).length := by rw [mpr_len]; omega
      rw [gd0_lt cj]
      have g := List.getElem?_eq_getElem lt
      rw [g]
      obtain ⟨_, m2⟩ := mpr_at g
      rw [m2, ← e3 j cj, show (200 * (q + k) + ((j : Nat) : Int)).toNat = 200 * (q + k).toNat + j by omega]
    · have l1 : (mpr i.toNat (fun j => a 35 (200 * (q + k) + ((j : Nat) : Int)).toNat)).length ≤ j := by
        rw [mpr_len]
        omega
      rw [List.getElem?_eq_none l1, List.getElem?_eq_none (show xs.length ≤ j by omega)]
theorem EMA.bad (hn : n < 0 ∨ 200 < n) (hf : f = -1) (h43 : v2 43 = v 43) : EMA v a v2 q n f := fun E hE => Or.inl ⟨hn, hf, by rw [h43]⟩
theorem EMA.ok (h : EM1 v a q k s1) (hk : k = n) (hn : 0 ≤ n ∧ n ≤ 200) (hf : f = s1) (hc : iI (v2 43) = iI (v 43) + iI k) : EMA v a v2 q n f := fun E hE => by
  have g := h E hE
  rw [hk, ← hf] at g
  rw [hk] at hc
  exact Or.inr ⟨hn, Or.inl ⟨g, hc⟩⟩
theorem EMA.stop (h : EM1 v a q k s1) (hk : 0 ≤ k ∧ k < n) (hn : n ≤ 200) (hc : iI (v2 43) = iI (v 43) + iI (k + 1)) (hx : (¬ (0 ≤ q + k ∧ q + k < v 36) ∧ f = -1) ∨ ((0 ≤ q + k ∧ q + k < v 36) ∧ v 31 < a 34 (q + k).toNat ∧ f = s1)) (h31 : 1 ≤ v 31) : EMA v a v2 q n f := fun E hE => by
  refine Or.inr ⟨⟨by omega, hn⟩, Or.inr ⟨k.toNat, iI s1, by omega, h E hE, ?_, by rw [hc, show ((k.toNat : Nat) : Int) = k by omega]⟩⟩
  unfold EMS
  rw [show q + ((k.toNat : Nat) : Int) = q + k by omega]
  rcases hx with ⟨e1, e2⟩ | ⟨e1, e2, e3⟩
  · exact Or.inl ⟨hE.off e1, e2⟩
  · obtain ⟨xs, d1, d2, _⟩ := hE.have_ e1.1 e1.2 (by omega)
    exact Or.inr ⟨xs, d1, by omega, by rw [e3]⟩
theorem cnt_s {c0 w0 w1 k z : Int} (h : iI w0 = iI c0 + iI k) (e : iI (w0 + 1) = iI z) (h2 : w1 = z) : iI w1 = iI c0 + iI (k + 1) := by
  refine hv2 (show iI (w0 + 1) = iI w0 + iI 1 from Int32.ofInt_add w0 1) (show iI (k + 1) = iI k + iI 1 from Int32.ofInt_add k 1) (fun e1 e2 => ?_)
  rw [h2, ← e, e1, h, e2, Int32.add_assoc]
theorem cnt_0 {c0 k : Int} (hk : k = 0) : iI c0 = iI c0 + iI k := by
  rw [hk]
  exact (Int32.add_zero _).symm
end EMBS
set_option maxHeartbeats 4000000 in
set_option maxRecDepth 100000 in
theorem N2_emboss {l : Launch} {G : GT} {h0 : Nat} {ad ln : Nat → Nat} {v : Nat → Int} {a : Nat → Nat → Int}  {q n1 : Int} (hB : BX v a) (hq : -2147483648 ≤ q ∧ q ≤ 2147483647) (hn1 : -2147483648 ≤ n1 ∧ n1 ≤ 2147483647) : Mm l G yX12_emboss cX12_emboss 9 (some .int) 1 [.int (iI q), .int (iI n1)] h0 ad ln v a 0 0 (fun r v2 a2 => ∃ f : Int, r = some (.int (iI f)) ∧ fr [0, 1, 43] [] v a v2 a2 ∧ BX v2 a2 ∧ (EMA v a v2 q n1 f)) := by
  refine Mm.mk (by decide) (Nat.le_of_ble_eq_true rfl) ?_
  intro p e s m args below meth c A C
  refine hv2 (show 0 ≤ v 36 ∧ v 36 ≤ 200 from hB.1 36) (show fr [0, 1, 43] [] v a v a from fr.refl) (fun r36 fp0 => ?_)
  refine m_iload_n (j := 2) C dX12_emboss_0 rfl ?_
  refine m_sipush (z := 200) C dX12_emboss_1 (by decide) ?_
  refine m_icmp_le (tgt := 14) C ⟨by omega, by omega⟩ ⟨by decide, by decide⟩ dX12_emboss_4 (by decide) (fun c1 => ?_) (fun c1 => ?_)
  · refine m_iload_n (j := 2) C dX12_emboss_14 rfl ?_
    refine m_if_ge (tgt := 24) C ⟨by omega, by omega⟩ dX12_emboss_15 (by decide) (fun c2 => ?_) (fun c2 => ?_)
    · refine m_iconst C dX12_emboss_24 ?_
      refine m_istore_n (lv2 := [(3, .int (iI 0)), (0, .ref h0), (1, .int (iI q)), (2, .int (iI n1))]) C dX12_emboss_25 (by decide) rfl ?_
      refine m_iconst C dX12_emboss_26 ?_
      refine m_istore (lv2 := [(4, .int (iI 0)), (3, .int (iI 0)), (0, .ref h0), (1, .int (iI q)), (2, .int (iI n1))]) C dX12_emboss_27 (by decide) rfl ?_
      have Lp1 : ∀ (nn : Nat) (s1 k : Int) (vb1 : Nat → Int) (ab1 : Nat → Nat → Int), 201 - k < (nn : Int) → BX vb1 ab1 → fr [0, 1, 43] [] v a vb1 ab1 → (-2147483648 ≤ s1 ∧ s1 ≤ 2147483647) → (0 ≤ k ∧ k ≤ n1) → (iI (vb1 43) = iI (v 43) + iI k) → (EM1 v a q k s1) → mw p l e (rmq 1 0 0) s m args below meth c G A 9 (MQ below (Qm G A (fun rq Lq Eq => ∃ (vq : Nat → Int) (aq : Nat → Nat → Int), mI G h0 ad ln vq aq Lq Eq ∧ (fun r v2 a2 => ∃ f : Int, r = some (.int (iI f)) ∧ fr [0, 1, 43] [] v a v2 a2 ∧ BX v2 a2 ∧ (EMA v a v2 q n1 f)) rq vq aq)) args s 0 0 A) h0 ad ln vb1 ab1 0 0 29 [(4, .int (iI k)), (3, .int (iI s1)), (0, .ref h0), (1, .int (iI q)), (2, .int (iI n1))] [] := by
        intro nn
        induction nn with
        | zero =>
          intro s1 k vb1 ab1 hm bxb1 fpb1 hs hk h43 hE
          exact absurd hm (by omega)
        | succ nn ih1 =>
          intro s1 k vb1 ab1 hm bxb1 fpb1 hs hk h43 hE
          refine m_iload (j := 0) C dX12_emboss_29 rfl ?_
          refine m_iload_n (j := 4) C dX12_emboss_31 rfl ?_
          refine m_icmp_ge (tgt := 142) C ⟨by omega, by omega⟩ ⟨by omega, by omega⟩ dX12_emboss_32 (by decide) (fun c3 => ?_) (fun c3 => ?_)
          · refine m_aload_n (j := 2) C dX12_emboss_142 rfl ?_
            refine m_iload_n (j := 1) C dX12_emboss_143 rfl ?_
            refine m_call (mc2 := 0) (ms2 := 0) (As := [.int (iI s1)]) (rest := []) C (B_fine (x := s1) bxb1 (by show -2147483648 ≤ s1 ∧ s1 ≤ 2147483647; omega)) dX12_emboss_144 kV_X12_158 rfl ck_13 rfl (Nat.le_of_ble_eq_true rfl) ⟨Nat.le_of_ble_eq_true rfl, Nat.le_of_ble_eq_true rfl⟩ ⟨Nat.le_of_ble_eq_true rfl, Nat.le_of_ble_eq_true rfl⟩ (fun rh1 vh1 ah1 h1 => ?_)
            obtain ⟨f1, rfl, fn1, bn1, ex1⟩ := h1
            refine hv2 (fpb1.call fn1 rfl rfl) (show f1 = s1 from ex1) (fun fq1 gf1 => ?_)
            refine m_st (st2 := [.int (iI f1)]) rfl ?_
            refine hv2 (show (-2147483648) ≤ vh1 43 ∧ vh1 43 ≤ 2147483647 from bn1.1 43) (show vh1 43 = vb1 43 from fn1.1 43 rfl) (fun rv1 ve1 => ?_)
            exact m_iret C dX12_emboss_147 rfl (Nat.le_of_ble_eq_true rfl) (Nat.le_of_ble_eq_true rfl) ⟨f1, rfl, fq1, bn1, (EMA.ok hE (by omega) ⟨by omega, by omega⟩ (by omega) (by rw [fn1.1 43 rfl]; exact h43))⟩
          · refine m_iload_n (j := 3) C dX12_emboss_35 rfl ?_
            refine m_i2l (w := lI q) C dX12_emboss_36 (lI_of ⟨by omega, by omega⟩) ?_
            refine m_iload (j := 0) C dX12_emboss_37 rfl ?_
            refine m_i2l (w := lI k) C dX12_emboss_39 (lI_of ⟨by omega, by omega⟩) ?_
            refine m_ladd (w := lI (q + k)) C dX12_emboss_40 (lI_add _ _) ?_
            refine m_lstore (lv2 := [(5, .long (lI (q + k))), (4, .int (iI k)), (3, .int (iI s1)), (0, .ref h0), (1, .int (iI q)), (2, .int (iI n1))]) C dX12_emboss_41 (by decide) rfl ?_
            refine m_aload_n (j := 3) C dX12_emboss_43 rfl ?_
            refine m_dup C dX12_emboss_44 rfl ?_
            have rv2 : (-2147483648) ≤ vb1 43 ∧ vb1 43 ≤ 2147483647 := bxb1.1 43
            refine m_get (k := 43) C dX12_emboss_45 w6_102 (by decide) rfl ?_
            refine m_iconst C dX12_emboss_48 ?_
            refine m_iadd C dX12_emboss_49 ?_
            obtain ⟨zz1, hzz1, ezz1⟩ := iI_of (iI ((vb1 43) + 1))
            refine m_st (st2 := [.int (iI zz1), .ref h0]) (by rw [ezz1]) ?_
            refine m_put (k := 43) (z := zz1) C dX12_emboss_50 w6_102 (by decide) rfl rfl rfl ?_
            refine hv2 (show BX (va_up vb1 43 zz1) ab1 from bxb1.put (k := 43) (z := zz1) (show (-2147483648) ≤ zz1 ∧ zz1 ≤ 2147483647 by omega)) (fpb1.put (k := 43) (z := zz1) rfl) (fun bq1 fq2 => ?_)
            refine m_lload (j := 0) C dX12_emboss_53 rfl ?_
            refine m_lconst (w := lI 0) C dX12_emboss_55 rfl ?_
            obtain ⟨lc1, hlc1, elc1⟩ := lcmp_c (x := (q + k)) (y := 0) ⟨by omega, by omega⟩ ⟨by omega, by omega⟩
            refine m_lcmp (w := iI lc1) C dX12_emboss_56 elc1 ?_
            refine m_if_lt (tgt := 71) C ⟨by omega, by omega⟩ dX12_emboss_57 (by decide) (fun c4 => ?_) (fun c4 => ?_)
            · refine m_aload_n (j := 3) C dX12_emboss_71 rfl ?_
              refine m_iconst C dX12_emboss_72 ?_
              refine m_call (mc2 := 0) (ms2 := 0) (As := [.int (iI 2)]) (rest := []) C (B_bad (x := 2) bq1 (by show -2147483648 ≤ (2 : Int) ∧ (2 : Int) ≤ 2147483647; omega)) dX12_emboss_73 kV_X12_154 rfl ck_13 rfl (Nat.le_of_ble_eq_true rfl) ⟨Nat.le_of_ble_eq_true rfl, Nat.le_of_ble_eq_true rfl⟩ ⟨Nat.le_of_ble_eq_true rfl, Nat.le_of_ble_eq_true rfl⟩ (fun rh2 vh2 ah2 h2 => ?_)
              obtain ⟨f2, rfl, fn2, bn2, ex2⟩ := h2
              refine hv2 (fq2.call fn2 rfl rfl) (show f2 = -1 from ex2) (fun fq3 gf2 => ?_)
              refine m_st (st2 := [.int (iI f2)]) rfl ?_
              refine hv2 (show (-2147483648) ≤ vh2 43 ∧ vh2 43 ≤ 2147483647 from bn2.1 43) (show vh2 43 = zz1 from fn2.1 43 rfl) (fun rv3 ve2 => ?_)
              exact m_iret C dX12_emboss_76 rfl (Nat.le_of_ble_eq_true rfl) (Nat.le_of_ble_eq_true rfl) ⟨f2, rfl, fq3, bn2, (EMA.stop hE ⟨by omega, by omega⟩ (by omega) (cnt_s h43 ezz1 ((fn2.1 43 rfl).trans (va_up_self _ _ _))) (by omega) (hB.1 31).1)⟩
            · refine m_lload (j := 0) C dX12_emboss_60 rfl ?_
              refine m_aload_n (j := 3) C dX12_emboss_62 rfl ?_
              refine hv2 (show 0 ≤ vb1 36 ∧ vb1 36 ≤ 200 from bq1.1 36) (show vb1 36 = v 36 from fpb1.1 36 rfl) (fun rv4 ve3 => ?_)
              refine m_get (k := 36) C dX12_emboss_63 w6_95 (by decide) rfl ?_
              refine m_st (st2 := [.int (iI (v 36)), .long (lI (q + k))]) (congrArg (fun z => Value.int (iI z) :: [.long (lI (q + k))]) (fq2.1 36 rfl)) ?_
              refine m_i2l (w := lI (v 36)) C dX12_emboss_66 (lI_of ⟨by omega, by omega⟩) ?_
              obtain ⟨lc2, hlc2, elc2⟩ := lcmp_c (x := (q + k)) (y := (v 36)) ⟨by omega, by omega⟩ ⟨by omega, by omega⟩
              refine m_lcmp (w := iI lc2) C dX12_emboss_67 elc2 ?_
              refine m_if_lt (tgt := 77) C ⟨by omega, by omega⟩ dX12_emboss_68 (by decide) (fun c5 => ?_) (fun c5 => ?_)
              · refine m_aload_n (j := 3) C dX12_emboss_77 rfl ?_
                refine m_geta (k := 34) C dX12_emboss_78 w6_93 (by decide) rfl ?_
                refine m_lload (j := 0) C dX12_emboss_81 rfl ?_
                refine m_l2i (w := iI (q + k)) C dX12_emboss_83 (lI_i _) ?_
                refine m_ald (k := 34) C dX12_emboss_84 rfl rfl (by decide) (by omega) (by show _ < ((_ : Nat) : Int); simp only [mlen]; omega) (by decide) ?_
                refine hv2 (show (-1) ≤ ab1 34 (q + k).toNat ∧ ab1 34 (q + k).toNat ≤ 200 from bq1.2 34 ((q + k).toNat)) (show ab1 34 ((q + k).toNat) = a 34 ((q + k).toNat) from congrFun (fpb1.2 34 rfl) ((q + k).toNat)) (fun ra1 ae1 => ?_)
                refine m_st (st2 := [.int (iI (a 34 (q + k).toNat))]) (congrArg (fun z => Value.int (iI z) :: []) (congrFun (fq2.2 34 rfl) ((q + k).toNat))) ?_
                refine m_istore (lv2 := [(7, .int (iI (a 34 (q + k).toNat))), (5, .long (lI (q + k))), (4, .int (iI k)), (3, .int (iI s1)), (0, .ref h0), (1, .int (iI q)), (2, .int (iI n1))]) C dX12_emboss_85 (by decide) rfl ?_
                refine m_iload (j := 0) C dX12_emboss_87 rfl ?_
                refine m_aload_n (j := 4) C dX12_emboss_89 rfl ?_
                refine hv2 (show 1 ≤ vb1 31 ∧ vb1 31 ≤ 100 from bq1.1 31) (show vb1 31 = v 31 from fpb1.1 31 rfl) (fun rv5 ve4 => ?_)
                refine m_get (k := 31) C dX12_emboss_90 w6_90 (by decide) rfl ?_
                refine m_st (st2 := [.int (iI (v 31)), .int (iI (a 34 (q + k).toNat))]) (congrArg (fun z => Value.int (iI z) :: [.int (iI (a 34 (q + k).toNat))]) (fq2.1 31 rfl)) ?_
                refine m_icmp_le (tgt := 99) C ⟨by omega, by omega⟩ (r32_c (lo := 1) (hi := 100) (Int.le_trans rv5.1 (Int.le_of_eq ve4)) (Int.le_trans (Int.le_of_eq ve4.symm) rv5.2) (by decide) (by decide)) dX12_emboss_93 (by decide) (fun c6 => ?_) (fun c6 => ?_)
                · refine m_iconst C dX12_emboss_99 ?_
                  refine m_istore (lv2 := [(8, .int (iI 0)), (7, .int (iI (a 34 (q + k).toNat))), (5, .long (lI (q + k))), (4, .int (iI k)), (3, .int (iI s1)), (0, .ref h0), (1, .int (iI q)), (2, .int (iI n1))]) C dX12_emboss_100 (by decide) rfl ?_
                  have Lp2 : ∀ (nn : Nat) (s2 i1 : Int) (vb2 : Nat → Int) (ab2 : Nat → Nat → Int), 201 - i1 < (nn : Int) → BX vb2 ab2 → fr [0, 1, 43] [] v a vb2 ab2 → (-2147483648 ≤ s2 ∧ s2 ≤ 2147483647) → (0 ≤ i1 ∧ i1 ≤ 200 ∧ (i1 = 0 ∨ i1 ≤ a 34 (q + k).toNat)) → (iI (vb2 43) = iI (v 43) + iI (k + 1)) → (EM2 v a q k i1 s2) → mw p l e (rmq 1 0 0) s m args below meth c G A 9 (MQ below (Qm G A (fun rq Lq Eq => ∃ (vq : Nat → Int) (aq : Nat → Nat → Int), mI G h0 ad ln vq aq Lq Eq ∧ (fun r v2 a2 => ∃ f : Int, r = some (.int (iI f)) ∧ fr [0, 1, 43] [] v a v2 a2 ∧ BX v2 a2 ∧ (EMA v a v2 q n1 f)) rq vq aq)) args s 0 0 A) h0 ad ln vb2 ab2 0 0 102 [(8, .int (iI i1)), (3, .int (iI s2)), (7, .int (iI (a 34 (q + k).toNat))), (5, .long (lI (q + k))), (4, .int (iI k)), (0, .ref h0), (1, .int (iI q)), (2, .int (iI n1))] [] := by
                    intro nn
                    induction nn with
                    | zero =>
                      intro s2 i1 vb2 ab2 hm bxb2 fpb2 hs2 hi h43b hD
                      exact absurd hm (by omega)
                    | succ nn ih2 =>
                      intro s2 i1 vb2 ab2 hm bxb2 fpb2 hs2 hi h43b hD
                      refine m_iload (j := 0) C dX12_emboss_102 rfl ?_
                      refine m_iload (j := 2) C dX12_emboss_104 rfl ?_
                      refine m_icmp_ge (tgt := 136) C (r32_c (lo := 0) (hi := 200) hi.1 hi.2.1 (by decide) (by decide)) ⟨by omega, by omega⟩ dX12_emboss_106 (by decide) (fun c7 => ?_) (fun c7 => ?_)
                      · refine m_iinc (z := k) (j := 4) (lv2 := [(4, .int (iI (k + 1))), (8, .int (iI i1)), (3, .int (iI s2)), (7, .int (iI (a 34 (q + k).toNat))), (5, .long (lI (q + k))), (0, .ref h0), (1, .int (iI q)), (2, .int (iI n1))]) C dX12_emboss_136 rfl (by decide) rfl ?_
                        refine m_goto (tgt := 29) C dX12_emboss_139 (by decide) ?_
                        have rv6 : (-2147483648) ≤ vb2 43 ∧ vb2 43 ≤ 2147483647 := bxb2.1 43
                        refine m_lv (lv2 := [(4, .int (iI (k + 1))), (3, .int (iI s2)), (0, .ref h0), (1, .int (iI q)), (2, .int (iI n1))]) [0, 2, 5, 6, 7] rfl ?_
                        exact ih1  s2 (k + 1) _ _ (by omega) bxb2 fpb2 (by omega) (by omega) h43b (EM2.fin hD (by omega) ⟨by omega, by omega⟩ (by omega) (by omega))
                      · refine m_iload_n (j := 1) C dX12_emboss_109 rfl ?_
                        refine m_aload_n (j := 5) C dX12_emboss_110 rfl ?_
                        refine m_geta (k := 35) C dX12_emboss_111 w6_94 (by decide) rfl ?_
                        refine m_sipush (z := 200) C dX12_emboss_114 (by decide) ?_
                        refine m_lload (j := 3) C dX12_emboss_117 rfl ?_
                        refine m_l2i (w := iI (q + k)) C dX12_emboss_119 (lI_i _) ?_
                        refine m_imul C dX12_emboss_120 ?_
                        refine m_iload (j := 0) C dX12_emboss_121 rfl ?_
                        refine m_iadd C dX12_emboss_123 ?_
                        refine m_ald (k := 35) C dX12_emboss_124 rfl rfl (by decide) (by omega) (by show _ < ((_ : Nat) : Int); simp only [mlen]; omega) (by decide) ?_
                        refine hv2 (show (-2147483648) ≤ ab2 35 ((200 * (q + k)) + i1).toNat ∧ ab2 35 ((200 * (q + k)) + i1).toNat ≤ 2147483647 from bxb2.2 35 (((200 * (q + k)) + i1).toNat)) (show ab2 35 (((200 * (q + k)) + i1).toNat) = a 35 (((200 * (q + k)) + i1).toNat) from congrFun (fpb2.2 35 rfl) (((200 * (q + k)) + i1).toNat)) (fun ra2 ae2 => ?_)
                        refine m_st (st2 := [.int (iI (a 35 ((200 * (q + k)) + i1).toNat)), .int (iI s2)]) (congrArg (fun z => Value.int (iI z) :: [.int (iI s2)]) (congrFun (fpb2.2 35 rfl) (((200 * (q + k)) + i1).toNat))) ?_
                        refine m_callS (As := [.int (iI (a 35 ((200 * (q + k)) + i1).toNat))]) (rest := [.int (iI s2)]) C (fun L E => s_bitCount (iI (a 35 ((200 * (q + k)) + i1).toNat))) dX12_emboss_125 kS_X12_309 rfl rfl (Nat.le_of_ble_eq_true rfl) ⟨Nat.le_of_ble_eq_true rfl, Nat.le_of_ble_eq_true rfl⟩ ⟨Nat.le_of_ble_eq_true rfl, Nat.le_of_ble_eq_true rfl⟩ ?_
                        obtain ⟨zz2, hzz2, ezz2⟩ := iI_of (bcn (iI (a 35 ((200 * (q + k)) + i1).toNat)))
                        · refine m_st (st2 := [.int (iI zz2), .int (iI s2)]) (by rw [ezz2]) ?_
                          refine m_iadd C dX12_emboss_128 ?_
                          obtain ⟨zz3, hzz3, ezz3⟩ := iI_of (iI (s2 + zz2))
                          refine m_st (st2 := [.int (iI zz3)]) (by rw [ezz3]) ?_
                          refine m_istore_n (lv2 := [(3, .int (iI zz3)), (8, .int (iI i1)), (7, .int (iI (a 34 (q + k).toNat))), (5, .long (lI (q + k))), (4, .int (iI k)), (0, .ref h0), (1, .int (iI q)), (2, .int (iI n1))]) C dX12_emboss_129 (by decide) rfl ?_
                          refine m_iinc (z := i1) (j := 1) (lv2 := [(8, .int (iI (i1 + 1))), (3, .int (iI zz3)), (7, .int (iI (a 34 (q + k).toNat))), (5, .long (lI (q + k))), (4, .int (iI k)), (0, .ref h0), (1, .int (iI q)), (2, .int (iI n1))]) C dX12_emboss_130 rfl (by decide) rfl ?_
                          refine m_goto (tgt := 102) C dX12_emboss_133 (by decide) ?_
                          have rv7 : (-2147483648) ≤ vb2 43 ∧ vb2 43 ≤ 2147483647 := bxb2.1 43
                          refine m_lv (lv2 := [(8, .int (iI (i1 + 1))), (3, .int (iI zz3)), (7, .int (iI (a 34 (q + k).toNat))), (5, .long (lI (q + k))), (4, .int (iI k)), (0, .ref h0), (1, .int (iI q)), (2, .int (iI n1))]) [0, 1, 2, 3, 4, 5, 6, 7] rfl ?_
                          exact ih2  zz3 (i1 + 1) _ _ (by omega) bxb2 fpb2 (by omega) (by omega) h43b (EM2.step hD (by omega) rfl ezz2 ezz3)
                  refine m_lv (lv2 := [(8, .int (iI 0)), (3, .int (iI s1)), (7, .int (iI (a 34 (q + k).toNat))), (5, .long (lI (q + k))), (4, .int (iI k)), (0, .ref h0), (1, .int (iI q)), (2, .int (iI n1))]) [0, 4, 1, 2, 3, 5, 6, 7] rfl ?_
                  exact Lp2 202 s1 0 _ _ (by omega) bq1 fq2 (by omega) (by omega) (cnt_s h43 ezz1 (va_up_self _ _ _)) (EM1.go hE rfl)
                · refine m_goto (tgt := 142) C dX12_emboss_96 (by decide) ?_
                  refine m_aload_n (j := 4) C dX12_emboss_142 rfl ?_
                  refine m_iload_n (j := 3) C dX12_emboss_143 rfl ?_
                  refine m_call (mc2 := 0) (ms2 := 0) (As := [.int (iI s1)]) (rest := []) C (B_fine (x := s1) bq1 (by show -2147483648 ≤ s1 ∧ s1 ≤ 2147483647; omega)) dX12_emboss_144 kV_X12_158 rfl ck_13 rfl (Nat.le_of_ble_eq_true rfl) ⟨Nat.le_of_ble_eq_true rfl, Nat.le_of_ble_eq_true rfl⟩ ⟨Nat.le_of_ble_eq_true rfl, Nat.le_of_ble_eq_true rfl⟩ (fun rh4 vh4 ah4 h4 => ?_)
                  obtain ⟨f3, rfl, fn3, bn3, ex3⟩ := h4
                  refine hv2 (fq2.call fn3 rfl rfl) (show f3 = s1 from ex3) (fun fq4 gf3 => ?_)
                  refine m_st (st2 := [.int (iI f3)]) rfl ?_
                  refine hv2 (show (-2147483648) ≤ vh4 43 ∧ vh4 43 ≤ 2147483647 from bn3.1 43) (show vh4 43 = zz1 from fn3.1 43 rfl) (fun rv8 ve5 => ?_)
                  exact m_iret C dX12_emboss_147 rfl (Nat.le_of_ble_eq_true rfl) (Nat.le_of_ble_eq_true rfl) ⟨f3, rfl, fq4, bn3, (EMA.stop hE ⟨by omega, by omega⟩ (by omega) (cnt_s h43 ezz1 ((fn3.1 43 rfl).trans (va_up_self _ _ _))) (by omega) (hB.1 31).1)⟩
              · refine m_aload_n (j := 3) C dX12_emboss_71 rfl ?_
                refine m_iconst C dX12_emboss_72 ?_
                refine m_call (mc2 := 0) (ms2 := 0) (As := [.int (iI 2)]) (rest := []) C (B_bad (x := 2) bq1 (by show -2147483648 ≤ (2 : Int) ∧ (2 : Int) ≤ 2147483647; omega)) dX12_emboss_73 kV_X12_154 rfl ck_13 rfl (Nat.le_of_ble_eq_true rfl) ⟨Nat.le_of_ble_eq_true rfl, Nat.le_of_ble_eq_true rfl⟩ ⟨Nat.le_of_ble_eq_true rfl, Nat.le_of_ble_eq_true rfl⟩ (fun rh5 vh5 ah5 h5 => ?_)
                obtain ⟨f4, rfl, fn4, bn4, ex4⟩ := h5
                refine hv2 (fq2.call fn4 rfl rfl) (show f4 = -1 from ex4) (fun fq5 gf4 => ?_)
                refine m_st (st2 := [.int (iI f4)]) rfl ?_
                refine hv2 (show (-2147483648) ≤ vh5 43 ∧ vh5 43 ≤ 2147483647 from bn4.1 43) (show vh5 43 = zz1 from fn4.1 43 rfl) (fun rv9 ve6 => ?_)
                exact m_iret C dX12_emboss_76 rfl (Nat.le_of_ble_eq_true rfl) (Nat.le_of_ble_eq_true rfl) ⟨f4, rfl, fq5, bn4, (EMA.stop hE ⟨by omega, by omega⟩ (by omega) (cnt_s h43 ezz1 ((fn4.1 43 rfl).trans (va_up_self _ _ _))) (by omega) (hB.1 31).1)⟩
      have rv10 : (-2147483648) ≤ v 43 ∧ v 43 ≤ 2147483647 := hB.1 43
      refine m_lv (lv2 := [(4, .int (iI 0)), (3, .int (iI 0)), (0, .ref h0), (1, .int (iI q)), (2, .int (iI n1))]) [0, 1, 2, 3, 4] rfl ?_
      exact Lp1 202 0 0 _ _ (by omega) hB fp0 (by omega) (by omega) (cnt_0 rfl) (EM1.zero rfl rfl)
    · refine m_aload_n (j := 0) C dX12_emboss_18 rfl ?_
      refine m_iconst C dX12_emboss_19 ?_
      refine m_call (mc2 := 0) (ms2 := 0) (As := [.int (iI 5)]) (rest := []) C (B_bad (x := 5) hB (by show -2147483648 ≤ (5 : Int) ∧ (5 : Int) ≤ 2147483647; omega)) dX12_emboss_20 kV_X12_154 rfl ck_13 rfl (Nat.le_of_ble_eq_true rfl) ⟨Nat.le_of_ble_eq_true rfl, Nat.le_of_ble_eq_true rfl⟩ ⟨Nat.le_of_ble_eq_true rfl, Nat.le_of_ble_eq_true rfl⟩ (fun rh6 vh6 ah6 h6 => ?_)
      obtain ⟨f5, rfl, fn5, bn5, ex5⟩ := h6
      refine hv2 (fp0.call fn5 rfl rfl) (show f5 = -1 from ex5) (fun fq6 gf5 => ?_)
      refine m_st (st2 := [.int (iI f5)]) rfl ?_
      refine hv2 (show (-2147483648) ≤ vh6 43 ∧ vh6 43 ≤ 2147483647 from bn5.1 43) (show vh6 43 = v 43 from fn5.1 43 rfl) (fun rv11 ve7 => ?_)
      exact m_iret C dX12_emboss_23 rfl (Nat.le_of_ble_eq_true rfl) (Nat.le_of_ble_eq_true rfl) ⟨f5, rfl, fq6, bn5, (EMA.bad (by omega) (by omega) (fn5.1 43 rfl))⟩
  · refine m_aload_n (j := 0) C dX12_emboss_7 rfl ?_
    refine m_bipush (z := 6) C dX12_emboss_8 (by decide) ?_
    refine m_call (mc2 := 0) (ms2 := 0) (As := [.int (iI 6)]) (rest := []) C (B_bad (x := 6) hB (by show -2147483648 ≤ (6 : Int) ∧ (6 : Int) ≤ 2147483647; omega)) dX12_emboss_10 kV_X12_154 rfl ck_13 rfl (Nat.le_of_ble_eq_true rfl) ⟨Nat.le_of_ble_eq_true rfl, Nat.le_of_ble_eq_true rfl⟩ ⟨Nat.le_of_ble_eq_true rfl, Nat.le_of_ble_eq_true rfl⟩ (fun rh7 vh7 ah7 h7 => ?_)
    obtain ⟨f6, rfl, fn6, bn6, ex6⟩ := h7
    refine hv2 (fp0.call fn6 rfl rfl) (show f6 = -1 from ex6) (fun fq7 gf6 => ?_)
    refine m_st (st2 := [.int (iI f6)]) rfl ?_
    refine hv2 (show (-2147483648) ≤ vh7 43 ∧ vh7 43 ≤ 2147483647 from bn6.1 43) (show vh7 43 = v 43 from fn6.1 43 rfl) (fun rv12 ve8 => ?_)
    exact m_iret C dX12_emboss_13 rfl (Nat.le_of_ble_eq_true rfl) (Nat.le_of_ble_eq_true rfl) ⟨f6, rfl, fq7, bn6, (EMA.bad (by omega) (by omega) (fn6.1 43 rfl))⟩
end
section
def rol (d : Int) : Int := if 0 ≤ d then 4 else (-1 - d) % 4
def SMR (a : Nat → Nat → Int) (d : Int) : Prop := 0 ≤ d ∧ 97 ≤ a 14 (8 * d).toNat ∧ a 14 (8 * d).toNat ≤ 122
def rlt (a : Nat → Nat → Int) (d h : Int) : Nat → List Int
  | 0 => []
  | n + 1 => rlt a d h n ++ [a 14 (8 * d + ((n : Nat) : Int)).toNat - (if h = 1 ∧ n = 0 then 32 else 0)]
def rout (a : Nat → Nat → Int) (d h : Int) : List Int := if 0 ≤ d then rlt a d h (a 12 d.toNat).toNat else if rol d = 2 then [60] else if rol d = 3 then [62] else []
def ngp (d g : Int) : Int := if rol d = 2 then 1 else if rol d = 3 then 0 else g
def ngh (d : Int) : Int := if rol d = 0 then 1 else 0
def NZL (a : Nat → Nat → Int) (l : List Int) : Prop := ∀ (j : Nat) (d : Int), l[j]? = some d → (1 ≤ rlen a d ∧ rlen a d ≤ 4) ∧ ∀ k : Int, 0 ≤ k → k < rlen a d → dcl a d k ≠ 0
section RSEM
variable {a a1 a2 : Nat → Nat → Int} {l l0 l1 : List Int} {R R1 : Nat → Int} {s s1 s2 : Int × Int × Int × Int × Int} {o o1 o2 bs b1 b2 : List Int} {p q k x y d e g h f f1 f2 : Int} {m n : Nat} {c c1 c2 : Option Int}
end RSEM
end
section
section RRD1
variable {v v1 v2 : Nat → Int} {a a1 a2 : Nat → Nat → Int} {l : List Int} {R : Nat → Int} {w x u k g f q r b d e y : Int} {bs : List Int}
theorem HLD.tt (h : HLD a a2 q l) (hq : 0 ≤ q) (h0 : 6008 * q ≤ r) (h1 : r < 6008 * q + a2 47 q.toNat) : ∃ d, l[(r - 6008 * q).toNat]? = some d ∧ rent a a2 r d := by
  have e := h.1
  have lt : (r - 6008 * q).toNat < l.length := by omega
  have g := List.getElem?_eq_getElem lt
  refine ⟨_, g, ?_⟩
  have w := h.2.2 _ _ g
  rw [show 6008 * q + (((r - 6008 * q).toNat : Nat) : Int) = r by omega] at w
  exact w
end RRD1
section RRD2
variable {v v1 v2 v3 : Nat → Int} {a a1 a2 a3 : Nat → Nat → Int} {l0 l1 : List Int} {R : Nat → Int} {w x u k g g2 f q r b d e y z c pt p2 : Int} {bs : List Int}
theorem rent.r44 (hr : rent a a2 r d) : (0 ≤ d ∧ a2 44 r.toNat = d ∧ rol d = 4) ∨ (d < 0 ∧ a2 44 r.toNat = -1 - rol d ∧ 0 ≤ rol d ∧ rol d ≤ 3) := by
  by_cases c : 0 ≤ d
  · exact Or.inl ⟨c, (hr.1 c).1, if_pos c⟩
  · have e : rol d = (-1 - d) % 4 := if_neg c
    have h := (hr.2 (by omega)).1
    exact Or.inr ⟨by omega, by rw [e]; exact h, by omega, by omega⟩
theorem rlt_len : ∀ n : Nat, (rlt a d g n).length = n := by
  intro n
  induction n with
  | zero => rfl
  | succ n ih =>
    show (rlt a d g n ++ [_]).length = n + 1
    rw [len1, ih]
end RRD2
def SMX (a : Nat → Nat → Int) (w f : Int) : Prop := f = 1 ↔ (0 ≤ a 44 w.toNat ∧ 97 ≤ a 14 (8 * a 44 w.toNat).toNat ∧ a 14 (8 * a 44 w.toNat).toNat ≤ 122)
set_option maxHeartbeats 4000000 in
set_option maxRecDepth 100000 in
theorem E_isSmallRule {l : Launch} {G : GT} {h0 : Nat} {ad ln : Nat → Nat} {v : Nat → Int} {a : Nat → Nat → Int}  {w : Int} (hB : BX v a) (hr : 0 ≤ w ∧ w < 12016) (h44 : a 44 w.toNat < 6000) : Mm l G yX12_isSmallRule cX12_isSmallRule 2 (some .boolean) 1 [.int (iI w)] h0 ad ln v a 0 0 (fun r v2 a2 => ∃ f : Int, r = some (.int (iI f)) ∧ fr [] [] v a v2 a2 ∧ BX v2 a2 ∧ ((f = 0 ∨ f = 1) ∧ SMX a w f)) := by
  refine Mm.mk (by decide) (Nat.le_of_ble_eq_true rfl) ?_
  intro p e s m args below meth c A C
  have fp0 : fr [] [] v a v a := fr.refl
  refine m_aload_n (j := 0) C dX12_isSmallRule_0 rfl ?_
  refine m_geta (k := 44) C dX12_isSmallRule_1 w6_103 (by decide) rfl ?_
  refine m_iload_n (j := 1) C dX12_isSmallRule_4 rfl ?_
  refine m_ald (k := 44) C dX12_isSmallRule_5 rfl rfl (by decide) (by omega) (by show _ < ((_ : Nat) : Int); simp only [mlen]; omega) (by decide) ?_
  have ra1 : (-4) ≤ a 44 w.toNat ∧ a 44 w.toNat ≤ 5999 := hB.2 44 (w.toNat)
  refine m_if_lt (tgt := 33) C (r32_c (lo := (-4)) (hi := 5999) ra1.1 ra1.2 (by decide) (by decide)) dX12_isSmallRule_6 (by decide) (fun c1 => ?_) (fun c1 => ?_)
  · refine m_iconst C dX12_isSmallRule_33 ?_
    exact m_zret C dX12_isSmallRule_34 rfl (Or.inl rfl) (Nat.le_of_ble_eq_true rfl) (Nat.le_of_ble_eq_true rfl) ⟨0, rfl, fp0, hB, ⟨by omega, by unfold SMX; omega⟩⟩
  · refine m_aload_n (j := 0) C dX12_isSmallRule_9 rfl ?_
    refine m_geta (k := 14) C dX12_isSmallRule_10 w6_73 (by decide) rfl ?_
    refine m_bipush (z := 8) C dX12_isSmallRule_13 (by decide) ?_
    refine m_aload_n (j := 0) C dX12_isSmallRule_15 rfl ?_
    refine m_geta (k := 44) C dX12_isSmallRule_16 w6_103 (by decide) rfl ?_
    refine m_iload_n (j := 1) C dX12_isSmallRule_19 rfl ?_
    refine m_ald (k := 44) C dX12_isSmallRule_20 rfl rfl (by decide) (by omega) (by show _ < ((_ : Nat) : Int); simp only [mlen]; omega) (by decide) ?_
    refine m_imul C dX12_isSmallRule_21 ?_
    refine m_ald (k := 14) C dX12_isSmallRule_22 rfl rfl (by decide) (by omega) (by show _ < ((_ : Nat) : Int); simp only [mlen]; omega) (by decide) ?_
    have ra2 : 0 ≤ a 14 (8 * (a 44 w.toNat)).toNat ∧ a 14 (8 * (a 44 w.toNat)).toNat ≤ 125 := hB.2 14 ((8 * (a 44 w.toNat)).toNat)
    refine m_callS (As := [.int (iI (a 14 (8 * (a 44 w.toNat)).toNat))]) (rest := []) C (fun L E => s_isSmall (iI (a 14 (8 * (a 44 w.toNat)).toNat))) dX12_isSmallRule_23 kS_X12_208 rfl rfl (Nat.le_of_ble_eq_true rfl) ⟨Nat.le_of_ble_eq_true rfl, Nat.le_of_ble_eq_true rfl⟩ ⟨Nat.le_of_ble_eq_true rfl, Nat.le_of_ble_eq_true rfl⟩ ?_
    rcases inn_c (x := a 14 (8 * (a 44 w.toNat)).toNat) (lo := 97) (hi := 122) (r32_c (lo := 0) (hi := 125) ra2.1 ra2.2 (by decide) (by decide)) ⟨by decide, by decide⟩ ⟨by decide, by decide⟩ with ⟨h1a, h1b, h1e⟩ | ⟨h1a, h1e⟩
    · refine m_st (st2 := [.int (iI 1)]) (by rw [show inn (iI (a 14 (8 * (a 44 w.toNat)).toNat)) 97 122 = iI 1 from h1e]) ?_
      refine m_if_eq (tgt := 33) C ⟨by decide, by decide⟩ dX12_isSmallRule_26 (by decide) (fun z => absurd z (by omega)) (fun _ => ?_)
      refine m_iconst C dX12_isSmallRule_29 ?_
      refine m_goto (tgt := 34) C dX12_isSmallRule_30 (by decide) ?_
      exact m_zret C dX12_isSmallRule_34 rfl (Or.inr rfl) (Nat.le_of_ble_eq_true rfl) (Nat.le_of_ble_eq_true rfl) ⟨1, rfl, fp0, hB, ⟨by omega, by unfold SMX; omega⟩⟩
    · refine m_st (st2 := [.int (iI 0)]) (by rw [show inn (iI (a 14 (8 * (a 44 w.toNat)).toNat)) 97 122 = iI 0 from h1e]) ?_
      refine m_if_eq (tgt := 33) C ⟨by decide, by decide⟩ dX12_isSmallRule_26 (by decide) (fun _ => ?_) (fun z => absurd z (by omega))
      refine m_iconst C dX12_isSmallRule_33 ?_
      exact m_zret C dX12_isSmallRule_34 rfl (Or.inl rfl) (Nat.le_of_ble_eq_true rfl) (Nat.le_of_ble_eq_true rfl) ⟨0, rfl, fp0, hB, ⟨by omega, by unfold SMX; omega⟩⟩
section RRD3
variable {v v2 : Nat → Int} {a a1 a2 : Nat → Nat → Int} {l : List Int} {q x u f w : Int} {V A : List Nat} {d k r : Int}
theorem SMX.fr (h : SMX a1 w f) (hf : fr V A v a v2 a1) (c14 : A.contains 14 = false := by rfl) (c44 : A.contains 44 = false := by rfl) : SMX a w f := by
  unfold SMX at h ⊢
  rw [← hf.2 14 c14, ← hf.2 44 c44]
  exact h
end RRD3
section RRD4
variable {v v1 v2 v3 : Nat → Int} {a a1 a2 a3 : Nat → Nat → Int} {l0 l1 : List Int} {R : Nat → Int} {x y g f w f1 : Int}
end RRD4
end
section
def RR0 (xs : List Int) : Nat → Int := fun j => (xs[j]?).getD 0
section RRD5
variable {v v1 v2 v3 : Nat → Int} {a a1 a2 a3 : Nat → Nat → Int} {E : List (Option (List Int))} {l l0 l1 xs ys bs : List Int} {R : Nat → Int} {x y g f w q k i t n z r d h : Int}
theorem app_or {α : Type} {A B : List α} {j : Nat} {m : α} (e : (A ++ B)[j]? = some m) : (∃ i : Nat, A[i]? = some m) ∨ ∃ i : Nat, B[i]? = some m := by
  by_cases c : j < A.length
  · rw [List.getElem?_append_left c] at e
    exact Or.inl ⟨j, e⟩
  · rw [List.getElem?_append_right (by omega)] at e
    exact Or.inr ⟨_, e⟩
theorem gat_cg (h6 : a1 6 = a 6) (h8 : a1 8 = a 8) (h9 : a1 9 = a 9) (h10 : a1 10 = a 10) (h16 : a1 16 = a 16) : gat0 a1 t = gat0 a t ∧ gat1 a1 t = gat1 a t := by
  have i1 : ∀ I, indl a1 I = indl a I := fun I => by unfold indl; rw [h16]
  have r1 : ∀ t, rws1 a1 t = rws1 a t := fun t => by unfold rws1 RWL; rw [i1, i1, h10, h8]
  refine ⟨?_, ?_⟩
  · unfold gat0
    rw [h6, h8, r1, r1, i1]
  · unfold gat1
    rw [h6, h9, r1, i1]
end RRD5
set_option maxHeartbeats 4000000 in
set_option maxRecDepth 100000 in
theorem E_putRow {l : Launch} {G : GT} {h0 : Nat} {ad ln : Nat → Nat} {v : Nat → Int} {a : Nat → Nat → Int}  {x y : Int} (hB : BX v a) (hx : -2147483648 ≤ x ∧ x ≤ 2147483647) (hy : -2147483648 ≤ y ∧ y ≤ 2147483647) (h50 : v 50 < 40200) : Mm l G yX12_putRow cX12_putRow 3 none 0 [.int (iI x), .int (iI y)] h0 ad ln v a 0 0 (fun r v2 a2 => r = none ∧ fr [50] [48, 49] v a v2 a2 ∧ BX v2 a2 ∧ ((v2 50 = v 50 + 1) ∧ a2 48 = va_up (a 48) (v 50).toNat x)) := by
  refine Mm.mk (by decide) (Nat.le_of_ble_eq_true rfl) ?_
  intro p e s m args below meth c A C
  have fp0 : fr [50] [48, 49] v a v a := fr.refl
  refine m_aload_n (j := 0) C dX12_putRow_0 rfl ?_
  refine m_geta (k := 48) C dX12_putRow_1 w6_107 (by decide) rfl ?_
  refine m_aload_n (j := 0) C dX12_putRow_4 rfl ?_
  have rv1 : 0 ≤ v 50 ∧ v 50 ≤ 40200 := hB.1 50
  refine m_get (k := 50) C dX12_putRow_5 w6_109 (by decide) rfl ?_
  refine m_iload_n (j := 1) C dX12_putRow_8 rfl ?_
  refine m_ast (k := 48) C dX12_putRow_9 rfl rfl (by decide) (by omega) (by show _ < ((_ : Nat) : Int); simp only [mlen]; omega) (by decide) ?_
  refine hv2 (show BX v (up2 a 48 (v 50).toNat x) from hB.set (k := 48) (i := (v 50).toNat) (z := x) (show (-2147483648) ≤ x ∧ x ≤ 2147483647 by omega)) (fp0.set (k := 48) (i := (v 50).toNat) (z := x) rfl) (fun bq1 fq1 => ?_)
  refine m_aload_n (j := 0) C dX12_putRow_10 rfl ?_
  refine m_geta (k := 49) C dX12_putRow_11 w6_108 (by decide) rfl ?_
  refine m_aload_n (j := 0) C dX12_putRow_14 rfl ?_
  refine m_get (k := 50) C dX12_putRow_15 w6_109 (by decide) rfl ?_
  refine m_iload_n (j := 2) C dX12_putRow_18 rfl ?_
  refine m_ast (k := 49) C dX12_putRow_19 rfl rfl (by decide) (by omega) (by show _ < ((_ : Nat) : Int); simp only [mlen]; omega) (by decide) ?_
  refine hv2 (show BX v (up2 (up2 a 48 (v 50).toNat x) 49 (v 50).toNat y) from bq1.set (k := 49) (i := (v 50).toNat) (z := y) (show (-2147483648) ≤ y ∧ y ≤ 2147483647 by omega)) (fq1.set (k := 49) (i := (v 50).toNat) (z := y) rfl) (fun bq2 fq2 => ?_)
  refine m_aload_n (j := 0) C dX12_putRow_20 rfl ?_
  refine m_dup C dX12_putRow_21 rfl ?_
  refine m_get (k := 50) C dX12_putRow_22 w6_109 (by decide) rfl ?_
  refine m_iconst C dX12_putRow_25 ?_
  refine m_iadd C dX12_putRow_26 ?_
  refine m_put (k := 50) (z := (v 50) + 1) C dX12_putRow_27 w6_109 (by decide) rfl rfl rfl ?_
  refine hv2 (show BX (va_up v 50 ((v 50) + 1)) (up2 (up2 a 48 (v 50).toNat x) 49 (v 50).toNat y) from bq2.put (k := 50) (z := (v 50) + 1) (show 0 ≤ ((v 50) + 1) ∧ ((v 50) + 1) ≤ 40200 by omega)) (fq2.put (k := 50) (z := (v 50) + 1) rfl) (fun bq3 fq3 => ?_)
  exact m_vret C dX12_putRow_30 rfl (Nat.le_of_ble_eq_true rfl) (Nat.le_of_ble_eq_true rfl) ⟨rfl, fq3, bq3, ⟨rfl, rfl⟩⟩
end
section
def LKQ (F : Int32) (x y : Int) : Prop := (iI x ^^^ iI y) &&& F = iI 0
def fsn (f : Int) : Int32 := iI 255 &&& (iI f ^^^ iI (-1))
def MYR (a : Nat → Nat → Int) (C : Nat → Int) (F : Int32) (n d p h : Int) : Prop := ((1 ≤ rlen a d ∧ p + rlen a d ≤ n) ∧ (h = 1 → SMR a d)) ∧ ∀ k : Int, 0 ≤ k → k < rlen a d → LKQ F (dcl a d k) (C (p + k).toNat)
def MYB (C : Nat → Int) (F : Int32) (n p h : Int) : Prop := (h ≠ 1 ∧ p < n) ∧ LKQ F 0 (C p.toNat)
def MYO (a : Nat → Nat → Int) (C : Nat → Int) (F : Int32) (n p h : Int) : Option Int → Prop
  | none => MYB C F n p h
  | some d => MYR a C F n d p h
def onp (a : Nat → Nat → Int) (p : Int) : Option Int → Int
  | none => p + 1
  | some d => p + rlen a d
def ong (g : Int) : Option Int → Int
  | none => 0
  | some d => ngp d g
def onh : Option Int → Int
  | none => 0
  | some d => ngh d
def oou (a : Nat → Nat → Int) (h : Int) : Option Int → List Int
  | none => [32]
  | some d => rout a d h
def chs (l0 l1 : List Int) (g : Int) : List (Option Int) := none :: (if g = 0 then l0 else l1).map some
def pxs (w : List Int) (X : List (List Int)) : List (List Int) := X.map (fun u => w ++ u)
noncomputable def cif (P : Prop) (X : List (List Int)) : List (List Int) := @ite _ P (Classical.propDecidable P) X []
def fmp (f : Option Int → List (List Int)) : List (Option Int) → List (List Int)
  | [] => []
  | o :: l => f o ++ fmp f l
noncomputable def rdl (a : Nat → Nat → Int) (l0 l1 : List Int) (C : Nat → Int) (F : Int32) (n : Int) : Nat → Int → Int → Int → List (List Int)
  | 0, _, _, _ => []
  | m + 1, p, g, h => if p = n then (if h = 1 then [] else [[]]) else fmp (fun o => cif (MYO a C F n p h o) (pxs (oou a h o) (rdl a l0 l1 C F n m (onp a p o) (ong g o) (onh o)))) (chs l0 l1 g)
noncomputable def RDC (a : Nat → Nat → Int) (l0 l1 : List Int) (C : Nat → Int) (F : Int32) (n : Int) (p g h : Int) : List (List Int) := rdl a l0 l1 C F n ((n - p).toNat + 1) p g h
noncomputable def RCO (a : Nat → Nat → Int) (l0 l1 : List Int) (C : Nat → Int) (F : Int32) (n : Int) (p g h : Int) (o : Option Int) : List (List Int) := cif (MYO a C F n p h o) (pxs (oou a h o) (RDC a l0 l1 C F n (onp a p o) (ong g o) (onh o)))
def KMQ (W : Nat) (Z K : List (List Int)) (m : Int) : Prop := K = Z.take W ∧ ((m = 1 ∧ W < Z.length) ∨ (m = 0 ∧ Z.length ≤ W))
section GSEM
variable {a a1 : Nat → Nat → Int} {l0 l1 : List Int} {C : Nat → Int} {F : Int32} {n p g h d x y m1 m2 : Int} {f f2 : Option Int → List (List Int)} {l : List (Option Int)} {o : Option Int} {X Y Z K K2 : List (List Int)} {w u : List Int} {k W : Nat} {P : Prop}
theorem cif_t (hp : P) : cif P X = X := if_pos hp
theorem cif_f (hp : ¬ P) : cif P X = [] := if_neg hp
theorem fmp_cg : ∀ l : List (Option Int), (∀ o ∈ l, f o = f2 o) → fmp f l = fmp f2 l := by
  intro l
  induction l with
  | nil => intro _; rfl
  | cons o l ih =>
    intro hh
    show f o ++ fmp f l = f2 o ++ fmp f2 l
    rw [hh o (List.mem_cons_self ..), ih (fun q hq => hh q (List.mem_cons_of_mem _ hq))]
theorem fmp_nil : ∀ l : List (Option Int), (fmp f l = [] ↔ ∀ o ∈ l, f o = []) := by
  intro l
  induction l with
  | nil => exact ⟨fun _ o ho => absurd ho (List.not_mem_nil), fun _ => rfl⟩
  | cons o l ih =>
    show f o ++ fmp f l = [] ↔ _
    constructor
    · intro e q hq
      obtain ⟨e1, e2⟩ := List.append_eq_nil_iff.mp e
      rcases List.mem_cons.mp hq with c | c
      · rw [c]; exact e1
      · exact ih.mp e2 q c
    · intro hh
      rw [hh o (List.mem_cons_self ..), ih.mpr (fun q hq => hh q (List.mem_cons_of_mem _ hq))]
      rfl
theorem fmp_dr : ∀ (l : List (Option Int)) (k : Nat), l[k]? = some o → fmp f (l.drop k) = f o ++ fmp f (l.drop (k + 1)) := by
  intro l
  induction l with
  | nil => intro k e; simp at e
  | cons q l ih =>
    intro k e
    cases k with
    | zero =>
      have e2 : some q = some o := e
      cases e2
      rfl
    | succ k => exact ih k e
theorem fmp_tk : ∀ (l : List (Option Int)) (k : Nat), l[k]? = some o → fmp f (l.take (k + 1)) = fmp f (l.take k) ++ f o := by
  intro l
  induction l with
  | nil => intro k e; simp at e
  | cons q l ih =>
    intro k e
    cases k with
    | zero =>
      have e2 : some q = some o := e
      cases e2
      show f _ ++ [] = [] ++ f _
      rw [List.append_nil, List.nil_append]
    | succ k =>
      show f q ++ fmp f (l.take (k + 1)) = (f q ++ fmp f (l.take k)) ++ f o
      rw [ih k e, List.append_assoc]
theorem pxs_nil : pxs [] X = X := by
  unfold pxs
  rw [show (fun u : List Int => [] ++ u) = id from rfl, List.map_id]
theorem pxs_app : pxs w (X ++ Y) = pxs w X ++ pxs w Y := List.map_append
theorem pxs_pxs : pxs w (pxs u X) = pxs (w ++ u) X := by
  unfold pxs
  rw [List.map_map]
  congr 1
  funext q
  show w ++ (u ++ q) = w ++ u ++ q
  rw [List.append_assoc]
theorem pxs_e : pxs w X = [] ↔ X = [] := List.map_eq_nil_iff
theorem MYO.lt (hm : MYO a C F n p h o) : p < onp a p o ∧ onp a p o ≤ n := by
  cases o with
  | none =>
    have e : MYB C F n p h := hm
    show p < p + 1 ∧ p + 1 ≤ n
    have := e.1.2
    omega
  | some d =>
    have e : MYR a C F n d p h := hm
    show p < p + rlen a d ∧ p + rlen a d ≤ n
    have := e.1.1
    omega
theorem rdl_s : rdl a l0 l1 C F n (k + 1) p g h = if p = n then (if h = 1 then [] else [[]]) else fmp (fun o => cif (MYO a C F n p h o) (pxs (oou a h o) (rdl a l0 l1 C F n k (onp a p o) (ong g o) (onh o)))) (chs l0 l1 g) := rfl
theorem rdl_fu : ∀ (i j : Nat) (p g h : Int), (n - p).toNat < i → (n - p).toNat < j → rdl a l0 l1 C F n i p g h = rdl a l0 l1 C F n j p g h := by
  intro i
  induction i with
  | zero => intro j p g h h1; omega
  | succ i ih =>
    intro j p g h h1 h2
    cases j with
    | zero => omega
    | succ j =>
      rw [rdl_s, rdl_s]
      by_cases c : p = n
      · rw [if_pos c, if_pos c]
      · rw [if_neg c, if_neg c]
        refine fmp_cg _ (fun o _ => ?_)
        by_cases m : MYO a C F n p h o
        · have e := m.lt
          rw [cif_t m, cif_t m, ih j _ _ _ (by omega) (by omega)]
        · rw [cif_f m, cif_f m]
theorem RDC_end (hp : p = n) : RDC a l0 l1 C F n p g h = if h = 1 then [] else [[]] := by
  unfold RDC
  rw [rdl_s, if_pos hp]
theorem RDC_go (hp : p ≠ n) : RDC a l0 l1 C F n p g h = fmp (RCO a l0 l1 C F n p g h) (chs l0 l1 g) := by
  unfold RDC
  rw [rdl_s, if_neg hp]
  refine fmp_cg _ (fun o _ => ?_)
  unfold RCO RDC
  by_cases m : MYO a C F n p h o
  · have e := m.lt
    rw [cif_t m, cif_t m, rdl_fu _ ((n - onp a p o).toNat + 1) _ _ _ (by omega) (by omega)]
  · rw [cif_f m, cif_f m]
theorem RCO_yes (hm : MYO a C F n p h o) : RCO a l0 l1 C F n p g h o = pxs (oou a h o) (RDC a l0 l1 C F n (onp a p o) (ong g o) (onh o)) := cif_t hm
theorem RCO_e : RCO a l0 l1 C F n p g h o = [] ↔ ¬ (MYO a C F n p h o ∧ RDC a l0 l1 C F n (onp a p o) (ong g o) (onh o) ≠ []) := by
  by_cases m : MYO a C F n p h o
  · rw [RCO_yes m, pxs_e]
    exact ⟨fun e q => q.2 e, fun e => Classical.byContradiction (fun q => e ⟨m, q⟩)⟩
  · unfold RCO
    rw [cif_f m]
    exact ⟨fun _ q => m q.1, fun _ => rfl⟩
theorem RDC_nz (hp : p ≠ n) (ho : o ∈ chs l0 l1 g) (hn : RCO a l0 l1 C F n p g h o ≠ []) : RDC a l0 l1 C F n p g h ≠ [] := fun e => by
  rw [RDC_go hp] at e
  exact hn ((fmp_nil _).mp e o ho)
theorem RDC_z (hp : p ≠ n) (hn : ∀ (k : Nat) (o : Option Int), (chs l0 l1 g)[k]? = some o → RCO a l0 l1 C F n p g h o = []) : RDC a l0 l1 C F n p g h = [] := by
  rw [RDC_go hp, fmp_nil]
  intro o ho
  obtain ⟨k, e⟩ := List.getElem?_of_mem ho
  exact hn k o e
theorem RDC_h (hn : RDC a l0 l1 C F n p g h ≠ []) : p = n → h ≠ 1 := fun e q => by
  rw [RDC_end e, if_pos q] at hn
  exact hn rfl
theorem chs_len : (chs l0 l1 g).length = (if g = 0 then l0 else l1).length + 1 := by
  show ((if g = 0 then l0 else l1).map some).length + 1 = _
  rw [List.length_map]
theorem chs_at (e : (if g = 0 then l0 else l1)[k]? = some d) : (chs l0 l1 g)[k + 1]? = some (some d) := by
  show ((if g = 0 then l0 else l1).map some)[k]? = _
  rw [List.getElem?_map, e]
  rfl
theorem KMQ.init : KMQ W [] [] 0 := ⟨by rw [List.take_nil], Or.inr ⟨rfl, Nat.zero_le _⟩⟩
theorem KMQ.more (hk : KMQ W Z K x) (hx : x = 1) : KMQ W (Z ++ Y) K x := by
  obtain ⟨e, q⟩ := hk
  rcases q with ⟨q1, q2⟩ | ⟨q1, q2⟩
  · exact ⟨by rw [List.take_append_of_le_length (by omega)]; exact e, Or.inl ⟨q1, by rw [List.length_append]; omega⟩⟩
  · omega
theorem KMQ.len (hk : KMQ W Z K x) (hx : x ≠ 1) : K = Z ∧ K.length ≤ W := by
  obtain ⟨e, q⟩ := hk
  rcases q with ⟨q1, q2⟩ | ⟨q1, q2⟩
  · exact absurd q1 hx
  · have e2 : K = Z := by rw [e, List.take_of_length_le q2]
    exact ⟨e2, by rw [e2]; exact q2⟩
theorem KMQ.push (hk : KMQ W Z K x) (hx : x ≠ 1) (hl : K.length < W) : KMQ W (Z ++ [w]) (K ++ [w]) 0 := by
  obtain ⟨e, _⟩ := hk.len hx
  subst e
  have q : (K ++ [w]).length ≤ W := by
    rw [List.length_append]
    show K.length + 1 ≤ W
    omega
  exact ⟨by rw [List.take_of_length_le q], Or.inr ⟨rfl, q⟩⟩
theorem KMQ.full (hk : KMQ W Z K x) (hx : x ≠ 1) (hl : K.length = W) : KMQ W (Z ++ [w]) K 1 := by
  obtain ⟨e, _⟩ := hk.len hx
  subst e
  refine ⟨by rw [List.take_append_of_le_length (by omega), List.take_of_length_le (by omega)], Or.inl ⟨rfl, ?_⟩⟩
  rw [List.length_append]
  show W < K.length + 1
  omega
theorem KMQ.uni (h1 : KMQ W Z K m1) (h2 : KMQ W Z K2 m2) : K = K2 ∧ m1 = m2 := by
  refine ⟨h1.1.trans h2.1.symm, ?_⟩
  rcases h1.2 with ⟨q1, q2⟩ | ⟨q1, q2⟩ <;> rcases h2.2 with ⟨q3, q4⟩ | ⟨q3, q4⟩ <;> omega
end GSEM
end
section
def LKX (v : Nat → Int) (x y f : Int) : Prop := f = 1 ↔ LKQ (fsn (v 56)) x y
def NXQ (z q f : Int) : Prop := (z = -3 ∧ f = 1) ∨ (z = -4 ∧ f = 0) ∨ ((z ≠ -3 ∧ z ≠ -4) ∧ f = q)
def CPQ (z c : Int) : Prop := (z = -1 ∧ c = 1) ∨ (z ≠ -1 ∧ c = 0)
def LKJ (v : Nat → Int) (a : Nat → Nat → Int) (w x k : Int) : Prop := ∀ j : Int, 0 ≤ j → j < k → LKQ (fsn (v 56)) (rcl a w j) (a 48 (x + j).toNat)
def MYX (v : Nat → Int) (a : Nat → Nat → Int) (w x pt g f : Int) : Prop := ∀ nx cp, NXQ (a 44 w.toNat) pt nx → CPQ (a 44 w.toNat) cp → (f = 1 ↔ ((x + a 46 w.toNat ≤ v 50 ∧ (g = 1 → (0 ≤ a 44 w.toNat ∧ 97 ≤ a 14 (8 * a 44 w.toNat).toNat ∧ a 14 (8 * a 44 w.toNat).toNat ≤ 122))) ∧ LKJ v a w x (a 46 w.toNat)) ∧ a 57 (4 * (x + a 46 w.toNat) + 2 * nx + cp).toNat ≠ 0)
def MBY (v : Nat → Int) (a : Nat → Nat → Int) (x g f : Int) : Prop := f = 1 ↔ (g ≠ 1 ∧ LKQ (fsn (v 56)) 0 (a 48 x.toNat)) ∧ a 57 (4 * (x + 1)).toNat ≠ 0
def GCX (a0 : Nat → Nat → Int) (v : Nat → Int) (a : Nat → Nat → Int) (l0 l1 : List Int) (C : Nat → Int) : Prop := (HLD a0 a 0 l0 ∧ HLD a0 a 1 l1) ∧ (NZL a0 l0 ∧ NZL a0 l1) ∧ (a 12 = a0 12 ∧ a 14 = a0 14 ∧ a 15 = a0 15 ∧ a 17 = a0 17) ∧ ∀ j : Int, 0 ≤ j → j < v 50 → a 48 j.toNat = C j.toNat
def CNP (a0 : Nat → Nat → Int) (v : Nat → Int) (a : Nat → Nat → Int) (l0 l1 : List Int) (C : Nat → Int) (x : Int) : Prop := ∀ p g h : Int, x < p → p ≤ v 50 → (g = 0 ∨ g = 1) → (h = 0 ∨ h = 1) → (a 57 (4 * p + 2 * g + h).toNat ≠ 0 ↔ RDC a0 l0 l1 C (fsn (v 56)) (v 50) p g h ≠ [])
def CNS (a0 : Nat → Nat → Int) (v : Nat → Int) (a : Nat → Nat → Int) (l0 l1 : List Int) (C : Nat → Int) (x y : Int) : Prop := ∀ g h : Int, (g = 0 ∨ g = 1) → (h = 0 ∨ h = 1) → 2 * g + h < y → (a 57 (4 * x + 2 * g + h).toNat ≠ 0 ↔ RDC a0 l0 l1 C (fsn (v 56)) (v 50) x g h ≠ [])
def FC5 (v : Nat → Int) (a : Nat → Nat → Int) (x : Int) : Prop := ∀ a0 l0 l1 C, GCX a0 v a l0 l1 C → CNP a0 v a l0 l1 C x
def FC11 (v : Nat → Int) (a : Nat → Nat → Int) (x y : Int) : Prop := ∀ a0 l0 l1 C, GCX a0 v a l0 l1 C → CNP a0 v a l0 l1 C x ∧ CNS a0 v a l0 l1 C x y
def FB70 (v : Nat → Int) (a : Nat → Nat → Int) (x h f : Int) : Prop := ∀ a0 l0 l1 C, GCX a0 v a l0 l1 C → CNP a0 v a l0 l1 C x → (f = 1 ↔ (x = v 50 ∧ h ≠ 1) ∨ (x < v 50 ∧ MYB C (fsn (v 56)) (v 50) x h ∧ RDC a0 l0 l1 C (fsn (v 56)) (v 50) (x + 1) 0 0 ≠ []))
def FR79 (v : Nat → Int) (a : Nat → Nat → Int) (x pt h f w : Int) : Prop := ∀ a0 l0 l1 C, GCX a0 v a l0 l1 C → CNP a0 v a l0 l1 C x → (f = 1 → RDC a0 l0 l1 C (fsn (v 56)) (v 50) x pt h ≠ []) ∧ (f ≠ 1 → x = v 50 → RDC a0 l0 l1 C (fsn (v 56)) (v 50) x pt h = []) ∧ (f ≠ 1 → x ≠ v 50 → ∀ (i : Nat) (o : Option Int), ((i : Nat) : Int) < w - 6008 * pt + 1 → (chs l0 l1 pt)[i]? = some o → RCO a0 l0 l1 C (fsn (v 56)) (v 50) x pt h o = [])
section GCAN
variable {v v1 v2 : Nat → Int} {a a0 a1 a2 : Nat → Nat → Int} {l0 l1 : List Int} {C : Nat → Int} {w x y k g h f pt d z nx cp z1 z2 z3 z4 : Int} {V A : List Nat}
theorem and_as (p q s : Int32) : p &&& q &&& s = p &&& (q &&& s) := by
  apply Int32.toBitVec_inj.mp
  rw [Int32.toBitVec_and, Int32.toBitVec_and, Int32.toBitVec_and, Int32.toBitVec_and, BitVec.and_assoc]
theorem LKX.mk (e1 : iI x ^^^ iI y = iI z1) (e2 : iI z1 &&& iI 255 = iI z2) (e3 : iI (v 56) ^^^ iI (-1) = iI z3) (e4 : iI z2 &&& iI z3 = iI z4) (hz : R32 z4) (hf : (z4 = 0 ∧ f = 1) ∨ (z4 ≠ 0 ∧ f = 0)) : LKX v x y f := by
  have e : (iI x ^^^ iI y) &&& fsn (v 56) = iI z4 := by
    unfold fsn
    rw [e1, e3, ← and_as, e2, e4]
  unfold LKX LKQ
  rw [e, iI_eq hz ⟨by decide, by decide⟩]
  omega
theorem LKJ.zero : LKJ v a w x 0 := fun j h1 h2 => absurd h1 (by omega)
theorem LKJ.step (hk : LKJ v a w x k) (e : LKQ (fsn (v 56)) (rcl a w k) (a 48 (x + k).toNat)) : LKJ v a w x (k + 1) := fun j h1 h2 => by
  by_cases c : j < k
  · exact hk j h1 c
  · rw [show j = k by omega]
    exact e
theorem MYX.no1 (hn : v 50 < x + a 46 w.toNat ∨ (g = 1 ∧ ¬ (0 ≤ a 44 w.toNat ∧ 97 ≤ a 14 (8 * a 44 w.toNat).toNat ∧ a 14 (8 * a 44 w.toNat).toNat ≤ 122))) (hf : f = 0) : MYX v a w x pt g f := fun nx cp _ _ => ⟨fun e => by omega, fun e => by
  rcases hn with q | ⟨q1, q2⟩
  · have := e.1.1.1
    omega
  · exact absurd (e.1.1.2 q1) q2⟩
theorem MYX.no2 (hk : 0 ≤ k ∧ k < a 46 w.toNat) (hn : ¬ LKQ (fsn (v 56)) (rcl a w k) (a 48 (x + k).toNat)) (hf : f = 0) : MYX v a w x pt g f := fun nx cp _ _ => ⟨fun e => by omega, fun e => absurd (e.1.2 k hk.1 hk.2) hn⟩
theorem MYX.yes (hk : LKJ v a w x k) (hk2 : k = a 46 w.toNat) (h1 : x + a 46 w.toNat ≤ v 50) (h2 : g = 1 → (0 ≤ a 44 w.toNat ∧ 97 ≤ a 14 (8 * a 44 w.toNat).toNat ∧ a 14 (8 * a 44 w.toNat).toNat ≤ 122)) (hn : NXQ (a 44 w.toNat) pt nx) (hc : CPQ (a 44 w.toNat) cp) (hz : z = 4 * (x + a 46 w.toNat) + 2 * nx + cp) (hf : f = a 57 z.toNat) (h01 : f = 0 ∨ f = 1) : MYX v a w x pt g f := fun nx2 cp2 q1 q2 => by
  have e1 : nx2 = nx := by
    unfold NXQ at hn q1
    omega
  have e2 : cp2 = cp := by
    unfold CPQ at hc q2
    omega
  rw [e1, e2, ← hz, ← hf]
  subst hk2
  exact ⟨fun e => ⟨⟨⟨h1, h2⟩, hk⟩, by omega⟩, fun e => by
    have := e.2
    omega⟩
theorem GCX.cg (hc : GCX a0 v a l0 l1 C) (h50 : v1 50 = v 50) (h44 : a1 44 = a 44) (h45 : a1 45 = a 45) (h46 : a1 46 = a 46) (h47 : a1 47 = a 47) (h12 : a1 12 = a 12) (h14 : a1 14 = a 14) (h15 : a1 15 = a 15) (h17 : a1 17 = a 17) (h48 : a1 48 = a 48) : GCX a0 v1 a1 l0 l1 C := by
  obtain ⟨⟨c1, c2⟩, c3, ⟨c4, c5, c6, c7⟩, c8⟩ := hc
  refine ⟨⟨c1.fr h44 h45 h46 (by rw [h47]), c2.fr h44 h45 h46 (by rw [h47])⟩, c3, ⟨h12.trans c4, h14.trans c5, h15.trans c6, h17.trans c7⟩, fun j j1 j2 => ?_⟩
  rw [h48]
  exact c8 j j1 (by omega)
theorem GCX.back (hc : GCX a0 v1 a1 l0 l1 C) (hf : fr V A v a v1 a1) (hV : V.contains 50 = false) (hA : ([12, 14, 15, 17, 44, 45, 46, 47, 48] : List Nat).all (fun k => !A.contains k) = true) : GCX a0 v a l0 l1 C := by
  have ka : ∀ j, ([12, 14, 15, 17, 44, 45, 46, 47, 48] : List Nat).contains j = true → a j = a1 j := fun j hj => (hf.2 j (by
    have w := List.all_eq_true.mp hA j (List.contains_iff_mem.mp hj)
    simpa using w)).symm
  exact hc.cg (hf.1 50 hV).symm (ka 44 rfl) (ka 45 rfl) (ka 46 rfl) (ka 47 rfl) (ka 12 rfl) (ka 14 rfl) (ka 15 rfl) (ka 17 rfl) (ka 48 rfl)
theorem CNP.cg (hc : CNP a0 v a l0 l1 C x) (h50 : v1 50 = v 50) (h56 : v1 56 = v 56) (h57 : a1 57 = a 57) : CNP a0 v1 a1 l0 l1 C x := fun p g h q1 q2 q3 q4 => by
  rw [h50, h56, h57]
  exact hc p g h q1 (by omega) q3 q4
theorem ngp_r (hp : pt = 0 ∨ pt = 1) : ngp d pt = 0 ∨ ngp d pt = 1 := by
  unfold ngp
  split
  · omega
  · split <;> omega
theorem ngh_r : ngh d = 0 ∨ ngh d = 1 := by
  unfold ngh
  split <;> omega
theorem MYX.sem (hm : MYX v a w x pt g f) (hc : GCX a0 v a l0 l1 C) (hn : CNP a0 v a l0 l1 C x) (hp : pt = 0 ∨ pt = 1) (hr : 6008 * pt ≤ w ∧ w < 6008 * pt + a 47 pt.toNat) (hx : 0 ≤ x) : ∃ d, (if pt = 0 then l0 else l1)[(w - 6008 * pt).toNat]? = some d ∧ rent a0 a w d ∧ (f = 1 ↔ MYR a0 C (fsn (v 56)) (v 50) d x g ∧ RDC a0 l0 l1 C (fsn (v 56)) (v 50) (x + rlen a0 d) (ngp d pt) (ngh d) ≠ []) := by
  obtain ⟨⟨c1, c2⟩, ⟨c3, c3'⟩, ⟨c4, c5, c6, c7⟩, c8⟩ := hc
  have hl : HLD a0 a pt (if pt = 0 then l0 else l1) ∧ NZL a0 (if pt = 0 then l0 else l1) := by
    rcases hp with e | e
    · subst e
      rw [if_pos rfl]
      exact ⟨c1, c3⟩
    · subst e
      rw [if_neg (by decide)]
      exact ⟨c2, c3'⟩
  obtain ⟨d, d1, d2⟩ := hl.1.tt (by omega) hr.1 hr.2
  refine ⟨d, d1, d2, ?_⟩
  obtain ⟨e46, ercl⟩ := d2.rc1 c6 c7
  refine hv2 ((hl.2 _ _ d1).1) (d2.r44) (fun nz r44 => ?_)
  have q1 : NXQ (a 44 w.toNat) pt (ngp d pt) := by
    unfold NXQ ngp
    split
    · omega
    · split <;> omega
  have q2 : CPQ (a 44 w.toNat) (ngh d) := by
    unfold CPQ ngh
    split <;> omega
  have sm : (0 ≤ a 44 w.toNat ∧ 97 ≤ a 14 (8 * a 44 w.toNat).toNat ∧ a 14 (8 * a 44 w.toNat).toNat ≤ 122) ↔ SMR a0 d := by
    rcases r44 with ⟨p1, p2, _⟩ | ⟨p1, p2, p3, _⟩
    · rw [p2, c5]
      exact Iff.rfl
    · exact ⟨fun e => by omega, fun e => absurd e.1 (by omega)⟩
  rw [hm _ _ q1 q2, e46]
  constructor
  · intro e
    obtain ⟨⟨⟨p1, p2⟩, p3⟩, p4⟩ := e
    refine ⟨⟨⟨⟨nz.1, p1⟩, fun e => sm.mp (p2 e)⟩, fun k k1 k2 => ?_⟩, (hn _ _ _ (by omega) p1 (ngp_r hp) ngh_r).mp p4⟩
    have u := p3 k k1 k2
    rw [ercl, c8 (x + k) (by omega) (by omega)] at u
    exact u
  · intro e
    obtain ⟨⟨⟨⟨_, p1⟩, p2⟩, p3⟩, p4⟩ := e
    refine ⟨⟨⟨p1, fun e => sm.mpr (p2 e)⟩, fun k k1 k2 => ?_⟩, (hn _ _ _ (by omega) p1 (ngp_r hp) ngh_r).mpr p4⟩
    have u := p3 k k1 k2
    rw [ercl, c8 (x + k) (by omega) (by omega)]
    exact u
theorem MBY.sem (hm : MBY v a x g f) (hc : GCX a0 v a l0 l1 C) (hn : CNP a0 v a l0 l1 C x) (hx : 0 ≤ x ∧ x < v 50) : f = 1 ↔ MYB C (fsn (v 56)) (v 50) x g ∧ RDC a0 l0 l1 C (fsn (v 56)) (v 50) (x + 1) 0 0 ≠ [] := by
  have e := hn (x + 1) 0 0 (by omega) (by omega) (Or.inl rfl) (Or.inl rfl)
  rw [show 4 * (x + 1) + 2 * 0 + 0 = 4 * (x + 1) by omega] at e
  unfold MBY at hm
  rw [hm, hc.2.2.2 x hx.1 hx.2, e]
  exact ⟨fun q => ⟨⟨⟨q.1.1, hx.2⟩, q.1.2⟩, q.2⟩, fun q => ⟨⟨q.1.1.1, q.1.2⟩, q.2⟩⟩
theorem FC5.init (hx : v 50 ≤ x) : FC5 v a x := fun a0 l0 l1 C _ p g h q1 q2 => by omega
theorem FC5.row (hi : FC5 v a x) : FC11 v a x 0 := fun a0 l0 l1 C hc => ⟨hi a0 l0 l1 C hc, fun g h q1 q2 q3 => by omega⟩
theorem FC11.up (hi : FC11 v a x y) (hy : 4 ≤ y) (hz : z = x - 1) : FC5 v a z := fun a0 l0 l1 C hc p g h q1 q2 q3 q4 => by
  obtain ⟨c1, c2⟩ := hi a0 l0 l1 C hc
  by_cases c : x < p
  · exact c1 p g h c q2 q3 q4
  · rw [show p = x by omega]
    exact c2 g h q3 q4 (by omega)
theorem FB70.end1 (hx : x = v 50) (hh : h ≠ 1) (hf : f = 1) : FB70 v a x h f := fun a0 l0 l1 C _ _ => ⟨fun _ => Or.inl ⟨hx, hh⟩, fun _ => hf⟩
theorem FB70.end0 (hx : x = v 50) (hh : h = 1) (hf : f = 0) : FB70 v a x h f := fun a0 l0 l1 C _ _ => ⟨fun e => by omega, fun e => by
  rcases e with ⟨_, e⟩ | ⟨e, _⟩
  · exact absurd hh e
  · omega⟩
theorem FB70.bl (hm : MBY v a x h z) (hx : 0 ≤ x ∧ x < v 50) (hf : (z = 1 ∧ f = 1) ∨ (z = 0 ∧ f = 0)) : FB70 v a x h f := fun a0 l0 l1 C hc hn => by
  have e := hm.sem hc hn hx
  have e2 : f = 1 ↔ z = 1 := by omega
  rw [e2, e]
  exact ⟨fun q => Or.inr ⟨hx.2, q⟩, fun q => by
    rcases q with ⟨q, _⟩ | ⟨_, q⟩
    · omega
    · exact q⟩
theorem FB70.go (hb : FB70 v a x h f) (hw : w = 6008 * pt) (hf : f = 0 ∨ f = 1) : FR79 v a x pt h f w := fun a0 l0 l1 C hc hn => by
  refine hv2 (hb a0 l0 l1 C hc hn) (show (chs l0 l1 pt)[0]? = some none from rfl) (fun e cz => ?_)
  have bq : x < v 50 → (MYB C (fsn (v 56)) (v 50) x h ∧ RDC a0 l0 l1 C (fsn (v 56)) (v 50) (x + 1) 0 0 ≠ [] ↔ RCO a0 l0 l1 C (fsn (v 56)) (v 50) x pt h none ≠ []) := fun _ => by
    have t := RCO_e (a := a0) (l0 := l0) (l1 := l1) (C := C) (F := fsn (v 56)) (n := v 50) (p := x) (g := pt) (h := h) (o := none)
    exact ⟨fun q1 q2 => t.mp q2 q1, fun q1 => Classical.byContradiction (fun q2 => q1 (t.mpr q2))⟩
  refine ⟨fun e1 => ?_, fun e1 e2 => ?_, fun e1 e2 i o hi ho => ?_⟩
  · rcases e.mp e1 with ⟨q1, q2⟩ | ⟨q1, q2⟩
    · rw [RDC_end q1, if_neg q2]
      exact fun q => by cases q
    · exact RDC_nz (by omega) (List.mem_of_getElem? cz) ((bq q1).mp q2)
  · rw [RDC_end e2]
    by_cases c : h = 1
    · rw [if_pos c]
    · exact absurd (e.mpr (Or.inl ⟨e2, c⟩)) e1
  · rw [show i = 0 by omega, cz] at ho
    cases ho
    refine Classical.byContradiction (fun q => ?_)
    by_cases c : x < v 50
    · exact e1 (e.mpr (Or.inr ⟨c, (bq c).mpr q⟩))
    · have t := RCO_e (a := a0) (l0 := l0) (l1 := l1) (C := C) (F := fsn (v 56)) (n := v 50) (p := x) (g := pt) (h := h) (o := none)
      refine q (t.mpr (fun u => ?_))
      have u1 : MYB C (fsn (v 56)) (v 50) x h := u.1
      exact c u1.1.2
theorem FR79.step (hr : FR79 v a x pt h f w) (hm : MYX v a w x pt h z) (hf : f = 0) (hp : pt = 0 ∨ pt = 1) (hw : 6008 * pt ≤ w ∧ w < 6008 * pt + a 47 pt.toNat) (hx : 0 ≤ x ∧ x < v 50) (hz : z = 0 ∨ z = 1) : FR79 v a x pt h z (w + 1) := fun a0 l0 l1 C hc hn => by
  obtain ⟨_, _, r3⟩ := hr a0 l0 l1 C hc hn
  obtain ⟨d, d1, d2, d3⟩ := hm.sem hc hn hp hw hx.1
  refine hv2 (chs_at d1) (RCO_e (a := a0) (l0 := l0) (l1 := l1) (C := C) (F := fsn (v 56)) (n := v 50) (p := x) (g := pt) (h := h) (o := some d)) (fun ca t => ?_)
  refine ⟨fun e1 => RDC_nz (by omega) (List.mem_of_getElem? ca) (fun q => t.mp q (d3.mp e1)), fun e1 e2 => by omega, fun e1 e2 i o hi ho => ?_⟩
  by_cases c : ((i : Nat) : Int) < w - 6008 * pt + 1
  · exact r3 (by omega) e2 i o c ho
  · rw [show i = (w - 6008 * pt).toNat + 1 by omega, ca] at ho
    cases ho
    exact t.mpr (fun u => e1 (d3.mpr u))
theorem FR79.fin (hr : FR79 v a x pt h f w) (hf : f = 0 ∨ f = 1) (hw : f ≠ 0 ∨ v 50 ≤ x ∨ w = 6008 * pt + a 47 pt.toNat) (hp : pt = 0 ∨ pt = 1) (hx : x ≤ v 50) (hc : GCX a0 v a l0 l1 C) (hn : CNP a0 v a l0 l1 C x) : f ≠ 0 ↔ RDC a0 l0 l1 C (fsn (v 56)) (v 50) x pt h ≠ [] := by
  obtain ⟨r1, r2, r3⟩ := hr a0 l0 l1 C hc hn
  by_cases c : f = 1
  · exact ⟨fun _ => r1 c, fun _ => by omega⟩
  · refine ⟨fun e => by omega, fun e => absurd ?_ e⟩
    by_cases c2 : x = v 50
    · exact r2 c c2
    · refine RDC_z c2 (fun i o ho => r3 c c2 i o ?_ ho)
      have lt := gl3 ho
      rw [chs_len] at lt
      have el : a 47 pt.toNat = (((if pt = 0 then l0 else l1).length : Nat) : Int) := by
        rcases hp with e | e
        · subst e
          exact hc.1.1.1
        · subst e
          exact hc.1.2.1
      omega
theorem FC11.put (hi : FC11 v a x y) (hr : FR79 v a x pt h f w) (hf : f = 0 ∨ f = 1) (hw : f ≠ 0 ∨ v 50 ≤ x ∨ w = 6008 * pt + a 47 pt.toNat) (hp : pt = 0 ∨ pt = 1) (hh : h = 0 ∨ h = 1) (hy : y = 2 * pt + h) (hx : 0 ≤ x ∧ x ≤ v 50) (h50 : v1 50 = v 50) (h56 : v1 56 = v 56) (e57 : a1 57 = va_up (a 57) z.toNat f) (hz : z = 4 * x + y) (h44 : a1 44 = a 44) (h45 : a1 45 = a 45) (h46 : a1 46 = a 46) (h47 : a1 47 = a 47) (h12 : a1 12 = a 12) (h14 : a1 14 = a 14) (h15 : a1 15 = a 15) (h17 : a1 17 = a 17) (h48 : a1 48 = a 48) : FC11 v1 a1 x (y + 1) := fun a0 l0 l1 C hc => by
  have hc0 := hc.cg h50.symm h44.symm h45.symm h46.symm h47.symm h12.symm h14.symm h15.symm h17.symm h48.symm
  obtain ⟨c1, c2⟩ := hi a0 l0 l1 C hc0
  refine ⟨fun p g h q1 q2 q3 q4 => ?_, fun g2 h2 q1 q2 q3 => ?_⟩
  · rw [e57, va_up_ne _ _ (by omega), h50, h56]
    exact c1 p g h q1 (by omega) q3 q4
  · rw [e57, h50, h56]
    by_cases c : 2 * g2 + h2 < y
    · rw [va_up_ne _ _ (by omega)]
      exact c2 g2 h2 q1 q2 c
    · rw [show (4 * x + 2 * g2 + h2).toNat = z.toNat by omega, va_up_self, show g2 = pt by omega, show h2 = h by omega]
      exact hr.fin hf hw hp hx.2 hc0 c1
end GCAN
section GCA2
variable {v : Nat → Int} {a : Nat → Nat → Int} {x g f z s : Int}
theorem MBY.no1 (hg : g = 1) (hf : f = 0) : MBY v a x g f := ⟨fun e => by omega, fun e => absurd hg e.1.1⟩
theorem MBY.no2 (hl : LKX v 0 (a 48 x.toNat) z) (hz : z = 0) (hf : f = 0) : MBY v a x g f := ⟨fun e => by omega, fun e => by
  have := hl.mpr e.1.2
  omega⟩
theorem MBY.mk2 (hl : LKX v 0 (a 48 x.toNat) z) (hz : z = 1) (hg : g ≠ 1) (hs : s = 4 * (x + 1)) (hf : (a 57 s.toNat ≠ 0 ∧ f = 1) ∨ (a 57 s.toNat = 0 ∧ f = 0)) : MBY v a x g f := by
  subst hs
  exact ⟨fun e => ⟨⟨hg, hl.mp hz⟩, by omega⟩, fun e => by
    have := e.2
    omega⟩
end GCA2
set_option maxHeartbeats 4000000 in
set_option maxRecDepth 100000 in
theorem E_looksLike {l : Launch} {G : GT} {h0 : Nat} {ad ln : Nat → Nat} {v : Nat → Int} {a : Nat → Nat → Int}  {x y : Int} (hB : BX v a) (hx : -2147483648 ≤ x ∧ x ≤ 2147483647) (hy : -2147483648 ≤ y ∧ y ≤ 2147483647) : Mm l G yX12_looksLike cX12_looksLike 3 (some .boolean) 0 [.int (iI x), .int (iI y)] h0 ad ln v a 0 0 (fun r v2 a2 => ∃ f : Int, r = some (.int (iI f)) ∧ fr [] [] v a v2 a2 ∧ BX v2 a2 ∧ ((f = 0 ∨ f = 1) ∧ LKX v x y f)) := by
  refine Mm.mk (by decide) (Nat.le_of_ble_eq_true rfl) ?_
  intro p e s m args below meth c A C
  have fp0 : fr [] [] v a v a := fr.refl
  refine m_iload_n (j := 1) C dX12_looksLike_0 rfl ?_
  refine m_iload_n (j := 2) C dX12_looksLike_1 rfl ?_
  obtain ⟨zz1, hzz1, ezz1⟩ := iI_of (iI x ^^^ iI y)
  refine m_ixor (w := iI zz1) C dX12_looksLike_2 ezz1 ?_
  refine m_sipush (z := 255) C dX12_looksLike_3 (by decide) ?_
  obtain ⟨zz2, hzz2, ezz2⟩ := iI_of (iI zz1 &&& iI 255)
  refine m_iand (w := iI zz2) C dX12_looksLike_6 ezz2 ?_
  refine m_aload_n (j := 0) C dX12_looksLike_7 rfl ?_
  have rv1 : (-2147483648) ≤ v 56 ∧ v 56 ≤ 2147483647 := hB.1 56
  refine m_get (k := 56) C dX12_looksLike_8 w6_115 (by decide) rfl ?_
  refine m_iconst C dX12_looksLike_11 ?_
  obtain ⟨zz3, hzz3, ezz3⟩ := iI_of (iI (v 56) ^^^ iI (-1))
  refine m_ixor (w := iI zz3) C dX12_looksLike_12 ezz3 ?_
  obtain ⟨zz4, hzz4, ezz4⟩ := iI_of (iI zz2 &&& iI zz3)
  refine m_iand (w := iI zz4) C dX12_looksLike_13 ezz4 ?_
  refine m_if_ne (tgt := 21) C ⟨by omega, by omega⟩ dX12_looksLike_14 (by decide) (fun c1 => ?_) (fun c1 => ?_)
  · refine m_iconst C dX12_looksLike_21 ?_
    exact m_zret C dX12_looksLike_22 rfl (Or.inl rfl) (Nat.le_of_ble_eq_true rfl) (Nat.le_of_ble_eq_true rfl) ⟨0, rfl, fp0, hB, ⟨by omega, LKX.mk ezz1 ezz2 ezz3 ezz4 hzz4 (by omega)⟩⟩
  · refine m_iconst C dX12_looksLike_17 ?_
    refine m_goto (tgt := 22) C dX12_looksLike_18 (by decide) ?_
    exact m_zret C dX12_looksLike_22 rfl (Or.inr rfl) (Nat.le_of_ble_eq_true rfl) (Nat.le_of_ble_eq_true rfl) ⟨1, rfl, fp0, hB, ⟨by omega, LKX.mk ezz1 ezz2 ezz3 ezz4 hzz4 (by omega)⟩⟩
set_option maxHeartbeats 4000000 in
set_option maxRecDepth 100000 in
theorem E_next {l : Launch} {G : GT} {h0 : Nat} {ad ln : Nat → Nat} {v : Nat → Int} {a : Nat → Nat → Int}  {w q : Int} (hB : BX v a) (hr : 0 ≤ w ∧ w < 12016) (hq : q = 0 ∨ q = 1) : Mm l G yX12_next cX12_next 3 (some .int) 0 [.int (iI w), .int (iI q)] h0 ad ln v a 0 0 (fun r v2 a2 => ∃ f : Int, r = some (.int (iI f)) ∧ fr [] [] v a v2 a2 ∧ BX v2 a2 ∧ ((f = 0 ∨ f = 1) ∧ ((a 44 w.toNat = -3 ∧ f = 1) ∨ (a 44 w.toNat = -4 ∧ f = 0) ∨ ((a 44 w.toNat ≠ -3 ∧ a 44 w.toNat ≠ -4) ∧ f = q)))) := by
  refine Mm.mk (by decide) (Nat.le_of_ble_eq_true rfl) ?_
  intro p e s m args below meth c A C
  have fp0 : fr [] [] v a v a := fr.refl
  refine m_aload_n (j := 0) C dX12_next_0 rfl ?_
  refine m_geta (k := 44) C dX12_next_1 w6_103 (by decide) rfl ?_
  refine m_iload_n (j := 1) C dX12_next_4 rfl ?_
  refine m_ald (k := 44) C dX12_next_5 rfl rfl (by decide) (by omega) (by show _ < ((_ : Nat) : Int); simp only [mlen]; omega) (by decide) ?_
  have ra1 : (-4) ≤ a 44 w.toNat ∧ a 44 w.toNat ≤ 5999 := hB.2 44 (w.toNat)
  refine m_bipush (z := (-3)) C dX12_next_6 (by decide) ?_
  refine m_icmp_ne (tgt := 15) C (r32_c (lo := (-4)) (hi := 5999) ra1.1 ra1.2 (by decide) (by decide)) ⟨by decide, by decide⟩ dX12_next_8 (by decide) (fun c1 => ?_) (fun c1 => ?_)
  · refine m_aload_n (j := 0) C dX12_next_15 rfl ?_
    refine m_geta (k := 44) C dX12_next_16 w6_103 (by decide) rfl ?_
    refine m_iload_n (j := 1) C dX12_next_19 rfl ?_
    refine m_ald (k := 44) C dX12_next_20 rfl rfl (by decide) (by omega) (by show _ < ((_ : Nat) : Int); simp only [mlen]; omega) (by decide) ?_
    refine m_bipush (z := (-4)) C dX12_next_21 (by decide) ?_
    refine m_icmp_ne (tgt := 30) C (r32_c (lo := (-4)) (hi := 5999) ra1.1 ra1.2 (by decide) (by decide)) ⟨by decide, by decide⟩ dX12_next_23 (by decide) (fun c2 => ?_) (fun c2 => ?_)
    · refine m_iload_n (j := 2) C dX12_next_30 rfl ?_
      exact m_iret C dX12_next_31 rfl (Nat.le_of_ble_eq_true rfl) (Nat.le_of_ble_eq_true rfl) ⟨q, rfl, fp0, hB, ⟨by omega, by omega⟩⟩
    · refine m_iconst C dX12_next_26 ?_
      refine m_goto (tgt := 31) C dX12_next_27 (by decide) ?_
      exact m_iret C dX12_next_31 rfl (Nat.le_of_ble_eq_true rfl) (Nat.le_of_ble_eq_true rfl) ⟨0, rfl, fp0, hB, ⟨by omega, by omega⟩⟩
  · refine m_iconst C dX12_next_11 ?_
    refine m_goto (tgt := 31) C dX12_next_12 (by decide) ?_
    exact m_iret C dX12_next_31 rfl (Nat.le_of_ble_eq_true rfl) (Nat.le_of_ble_eq_true rfl) ⟨1, rfl, fp0, hB, ⟨by omega, by omega⟩⟩
set_option maxHeartbeats 4000000 in
set_option maxRecDepth 100000 in
theorem E_may {l : Launch} {G : GT} {h0 : Nat} {ad ln : Nat → Nat} {v : Nat → Int} {a : Nat → Nat → Int}  {r1 x pt g : Int} (hB : BX v a) (hr : 0 ≤ r1 ∧ r1 < 12016) (ho : -4 ≤ a 44 r1.toNat ∧ a 44 r1.toNat < 6000) (ho2 : 1 ≤ a 46 r1.toNat ∧ a 46 r1.toNat ≤ 4) (ho3 : 0 ≤ a 45 r1.toNat ∧ (0 ≤ a 44 r1.toNat → a 45 r1.toNat + a 46 r1.toNat ≤ 24000) ∧ (a 44 r1.toNat < 0 → a 45 r1.toNat + a 46 r1.toNat ≤ 480)) (hx : 0 ≤ x ∧ x ≤ 100) (h50 : v 50 ≤ 100) (hp : pt = 0 ∨ pt = 1) (hg : g = 0 ∨ g = 1) : Mm l G yX12_may cX12_may 6 (some .boolean) 2 [.int (iI r1), .int (iI x), .int (iI pt), .int (iI g)] h0 ad ln v a 0 0 (fun r v2 a2 => ∃ f : Int, r = some (.int (iI f)) ∧ fr [] [] v a v2 a2 ∧ BX v2 a2 ∧ ((f = 0 ∨ (f = 1 ∧ x + a 46 r1.toNat ≤ v 50)) ∧ MYX v a r1 x pt g f)) := by
  refine Mm.mk (by decide) (Nat.le_of_ble_eq_true rfl) ?_
  intro p e s m args below meth c A C
  refine hv2 (show 0 ≤ v 50 ∧ v 50 ≤ 40200 from hB.1 50) (show fr [] [] v a v a from fr.refl) (fun r50 fp0 => ?_)
  refine m_iload_n (j := 2) C dX12_may_0 rfl ?_
  refine m_aload_n (j := 0) C dX12_may_1 rfl ?_
  refine m_geta (k := 46) C dX12_may_2 w6_105 (by decide) rfl ?_
  refine m_iload_n (j := 1) C dX12_may_5 rfl ?_
  refine m_ald (k := 46) C dX12_may_6 rfl rfl (by decide) (by omega) (by show _ < ((_ : Nat) : Int); simp only [mlen]; omega) (by decide) ?_
  have ra1 : 0 ≤ a 46 r1.toNat ∧ a 46 r1.toNat ≤ 4 := hB.2 46 (r1.toNat)
  refine m_iadd C dX12_may_7 ?_
  refine m_aload_n (j := 0) C dX12_may_8 rfl ?_
  have rv1 : 0 ≤ v 50 ∧ v 50 ≤ 40200 := hB.1 50
  refine m_get (k := 50) C dX12_may_9 w6_109 (by decide) rfl ?_
  refine m_icmp_gt (tgt := 28) C ⟨by omega, by omega⟩ (r32_c (lo := 0) (hi := 40200) rv1.1 rv1.2 (by decide) (by decide)) dX12_may_12 (by decide) (fun c1 => ?_) (fun c1 => ?_)
  · refine m_iconst C dX12_may_28 ?_
    exact m_zret C dX12_may_29 rfl (Or.inl rfl) (Nat.le_of_ble_eq_true rfl) (Nat.le_of_ble_eq_true rfl) ⟨0, rfl, fp0, hB, ⟨by omega, MYX.no1 (Or.inl (by omega)) rfl⟩⟩
  · refine m_iload (j := 4) C dX12_may_15 rfl ?_
    refine m_if_eq (tgt := 30) C ⟨by omega, by omega⟩ dX12_may_17 (by decide) (fun c2 => ?_) (fun c2 => ?_)
    · refine m_iconst C dX12_may_30 ?_
      refine m_istore (lv2 := [(5, .int (iI 0)), (0, .ref h0), (1, .int (iI r1)), (2, .int (iI x)), (3, .int (iI pt)), (4, .int (iI g))]) C dX12_may_31 (by decide) rfl ?_
      have Lp1 : ∀ (nn : Nat) (k : Int) (vb1 : Nat → Int) (ab1 : Nat → Nat → Int), 5 - k < (nn : Int) → BX vb1 ab1 → fr [] [] v a vb1 ab1 → (0 ≤ k ∧ k ≤ 4 ∧ k ≤ a 46 r1.toNat) → (LKJ v a r1 x k) → mw p l e (rmq 2 0 0) s m args below meth c G A 6 (MQ below (Qm G A (fun rq Lq Eq => ∃ (vq : Nat → Int) (aq : Nat → Nat → Int), mI G h0 ad ln vq aq Lq Eq ∧ (fun r v2 a2 => ∃ f : Int, r = some (.int (iI f)) ∧ fr [] [] v a v2 a2 ∧ BX v2 a2 ∧ ((f = 0 ∨ (f = 1 ∧ x + a 46 r1.toNat ≤ v 50)) ∧ MYX v a r1 x pt g f)) rq vq aq)) args s 0 0 A) h0 ad ln vb1 ab1 0 0 33 [(5, .int (iI k)), (0, .ref h0), (1, .int (iI r1)), (2, .int (iI x)), (3, .int (iI pt)), (4, .int (iI g))] [] := by
        intro nn
        induction nn with
        | zero =>
          intro k vb1 ab1 hm bxb1 fpb1 hk hI
          exact absurd hm (by omega)
        | succ nn ih1 =>
          intro k vb1 ab1 hm bxb1 fpb1 hk hI
          refine m_iload (j := 0) C dX12_may_33 rfl ?_
          refine m_aload_n (j := 1) C dX12_may_35 rfl ?_
          refine m_geta (k := 46) C dX12_may_36 w6_105 (by decide) rfl ?_
          refine m_iload_n (j := 2) C dX12_may_39 rfl ?_
          refine m_ald (k := 46) C dX12_may_40 rfl rfl (by decide) (by omega) (by show _ < ((_ : Nat) : Int); simp only [mlen]; omega) (by decide) ?_
          refine hv2 (show 0 ≤ ab1 46 r1.toNat ∧ ab1 46 r1.toNat ≤ 4 from bxb1.2 46 (r1.toNat)) (show ab1 46 (r1.toNat) = a 46 (r1.toNat) from congrFun (fpb1.2 46 rfl) (r1.toNat)) (fun ra2 ae1 => ?_)
          refine m_st (st2 := [.int (iI (a 46 r1.toNat)), .int (iI k)]) (congrArg (fun z => Value.int (iI z) :: [.int (iI k)]) (congrFun (fpb1.2 46 rfl) (r1.toNat))) ?_
          refine m_icmp_ge (tgt := 75) C (r32_c (lo := 0) (hi := 4) hk.1 hk.2.1 (by decide) (by decide)) (r32_c (lo := 0) (hi := 4) ra1.1 ra1.2 (by decide) (by decide)) dX12_may_41 (by decide) (fun c3 => ?_) (fun c3 => ?_)
          · refine m_aload_n (j := 1) C dX12_may_75 rfl ?_
            refine m_geta (k := 57) C dX12_may_76 w6_116 (by decide) rfl ?_
            refine m_iload_n (j := 3) C dX12_may_79 rfl ?_
            refine m_aload_n (j := 1) C dX12_may_80 rfl ?_
            refine m_geta (k := 46) C dX12_may_81 w6_105 (by decide) rfl ?_
            refine m_iload_n (j := 2) C dX12_may_84 rfl ?_
            refine m_ald (k := 46) C dX12_may_85 rfl rfl (by decide) (by omega) (by show _ < ((_ : Nat) : Int); simp only [mlen]; omega) (by decide) ?_
            refine m_st (st2 := [.int (iI (a 46 r1.toNat)), .int (iI x), .ref (ad 57)]) (congrArg (fun z => Value.int (iI z) :: [.int (iI x), .ref (ad 57)]) (congrFun (fpb1.2 46 rfl) (r1.toNat))) ?_
            refine m_iadd C dX12_may_86 ?_
            refine m_aload_n (j := 1) C dX12_may_87 rfl ?_
            refine m_iload_n (j := 2) C dX12_may_88 rfl ?_
            refine m_iload_n (j := 4) C dX12_may_89 rfl ?_
            refine hv2 (show (-4) ≤ ab1 44 r1.toNat ∧ ab1 44 r1.toNat ≤ 5999 from bxb1.2 44 (r1.toNat)) (show ab1 44 (r1.toNat) = a 44 (r1.toNat) from congrFun (fpb1.2 44 rfl) (r1.toNat)) (fun ra3 ae2 => ?_)
            refine m_call (mc2 := 0) (ms2 := 0) (As := [.int (iI r1), .int (iI pt)]) (rest := [.int (iI (x + (a 46 r1.toNat))), .ref (ad 57)]) C (E_next (w := r1) (q := pt) bxb1 (by omega) (by omega)) dX12_may_90 kV_X12_367 rfl ck_13 rfl (Nat.le_of_ble_eq_true rfl) ⟨Nat.le_of_ble_eq_true rfl, Nat.le_of_ble_eq_true rfl⟩ ⟨Nat.le_of_ble_eq_true rfl, Nat.le_of_ble_eq_true rfl⟩ (fun rh1 vh1 ah1 h1 => ?_)
            obtain ⟨f1, rfl, fn1, _, ef1⟩ := h1
            obtain ⟨rfl, rfl⟩ := fn1.eq
            have gf1 : (f1 = 0 ∨ f1 = 1) ∧ ((ab1 44 r1.toNat = -3 ∧ f1 = 1) ∨ (ab1 44 r1.toNat = -4 ∧ f1 = 0) ∨ ((ab1 44 r1.toNat ≠ -3 ∧ ab1 44 r1.toNat ≠ -4) ∧ f1 = pt)) := ef1
            refine m_st (st2 := [.int (iI f1), .int (iI (x + (a 46 r1.toNat))), .ref (ad 57)]) rfl ?_
            refine m_aload_n (j := 1) C dX12_may_93 rfl ?_
            refine m_geta (k := 44) C dX12_may_94 w6_103 (by decide) rfl ?_
            refine m_iload_n (j := 2) C dX12_may_97 rfl ?_
            refine m_ald (k := 44) C dX12_may_98 rfl rfl (by decide) (by omega) (by show _ < ((_ : Nat) : Int); simp only [mlen]; omega) (by decide) ?_
            refine m_st (st2 := [.int (iI (a 44 r1.toNat)), .int (iI f1), .int (iI (x + (a 46 r1.toNat))), .ref (ad 57)]) (congrArg (fun z => Value.int (iI z) :: [.int (iI f1), .int (iI (x + (a 46 r1.toNat))), .ref (ad 57)]) (congrFun (fpb1.2 44 rfl) (r1.toNat))) ?_
            refine m_iconst C dX12_may_99 ?_
            refine m_icmp_ne (tgt := 107) C ⟨by omega, by omega⟩ ⟨by decide, by decide⟩ dX12_may_100 (by decide) (fun c4 => ?_) (fun c4 => ?_)
            · refine m_iconst C dX12_may_107 ?_
              refine m_callS (As := [.int (iI (x + (a 46 r1.toNat))), .int (iI f1), .int (iI 0)]) (rest := [.ref (ad 57)]) C (fun L E => s_state (iI (x + (a 46 r1.toNat))) (iI f1) (iI 0)) dX12_may_108 kS_X12_370 rfl rfl (Nat.le_of_ble_eq_true rfl) ⟨Nat.le_of_ble_eq_true rfl, Nat.le_of_ble_eq_true rfl⟩ ⟨Nat.le_of_ble_eq_true rfl, Nat.le_of_ble_eq_true rfl⟩ ?_
              obtain ⟨sx1, hsx1⟩ : ∃ w : Int, w = 4 * (x + (a 46 r1.toNat)) + 2 * f1 + 0 := ⟨_, rfl⟩
              · refine m_st (st2 := [.int (iI sx1), .ref (ad 57)]) (by rw [stt_c (by omega), ← hsx1]) ?_
                refine m_zald (k := 57) C dX12_may_111 rfl rfl (by decide) (by omega) (by show _ < ((_ : Nat) : Int); simp only [mlen]; omega) (by decide) ?_
                refine hv2 (show 0 ≤ ab1 57 sx1.toNat ∧ ab1 57 sx1.toNat ≤ 1 from bxb1.2 57 (sx1.toNat)) (show ab1 57 (sx1.toNat) = a 57 (sx1.toNat) from congrFun (fpb1.2 57 rfl) (sx1.toNat)) (fun ra4 ae3 => ?_)
                refine m_st (st2 := [.int (iI (a 57 sx1.toNat))]) (congrArg (fun z => Value.int (iI z) :: []) (congrFun (fpb1.2 57 rfl) (sx1.toNat))) ?_
                exact m_zret C dX12_may_112 rfl (by omega) (Nat.le_of_ble_eq_true rfl) (Nat.le_of_ble_eq_true rfl) ⟨(a 57 sx1.toNat), rfl, fpb1, bxb1, ⟨by omega, MYX.yes (nx := f1) (cp := 0) hI (by omega) (by omega) (fun e => absurd e (by omega)) (by unfold NXQ; omega) (by unfold CPQ; omega) (by omega) rfl (by omega)⟩⟩
            · refine m_iconst C dX12_may_103 ?_
              refine m_goto (tgt := 108) C dX12_may_104 (by decide) ?_
              refine m_callS (As := [.int (iI (x + (a 46 r1.toNat))), .int (iI f1), .int (iI 1)]) (rest := [.ref (ad 57)]) C (fun L E => s_state (iI (x + (a 46 r1.toNat))) (iI f1) (iI 1)) dX12_may_108 kS_X12_370 rfl rfl (Nat.le_of_ble_eq_true rfl) ⟨Nat.le_of_ble_eq_true rfl, Nat.le_of_ble_eq_true rfl⟩ ⟨Nat.le_of_ble_eq_true rfl, Nat.le_of_ble_eq_true rfl⟩ ?_
              obtain ⟨sx2, hsx2⟩ : ∃ w : Int, w = 4 * (x + (a 46 r1.toNat)) + 2 * f1 + 1 := ⟨_, rfl⟩
              · refine m_st (st2 := [.int (iI sx2), .ref (ad 57)]) (by rw [stt_c (by omega), ← hsx2]) ?_
                refine m_zald (k := 57) C dX12_may_111 rfl rfl (by decide) (by omega) (by show _ < ((_ : Nat) : Int); simp only [mlen]; omega) (by decide) ?_
                refine hv2 (show 0 ≤ ab1 57 sx2.toNat ∧ ab1 57 sx2.toNat ≤ 1 from bxb1.2 57 (sx2.toNat)) (show ab1 57 (sx2.toNat) = a 57 (sx2.toNat) from congrFun (fpb1.2 57 rfl) (sx2.toNat)) (fun ra5 ae4 => ?_)
                refine m_st (st2 := [.int (iI (a 57 sx2.toNat))]) (congrArg (fun z => Value.int (iI z) :: []) (congrFun (fpb1.2 57 rfl) (sx2.toNat))) ?_
                exact m_zret C dX12_may_112 rfl (by omega) (Nat.le_of_ble_eq_true rfl) (Nat.le_of_ble_eq_true rfl) ⟨(a 57 sx2.toNat), rfl, fpb1, bxb1, ⟨by omega, MYX.yes (nx := f1) (cp := 1) hI (by omega) (by omega) (fun e => absurd e (by omega)) (by unfold NXQ; omega) (by unfold CPQ; omega) (by omega) rfl (by omega)⟩⟩
          · refine m_aload_n (j := 1) C dX12_may_44 rfl ?_
            refine m_aload_n (j := 1) C dX12_may_45 rfl ?_
            refine m_iload_n (j := 2) C dX12_may_46 rfl ?_
            refine m_iload (j := 0) C dX12_may_47 rfl ?_
            refine hv4 (show (-4) ≤ ab1 44 r1.toNat ∧ ab1 44 r1.toNat ≤ 5999 from bxb1.2 44 (r1.toNat)) (show ab1 44 (r1.toNat) = a 44 (r1.toNat) from congrFun (fpb1.2 44 rfl) (r1.toNat)) (show 0 ≤ ab1 45 r1.toNat ∧ ab1 45 r1.toNat ≤ 23999 from bxb1.2 45 (r1.toNat)) (show ab1 45 (r1.toNat) = a 45 (r1.toNat) from congrFun (fpb1.2 45 rfl) (r1.toNat)) (fun ra6 ae5 ra7 ae6 => ?_)
            refine m_call (mc2 := 0) (ms2 := 0) (As := [.int (iI r1), .int (iI k)]) (rest := [.ref h0]) C (E_rowCell (w := r1) (k := k) bxb1 (by omega) (by omega)) dX12_may_49 kV_X12_324 rfl ck_13 rfl (Nat.le_of_ble_eq_true rfl) ⟨Nat.le_of_ble_eq_true rfl, Nat.le_of_ble_eq_true rfl⟩ ⟨Nat.le_of_ble_eq_true rfl, Nat.le_of_ble_eq_true rfl⟩ (fun rh4 vh4 ah4 h4 => ?_)
            obtain ⟨f2, rfl, fn2, _, ef2, rc1⟩ := h4
            obtain ⟨rfl, rfl⟩ := fn2.eq
            have gf2 : -2147483648 ≤ f2 ∧ f2 ≤ 2147483647 := ef2
            refine m_st (st2 := [.int (iI f2), .ref h0]) rfl ?_
            refine m_aload_n (j := 1) C dX12_may_52 rfl ?_
            refine m_geta (k := 48) C dX12_may_53 w6_107 (by decide) rfl ?_
            refine m_iload_n (j := 3) C dX12_may_56 rfl ?_
            refine m_iload (j := 0) C dX12_may_57 rfl ?_
            refine m_iadd C dX12_may_59 ?_
            refine m_ald (k := 48) C dX12_may_60 rfl rfl (by decide) (by omega) (by show _ < ((_ : Nat) : Int); simp only [mlen]; omega) (by decide) ?_
            refine hv2 (show (-2147483648) ≤ ab1 48 (x + k).toNat ∧ ab1 48 (x + k).toNat ≤ 2147483647 from bxb1.2 48 ((x + k).toNat)) (show ab1 48 ((x + k).toNat) = a 48 ((x + k).toNat) from congrFun (fpb1.2 48 rfl) ((x + k).toNat)) (fun ra8 ae7 => ?_)
            refine m_st (st2 := [.int (iI (a 48 (x + k).toNat)), .int (iI f2), .ref h0]) (congrArg (fun z => Value.int (iI z) :: [.int (iI f2), .ref h0]) (congrFun (fpb1.2 48 rfl) ((x + k).toNat))) ?_
            refine m_call (mc2 := 0) (ms2 := 0) (As := [.int (iI f2), .int (iI (a 48 (x + k).toNat))]) (rest := []) C (E_looksLike (x := f2) (y := a 48 (x + k).toNat) bxb1 (by omega) (by omega)) dX12_may_61 kV_X12_363 rfl ck_13 rfl (Nat.le_of_ble_eq_true rfl) ⟨Nat.le_of_ble_eq_true rfl, Nat.le_of_ble_eq_true rfl⟩ ⟨Nat.le_of_ble_eq_true rfl, Nat.le_of_ble_eq_true rfl⟩ (fun rh5 vh5 ah5 h5 => ?_)
            obtain ⟨f3, rfl, fn3, _, ef3, lk1⟩ := h5
            obtain ⟨rfl, rfl⟩ := fn3.eq
            have gf3 : f3 = 0 ∨ f3 = 1 := ef3
            refine m_st (st2 := [.int (iI f3)]) rfl ?_
            refine m_if_ne (tgt := 69) C (r32_01 gf3) dX12_may_64 (by decide) (fun c5 => ?_) (fun c5 => ?_)
            · replace gf3 := (gf3.resolve_left c5)
              refine m_iinc (z := k) (j := 0) (lv2 := [(5, .int (iI (k + 1))), (0, .ref h0), (1, .int (iI r1)), (2, .int (iI x)), (3, .int (iI pt)), (4, .int (iI g))]) C dX12_may_69 rfl (by decide) rfl ?_
              refine m_goto (tgt := 33) C dX12_may_72 (by decide) ?_
              refine m_lv (lv2 := [(5, .int (iI (k + 1))), (0, .ref h0), (1, .int (iI r1)), (2, .int (iI x)), (3, .int (iI pt)), (4, .int (iI g))]) [0, 1, 2, 3, 4, 5] rfl ?_
              exact ih1  (k + 1) _ _ (by omega) bxb1 fpb1 (by omega) (hI.step (by have q1 := lk1.mp (by omega); rw [rc1, ← (fpb1.eq).1, ← (fpb1.eq).2] at q1; exact q1))
            · clear gf3
              refine m_iconst C dX12_may_67 ?_
              exact m_zret C dX12_may_68 rfl (Or.inl rfl) (Nat.le_of_ble_eq_true rfl) (Nat.le_of_ble_eq_true rfl) ⟨0, rfl, fpb1, bxb1, ⟨by omega, MYX.no2 (k := k) ⟨by omega, by omega⟩ (fun q => absurd (lk1.mpr (by rw [rc1, ← (fpb1.eq).1, ← (fpb1.eq).2]; exact q)) (by omega)) rfl⟩⟩
      refine m_lv (lv2 := [(5, .int (iI 0)), (0, .ref h0), (1, .int (iI r1)), (2, .int (iI x)), (3, .int (iI pt)), (4, .int (iI g))]) [0, 1, 2, 3, 4, 5] rfl ?_
      exact Lp1 6 0 _ _ (by omega) hB fp0 (by omega) LKJ.zero
    · refine m_aload_n (j := 0) C dX12_may_20 rfl ?_
      refine m_iload_n (j := 1) C dX12_may_21 rfl ?_
      have ra9 : (-4) ≤ a 44 r1.toNat ∧ a 44 r1.toNat ≤ 5999 := hB.2 44 (r1.toNat)
      refine m_call (mc2 := 0) (ms2 := 0) (As := [.int (iI r1)]) (rest := []) C (E_isSmallRule (w := r1) hB (by omega) (by show a 44 r1.toNat < 6000; omega)) dX12_may_22 kV_X12_348 rfl ck_13 rfl (Nat.le_of_ble_eq_true rfl) ⟨Nat.le_of_ble_eq_true rfl, Nat.le_of_ble_eq_true rfl⟩ ⟨Nat.le_of_ble_eq_true rfl, Nat.le_of_ble_eq_true rfl⟩ (fun rh6 vh6 ah6 h6 => ?_)
      obtain ⟨f4, rfl, fn4, _, ef4, sm1⟩ := h6
      obtain ⟨rfl, rfl⟩ := fn4.eq
      refine hv2 (show f4 = 0 ∨ f4 = 1 from ef4) (show SMX a r1 f4 from SMX.fr sm1 fp0) (fun gf4 sn1 => ?_)
      refine m_st (st2 := [.int (iI f4)]) rfl ?_
      refine m_if_ne (tgt := 30) C (r32_01 gf4) dX12_may_25 (by decide) (fun c6 => ?_) (fun c6 => ?_)
      · replace gf4 := (gf4.resolve_left c6)
        refine m_iconst C dX12_may_30 ?_
        refine m_istore (lv2 := [(5, .int (iI 0)), (0, .ref h0), (1, .int (iI r1)), (2, .int (iI x)), (3, .int (iI pt)), (4, .int (iI g))]) C dX12_may_31 (by decide) rfl ?_
        have Lp2 : ∀ (nn : Nat) (k : Int) (vb2 : Nat → Int) (ab2 : Nat → Nat → Int), 5 - k < (nn : Int) → BX vb2 ab2 → fr [] [] v a vb2 ab2 → (0 ≤ k ∧ k ≤ 4 ∧ k ≤ a 46 r1.toNat) → (LKJ v a r1 x k) → mw p l e (rmq 2 0 0) s m args below meth c G A 6 (MQ below (Qm G A (fun rq Lq Eq => ∃ (vq : Nat → Int) (aq : Nat → Nat → Int), mI G h0 ad ln vq aq Lq Eq ∧ (fun r v2 a2 => ∃ f : Int, r = some (.int (iI f)) ∧ fr [] [] v a v2 a2 ∧ BX v2 a2 ∧ ((f = 0 ∨ (f = 1 ∧ x + a 46 r1.toNat ≤ v 50)) ∧ MYX v a r1 x pt g f)) rq vq aq)) args s 0 0 A) h0 ad ln vb2 ab2 0 0 33 [(5, .int (iI k)), (0, .ref h0), (1, .int (iI r1)), (2, .int (iI x)), (3, .int (iI pt)), (4, .int (iI g))] [] := by
          intro nn
          induction nn with
          | zero =>
            intro k vb2 ab2 hm bxb2 fpb2 hk hI
            exact absurd hm (by omega)
          | succ nn ih2 =>
            intro k vb2 ab2 hm bxb2 fpb2 hk hI
            refine m_iload (j := 0) C dX12_may_33 rfl ?_
            refine m_aload_n (j := 1) C dX12_may_35 rfl ?_
            refine m_geta (k := 46) C dX12_may_36 w6_105 (by decide) rfl ?_
            refine m_iload_n (j := 2) C dX12_may_39 rfl ?_
            refine m_ald (k := 46) C dX12_may_40 rfl rfl (by decide) (by omega) (by show _ < ((_ : Nat) : Int); simp only [mlen]; omega) (by decide) ?_
            refine hv2 (show 0 ≤ ab2 46 r1.toNat ∧ ab2 46 r1.toNat ≤ 4 from bxb2.2 46 (r1.toNat)) (show ab2 46 (r1.toNat) = a 46 (r1.toNat) from congrFun (fpb2.2 46 rfl) (r1.toNat)) (fun ra10 ae8 => ?_)
            refine m_st (st2 := [.int (iI (a 46 r1.toNat)), .int (iI k)]) (congrArg (fun z => Value.int (iI z) :: [.int (iI k)]) (congrFun (fpb2.2 46 rfl) (r1.toNat))) ?_
            refine m_icmp_ge (tgt := 75) C (r32_c (lo := 0) (hi := 4) hk.1 hk.2.1 (by decide) (by decide)) (r32_c (lo := 0) (hi := 4) ra1.1 ra1.2 (by decide) (by decide)) dX12_may_41 (by decide) (fun c7 => ?_) (fun c7 => ?_)
            · refine m_aload_n (j := 1) C dX12_may_75 rfl ?_
              refine m_geta (k := 57) C dX12_may_76 w6_116 (by decide) rfl ?_
              refine m_iload_n (j := 3) C dX12_may_79 rfl ?_
              refine m_aload_n (j := 1) C dX12_may_80 rfl ?_
              refine m_geta (k := 46) C dX12_may_81 w6_105 (by decide) rfl ?_
              refine m_iload_n (j := 2) C dX12_may_84 rfl ?_
              refine m_ald (k := 46) C dX12_may_85 rfl rfl (by decide) (by omega) (by show _ < ((_ : Nat) : Int); simp only [mlen]; omega) (by decide) ?_
              refine m_st (st2 := [.int (iI (a 46 r1.toNat)), .int (iI x), .ref (ad 57)]) (congrArg (fun z => Value.int (iI z) :: [.int (iI x), .ref (ad 57)]) (congrFun (fpb2.2 46 rfl) (r1.toNat))) ?_
              refine m_iadd C dX12_may_86 ?_
              refine m_aload_n (j := 1) C dX12_may_87 rfl ?_
              refine m_iload_n (j := 2) C dX12_may_88 rfl ?_
              refine m_iload_n (j := 4) C dX12_may_89 rfl ?_
              refine hv2 (show (-4) ≤ ab2 44 r1.toNat ∧ ab2 44 r1.toNat ≤ 5999 from bxb2.2 44 (r1.toNat)) (show ab2 44 (r1.toNat) = a 44 (r1.toNat) from congrFun (fpb2.2 44 rfl) (r1.toNat)) (fun ra11 ae9 => ?_)
              refine m_call (mc2 := 0) (ms2 := 0) (As := [.int (iI r1), .int (iI pt)]) (rest := [.int (iI (x + (a 46 r1.toNat))), .ref (ad 57)]) C (E_next (w := r1) (q := pt) bxb2 (by omega) (by omega)) dX12_may_90 kV_X12_367 rfl ck_13 rfl (Nat.le_of_ble_eq_true rfl) ⟨Nat.le_of_ble_eq_true rfl, Nat.le_of_ble_eq_true rfl⟩ ⟨Nat.le_of_ble_eq_true rfl, Nat.le_of_ble_eq_true rfl⟩ (fun rh7 vh7 ah7 h7 => ?_)
              obtain ⟨f5, rfl, fn5, _, ef5⟩ := h7
              obtain ⟨rfl, rfl⟩ := fn5.eq
              have gf5 : (f5 = 0 ∨ f5 = 1) ∧ ((ab2 44 r1.toNat = -3 ∧ f5 = 1) ∨ (ab2 44 r1.toNat = -4 ∧ f5 = 0) ∨ ((ab2 44 r1.toNat ≠ -3 ∧ ab2 44 r1.toNat ≠ -4) ∧ f5 = pt)) := ef5
              refine m_st (st2 := [.int (iI f5), .int (iI (x + (a 46 r1.toNat))), .ref (ad 57)]) rfl ?_
              refine m_aload_n (j := 1) C dX12_may_93 rfl ?_
              refine m_geta (k := 44) C dX12_may_94 w6_103 (by decide) rfl ?_
              refine m_iload_n (j := 2) C dX12_may_97 rfl ?_
              refine m_ald (k := 44) C dX12_may_98 rfl rfl (by decide) (by omega) (by show _ < ((_ : Nat) : Int); simp only [mlen]; omega) (by decide) ?_
              refine m_st (st2 := [.int (iI (a 44 r1.toNat)), .int (iI f5), .int (iI (x + (a 46 r1.toNat))), .ref (ad 57)]) (congrArg (fun z => Value.int (iI z) :: [.int (iI f5), .int (iI (x + (a 46 r1.toNat))), .ref (ad 57)]) (congrFun (fpb2.2 44 rfl) (r1.toNat))) ?_
              refine m_iconst C dX12_may_99 ?_
              refine m_icmp_ne (tgt := 107) C (r32_c (lo := (-4)) (hi := 5999) ra9.1 ra9.2 (by decide) (by decide)) ⟨by decide, by decide⟩ dX12_may_100 (by decide) (fun c8 => ?_) (fun c8 => ?_)
              · refine m_iconst C dX12_may_107 ?_
                refine m_callS (As := [.int (iI (x + (a 46 r1.toNat))), .int (iI f5), .int (iI 0)]) (rest := [.ref (ad 57)]) C (fun L E => s_state (iI (x + (a 46 r1.toNat))) (iI f5) (iI 0)) dX12_may_108 kS_X12_370 rfl rfl (Nat.le_of_ble_eq_true rfl) ⟨Nat.le_of_ble_eq_true rfl, Nat.le_of_ble_eq_true rfl⟩ ⟨Nat.le_of_ble_eq_true rfl, Nat.le_of_ble_eq_true rfl⟩ ?_
                obtain ⟨sx3, hsx3⟩ : ∃ w : Int, w = 4 * (x + (a 46 r1.toNat)) + 2 * f5 + 0 := ⟨_, rfl⟩
                · refine m_st (st2 := [.int (iI sx3), .ref (ad 57)]) (by rw [stt_c (by omega), ← hsx3]) ?_
                  refine m_zald (k := 57) C dX12_may_111 rfl rfl (by decide) (by omega) (by show _ < ((_ : Nat) : Int); simp only [mlen]; omega) (by decide) ?_
                  refine hv2 (show 0 ≤ ab2 57 sx3.toNat ∧ ab2 57 sx3.toNat ≤ 1 from bxb2.2 57 (sx3.toNat)) (show ab2 57 (sx3.toNat) = a 57 (sx3.toNat) from congrFun (fpb2.2 57 rfl) (sx3.toNat)) (fun ra12 ae10 => ?_)
                  refine m_st (st2 := [.int (iI (a 57 sx3.toNat))]) (congrArg (fun z => Value.int (iI z) :: []) (congrFun (fpb2.2 57 rfl) (sx3.toNat))) ?_
                  exact m_zret C dX12_may_112 rfl (by omega) (Nat.le_of_ble_eq_true rfl) (Nat.le_of_ble_eq_true rfl) ⟨(a 57 sx3.toNat), rfl, fpb2, bxb2, ⟨by omega, MYX.yes (nx := f5) (cp := 0) hI (by omega) (by omega) (fun _ => sn1.mp (by omega)) (by unfold NXQ; omega) (by unfold CPQ; omega) (by omega) rfl (by omega)⟩⟩
              · refine m_iconst C dX12_may_103 ?_
                refine m_goto (tgt := 108) C dX12_may_104 (by decide) ?_
                refine m_callS (As := [.int (iI (x + (a 46 r1.toNat))), .int (iI f5), .int (iI 1)]) (rest := [.ref (ad 57)]) C (fun L E => s_state (iI (x + (a 46 r1.toNat))) (iI f5) (iI 1)) dX12_may_108 kS_X12_370 rfl rfl (Nat.le_of_ble_eq_true rfl) ⟨Nat.le_of_ble_eq_true rfl, Nat.le_of_ble_eq_true rfl⟩ ⟨Nat.le_of_ble_eq_true rfl, Nat.le_of_ble_eq_true rfl⟩ ?_
                obtain ⟨sx4, hsx4⟩ : ∃ w : Int, w = 4 * (x + (a 46 r1.toNat)) + 2 * f5 + 1 := ⟨_, rfl⟩
                · refine m_st (st2 := [.int (iI sx4), .ref (ad 57)]) (by rw [stt_c (by omega), ← hsx4]) ?_
                  refine m_zald (k := 57) C dX12_may_111 rfl rfl (by decide) (by omega) (by show _ < ((_ : Nat) : Int); simp only [mlen]; omega) (by decide) ?_
                  refine hv2 (show 0 ≤ ab2 57 sx4.toNat ∧ ab2 57 sx4.toNat ≤ 1 from bxb2.2 57 (sx4.toNat)) (show ab2 57 (sx4.toNat) = a 57 (sx4.toNat) from congrFun (fpb2.2 57 rfl) (sx4.toNat)) (fun ra13 ae11 => ?_)
                  refine m_st (st2 := [.int (iI (a 57 sx4.toNat))]) (congrArg (fun z => Value.int (iI z) :: []) (congrFun (fpb2.2 57 rfl) (sx4.toNat))) ?_
                  exact m_zret C dX12_may_112 rfl (by omega) (Nat.le_of_ble_eq_true rfl) (Nat.le_of_ble_eq_true rfl) ⟨(a 57 sx4.toNat), rfl, fpb2, bxb2, ⟨by omega, MYX.yes (nx := f5) (cp := 1) hI (by omega) (by omega) (fun _ => sn1.mp (by omega)) (by unfold NXQ; omega) (by unfold CPQ; omega) (by omega) rfl (by omega)⟩⟩
            · refine m_aload_n (j := 1) C dX12_may_44 rfl ?_
              refine m_aload_n (j := 1) C dX12_may_45 rfl ?_
              refine m_iload_n (j := 2) C dX12_may_46 rfl ?_
              refine m_iload (j := 0) C dX12_may_47 rfl ?_
              refine hv4 (show (-4) ≤ ab2 44 r1.toNat ∧ ab2 44 r1.toNat ≤ 5999 from bxb2.2 44 (r1.toNat)) (show ab2 44 (r1.toNat) = a 44 (r1.toNat) from congrFun (fpb2.2 44 rfl) (r1.toNat)) (show 0 ≤ ab2 45 r1.toNat ∧ ab2 45 r1.toNat ≤ 23999 from bxb2.2 45 (r1.toNat)) (show ab2 45 (r1.toNat) = a 45 (r1.toNat) from congrFun (fpb2.2 45 rfl) (r1.toNat)) (fun ra14 ae12 ra15 ae13 => ?_)
              refine m_call (mc2 := 0) (ms2 := 0) (As := [.int (iI r1), .int (iI k)]) (rest := [.ref h0]) C (E_rowCell (w := r1) (k := k) bxb2 (by omega) (by omega)) dX12_may_49 kV_X12_324 rfl ck_13 rfl (Nat.le_of_ble_eq_true rfl) ⟨Nat.le_of_ble_eq_true rfl, Nat.le_of_ble_eq_true rfl⟩ ⟨Nat.le_of_ble_eq_true rfl, Nat.le_of_ble_eq_true rfl⟩ (fun rh10 vh10 ah10 h10 => ?_)
              obtain ⟨f6, rfl, fn6, _, ef6, rc2⟩ := h10
              obtain ⟨rfl, rfl⟩ := fn6.eq
              have gf6 : -2147483648 ≤ f6 ∧ f6 ≤ 2147483647 := ef6
              refine m_st (st2 := [.int (iI f6), .ref h0]) rfl ?_
              refine m_aload_n (j := 1) C dX12_may_52 rfl ?_
              refine m_geta (k := 48) C dX12_may_53 w6_107 (by decide) rfl ?_
              refine m_iload_n (j := 3) C dX12_may_56 rfl ?_
              refine m_iload (j := 0) C dX12_may_57 rfl ?_
              refine m_iadd C dX12_may_59 ?_
              refine m_ald (k := 48) C dX12_may_60 rfl rfl (by decide) (by omega) (by show _ < ((_ : Nat) : Int); simp only [mlen]; omega) (by decide) ?_
              refine hv2 (show (-2147483648) ≤ ab2 48 (x + k).toNat ∧ ab2 48 (x + k).toNat ≤ 2147483647 from bxb2.2 48 ((x + k).toNat)) (show ab2 48 ((x + k).toNat) = a 48 ((x + k).toNat) from congrFun (fpb2.2 48 rfl) ((x + k).toNat)) (fun ra16 ae14 => ?_)
              refine m_st (st2 := [.int (iI (a 48 (x + k).toNat)), .int (iI f6), .ref h0]) (congrArg (fun z => Value.int (iI z) :: [.int (iI f6), .ref h0]) (congrFun (fpb2.2 48 rfl) ((x + k).toNat))) ?_
              refine m_call (mc2 := 0) (ms2 := 0) (As := [.int (iI f6), .int (iI (a 48 (x + k).toNat))]) (rest := []) C (E_looksLike (x := f6) (y := a 48 (x + k).toNat) bxb2 (by omega) (by omega)) dX12_may_61 kV_X12_363 rfl ck_13 rfl (Nat.le_of_ble_eq_true rfl) ⟨Nat.le_of_ble_eq_true rfl, Nat.le_of_ble_eq_true rfl⟩ ⟨Nat.le_of_ble_eq_true rfl, Nat.le_of_ble_eq_true rfl⟩ (fun rh11 vh11 ah11 h11 => ?_)
              obtain ⟨f7, rfl, fn7, _, ef7, lk2⟩ := h11
              obtain ⟨rfl, rfl⟩ := fn7.eq
              have gf7 : f7 = 0 ∨ f7 = 1 := ef7
              refine m_st (st2 := [.int (iI f7)]) rfl ?_
              refine m_if_ne (tgt := 69) C (r32_01 gf7) dX12_may_64 (by decide) (fun c9 => ?_) (fun c9 => ?_)
              · replace gf7 := (gf7.resolve_left c9)
                refine m_iinc (z := k) (j := 0) (lv2 := [(5, .int (iI (k + 1))), (0, .ref h0), (1, .int (iI r1)), (2, .int (iI x)), (3, .int (iI pt)), (4, .int (iI g))]) C dX12_may_69 rfl (by decide) rfl ?_
                refine m_goto (tgt := 33) C dX12_may_72 (by decide) ?_
                refine m_lv (lv2 := [(5, .int (iI (k + 1))), (0, .ref h0), (1, .int (iI r1)), (2, .int (iI x)), (3, .int (iI pt)), (4, .int (iI g))]) [0, 1, 2, 3, 4, 5] rfl ?_
                exact ih2  (k + 1) _ _ (by omega) bxb2 fpb2 (by omega) (hI.step (by have q1 := lk2.mp (by omega); rw [rc2, ← (fpb2.eq).1, ← (fpb2.eq).2] at q1; exact q1))
              · clear gf7
                refine m_iconst C dX12_may_67 ?_
                exact m_zret C dX12_may_68 rfl (Or.inl rfl) (Nat.le_of_ble_eq_true rfl) (Nat.le_of_ble_eq_true rfl) ⟨0, rfl, fpb2, bxb2, ⟨by omega, MYX.no2 (k := k) ⟨by omega, by omega⟩ (fun q => absurd (lk2.mpr (by rw [rc2, ← (fpb2.eq).1, ← (fpb2.eq).2]; exact q)) (by omega)) rfl⟩⟩
        refine m_lv (lv2 := [(5, .int (iI 0)), (0, .ref h0), (1, .int (iI r1)), (2, .int (iI x)), (3, .int (iI pt)), (4, .int (iI g))]) [0, 1, 2, 3, 4, 5] rfl ?_
        exact Lp2 6 0 _ _ (by omega) hB fp0 (by omega) LKJ.zero
      · clear gf4
        refine m_iconst C dX12_may_28 ?_
        exact m_zret C dX12_may_29 rfl (Or.inl rfl) (Nat.le_of_ble_eq_true rfl) (Nat.le_of_ble_eq_true rfl) ⟨0, rfl, fp0, hB, ⟨by omega, MYX.no1 (Or.inr ⟨by omega, fun q => absurd (sn1.mpr q) (by omega)⟩) rfl⟩⟩
set_option maxHeartbeats 4000000 in
set_option maxRecDepth 100000 in
theorem E_mayBlank {l : Launch} {G : GT} {h0 : Nat} {ad ln : Nat → Nat} {v : Nat → Int} {a : Nat → Nat → Int}  {x g : Int} (hB : BX v a) (hx : 0 ≤ x ∧ x < v 50) (h50 : v 50 ≤ 100) (hg : g = 0 ∨ g = 1) : Mm l G yX12_mayBlank cX12_mayBlank 3 (some .boolean) 1 [.int (iI x), .int (iI g)] h0 ad ln v a 0 0 (fun r v2 a2 => ∃ f : Int, r = some (.int (iI f)) ∧ fr [] [] v a v2 a2 ∧ BX v2 a2 ∧ ((f = 0 ∨ f = 1) ∧ MBY v a x g f)) := by
  refine Mm.mk (by decide) (Nat.le_of_ble_eq_true rfl) ?_
  intro p e s m args below meth c A C
  have fp0 : fr [] [] v a v a := fr.refl
  refine m_iload_n (j := 2) C dX12_mayBlank_0 rfl ?_
  refine m_if_ne (tgt := 38) C ⟨by omega, by omega⟩ dX12_mayBlank_1 (by decide) (fun c1 => ?_) (fun c1 => ?_)
  · refine m_iconst C dX12_mayBlank_38 ?_
    exact m_zret C dX12_mayBlank_39 rfl (Or.inl rfl) (Nat.le_of_ble_eq_true rfl) (Nat.le_of_ble_eq_true rfl) ⟨0, rfl, fp0, hB, ⟨by omega, MBY.no1 (by omega) rfl⟩⟩
  · refine m_aload_n (j := 0) C dX12_mayBlank_4 rfl ?_
    refine m_iconst C dX12_mayBlank_5 ?_
    refine m_aload_n (j := 0) C dX12_mayBlank_6 rfl ?_
    refine m_geta (k := 48) C dX12_mayBlank_7 w6_107 (by decide) rfl ?_
    refine m_iload_n (j := 1) C dX12_mayBlank_10 rfl ?_
    refine m_ald (k := 48) C dX12_mayBlank_11 rfl rfl (by decide) (by omega) (by show _ < ((_ : Nat) : Int); simp only [mlen]; omega) (by decide) ?_
    have ra1 : (-2147483648) ≤ a 48 x.toNat ∧ a 48 x.toNat ≤ 2147483647 := hB.2 48 (x.toNat)
    refine m_call (mc2 := 0) (ms2 := 0) (As := [.int (iI 0), .int (iI (a 48 x.toNat))]) (rest := []) C (E_looksLike (x := 0) (y := a 48 x.toNat) hB (by omega) (by omega)) dX12_mayBlank_12 kV_X12_363 rfl ck_13 rfl (Nat.le_of_ble_eq_true rfl) ⟨Nat.le_of_ble_eq_true rfl, Nat.le_of_ble_eq_true rfl⟩ ⟨Nat.le_of_ble_eq_true rfl, Nat.le_of_ble_eq_true rfl⟩ (fun rh1 vh1 ah1 h1 => ?_)
    obtain ⟨f1, rfl, fn1, _, ef1, lk1⟩ := h1
    obtain ⟨rfl, rfl⟩ := fn1.eq
    have gf1 : f1 = 0 ∨ f1 = 1 := ef1
    refine m_st (st2 := [.int (iI f1)]) rfl ?_
    refine m_if_eq (tgt := 38) C (r32_01 gf1) dX12_mayBlank_15 (by decide) (fun c2 => ?_) (fun c2 => ?_)
    · clear gf1
      refine m_iconst C dX12_mayBlank_38 ?_
      exact m_zret C dX12_mayBlank_39 rfl (Or.inl rfl) (Nat.le_of_ble_eq_true rfl) (Nat.le_of_ble_eq_true rfl) ⟨0, rfl, fp0, hB, ⟨by omega, MBY.no2 lk1 (by omega) rfl⟩⟩
    · replace gf1 := (gf1.resolve_left c2)
      refine m_aload_n (j := 0) C dX12_mayBlank_18 rfl ?_
      refine m_geta (k := 57) C dX12_mayBlank_19 w6_116 (by decide) rfl ?_
      refine m_iload_n (j := 1) C dX12_mayBlank_22 rfl ?_
      refine m_iconst C dX12_mayBlank_23 ?_
      refine m_iadd C dX12_mayBlank_24 ?_
      refine m_iconst C dX12_mayBlank_25 ?_
      refine m_iconst C dX12_mayBlank_26 ?_
      refine m_callS (As := [.int (iI (x + 1)), .int (iI 0), .int (iI 0)]) (rest := [.ref (ad 57)]) C (fun L E => s_state (iI (x + 1)) (iI 0) (iI 0)) dX12_mayBlank_27 kS_X12_370 rfl rfl (Nat.le_of_ble_eq_true rfl) ⟨Nat.le_of_ble_eq_true rfl, Nat.le_of_ble_eq_true rfl⟩ ⟨Nat.le_of_ble_eq_true rfl, Nat.le_of_ble_eq_true rfl⟩ ?_
      obtain ⟨sx1, hsx1⟩ : ∃ w : Int, w = 4 * (x + 1) + 2 * 0 + 0 := ⟨_, rfl⟩
      · refine m_st (st2 := [.int (iI sx1), .ref (ad 57)]) (by rw [stt_c (by omega), ← hsx1]) ?_
        refine m_zald (k := 57) C dX12_mayBlank_30 rfl rfl (by decide) (by omega) (by show _ < ((_ : Nat) : Int); simp only [mlen]; omega) (by decide) ?_
        have ra2 : 0 ≤ a 57 sx1.toNat ∧ a 57 sx1.toNat ≤ 1 := hB.2 57 (sx1.toNat)
        refine m_if_eq (tgt := 38) C (r32_c (lo := 0) (hi := 1) ra2.1 ra2.2 (by decide) (by decide)) dX12_mayBlank_31 (by decide) (fun c3 => ?_) (fun c3 => ?_)
        · refine m_iconst C dX12_mayBlank_38 ?_
          exact m_zret C dX12_mayBlank_39 rfl (Or.inl rfl) (Nat.le_of_ble_eq_true rfl) (Nat.le_of_ble_eq_true rfl) ⟨0, rfl, fp0, hB, ⟨by omega, MBY.mk2 (s := sx1) lk1 (by omega) (by omega) (by omega) (by omega)⟩⟩
        · refine m_iconst C dX12_mayBlank_34 ?_
          refine m_goto (tgt := 39) C dX12_mayBlank_35 (by decide) ?_
          exact m_zret C dX12_mayBlank_39 rfl (Or.inr rfl) (Nat.le_of_ble_eq_true rfl) (Nat.le_of_ble_eq_true rfl) ⟨1, rfl, fp0, hB, ⟨by omega, MBY.mk2 (s := sx1) lk1 (by omega) (by omega) (by omega) (by omega)⟩⟩
set_option maxHeartbeats 4000000 in
set_option maxRecDepth 100000 in
theorem E_findCan {l : Launch} {G : GT} {h0 : Nat} {ad ln : Nat → Nat} {v : Nat → Int} {a : Nat → Nat → Int}  (hB : BX v a) (hW : RWS a) (h50 : v 50 ≤ 100) : Mm l G yX12_findCan cX12_findCan 7 none 3 [] h0 ad ln v a 0 0 (fun r v2 a2 => r = none ∧ fr [] [57] v a v2 a2 ∧ BX v2 a2 ∧ (FC5 v2 a2 (-1))) := by
  refine Mm.mk (by decide) (Nat.le_of_ble_eq_true rfl) ?_
  intro p e s m args below meth c A C
  refine hv4 (show 0 ≤ v 50 ∧ v 50 ≤ 40200 from hB.1 50) ((hW 0 (Or.inl rfl)).1) ((hW 1 (Or.inr rfl)).1) (show fr [] [57] v a v a from fr.refl) (fun r50 r470 r471 fp0 => ?_)
  refine m_aload_n (j := 0) C dX12_findCan_0 rfl ?_
  have rv1 : 0 ≤ v 50 ∧ v 50 ≤ 40200 := hB.1 50
  refine m_get (k := 50) C dX12_findCan_1 w6_109 (by decide) rfl ?_
  refine m_istore_n (lv2 := [(1, .int (iI (v 50))), (0, .ref h0)]) C dX12_findCan_4 (by decide) rfl ?_
  have Lp1 : ∀ (nn : Nat) (x : Int) (vb1 : Nat → Int) (ab1 : Nat → Nat → Int), x + 1 < (nn : Int) → BX vb1 ab1 → fr [] [57] v a vb1 ab1 → (-1 ≤ x ∧ x ≤ v 50) → (FC5 vb1 ab1 x) → mw p l e (rmq 3 0 0) s m args below meth c G A 7 (MQ below (Qm G A (fun rq Lq Eq => ∃ (vq : Nat → Int) (aq : Nat → Nat → Int), mI G h0 ad ln vq aq Lq Eq ∧ (fun r v2 a2 => r = none ∧ fr [] [57] v a v2 a2 ∧ BX v2 a2 ∧ (FC5 v2 a2 (-1))) rq vq aq)) args s 0 0 A) h0 ad ln vb1 ab1 0 0 5 [(1, .int (iI x)), (0, .ref h0)] [] := by
    intro nn
    induction nn with
    | zero =>
      intro x vb1 ab1 hm bxb1 fpb1 hx hF5
      exact absurd hm (by omega)
    | succ nn ih1 =>
      intro x vb1 ab1 hm bxb1 fpb1 hx hF5
      refine m_iload_n (j := 0) C dX12_findCan_5 rfl ?_
      refine m_if_lt (tgt := 151) C ⟨by omega, by omega⟩ dX12_findCan_6 (by decide) (fun c1 => ?_) (fun c1 => ?_)
      · exact m_vret C dX12_findCan_151 rfl (Nat.le_of_ble_eq_true rfl) (Nat.le_of_ble_eq_true rfl) ⟨rfl, fpb1, bxb1, (by have q := hF5; rw [show x = -1 by omega] at q; exact q)⟩
      · refine m_iconst C dX12_findCan_9 ?_
        refine m_istore_n (lv2 := [(2, .int (iI 0)), (1, .int (iI x)), (0, .ref h0)]) C dX12_findCan_10 (by decide) rfl ?_
        have Lp2 : ∀ (nn : Nat) (y : Int) (vb2 : Nat → Int) (ab2 : Nat → Nat → Int), 5 - y < (nn : Int) → BX vb2 ab2 → fr [] [57] v a vb2 ab2 → (0 ≤ y ∧ y ≤ 4) → (FC11 vb2 ab2 x y) → mw p l e (rmq 3 0 0) s m args below meth c G A 7 (MQ below (Qm G A (fun rq Lq Eq => ∃ (vq : Nat → Int) (aq : Nat → Nat → Int), mI G h0 ad ln vq aq Lq Eq ∧ (fun r v2 a2 => r = none ∧ fr [] [57] v a v2 a2 ∧ BX v2 a2 ∧ (FC5 v2 a2 (-1))) rq vq aq)) args s 0 0 A) h0 ad ln vb2 ab2 0 0 11 [(2, .int (iI y)), (1, .int (iI x)), (0, .ref h0)] [] := by
          intro nn
          induction nn with
          | zero =>
            intro y vb2 ab2 hm bxb2 fpb2 hy hF11
            exact absurd hm (by omega)
          | succ nn ih2 =>
            intro y vb2 ab2 hm bxb2 fpb2 hy hF11
            refine m_iload_n (j := 0) C dX12_findCan_11 rfl ?_
            refine m_iconst C dX12_findCan_12 ?_
            refine m_icmp_ge (tgt := 145) C (r32_c (lo := 0) (hi := 4) hy.1 hy.2 (by decide) (by decide)) ⟨by decide, by decide⟩ dX12_findCan_13 (by decide) (fun c2 => ?_) (fun c2 => ?_)
            · refine m_iinc (z := x) (j := 1) (lv2 := [(1, .int (iI (x + (-1)))), (2, .int (iI y)), (0, .ref h0)]) C dX12_findCan_145 rfl (by decide) rfl ?_
              refine m_goto (tgt := 5) C dX12_findCan_148 (by decide) ?_
              refine m_lv (lv2 := [(1, .int (iI (x + (-1)))), (0, .ref h0)]) [0, 2] rfl ?_
              exact ih1  (x + (-1)) _ _ (by omega) bxb2 fpb2 (by omega) (hF11.up (by omega) (by omega))
            · refine m_iload_n (j := 0) C dX12_findCan_16 rfl ?_
              refine m_iconst C dX12_findCan_17 ?_
              obtain ⟨dq1, hdq1⟩ : ∃ q : Int, q = y / 2 := ⟨_, rfl⟩
              refine m_idiv (w := iI dq1) C dX12_findCan_18 (iI_ne0 ⟨by omega, by omega⟩) (by rw [hdq1]; exact iI_div ⟨by omega, by omega⟩ ⟨by omega, by omega⟩) ?_
              refine m_istore_n (lv2 := [(3, .int (iI dq1)), (2, .int (iI y)), (1, .int (iI x)), (0, .ref h0)]) C dX12_findCan_19 (by decide) rfl ?_
              refine m_iload_n (j := 1) C dX12_findCan_20 rfl ?_
              refine m_iconst C dX12_findCan_21 ?_
              obtain ⟨dq2, hdq2⟩ : ∃ q : Int, q = y % 2 := ⟨_, rfl⟩
              refine m_irem (w := iI dq2) C dX12_findCan_22 (iI_ne0 ⟨by omega, by omega⟩) (by rw [hdq2]; exact iI_mod ⟨by omega, by omega⟩ ⟨by omega, by omega⟩) ?_
              refine m_iconst C dX12_findCan_23 ?_
              have J1 : ∀ (g : Int) (vb3 : Nat → Int) (ab3 : Nat → Nat → Int), BX vb3 ab3 → fr [] [57] v a vb3 ab3 → ((g = 1 ∧ dq2 = 1) ∨ (g = 0 ∧ dq2 ≠ 1)) → (FC11 vb3 ab3 x y) → mw p l e (rmq 3 0 0) s m args below meth c G A 7 (MQ below (Qm G A (fun rq Lq Eq => ∃ (vq : Nat → Int) (aq : Nat → Nat → Int), mI G h0 ad ln vq aq Lq Eq ∧ (fun r v2 a2 => r = none ∧ fr [] [57] v a v2 a2 ∧ BX v2 a2 ∧ (FC5 v2 a2 (-1))) rq vq aq)) args s 0 0 A) h0 ad ln vb3 ab3 0 0 32 [(3, .int (iI dq1)), (2, .int (iI y)), (1, .int (iI x)), (0, .ref h0)] [.int (iI g)] := by
                intro g vb3 ab3 bxb3 fpb3 hg hF32
                refine m_istore (lv2 := [(4, .int (iI g)), (3, .int (iI dq1)), (2, .int (iI y)), (1, .int (iI x)), (0, .ref h0)]) C dX12_findCan_32 (by decide) rfl ?_
                refine m_iload_n (j := 3) C dX12_findCan_34 rfl ?_
                refine m_aload_n (j := 4) C dX12_findCan_35 rfl ?_
                refine hv2 (show 0 ≤ vb3 50 ∧ vb3 50 ≤ 40200 from bxb3.1 50) (show vb3 50 = v 50 from fpb3.1 50 rfl) (fun rv2 ve1 => ?_)
                refine m_get (k := 50) C dX12_findCan_36 w6_109 (by decide) rfl ?_
                refine m_st (st2 := [.int (iI (v 50)), .int (iI x)]) (congrArg (fun z => Value.int (iI z) :: [.int (iI x)]) (fpb3.1 50 rfl)) ?_
                have J2 : ∀ (g1 : Int) (vb4 : Nat → Int) (ab4 : Nat → Nat → Int), BX vb4 ab4 → fr [] [57] v a vb4 ab4 → (g1 = 0 ∨ g1 = 1) → (FC11 vb4 ab4 x y) → (FB70 vb4 ab4 x g g1) → mw p l e (rmq 3 0 0) s m args below meth c G A 7 (MQ below (Qm G A (fun rq Lq Eq => ∃ (vq : Nat → Int) (aq : Nat → Nat → Int), mI G h0 ad ln vq aq Lq Eq ∧ (fun r v2 a2 => r = none ∧ fr [] [57] v a v2 a2 ∧ BX v2 a2 ∧ (FC5 v2 a2 (-1))) rq vq aq)) args s 0 0 A) h0 ad ln vb4 ab4 0 0 70 [(4, .int (iI g)), (3, .int (iI dq1)), (2, .int (iI y)), (1, .int (iI x)), (0, .ref h0)] [.int (iI g1)] := by
                  intro g1 vb4 ab4 bxb4 fpb4 hg1 hF70 hB70
                  refine m_istore (lv2 := [(5, .int (iI g1)), (4, .int (iI g)), (3, .int (iI dq1)), (2, .int (iI y)), (1, .int (iI x)), (0, .ref h0)]) C dX12_findCan_70 (by decide) rfl ?_
                  refine m_sipush (z := 6008) C dX12_findCan_72 (by decide) ?_
                  refine m_iload_n (j := 2) C dX12_findCan_75 rfl ?_
                  refine m_imul C dX12_findCan_76 ?_
                  refine m_istore (lv2 := [(6, .int (iI (6008 * dq1))), (5, .int (iI g1)), (4, .int (iI g)), (3, .int (iI dq1)), (2, .int (iI y)), (1, .int (iI x)), (0, .ref h0)]) C dX12_findCan_77 (by decide) rfl ?_
                  have Lp3 : ∀ (nn : Nat) (g2 r : Int) (vb5 : Nat → Int) (ab5 : Nat → Nat → Int), 6008 * dq1 + 6009 - r < (nn : Int) → BX vb5 ab5 → fr [] [57] v a vb5 ab5 → (g2 = 0 ∨ g2 = 1) → (6008 * dq1 ≤ r ∧ r ≤ 6008 * dq1 + a 47 dq1.toNat) → (0 ≤ a 47 dq1.toNat ∧ a 47 dq1.toNat ≤ 6008) → (FC11 vb5 ab5 x y) → (FR79 vb5 ab5 x dq1 g g2 r) → mw p l e (rmq 3 0 0) s m args below meth c G A 7 (MQ below (Qm G A (fun rq Lq Eq => ∃ (vq : Nat → Int) (aq : Nat → Nat → Int), mI G h0 ad ln vq aq Lq Eq ∧ (fun r v2 a2 => r = none ∧ fr [] [57] v a v2 a2 ∧ BX v2 a2 ∧ (FC5 v2 a2 (-1))) rq vq aq)) args s 0 0 A) h0 ad ln vb5 ab5 0 0 79 [(6, .int (iI r)), (5, .int (iI g2)), (4, .int (iI g)), (3, .int (iI dq1)), (2, .int (iI y)), (1, .int (iI x)), (0, .ref h0)] [] := by
                    intro nn
                    induction nn with
                    | zero =>
                      intro g2 r vb5 ab5 hm bxb5 fpb5 hg2 hr hr47 hF79 hR79
                      exact absurd hm (by omega)
                    | succ nn ih3 =>
                      intro g2 r vb5 ab5 hm bxb5 fpb5 hg2 hr hr47 hF79 hR79
                      refine m_iload (j := 0) C dX12_findCan_79 rfl ?_
                      refine m_sipush (z := 6008) C dX12_findCan_81 (by decide) ?_
                      refine m_iload_n (j := 3) C dX12_findCan_84 rfl ?_
                      refine m_imul C dX12_findCan_85 ?_
                      refine m_aload_n (j := 6) C dX12_findCan_86 rfl ?_
                      refine m_geta (k := 47) C dX12_findCan_87 w6_106 (by decide) rfl ?_
                      refine m_iload_n (j := 3) C dX12_findCan_90 rfl ?_
                      refine m_ald (k := 47) C dX12_findCan_91 rfl rfl (by decide) (by omega) (by show _ < ((_ : Nat) : Int); simp only [mlen]; omega) (by decide) ?_
                      refine hv2 (show 0 ≤ ab5 47 dq1.toNat ∧ ab5 47 dq1.toNat ≤ 6008 from bxb5.2 47 (dq1.toNat)) (show ab5 47 (dq1.toNat) = a 47 (dq1.toNat) from congrFun (fpb5.2 47 rfl) (dq1.toNat)) (fun ra1 ae1 => ?_)
                      refine m_st (st2 := [.int (iI (a 47 dq1.toNat)), .int (iI (6008 * dq1)), .int (iI r)]) (congrArg (fun z => Value.int (iI z) :: [.int (iI (6008 * dq1)), .int (iI r)]) (congrFun (fpb5.2 47 rfl) (dq1.toNat))) ?_
                      refine m_iadd C dX12_findCan_92 ?_
                      refine m_icmp_ge (tgt := 127) C ⟨by omega, by omega⟩ ⟨by omega, by omega⟩ dX12_findCan_93 (by decide) (fun c3 => ?_) (fun c3 => ?_)
                      · refine m_aload_n (j := 6) C dX12_findCan_127 rfl ?_
                        refine m_geta (k := 57) C dX12_findCan_128 w6_116 (by decide) rfl ?_
                        refine m_iconst C dX12_findCan_131 ?_
                        refine m_iload_n (j := 5) C dX12_findCan_132 rfl ?_
                        refine m_imul C dX12_findCan_133 ?_
                        refine m_iload_n (j := 4) C dX12_findCan_134 rfl ?_
                        refine m_iadd C dX12_findCan_135 ?_
                        refine m_iload (j := 1) C dX12_findCan_136 rfl ?_
                        refine m_zast (k := 57) (w := g2) C dX12_findCan_138 rfl rfl (by decide) (by omega) (by show _ < ((_ : Nat) : Int); simp only [mlen]; omega) (by decide) (by omega) ?_
                        refine hv2 (show BX vb5 (up2 ab5 57 ((4 * x) + y).toNat g2) from bxb5.set (k := 57) (i := ((4 * x) + y).toNat) (z := g2) (show 0 ≤ g2 ∧ g2 ≤ 1 by omega)) (fpb5.set (k := 57) (i := ((4 * x) + y).toNat) (z := g2) rfl) (fun bq1 fq1 => ?_)
                        refine m_iinc (z := y) (j := 4) (lv2 := [(2, .int (iI (y + 1))), (6, .int (iI r)), (5, .int (iI g2)), (4, .int (iI g)), (3, .int (iI dq1)), (1, .int (iI x)), (0, .ref h0)]) C dX12_findCan_139 rfl (by decide) rfl ?_
                        refine m_goto (tgt := 11) C dX12_findCan_142 (by decide) ?_
                        refine hv2 (show 0 ≤ vb5 50 ∧ vb5 50 ≤ 40200 from bq1.1 50) (show vb5 50 = v 50 from fpb5.1 50 rfl) (fun rv3 ve2 => ?_)
                        refine m_lv (lv2 := [(2, .int (iI (y + 1))), (1, .int (iI x)), (0, .ref h0)]) [0, 5, 6] rfl ?_
                        exact ih2  (y + 1) _ _ (by omega) bq1 fq1 (by omega) (hF79.put hR79 (by omega) (by omega) (by omega) (by omega) (by omega) ⟨by omega, by omega⟩ rfl rfl (by unfold up2; rfl) (by omega) rfl rfl rfl rfl rfl rfl rfl rfl rfl)
                      · refine m_iload (j := 1) C dX12_findCan_96 rfl ?_
                        refine m_if_ne (tgt := 127) C (r32_01 hg2) dX12_findCan_98 (by decide) (fun c4 => ?_) (fun c4 => ?_)
                        · replace hg2 := (hg2.resolve_left c4)
                          refine m_aload_n (j := 6) C dX12_findCan_127 rfl ?_
                          refine m_geta (k := 57) C dX12_findCan_128 w6_116 (by decide) rfl ?_
                          refine m_iconst C dX12_findCan_131 ?_
                          refine m_iload_n (j := 5) C dX12_findCan_132 rfl ?_
                          refine m_imul C dX12_findCan_133 ?_
                          refine m_iload_n (j := 4) C dX12_findCan_134 rfl ?_
                          refine m_iadd C dX12_findCan_135 ?_
                          refine m_iload (j := 1) C dX12_findCan_136 rfl ?_
                          refine m_zast (k := 57) (w := g2) C dX12_findCan_138 rfl rfl (by decide) (by omega) (by show _ < ((_ : Nat) : Int); simp only [mlen]; omega) (by decide) (by omega) ?_
                          refine hv2 (show BX vb5 (up2 ab5 57 ((4 * x) + y).toNat g2) from bxb5.set (k := 57) (i := ((4 * x) + y).toNat) (z := g2) (show 0 ≤ g2 ∧ g2 ≤ 1 by omega)) (fpb5.set (k := 57) (i := ((4 * x) + y).toNat) (z := g2) rfl) (fun bq2 fq2 => ?_)
                          refine m_iinc (z := y) (j := 4) (lv2 := [(2, .int (iI (y + 1))), (6, .int (iI r)), (5, .int (iI g2)), (4, .int (iI g)), (3, .int (iI dq1)), (1, .int (iI x)), (0, .ref h0)]) C dX12_findCan_139 rfl (by decide) rfl ?_
                          refine m_goto (tgt := 11) C dX12_findCan_142 (by decide) ?_
                          refine hv2 (show 0 ≤ vb5 50 ∧ vb5 50 ≤ 40200 from bq2.1 50) (show vb5 50 = v 50 from fpb5.1 50 rfl) (fun rv4 ve3 => ?_)
                          refine m_lv (lv2 := [(2, .int (iI (y + 1))), (1, .int (iI x)), (0, .ref h0)]) [0, 5, 6] rfl ?_
                          exact ih2  (y + 1) _ _ (by omega) bq2 fq2 (by omega) (hF79.put hR79 (by omega) (by omega) (by omega) (by omega) (by omega) ⟨by omega, by omega⟩ rfl rfl (by unfold up2; rfl) (by omega) rfl rfl rfl rfl rfl rfl rfl rfl rfl)
                        · clear hg2
                          refine m_iload_n (j := 5) C dX12_findCan_101 rfl ?_
                          refine m_aload_n (j := 6) C dX12_findCan_102 rfl ?_
                          refine hv2 (show 0 ≤ vb5 50 ∧ vb5 50 ≤ 40200 from bxb5.1 50) (show vb5 50 = v 50 from fpb5.1 50 rfl) (fun rv5 ve4 => ?_)
                          refine m_get (k := 50) C dX12_findCan_103 w6_109 (by decide) rfl ?_
                          refine m_st (st2 := [.int (iI (v 50)), .int (iI x)]) (congrArg (fun z => Value.int (iI z) :: [.int (iI x)]) (fpb5.1 50 rfl)) ?_
                          refine m_icmp_ge (tgt := 127) C ⟨by omega, by omega⟩ (r32_c (lo := 0) (hi := 40200) rv1.1 rv1.2 (by decide) (by decide)) dX12_findCan_106 (by decide) (fun c5 => ?_) (fun c5 => ?_)
                          · refine m_aload_n (j := 6) C dX12_findCan_127 rfl ?_
                            refine m_geta (k := 57) C dX12_findCan_128 w6_116 (by decide) rfl ?_
                            refine m_iconst C dX12_findCan_131 ?_
                            refine m_iload_n (j := 5) C dX12_findCan_132 rfl ?_
                            refine m_imul C dX12_findCan_133 ?_
                            refine m_iload_n (j := 4) C dX12_findCan_134 rfl ?_
                            refine m_iadd C dX12_findCan_135 ?_
                            refine m_iload (j := 1) C dX12_findCan_136 rfl ?_
                            refine m_zast (k := 57) (w := g2) C dX12_findCan_138 rfl rfl (by decide) (by omega) (by show _ < ((_ : Nat) : Int); simp only [mlen]; omega) (by decide) (by omega) ?_
                            refine hv2 (show BX vb5 (up2 ab5 57 ((4 * x) + y).toNat g2) from bxb5.set (k := 57) (i := ((4 * x) + y).toNat) (z := g2) (show 0 ≤ g2 ∧ g2 ≤ 1 by omega)) (fpb5.set (k := 57) (i := ((4 * x) + y).toNat) (z := g2) rfl) (fun bq3 fq3 => ?_)
                            refine m_iinc (z := y) (j := 4) (lv2 := [(2, .int (iI (y + 1))), (6, .int (iI r)), (5, .int (iI g2)), (4, .int (iI g)), (3, .int (iI dq1)), (1, .int (iI x)), (0, .ref h0)]) C dX12_findCan_139 rfl (by decide) rfl ?_
                            refine m_goto (tgt := 11) C dX12_findCan_142 (by decide) ?_
                            refine m_lv (lv2 := [(2, .int (iI (y + 1))), (1, .int (iI x)), (0, .ref h0)]) [0, 5, 6] rfl ?_
                            exact ih2  (y + 1) _ _ (by omega) bq3 fq3 (by omega) (hF79.put hR79 (by omega) (by omega) (by omega) (by omega) (by omega) ⟨by omega, by omega⟩ rfl rfl (by unfold up2; rfl) (by omega) rfl rfl rfl rfl rfl rfl rfl rfl rfl)
                          · refine m_aload_n (j := 6) C dX12_findCan_109 rfl ?_
                            refine m_iload (j := 0) C dX12_findCan_110 rfl ?_
                            refine m_iload_n (j := 5) C dX12_findCan_112 rfl ?_
                            refine m_iload_n (j := 3) C dX12_findCan_113 rfl ?_
                            refine m_iload (j := 2) C dX12_findCan_114 rfl ?_
                            refine hv7 (show RowOK a r from (hW (dq1) (by omega)).2 r (by omega) (by omega)) (show (-4) ≤ ab5 44 r.toNat ∧ ab5 44 r.toNat ≤ 5999 from bxb5.2 44 (r.toNat)) (show ab5 44 (r.toNat) = a 44 (r.toNat) from congrFun (fpb5.2 44 rfl) (r.toNat)) (show 0 ≤ ab5 45 r.toNat ∧ ab5 45 r.toNat ≤ 23999 from bxb5.2 45 (r.toNat)) (show ab5 45 (r.toNat) = a 45 (r.toNat) from congrFun (fpb5.2 45 rfl) (r.toNat)) (show 0 ≤ ab5 46 r.toNat ∧ ab5 46 r.toNat ≤ 4 from bxb5.2 46 (r.toNat)) (show ab5 46 (r.toNat) = a 46 (r.toNat) from congrFun (fpb5.2 46 rfl) (r.toNat)) (fun ro ra2 ae2 ra3 ae3 ra4 ae4 => ?_)
                            refine hv4 (ro.1) (ro.2.1) (ro.2.2.1) (ro.2.2.2) (fun ro1 ro2 ro3 ro4 => ?_)
                            refine m_call (mc2 := 0) (ms2 := 0) (As := [.int (iI r), .int (iI x), .int (iI dq1), .int (iI g)]) (rest := []) C (E_may (r1 := r) (x := x) (pt := dq1) (g := g) bxb5 (by omega) (by show -4 ≤ ab5 44 r.toNat ∧ ab5 44 r.toNat < 6000; omega) (by show 1 ≤ ab5 46 r.toNat ∧ ab5 46 r.toNat ≤ 4; omega) (by show 0 ≤ ab5 45 r.toNat ∧ (0 ≤ ab5 44 r.toNat → ab5 45 r.toNat + ab5 46 r.toNat ≤ 24000) ∧ (ab5 44 r.toNat < 0 → ab5 45 r.toNat + ab5 46 r.toNat ≤ 480); omega) (by omega) (by show (vb5 50) ≤ 100; omega) (by omega) (by omega)) dX12_findCan_116 kV_X12_378 rfl ck_13 rfl (Nat.le_of_ble_eq_true rfl) ⟨Nat.le_of_ble_eq_true rfl, Nat.le_of_ble_eq_true rfl⟩ ⟨Nat.le_of_ble_eq_true rfl, Nat.le_of_ble_eq_true rfl⟩ (fun rh1 vh1 ah1 h1 => ?_)
                            obtain ⟨f1, rfl, fn1, _, ef1, my1⟩ := h1
                            obtain ⟨rfl, rfl⟩ := fn1.eq
                            have gf1 : f1 = 0 ∨ (f1 = 1 ∧ x + ab5 46 r.toNat ≤ (vb5 50)) := ef1
                            refine m_st (st2 := [.int (iI f1)]) rfl ?_
                            refine m_istore (lv2 := [(5, .int (iI f1)), (6, .int (iI r)), (4, .int (iI g)), (3, .int (iI dq1)), (2, .int (iI y)), (1, .int (iI x)), (0, .ref h0)]) C dX12_findCan_119 (by decide) rfl ?_
                            refine m_iinc (z := r) (j := 1) (lv2 := [(6, .int (iI (r + 1))), (5, .int (iI f1)), (4, .int (iI g)), (3, .int (iI dq1)), (2, .int (iI y)), (1, .int (iI x)), (0, .ref h0)]) C dX12_findCan_121 rfl (by decide) rfl ?_
                            refine m_goto (tgt := 79) C dX12_findCan_124 (by decide) ?_
                            refine m_lv (lv2 := [(6, .int (iI (r + 1))), (5, .int (iI f1)), (4, .int (iI g)), (3, .int (iI dq1)), (2, .int (iI y)), (1, .int (iI x)), (0, .ref h0)]) [0, 1, 2, 3, 4, 5, 6] rfl ?_
                            exact ih3  f1 (r + 1) _ _ (by omega) bxb5 fpb5 (by omega) (by omega) (by omega) hF79 (hR79.step my1 (by omega) (by omega) ⟨by omega, by omega⟩ ⟨by omega, by omega⟩ (by omega))
                  refine m_lv (lv2 := [(6, .int (iI (6008 * dq1))), (5, .int (iI g1)), (4, .int (iI g)), (3, .int (iI dq1)), (2, .int (iI y)), (1, .int (iI x)), (0, .ref h0)]) [0, 1, 2, 3, 4, 5, 6] rfl ?_
                  exact Lp3 6010 g1 (6008 * dq1) _ _ (by omega) bxb4 fpb4 (by omega) (by have q : 0 ≤ a 47 dq1.toNat ∧ a 47 dq1.toNat ≤ 6008 := hB.2 47 _; omega) (by have q : 0 ≤ a 47 dq1.toNat ∧ a 47 dq1.toNat ≤ 6008 := hB.2 47 _; omega) hF70 (hB70.go (by omega) (by omega))
                refine m_icmp_ne (tgt := 47) C ⟨by omega, by omega⟩ (r32_c (lo := 0) (hi := 40200) rv1.1 rv1.2 (by decide) (by decide)) dX12_findCan_39 (by decide) (fun c6 => ?_) (fun c6 => ?_)
                · refine m_iload_n (j := 3) C dX12_findCan_47 rfl ?_
                  refine m_aload_n (j := 4) C dX12_findCan_48 rfl ?_
                  refine m_get (k := 50) C dX12_findCan_49 w6_109 (by decide) rfl ?_
                  refine m_st (st2 := [.int (iI (v 50)), .int (iI x)]) (congrArg (fun z => Value.int (iI z) :: [.int (iI x)]) (fpb3.1 50 rfl)) ?_
                  refine m_icmp_ge (tgt := 69) C ⟨by omega, by omega⟩ (r32_c (lo := 0) (hi := 40200) rv1.1 rv1.2 (by decide) (by decide)) dX12_findCan_52 (by decide) (fun c7 => ?_) (fun c7 => ?_)
                  · refine m_iconst C dX12_findCan_69 ?_
                    refine m_lv (lv2 := [(4, .int (iI g)), (3, .int (iI dq1)), (2, .int (iI y)), (1, .int (iI x)), (0, .ref h0)]) [0, 1, 2, 3, 4] rfl ?_
                    exact J2  0 _ _  bxb3 fpb3 (by omega) hF32 (FB70.end0 (by omega) (by omega) rfl)
                  · refine m_aload_n (j := 4) C dX12_findCan_55 rfl ?_
                    refine m_iload_n (j := 3) C dX12_findCan_56 rfl ?_
                    refine m_iload (j := 0) C dX12_findCan_57 rfl ?_
                    refine m_call (mc2 := 0) (ms2 := 0) (As := [.int (iI x), .int (iI g)]) (rest := []) C (E_mayBlank (x := x) (g := g) bxb3 (by show 0 ≤ x ∧ x < (vb3 50); omega) (by show (vb3 50) ≤ 100; omega) (by omega)) dX12_findCan_59 kV_X12_374 rfl ck_13 rfl (Nat.le_of_ble_eq_true rfl) ⟨Nat.le_of_ble_eq_true rfl, Nat.le_of_ble_eq_true rfl⟩ ⟨Nat.le_of_ble_eq_true rfl, Nat.le_of_ble_eq_true rfl⟩ (fun rh2 vh2 ah2 h2 => ?_)
                    obtain ⟨f2, rfl, fn2, _, ef2, mb1⟩ := h2
                    obtain ⟨rfl, rfl⟩ := fn2.eq
                    have gf2 : f2 = 0 ∨ f2 = 1 := ef2
                    refine m_st (st2 := [.int (iI f2)]) rfl ?_
                    refine m_if_eq (tgt := 69) C (r32_01 gf2) dX12_findCan_62 (by decide) (fun c8 => ?_) (fun c8 => ?_)
                    · clear gf2
                      refine m_iconst C dX12_findCan_69 ?_
                      refine m_lv (lv2 := [(4, .int (iI g)), (3, .int (iI dq1)), (2, .int (iI y)), (1, .int (iI x)), (0, .ref h0)]) [0, 1, 2, 3, 4] rfl ?_
                      exact J2  0 _ _  bxb3 fpb3 (by omega) hF32 (FB70.bl mb1 ⟨by omega, by omega⟩ (by omega))
                    · replace gf2 := (gf2.resolve_left c8)
                      refine m_iconst C dX12_findCan_65 ?_
                      refine m_goto (tgt := 70) C dX12_findCan_66 (by decide) ?_
                      refine m_lv (lv2 := [(4, .int (iI g)), (3, .int (iI dq1)), (2, .int (iI y)), (1, .int (iI x)), (0, .ref h0)]) [0, 1, 2, 3, 4] rfl ?_
                      exact J2  1 _ _  bxb3 fpb3 (by omega) hF32 (FB70.bl mb1 ⟨by omega, by omega⟩ (by omega))
                · refine m_iload (j := 0) C dX12_findCan_42 rfl ?_
                  refine m_if_eq (tgt := 65) C ⟨by omega, by omega⟩ dX12_findCan_44 (by decide) (fun c9 => ?_) (fun c9 => ?_)
                  · replace hg := (hg.resolve_left (fun q => absurd (q.1.symm.trans c9) (by decide)))
                    refine m_iconst C dX12_findCan_65 ?_
                    refine m_goto (tgt := 70) C dX12_findCan_66 (by decide) ?_
                    refine m_lv (lv2 := [(4, .int (iI g)), (3, .int (iI dq1)), (2, .int (iI y)), (1, .int (iI x)), (0, .ref h0)]) [0, 1, 2, 3, 4] rfl ?_
                    exact J2  1 _ _  bxb3 fpb3 (by omega) hF32 (FB70.end1 (by omega) (by omega) rfl)
                  · replace hg := (hg.resolve_right (fun q => c9 q.1))
                    refine m_iload_n (j := 3) C dX12_findCan_47 rfl ?_
                    refine m_aload_n (j := 4) C dX12_findCan_48 rfl ?_
                    refine m_get (k := 50) C dX12_findCan_49 w6_109 (by decide) rfl ?_
                    refine m_st (st2 := [.int (iI (v 50)), .int (iI x)]) (congrArg (fun z => Value.int (iI z) :: [.int (iI x)]) (fpb3.1 50 rfl)) ?_
                    refine m_icmp_ge (tgt := 69) C ⟨by omega, by omega⟩ (r32_c (lo := 0) (hi := 40200) rv1.1 rv1.2 (by decide) (by decide)) dX12_findCan_52 (by decide) (fun _ => ?_) (fun z => absurd z (by omega))
                    refine m_iconst C dX12_findCan_69 ?_
                    refine m_lv (lv2 := [(4, .int (iI g)), (3, .int (iI dq1)), (2, .int (iI y)), (1, .int (iI x)), (0, .ref h0)]) [0, 1, 2, 3, 4] rfl ?_
                    exact J2  0 _ _  bxb3 fpb3 (by omega) hF32 (FB70.end0 (by omega) (by omega) rfl)
              refine m_icmp_ne (tgt := 31) C ⟨by omega, by omega⟩ ⟨by decide, by decide⟩ dX12_findCan_24 (by decide) (fun c10 => ?_) (fun c10 => ?_)
              · refine m_iconst C dX12_findCan_31 ?_
                refine m_lv (lv2 := [(3, .int (iI dq1)), (2, .int (iI y)), (1, .int (iI x)), (0, .ref h0)]) [0, 1, 2, 3] rfl ?_
                exact J1  0 _ _  bxb2 fpb2 (by omega) hF11
              · refine m_iconst C dX12_findCan_27 ?_
                refine m_goto (tgt := 32) C dX12_findCan_28 (by decide) ?_
                refine m_lv (lv2 := [(3, .int (iI dq1)), (2, .int (iI y)), (1, .int (iI x)), (0, .ref h0)]) [0, 1, 2, 3] rfl ?_
                exact J1  1 _ _  bxb2 fpb2 (by omega) hF11
        refine m_lv (lv2 := [(2, .int (iI 0)), (1, .int (iI x)), (0, .ref h0)]) [0, 1, 2] rfl ?_
        exact Lp2 6 0 _ _ (by omega) bxb1 fpb1 (by omega) hF5.row
  refine m_lv (lv2 := [(1, .int (iI (v 50))), (0, .ref h0)]) [0, 1] rfl ?_
  exact Lp1 102 (v 50) _ _ (by omega) hB fp0 (by omega) (FC5.init (by omega))
end
section
def KLQ (v : Nat → Int) (a : Nat → Nat → Int) (K : List (List Int)) : Prop := v 60 = ((K.length : Nat) : Int) ∧ ∀ (k : Nat) (w : List Int), K[k]? = some w → a 59 k = ((w.length : Nat) : Int) ∧ w.length ≤ 808 ∧ ∀ (j : Nat) (x : Int), w[j]? = some x → a 58 (808 * k + j) = x
def KPS (v : Nat → Int) (a : Nat → Nat → Int) (Z : List (List Int)) : Prop := ∃ K, KMQ (v 64).toNat Z K (v 61) ∧ KLQ v a K
def H62 (a : Nat → Nat → Int) (w : List Int) : Prop := ∀ (j : Nat) (x : Int), w[j]? = some x → a 62 j = x
def NWQ (v : Nat → Int) (a : Nat → Nat → Int) (w : List Int) : Prop := v 63 = ((w.length : Nat) : Int) ∧ H62 a w
def KEX (v : Nat → Int) (a : Nat → Nat → Int) (v1 : Nat → Int) (a1 : Nat → Nat → Int) : Prop := ∀ w Z, NWQ v a w → KPS v a Z → v 61 ≠ 1 → KPS v1 a1 (Z ++ [w])
def KCI (v : Nat → Int) (a a1 : Nat → Nat → Int) (k : Int) : Prop := (∀ j : Nat, ((j : Nat) : Int) < k → a1 58 (808 * (v 60).toNat + j) = a 62 j) ∧ ∀ i : Nat, i < 808 * (v 60).toNat → a1 58 i = a 58 i
def GFR (v : Nat → Int) (a : Nat → Nat → Int) (v1 : Nat → Int) (a1 : Nat → Nat → Int) : Prop := (v1 50 = v 50 ∧ v1 56 = v 56 ∧ v1 64 = v 64) ∧ (a1 12 = a 12 ∧ a1 14 = a 14 ∧ a1 15 = a 15 ∧ a1 17 = a 17) ∧ (a1 44 = a 44 ∧ a1 45 = a 45 ∧ a1 46 = a 46 ∧ a1 47 = a 47 ∧ a1 48 = a 48 ∧ a1 57 = a 57)
def GEX (v : Nat → Int) (a : Nat → Nat → Int) (v1 : Nat → Int) (a1 : Nat → Nat → Int) (x pt g : Int) : Prop := ∀ a0 l0 l1 C w Z, GCX a0 v a l0 l1 C → CNP a0 v a l0 l1 C (-1) → NWQ v a w → KPS v a Z → (x = v 50 → g ≠ 1) → NWQ v1 a1 w ∧ KPS v1 a1 (Z ++ pxs w (RDC a0 l0 l1 C (fsn (v 56)) (v 50) x pt g))
def GI (v : Nat → Int) (a : Nat → Nat → Int) (v1 : Nat → Int) (a1 : Nat → Nat → Int) (x pt g i : Int) : Prop := ∀ a0 l0 l1 C w Z, GCX a0 v a l0 l1 C → CNP a0 v a l0 l1 C (-1) → NWQ v a w → KPS v a Z → (x = v 50 → g ≠ 1) → NWQ v1 a1 w ∧ KPS v1 a1 (Z ++ pxs w (fmp (RCO a0 l0 l1 C (fsn (v 56)) (v 50) x pt g) ((chs l0 l1 pt).take i.toNat)))
def G131 (v : Nat → Int) (a : Nat → Nat → Int) (v1 : Nat → Int) (a1 : Nat → Nat → Int) (x pt g r k : Int) : Prop := ∀ a0 l0 l1 C w Z, GCX a0 v a l0 l1 C → CNP a0 v a l0 l1 C (-1) → NWQ v a w → KPS v a Z → (x = v 50 → g ≠ 1) → ∃ d, ((if pt = 0 then l0 else l1)[(r - 6008 * pt).toNat]? = some d ∧ rent a0 a1 r d ∧ MYR a0 C (fsn (v 56)) (v 50) d x g ∧ RDC a0 l0 l1 C (fsn (v 56)) (v 50) (x + rlen a0 d) (ngp d pt) (ngh d) ≠ []) ∧ (v1 63 = ((w.length : Nat) : Int) ∧ H62 a1 (w ++ (if 0 ≤ d then rlt a0 d g k.toNat else []))) ∧ KPS v1 a1 (Z ++ pxs w (fmp (RCO a0 l0 l1 C (fsn (v 56)) (v 50) x pt g) ((chs l0 l1 pt).take (r - 6008 * pt + 1).toNat)))
def G195 (v : Nat → Int) (a : Nat → Nat → Int) (v1 : Nat → Int) (a1 : Nat → Nat → Int) (x pt g r : Int) : Prop := ∀ a0 l0 l1 C w Z, GCX a0 v a l0 l1 C → CNP a0 v a l0 l1 C (-1) → NWQ v a w → KPS v a Z → (x = v 50 → g ≠ 1) → ∃ d, ((if pt = 0 then l0 else l1)[(r - 6008 * pt).toNat]? = some d ∧ rent a0 a1 r d ∧ MYR a0 C (fsn (v 56)) (v 50) d x g ∧ RDC a0 l0 l1 C (fsn (v 56)) (v 50) (x + rlen a0 d) (ngp d pt) (ngh d) ≠ []) ∧ (v1 63 = ((w.length : Nat) : Int) ∧ H62 a1 (w ++ (if 0 ≤ d then rout a0 d g else []))) ∧ KPS v1 a1 (Z ++ pxs w (fmp (RCO a0 l0 l1 C (fsn (v 56)) (v 50) x pt g) ((chs l0 l1 pt).take (r - 6008 * pt + 1).toNat)))
def G220 (v : Nat → Int) (a : Nat → Nat → Int) (v1 : Nat → Int) (a1 : Nat → Nat → Int) (x pt g r : Int) : Prop := ∀ a0 l0 l1 C w Z, GCX a0 v a l0 l1 C → CNP a0 v a l0 l1 C (-1) → NWQ v a w → KPS v a Z → (x = v 50 → g ≠ 1) → ∃ d, ((if pt = 0 then l0 else l1)[(r - 6008 * pt).toNat]? = some d ∧ rent a0 a1 r d ∧ MYR a0 C (fsn (v 56)) (v 50) d x g ∧ RDC a0 l0 l1 C (fsn (v 56)) (v 50) (x + rlen a0 d) (ngp d pt) (ngh d) ≠ []) ∧ NWQ v1 a1 (w ++ (if 0 ≤ d then rout a0 d g else [])) ∧ KPS v1 a1 (Z ++ pxs w (fmp (RCO a0 l0 l1 C (fsn (v 56)) (v 50) x pt g) ((chs l0 l1 pt).take (r - 6008 * pt + 1).toNat)))
def G267 (v : Nat → Int) (a : Nat → Nat → Int) (v1 : Nat → Int) (a1 : Nat → Nat → Int) (x pt g r : Int) : Prop := ∀ a0 l0 l1 C w Z, GCX a0 v a l0 l1 C → CNP a0 v a l0 l1 C (-1) → NWQ v a w → KPS v a Z → (x = v 50 → g ≠ 1) → ∃ d, ((if pt = 0 then l0 else l1)[(r - 6008 * pt).toNat]? = some d ∧ rent a0 a1 r d ∧ MYR a0 C (fsn (v 56)) (v 50) d x g ∧ RDC a0 l0 l1 C (fsn (v 56)) (v 50) (x + rlen a0 d) (ngp d pt) (ngh d) ≠ []) ∧ NWQ v1 a1 (w ++ rout a0 d g) ∧ KPS v1 a1 (Z ++ pxs w (fmp (RCO a0 l0 l1 C (fsn (v 56)) (v 50) x pt g) ((chs l0 l1 pt).take (r - 6008 * pt + 1).toNat)))
section GGOS
variable {v v1 v2 v3 v4 : Nat → Int} {a a0 a1 a2 a3 a4 : Nat → Nat → Int} {l0 l1 : List Int} {C : Nat → Int} {x y k g h f pt r d z i j nx cp : Int} {V A : List Nat} {Z K : List (List Int)} {w u : List Int}
theorem fmp_app {q : Option Int → List (List Int)} : ∀ l m : List (Option Int), fmp q (l ++ m) = fmp q l ++ fmp q m := by
  intro l m
  induction l with
  | nil => rfl
  | cons o l ih =>
    show q o ++ fmp q (l ++ m) = q o ++ fmp q l ++ fmp q m
    rw [ih, List.append_assoc]
theorem fmp_sp {q : Option Int → List (List Int)} {l : List (Option Int)} {n : Nat} : fmp q l = fmp q (l.take n) ++ fmp q (l.drop n) := by
  rw [← fmp_app, List.take_append_drop]
theorem rent.f3 (hr : rent a a1 r d) (h44 : a2 44 = a1 44) (h45 : a2 45 = a1 45) (h46 : a2 46 = a1 46) : rent a a2 r d := by
  unfold rent at hr ⊢
  rw [h44, h45, h46]
  exact hr
theorem KPS.cg (hk : KPS v a Z) (e60 : v1 60 = v 60) (e61 : v1 61 = v 61) (e64 : v1 64 = v 64) (e58 : a1 58 = a 58) (e59 : a1 59 = a 59) : KPS v1 a1 Z := by
  obtain ⟨K, k1, k2, k3⟩ := hk
  exact ⟨K, by rw [e61, e64]; exact k1, e60.trans k2, fun k w e => by rw [e58, e59]; exact k3 k w e⟩
theorem KPS.more {Y : List (List Int)} (hk : KPS v a Z) (hm : v 61 ≠ 0) : KPS v a (Z ++ Y) := by
  obtain ⟨K, k1, k2⟩ := hk
  have e : v 61 = 1 := by
    rcases k1.2 with ⟨q, _⟩ | ⟨q, _⟩
    · exact q
    · exact absurd q hm
  exact ⟨K, k1.more e, k2⟩
theorem NWQ.snoc (hn : NWQ v a w) (e63 : v1 63 = v 63 + 1) (e62 : a1 62 = va_up (a 62) (v 63).toNat x) : NWQ v1 a1 (w ++ [x]) := by
  have e := hn.1
  refine ⟨by rw [len1]; omega, fun j y ej => ?_⟩
  rw [e62]
  rcases ap1 ej with ⟨c, ej⟩ | ⟨c, ej⟩
  · rw [va_up_ne _ _ (by omega)]
    exact hn.2 j y ej
  · rw [show j = (v 63).toNat by omega, va_up_self]
    exact ej
theorem H62.pre (hh : H62 a (w ++ u)) : H62 a w := fun j y e => hh j y (by rw [List.getElem?_append_left (gl3 e)]; exact e)
theorem NWQ.cg (hn : NWQ v a w) (e63 : v1 63 = v 63) (e62 : a1 62 = a 62) : NWQ v1 a1 w := ⟨e63.trans hn.1, fun j y e => by rw [e62]; exact hn.2 j y e⟩
theorem KCI.zero : KCI v a a 0 := ⟨fun j hj => absurd hj (by omega), fun _ _ => rfl⟩
theorem KCI.step (hk : KCI v a a1 k) (h0 : 0 ≤ k) (hv : 0 ≤ v 60) (e : a2 58 = va_up (a1 58) z.toNat y) (hz : z = 808 * v 60 + k) (hy : y = a 62 k.toNat) : KCI v a a2 (k + 1) := ⟨fun j hj => by
  rw [e]
  by_cases c : ((j : Nat) : Int) < k
  · rw [va_up_ne _ _ (by omega)]
    exact hk.1 j c
  · rw [show 808 * (v 60).toNat + j = z.toNat by omega, va_up_self, hy, show j = k.toNat by omega], fun i hi => by
  rw [e, va_up_ne _ _ (by omega)]
  exact hk.2 i hi⟩
theorem KEX.full (he : v 60 = v 64) (e60 : v1 60 = v 60) (e61 : v1 61 = 1) (e64 : v1 64 = v 64) (e58 : a1 58 = a 58) (e59 : a1 59 = a 59) : KEX v a v1 a1 := fun w Z hw hk hn => by
  obtain ⟨K, k1, k2, k3⟩ := hk
  refine ⟨K, ?_, e60.trans k2, fun k w e => by rw [e58, e59]; exact k3 k w e⟩
  rw [e61, e64]
  exact k1.full hn (by omega)
theorem KEX.put (hk : KCI v a a1 k) (hk2 : v 63 ≤ k) (h808 : v 63 ≤ 808) (h60 : 0 ≤ v 60 ∧ v 60 < v 64) (e60 : v2 60 = v 60 + 1) (e61 : v2 61 = v 61) (e64 : v2 64 = v 64) (e58 : a2 58 = a1 58) (e59 : a2 59 = va_up (a 59) (v 60).toNat z) (hz : z = v 63) : KEX v a v2 a2 := fun w Z hw hq hn => by
  obtain ⟨K, k1, k2, k3⟩ := hq
  have lw := hw.1
  refine ⟨K ++ [w], ?_, by rw [List.length_append]; show v2 60 = ((K.length + 1 : Nat) : Int); omega, fun i u e => ?_⟩
  · have q := k1.push (w := w) hn (by omega)
    rw [e61, e64, show v 61 = 0 by
      rcases k1.2 with ⟨q, _⟩ | ⟨q, _⟩
      · exact absurd q hn
      · exact q]
    exact q
  · rw [e58, e59]
    by_cases c : i < K.length
    · rw [List.getElem?_append_left c] at e
      obtain ⟨g1, g2, g3⟩ := k3 i u e
      refine ⟨by rw [va_up_ne _ _ (by omega)]; exact g1, g2, fun j y ej => ?_⟩
      have lt := gl3 ej
      rw [hk.2 _ (by omega)]
      exact g3 j y ej
    · rw [List.getElem?_append_right (by omega)] at e
      have c2 : i - K.length = 0 := by
        have := gl3 e
        have l1 : ([w] : List (List Int)).length = 1 := rfl
        omega
      rw [c2] at e
      have e2 : some w = some u := e
      cases e2
      have ci : i = (v 60).toNat := by omega
      refine ⟨by rw [ci, va_up_self, hz]; exact lw, by omega, fun j y ej => ?_⟩
      have lt := gl3 ej
      rw [ci, hk.1 j (by omega)]
      exact hw.2 j y ej
theorem GFR.fr (hf : fr V A v a v1 a1) (hV : ([50, 56, 64] : List Nat).all (fun k => !V.contains k) = true) (hA : ([12, 14, 15, 17, 44, 45, 46, 47, 48, 57] : List Nat).all (fun k => !A.contains k) = true) : GFR v a v1 a1 := by
  have kv : ∀ j, ([50, 56, 64] : List Nat).contains j = true → v1 j = v j := fun j hj => hf.1 j (by
    have w := List.all_eq_true.mp hV j (List.contains_iff_mem.mp hj)
    simpa using w)
  have ka : ∀ j, ([12, 14, 15, 17, 44, 45, 46, 47, 48, 57] : List Nat).contains j = true → a1 j = a j := fun j hj => hf.2 j (by
    have w := List.all_eq_true.mp hA j (List.contains_iff_mem.mp hj)
    simpa using w)
  exact ⟨⟨kv 50 rfl, kv 56 rfl, kv 64 rfl⟩, ⟨ka 12 rfl, ka 14 rfl, ka 15 rfl, ka 17 rfl⟩, ka 44 rfl, ka 45 rfl, ka 46 rfl, ka 47 rfl, ka 48 rfl, ka 57 rfl⟩
theorem GCX.gf (hc : GCX a0 v a l0 l1 C) (hf : GFR v a v1 a1) : GCX a0 v1 a1 l0 l1 C := by
  obtain ⟨⟨f1, _, _⟩, ⟨f2, f3, f4, f5⟩, f6, f7, f8, f9, f10, _⟩ := hf
  exact hc.cg f1 f6 f7 f8 f9 f2 f3 f4 f5 f10
theorem CNP.gf (hc : CNP a0 v a l0 l1 C x) (hf : GFR v a v1 a1) : CNP a0 v1 a1 l0 l1 C x := hc.cg hf.1.1 hf.1.2.1 hf.2.2.2.2.2.2.2
theorem CNP.le (hc : CNP a0 v a l0 l1 C y) (h : y ≤ x) : CNP a0 v a l0 l1 C x := fun p g h q1 q2 q3 q4 => hc p g h (by omega) q2 q3 q4
theorem GEX.more (hm : v 61 = 1) : GEX v a v a x pt g := fun a0 l0 l1 C w Z _ _ hw hk _ => ⟨hw, hk.more (by omega)⟩
theorem GEX.keep (hx : x = v 50) (hm : v 61 ≠ 1) (hk : KEX v a v1 a1) (e63 : v1 63 = v 63) (e62 : a1 62 = a 62) : GEX v a v1 a1 x pt g := fun a0 l0 l1 C w Z _ _ hw hq hg => by
  refine ⟨hw.cg e63 e62, ?_⟩
  rw [RDC_end hx, if_neg (hg hx)]
  have e : pxs w [[]] = [w] := by
    show [w ++ []] = [w]
    rw [List.append_nil]
  rw [e]
  exact hk w Z hw hq hm
theorem GI.init : GI v a v a x pt g 0 := fun a0 l0 l1 C w Z _ _ hw hk _ => ⟨hw, by
  show KPS v a (Z ++ [])
  rw [List.append_nil]
  exact hk⟩
theorem GI.add {o : Option Int} (h0 : 0 ≤ i) (e : (chs l0 l1 pt)[i.toNat]? = some o) : fmp (RCO a0 l0 l1 C (fsn (v 56)) (v 50) x pt g) ((chs l0 l1 pt).take (i + 1).toNat) = fmp (RCO a0 l0 l1 C (fsn (v 56)) (v 50) x pt g) ((chs l0 l1 pt).take i.toNat) ++ RCO a0 l0 l1 C (fsn (v 56)) (v 50) x pt g o := by
  rw [show (i + 1).toNat = i.toNat + 1 by omega]
  exact fmp_tk _ _ e
theorem GI.nob (hI : GI v a v1 a1 x pt g 0) (hF : GFR v a v1 a1) (hm : MBY v1 a1 x g f) (hf : f = 0) (hx : 0 ≤ x ∧ x < v 50) : GI v a v1 a1 x pt g 1 := fun a0 l0 l1 C w Z hc hn hw hk hg => by
  obtain ⟨n1, k1⟩ := hI a0 l0 l1 C w Z hc hn hw hk hg
  have s := hm.sem (hc.gf hF) ((hn.gf hF).le (by omega)) ⟨hx.1, by rw [hF.1.1]; exact hx.2⟩
  rw [hF.1.1, hF.1.2.1] at s
  refine ⟨n1, ?_⟩
  have e := GI.add (a0 := a0) (l0 := l0) (l1 := l1) (C := C) (v := v) (x := x) (g := g) (pt := pt) (i := 0) (o := Option.none) (by omega) rfl
  have z : RCO a0 l0 l1 C (fsn (v 56)) (v 50) x pt g Option.none = [] := RCO_e.mpr (fun u => by
    have := s.mpr u
    omega)
  rw [z, List.append_nil] at e
  rw [show (1 : Int) = 0 + 1 from rfl, e]
  exact k1
theorem GI.bl (hI : GI v a v1 a1 x pt g 0) (hF : GFR v a v1 a1) (hm : MBY v1 a1 x g f) (hf : f = 1) (hx : 0 ≤ x ∧ x < v 50) (e63 : v2 63 = v1 63 + 1) (e62 : a2 62 = va_up (a1 62) (v1 63).toNat 32) (o60 : v2 60 = v1 60) (o61 : v2 61 = v1 61) (o64 : v2 64 = v1 64) (o58 : a2 58 = a1 58) (o59 : a2 59 = a1 59) (hF2 : GFR v a v2 a2) (hy : y = x + 1) (hG : GEX v2 a2 v3 a3 y 0 0) (e4 : v4 63 = v 63) (p60 : v4 60 = v3 60) (p61 : v4 61 = v3 61) (p64 : v4 64 = v3 64) (p58 : a4 58 = a3 58) (p59 : a4 59 = a3 59) (p62 : a4 62 = a3 62) : GI v a v4 a4 x pt g 1 := fun a0 l0 l1 C w Z hc hn hw hk hg => by
  subst hy
  obtain ⟨n1, k1⟩ := hI a0 l0 l1 C w Z hc hn hw hk hg
  have s := hm.sem (hc.gf hF) ((hn.gf hF).le (by omega)) ⟨hx.1, by rw [hF.1.1]; exact hx.2⟩
  rw [hF.1.1, hF.1.2.1] at s
  have my := (s.mp hf).1
  obtain ⟨n3, k3⟩ := hG a0 l0 l1 C (w ++ [32]) _ (hc.gf hF2) (hn.gf hF2) (n1.snoc e63 e62) (k1.cg o60 o61 o64 o58 o59) (fun _ => by decide)
  rw [hF2.1.1, hF2.1.2.1] at k3
  refine ⟨⟨e4.trans hw.1, fun j q e => by rw [p62]; exact n3.2.pre j q e⟩, ?_⟩
  refine hv2 (GI.add (a0 := a0) (l0 := l0) (l1 := l1) (C := C) (v := v) (x := x) (g := g) (pt := pt) (i := 0) (o := Option.none) (by omega) rfl) (show RCO a0 l0 l1 C (fsn (v 56)) (v 50) x pt g Option.none = pxs [32] (RDC a0 l0 l1 C (fsn (v 56)) (v 50) (x + 1) 0 0) from RCO_yes (o := Option.none) my) (fun e ro => ?_)
  rw [show (1 : Int) = 0 + 1 from rfl, e, ro, pxs_app, pxs_pxs, ← List.append_assoc]
  exact k3.cg p60 p61 p64 p58 p59
theorem GI.fin (hI : GI v a v1 a1 x pt g i) (hF : GFR v a v1 a1) (hx : x ≠ v 50) (hp : pt = 0 ∨ pt = 1) (hi : v1 61 ≠ 0 ∨ i = a 47 pt.toNat + 1) : GEX v a v1 a1 x pt g := fun a0 l0 l1 C w Z hc hn hw hk hg => by
  obtain ⟨n1, k1⟩ := hI a0 l0 l1 C w Z hc hn hw hk hg
  refine ⟨n1, ?_⟩
  rw [RDC_go hx]
  rcases hi with hm | hi
  · rw [fmp_sp (n := i.toNat), pxs_app, ← List.append_assoc]
    exact k1.more hm
  · have el : a 47 pt.toNat = (((if pt = 0 then l0 else l1).length : Nat) : Int) := by
      rcases hp with e | e
      · subst e
        exact hc.1.1.1
      · subst e
        exact hc.1.2.1
    rw [List.take_of_length_le (by rw [chs_len]; omega)] at k1
    exact k1
theorem GI.row (hI : GI v a v1 a1 x pt g i) (hi : i = r - 6008 * pt + 1) (hF : GFR v a v1 a1) (hm : MYX v1 a1 r x pt g f) (hp : pt = 0 ∨ pt = 1) (hr : 6008 * pt ≤ r ∧ r < 6008 * pt + a 47 pt.toNat) (hx : 0 ≤ x) : (f ≠ 1 → GI v a v1 a1 x pt g (i + 1)) ∧ (f = 1 → G131 v a v1 a1 x pt g r 0) := by
  subst hi
  have key : ∀ (a0 : Nat → Nat → Int) (l0 l1 : List Int) (C : Nat → Int), GCX a0 v a l0 l1 C → CNP a0 v a l0 l1 C (-1) → ∃ d, (if pt = 0 then l0 else l1)[(r - 6008 * pt).toNat]? = some d ∧ rent a0 a1 r d ∧ (f = 1 ↔ MYR a0 C (fsn (v 56)) (v 50) d x g ∧ RDC a0 l0 l1 C (fsn (v 56)) (v 50) (x + rlen a0 d) (ngp d pt) (ngh d) ≠ []) := fun a0 l0 l1 C hc hn => by
    have s := hm.sem (hc.gf hF) ((hn.gf hF).le (by omega)) hp (by rw [hF.2.2.2.2.2.1]; exact hr) hx
    rw [hF.1.1, hF.1.2.1] at s
    exact s
  refine ⟨fun h1 a0 l0 l1 C w Z hc hn hw hk hg => ?_, fun h1 a0 l0 l1 C w Z hc hn hw hk hg => ?_⟩
  · obtain ⟨n1, k1⟩ := hI a0 l0 l1 C w Z hc hn hw hk hg
    obtain ⟨d, d1, d2, d3⟩ := key a0 l0 l1 C hc hn
    have ca := chs_at d1
    rw [show (r - 6008 * pt).toNat + 1 = (r - 6008 * pt + 1).toNat by omega] at ca
    refine hv2 (GI.add (a0 := a0) (C := C) (v := v) (x := x) (g := g) (i := r - 6008 * pt + 1) (by omega) ca) (show RCO a0 l0 l1 C (fsn (v 56)) (v 50) x pt g (some d) = [] from RCO_e.mpr (fun u => h1 (d3.mpr u))) (fun e z => ?_)
    rw [z, List.append_nil] at e
    refine ⟨n1, ?_⟩
    rw [e]
    exact k1
  · obtain ⟨n1, k1⟩ := hI a0 l0 l1 C w Z hc hn hw hk hg
    obtain ⟨d, d1, d2, d3⟩ := key a0 l0 l1 C hc hn
    refine ⟨d, ⟨d1, d2, d3.mp h1⟩, ⟨n1.1, ?_⟩, k1⟩
    have e : (if 0 ≤ d then rlt a0 d g (0 : Int).toNat else []) = [] := by split <;> rfl
    rw [e, List.append_nil]
    exact n1.2
theorem G131.step (hJ : G131 v a v1 a1 x pt g r k) (h0 : 0 ≤ k) (h44 : 0 ≤ a 44 r.toNat) (e44 : a1 44 = a 44) (hk : k < a 12 (a 44 r.toNat).toNat) (e62 : a2 62 = va_up (a1 62) z.toNat y) (hz : z = v1 63 + k) (hy : y = a 14 (8 * a 44 r.toNat + k).toNat - (if g = 1 ∧ k = 0 then 32 else 0)) (o63 : v2 63 = v1 63) (o60 : v2 60 = v1 60) (o61 : v2 61 = v1 61) (o64 : v2 64 = v1 64) (o58 : a2 58 = a1 58) (o59 : a2 59 = a1 59) (q44 : a2 44 = a1 44) (q45 : a2 45 = a1 45) (q46 : a2 46 = a1 46) : G131 v a v2 a2 x pt g r (k + 1) := fun a0 l0 l1 C w Z hc hn hw hq hg => by
  obtain ⟨d, ⟨d1, d2, d3⟩, ⟨n1, n2⟩, k1⟩ := hJ a0 l0 l1 C w Z hc hn hw hq hg
  have dd : 0 ≤ d ∧ a 44 r.toNat = d := by
    rcases d2.r44 with ⟨q1, q2, _⟩ | ⟨q1, q2, q3, _⟩
    · exact ⟨q1, by rw [← e44]; exact q2⟩
    · rw [e44] at q2
      omega
  refine ⟨d, ⟨d1, d2.f3 q44 q45 q46, d3⟩, ⟨o63.trans n1, ?_⟩, k1.cg o60 o61 o64 o58 o59⟩
  rw [if_pos dd.1] at n2 ⊢
  rw [show (k + 1).toNat = k.toNat + 1 by omega]
  show H62 a2 (w ++ (rlt a0 d g k.toNat ++ [a0 14 (8 * d + ((k.toNat : Nat) : Int)).toNat - (if g = 1 ∧ k.toNat = 0 then 32 else 0)]))
  rw [← List.append_assoc]
  intro j q ej
  rw [e62]
  have ll : (w ++ rlt a0 d g k.toNat).length = w.length + k.toNat := by rw [List.length_append, rlt_len]
  rcases ap1 ej with ⟨c, ej⟩ | ⟨c, ej⟩
  · rw [va_up_ne _ _ (by omega)]
    exact n2 j q ej
  · rw [show j = z.toNat by omega, va_up_self, hy, dd.2, hc.2.2.1.2.1, ← ej, show ((k.toNat : Nat) : Int) = k by omega]
    by_cases q1 : g = 1 ∧ k = 0
    · rw [if_pos q1, if_pos ⟨q1.1, by omega⟩]
    · rw [if_neg q1, if_neg (fun q2 => q1 ⟨q2.1, by omega⟩)]
theorem G131.fin (hJ : G131 v a v1 a1 x pt g r k) (e44 : a1 44 = a 44) (hk : a 44 r.toNat < 0 ∨ k = a 12 (a 44 r.toNat).toNat) : G195 v a v1 a1 x pt g r := fun a0 l0 l1 C w Z hc hn hw hq hg => by
  obtain ⟨d, ⟨d1, d2, d3⟩, ⟨n1, n2⟩, k1⟩ := hJ a0 l0 l1 C w Z hc hn hw hq hg
  refine ⟨d, ⟨d1, d2, d3⟩, ⟨n1, ?_⟩, k1⟩
  have r4 := d2.r44
  rw [e44] at r4
  by_cases c : 0 ≤ d
  · rw [if_pos c] at n2 ⊢
    have e3 : rout a0 d g = rlt a0 d g (a0 12 d.toNat).toNat := if_pos c
    have e4 : a 44 r.toNat = d := by omega
    have e5 : k = a0 12 d.toNat := by
      rcases hk with q | q
      · omega
      · rw [q, e4, hc.2.2.1.1]
    rw [e3, ← e5]
    exact n2
  · rw [if_neg c] at n2 ⊢
    exact n2
theorem G195.up (hJ : G195 v a v1 a1 x pt g r) (e44 : a1 44 = a 44) (e63 : (a 44 r.toNat < 0 ∧ v2 63 = v1 63) ∨ (0 ≤ a 44 r.toNat ∧ v2 63 = v1 63 + a 12 (a 44 r.toNat).toNat)) (h12 : ∀ j, 0 ≤ a 12 j) (o60 : v2 60 = v1 60) (o61 : v2 61 = v1 61) (o64 : v2 64 = v1 64) : G220 v a v2 a1 x pt g r := fun a0 l0 l1 C w Z hc hn hw hq hg => by
  obtain ⟨d, ⟨d1, d2, d3⟩, ⟨n1, n2⟩, k1⟩ := hJ a0 l0 l1 C w Z hc hn hw hq hg
  refine ⟨d, ⟨d1, d2, d3⟩, ⟨?_, n2⟩, k1.cg o60 o61 o64 rfl rfl⟩
  have r4 := d2.r44
  rw [e44] at r4
  by_cases c : 0 ≤ d
  · rw [if_pos c]
    refine hv2 (show rout a0 d g = rlt a0 d g (a0 12 d.toNat).toNat from if_pos c) (h12 d.toNat) (fun e3 e5 => ?_)
    have e4 : a 44 r.toNat = d := by omega
    rw [List.length_append, e3, rlt_len, ← hc.2.2.1.1]
    rw [e4] at e63
    omega
  · rw [if_neg c, List.append_nil]
    omega
theorem G220.keep (hJ : G220 v a v1 a1 x pt g r) (e44 : a1 44 = a 44) (hn3 : a 44 r.toNat ≠ -3 ∧ a 44 r.toNat ≠ -4) : G267 v a v1 a1 x pt g r := fun a0 l0 l1 C w Z hc hn hw hq hg => by
  obtain ⟨d, ⟨d1, d2, d3⟩, n1, k1⟩ := hJ a0 l0 l1 C w Z hc hn hw hq hg
  refine ⟨d, ⟨d1, d2, d3⟩, ?_, k1⟩
  have r4 := d2.r44
  rw [e44] at r4
  by_cases c : 0 ≤ d
  · rw [if_pos c] at n1
    exact n1
  · rw [if_neg c] at n1
    have e : rout a0 d g = [] := by
      unfold rout
      rw [if_neg c, if_neg (by omega), if_neg (by omega)]
    rw [e]
    exact n1
theorem G220.turn (hJ : G220 v a v1 a1 x pt g r) (e44 : a1 44 = a 44) (hc3 : (a 44 r.toNat = -3 ∧ y = 60) ∨ (a 44 r.toNat = -4 ∧ y = 62)) (e63 : v2 63 = v1 63 + 1) (e62 : a2 62 = va_up (a1 62) (v1 63).toNat y) (o60 : v2 60 = v1 60) (o61 : v2 61 = v1 61) (o64 : v2 64 = v1 64) (o58 : a2 58 = a1 58) (o59 : a2 59 = a1 59) (q44 : a2 44 = a1 44) (q45 : a2 45 = a1 45) (q46 : a2 46 = a1 46) : G267 v a v2 a2 x pt g r := fun a0 l0 l1 C w Z hc hn hw hq hg => by
  obtain ⟨d, ⟨d1, d2, d3⟩, n1, k1⟩ := hJ a0 l0 l1 C w Z hc hn hw hq hg
  refine ⟨d, ⟨d1, d2.f3 q44 q45 q46, d3⟩, ?_, k1.cg o60 o61 o64 o58 o59⟩
  have r4 := d2.r44
  rw [e44] at r4
  have c : ¬ 0 ≤ d := by omega
  rw [if_neg c, List.append_nil] at n1
  have e : rout a0 d g = [y] := by
    unfold rout
    rw [if_neg c]
    by_cases q1 : rol d = 2
    · rw [if_pos q1, show y = 60 by omega]
    · rw [if_neg q1, if_pos (by omega), show y = 62 by omega]
  rw [e]
  exact n1.snoc e63 e62
theorem G267.go (hJ : G267 v a v1 a1 x pt g r) (hF : GFR v a v1 a1) (hp : pt = 0 ∨ pt = 1) (hr : 6008 * pt ≤ r) (hnx : NXQ (a 44 r.toNat) pt nx) (hcp : CPQ (a 44 r.toNat) cp) (hy : y = x + a 46 r.toNat) (hG : GEX v1 a1 v2 a2 y nx cp) (hi : i = r - 6008 * pt + 1) (e3 : v3 63 = v 63) (p60 : v3 60 = v2 60) (p61 : v3 61 = v2 61) (p64 : v3 64 = v2 64) (p58 : a3 58 = a2 58) (p59 : a3 59 = a2 59) (p62 : a3 62 = a2 62) : GI v a v3 a3 x pt g (i + 1) := fun a0 l0 l1 C w Z hc hn hw hq hg => by
  subst hi
  obtain ⟨d, ⟨d1, d2, d3, d4⟩, n1, k1⟩ := hJ a0 l0 l1 C w Z hc hn hw hq hg
  refine hv2 (hF.2.2.1) (d2.r44) (fun e44 r4 => ?_)
  rw [e44] at r4
  have e46 := (d2.rc1 (hF.2.1.2.2.1.trans hc.2.2.1.2.2.1) (hF.2.1.2.2.2.trans hc.2.2.1.2.2.2)).1
  rw [hF.2.2.2.2.1] at e46
  have en : nx = ngp d pt := by
    unfold NXQ at hnx
    unfold ngp
    split
    · omega
    · split <;> omega
  have ec : cp = ngh d := by
    unfold CPQ at hcp
    unfold ngh
    split <;> omega
  rw [hy, e46, en, ec] at hG
  obtain ⟨n2, k2⟩ := hG a0 l0 l1 C _ _ (hc.gf hF) (hn.gf hF) n1 k1 (fun e => by
    rw [hF.1.1] at e
    exact RDC_h d4 e)
  rw [hF.1.1, hF.1.2.1] at k2
  refine ⟨⟨e3.trans hw.1, fun j q e => by rw [p62]; exact n2.2.pre j q e⟩, ?_⟩
  have ca := chs_at d1
  rw [show (r - 6008 * pt).toNat + 1 = (r - 6008 * pt + 1).toNat by omega] at ca
  refine hv2 (GI.add (a0 := a0) (C := C) (v := v) (x := x) (g := g) (i := r - 6008 * pt + 1) (by omega) ca) (show RCO a0 l0 l1 C (fsn (v 56)) (v 50) x pt g (some d) = pxs (rout a0 d g) (RDC a0 l0 l1 C (fsn (v 56)) (v 50) (x + rlen a0 d) (ngp d pt) (ngh d)) from RCO_yes (o := some d) d3) (fun e ro => ?_)
  rw [e, ro, pxs_app, pxs_pxs, ← List.append_assoc]
  exact k2.cg p60 p61 p64 p58 p59
end GGOS
set_option maxHeartbeats 4000000 in
set_option maxRecDepth 100000 in
theorem E_keep {l : Launch} {G : GT} {h0 : Nat} {ad ln : Nat → Nat} {v : Nat → Int} {a : Nat → Nat → Int}  (hB : BX v a) (h60 : v 60 ≤ v 64) : Mm l G yX12_keep cX12_keep 2 none 0 [] h0 ad ln v a 0 0 (fun r v2 a2 => r = none ∧ fr [60, 61] [58, 59] v a v2 a2 ∧ BX v2 a2 ∧ ((v2 60 ≤ v 64) ∧ KEX v a v2 a2)) := by
  refine Mm.mk (by decide) (Nat.le_of_ble_eq_true rfl) ?_
  intro p e s m args below meth c A C
  refine hv4 (show 0 ≤ v 64 ∧ v 64 ≤ 50 from hB.1 64) (show 0 ≤ v 60 ∧ v 60 ≤ 50 from hB.1 60) (show 0 ≤ v 63 ∧ v 63 ≤ 808 from hB.1 63) (show fr [60, 61] [58, 59] v a v a from fr.refl) (fun r64 r60 r63 fp0 => ?_)
  refine m_aload_n (j := 0) C dX12_keep_0 rfl ?_
  have rv1 : 0 ≤ v 60 ∧ v 60 ≤ 50 := hB.1 60
  refine m_get (k := 60) C dX12_keep_1 w6_119 (by decide) rfl ?_
  refine m_aload_n (j := 0) C dX12_keep_4 rfl ?_
  have rv2 : 0 ≤ v 64 ∧ v 64 ≤ 50 := hB.1 64
  refine m_get (k := 64) C dX12_keep_5 w6_123 (by decide) rfl ?_
  refine m_icmp_ne (tgt := 17) C (r32_c (lo := 0) (hi := 50) rv1.1 rv1.2 (by decide) (by decide)) (r32_c (lo := 0) (hi := 50) rv2.1 rv2.2 (by decide) (by decide)) dX12_keep_8 (by decide) (fun c1 => ?_) (fun c1 => ?_)
  · refine m_iconst C dX12_keep_17 ?_
    refine m_istore_n (lv2 := [(1, .int (iI 0)), (0, .ref h0)]) C dX12_keep_18 (by decide) rfl ?_
    have Lp1 : ∀ (nn : Nat) (k : Int) (vb1 : Nat → Int) (ab1 : Nat → Nat → Int), 809 - k < (nn : Int) → BX vb1 ab1 → fr [60, 61] [58, 59] v a vb1 ab1 → (0 ≤ k ∧ k ≤ 808) → (vb1 60 = v 60) → (vb1 61 = v 61) → (ab1 59 = a 59) → (ab1 62 = a 62) → (KCI v a ab1 k) → mw p l e (rmq 0 0 0) s m args below meth c G A 2 (MQ below (Qm G A (fun rq Lq Eq => ∃ (vq : Nat → Int) (aq : Nat → Nat → Int), mI G h0 ad ln vq aq Lq Eq ∧ (fun r v2 a2 => r = none ∧ fr [60, 61] [58, 59] v a v2 a2 ∧ BX v2 a2 ∧ ((v2 60 ≤ v 64) ∧ KEX v a v2 a2)) rq vq aq)) args s 0 0 A) h0 ad ln vb1 ab1 0 0 19 [(1, .int (iI k)), (0, .ref h0)] [] := by
      intro nn
      induction nn with
      | zero =>
        intro k vb1 ab1 hm bxb1 fpb1 hk h602 h612 h59 h62 hK
        exact absurd hm (by omega)
      | succ nn ih1 =>
        intro k vb1 ab1 hm bxb1 fpb1 hk h602 h612 h59 h62 hK
        refine m_iload_n (j := 0) C dX12_keep_19 rfl ?_
        refine m_aload_n (j := 1) C dX12_keep_20 rfl ?_
        refine hv2 (show 0 ≤ vb1 63 ∧ vb1 63 ≤ 808 from bxb1.1 63) (show vb1 63 = v 63 from fpb1.1 63 rfl) (fun rv3 ve1 => ?_)
        refine m_get (k := 63) C dX12_keep_21 w6_122 (by decide) rfl ?_
        refine m_st (st2 := [.int (iI (v 63)), .int (iI k)]) (congrArg (fun z => Value.int (iI z) :: [.int (iI k)]) (fpb1.1 63 rfl)) ?_
        refine m_icmp_ge (tgt := 54) C (r32_c (lo := 0) (hi := 808) hk.1 hk.2 (by decide) (by decide)) (r32_c (lo := 0) (hi := 808) (Int.le_trans rv3.1 (Int.le_of_eq ve1)) (Int.le_trans (Int.le_of_eq ve1.symm) rv3.2) (by decide) (by decide)) dX12_keep_24 (by decide) (fun c2 => ?_) (fun c2 => ?_)
        · refine m_aload_n (j := 1) C dX12_keep_54 rfl ?_
          refine m_geta (k := 59) C dX12_keep_55 w6_118 (by decide) rfl ?_
          refine m_aload_n (j := 1) C dX12_keep_58 rfl ?_
          have rv4 : 0 ≤ vb1 60 ∧ vb1 60 ≤ 50 := bxb1.1 60
          refine m_get (k := 60) C dX12_keep_59 w6_119 (by decide) rfl ?_
          refine m_aload_n (j := 1) C dX12_keep_62 rfl ?_
          refine m_get (k := 63) C dX12_keep_63 w6_122 (by decide) rfl ?_
          refine m_st (st2 := [.int (iI (v 63)), .int (iI (vb1 60)), .ref (ad 59)]) (congrArg (fun z => Value.int (iI z) :: [.int (iI (vb1 60)), .ref (ad 59)]) (fpb1.1 63 rfl)) ?_
          refine m_ast (k := 59) C dX12_keep_66 rfl rfl (by decide) (by omega) (by show _ < ((_ : Nat) : Int); simp only [mlen]; omega) (by decide) ?_
          refine hv2 (show BX vb1 (up2 ab1 59 (vb1 60).toNat (v 63)) from bxb1.set (k := 59) (i := (vb1 60).toNat) (z := v 63) (show 0 ≤ (v 63) ∧ (v 63) ≤ 808 by omega)) (fpb1.set (k := 59) (i := (vb1 60).toNat) (z := v 63) rfl) (fun bq1 fq1 => ?_)
          refine m_aload_n (j := 1) C dX12_keep_67 rfl ?_
          refine m_dup C dX12_keep_68 rfl ?_
          refine m_get (k := 60) C dX12_keep_69 w6_119 (by decide) rfl ?_
          refine m_iconst C dX12_keep_72 ?_
          refine m_iadd C dX12_keep_73 ?_
          refine m_put (k := 60) (z := (vb1 60) + 1) C dX12_keep_74 w6_119 (by decide) rfl rfl rfl ?_
          refine hv3 (show BX (va_up vb1 60 ((vb1 60) + 1)) (up2 ab1 59 (vb1 60).toNat (v 63)) from bq1.put (k := 60) (z := (vb1 60) + 1) (show 0 ≤ ((vb1 60) + 1) ∧ ((vb1 60) + 1) ≤ 50 by omega)) (fq1.put (k := 60) (z := (vb1 60) + 1) rfl) (show vb1 64 = v 64 from fpb1.1 64 rfl) (fun bq2 fq2 ve2 => ?_)
          refine hv2 (show 0 ≤ vb1 61 ∧ vb1 61 ≤ 1 from bq2.1 61) (show 0 ≤ vb1 64 ∧ vb1 64 ≤ 50 from bq2.1 64) (fun rv5 rv6 => ?_)
          exact m_vret C dX12_keep_77 rfl (Nat.le_of_ble_eq_true rfl) (Nat.le_of_ble_eq_true rfl) ⟨rfl, fq2, bq2, ⟨(by show ((vb1 60) + 1) ≤ (v 64); omega), KEX.put (z := v 63) hK (by omega) (by omega) ⟨by omega, by omega⟩ (by show ((vb1 60) + 1) = v 60 + 1; omega) (by show (vb1 61) = v 61; omega) (by show (vb1 64) = v 64; omega) rfl (by rw [← h59, ← h602]; unfold up2; rfl) rfl⟩⟩
        · refine m_aload_n (j := 1) C dX12_keep_27 rfl ?_
          refine m_geta (k := 58) C dX12_keep_28 w6_117 (by decide) rfl ?_
          refine m_sipush (z := 808) C dX12_keep_31 (by decide) ?_
          refine m_aload_n (j := 1) C dX12_keep_34 rfl ?_
          have rv7 : 0 ≤ vb1 60 ∧ vb1 60 ≤ 50 := bxb1.1 60
          refine m_get (k := 60) C dX12_keep_35 w6_119 (by decide) rfl ?_
          refine m_imul C dX12_keep_38 ?_
          refine m_iload_n (j := 0) C dX12_keep_39 rfl ?_
          refine m_iadd C dX12_keep_40 ?_
          refine m_aload_n (j := 1) C dX12_keep_41 rfl ?_
          refine m_geta (k := 62) C dX12_keep_42 w6_121 (by decide) rfl ?_
          refine m_iload_n (j := 0) C dX12_keep_45 rfl ?_
          refine m_ald (k := 62) C dX12_keep_46 rfl rfl (by decide) hk.1 (Int.lt_of_le_of_lt hk.2 (by decide)) (by decide) ?_
          refine hv2 (show (-2147483648) ≤ ab1 62 k.toNat ∧ ab1 62 k.toNat ≤ 2147483647 from bxb1.2 62 (k.toNat)) (show ab1 62 (k.toNat) = a 62 (k.toNat) from congrFun (fpb1.2 62 rfl) (k.toNat)) (fun ra1 ae1 => ?_)
          refine m_st (st2 := [.int (iI (a 62 k.toNat)), .int (iI ((808 * (vb1 60)) + k)), .ref (ad 58)]) (congrArg (fun z => Value.int (iI z) :: [.int (iI ((808 * (vb1 60)) + k)), .ref (ad 58)]) (congrFun (fpb1.2 62 rfl) (k.toNat))) ?_
          refine m_ast (k := 58) C dX12_keep_47 rfl rfl (by decide) (by omega) (by show _ < ((_ : Nat) : Int); simp only [mlen]; omega) (by decide) ?_
          refine hv2 (show BX vb1 (up2 ab1 58 ((808 * (vb1 60)) + k).toNat (a 62 k.toNat)) from bxb1.set (k := 58) (i := ((808 * (vb1 60)) + k).toNat) (z := a 62 k.toNat) (show (-2147483648) ≤ (a 62 k.toNat) ∧ (a 62 k.toNat) ≤ 2147483647 by omega)) (fpb1.set (k := 58) (i := ((808 * (vb1 60)) + k).toNat) (z := a 62 k.toNat) rfl) (fun bq3 fq3 => ?_)
          refine m_iinc (z := k) (j := 0) (lv2 := [(1, .int (iI (k + 1))), (0, .ref h0)]) C dX12_keep_48 rfl (by decide) rfl ?_
          refine m_goto (tgt := 19) C dX12_keep_51 (by decide) ?_
          have rv8 : 0 ≤ vb1 61 ∧ vb1 61 ≤ 1 := bq3.1 61
          refine m_lv (lv2 := [(1, .int (iI (k + 1))), (0, .ref h0)]) [0, 1] rfl ?_
          exact ih1  (k + 1) _ _ (by omega) bq3 fq3 (by omega) (by show (vb1 60) = v 60; omega) (by show (vb1 61) = v 61; omega) h59 h62 (hK.step (by omega) (by omega) (by unfold up2; rfl) (by omega) rfl)
    have rv9 : 0 ≤ v 61 ∧ v 61 ≤ 1 := hB.1 61
    refine m_lv (lv2 := [(1, .int (iI 0)), (0, .ref h0)]) [0, 1] rfl ?_
    exact Lp1 810 0 _ _ (by omega) hB fp0 (by omega) (by show (v 60) = v 60; omega) (by show (v 61) = v 61; omega) rfl rfl KCI.zero
  · refine m_aload_n (j := 0) C dX12_keep_11 rfl ?_
    refine m_iconst C dX12_keep_12 ?_
    refine m_put (k := 61) (z := 1) C dX12_keep_13 w6_120 (by decide) rfl rfl rfl ?_
    refine hv2 (show BX (va_up v 61 1) a from hB.put (k := 61) (z := 1) ⟨by decide, by decide⟩) (fp0.put (k := 61) (z := 1) rfl) (fun bq4 fq4 => ?_)
    exact m_vret C dX12_keep_16 rfl (Nat.le_of_ble_eq_true rfl) (Nat.le_of_ble_eq_true rfl) ⟨rfl, fq4, bq4, ⟨(by show (v 60) ≤ (v 64); omega), KEX.full (by omega) rfl rfl rfl rfl rfl⟩⟩
def GoD (l : Launch) (G : GT) (h0 : Nat) (ad ln : Nat → Nat) (d : Nat) (x : Int) : Prop := ∀ (v : Nat → Int) (a : Nat → Nat → Int) (pt g : Int), BX v a → RWS a → v 50 ≤ 100 → (0 ≤ x ∧ x ≤ v 50) → (pt = 0 ∨ pt = 1) → (g = 0 ∨ g = 1) → v 60 ≤ v 64 → v 63 ≤ 8 * x → Mm l G yX12_go cX12_go 8 none d [.int (iI x), .int (iI pt), .int (iI g)] h0 ad ln v a 0 0 (fun r v2 a2 => r = none ∧ fr [60, 61, 63] [58, 59, 62] v a v2 a2 ∧ BX v2 a2 ∧ ((v2 60 ≤ v 64 ∧ v2 63 = v 63) ∧ GEX v a v2 a2 x pt g))
set_option maxHeartbeats 4000000 in
set_option maxRecDepth 100000 in
theorem E_go1 {l : Launch} {G : GT} {h0 : Nat} {ad ln : Nat → Nat} {v : Nat → Int} {a : Nat → Nat → Int} {d : Nat} {x pt g : Int} (hB : BX v a) (hW : RWS a) (h50 : v 50 ≤ 100) (hx : 0 ≤ x ∧ x ≤ v 50) (hp : pt = 0 ∨ pt = 1) (hg : g = 0 ∨ g = 1) (h60 : v 60 ≤ v 64) (h63 : v 63 ≤ 8 * x) (hd : 3 ≤ d) (hf : ∀ b : Int, x < b → GoD l G h0 ad ln d b) : Mm l G yX12_go cX12_go 8 none (d + 1) [.int (iI x), .int (iI pt), .int (iI g)] h0 ad ln v a 0 0 (fun r v2 a2 => r = none ∧ fr [60, 61, 63] [58, 59, 62] v a v2 a2 ∧ BX v2 a2 ∧ ((v2 60 ≤ v 64 ∧ v2 63 = v 63) ∧ GEX v a v2 a2 x pt g)) := by
  refine Mm.mk (by decide) (Nat.le_of_ble_eq_true rfl) ?_
  intro p e s m args below meth c A C
  refine hv6 (show 0 ≤ v 64 ∧ v 64 ≤ 50 from hB.1 64) (show 0 ≤ v 60 ∧ v 60 ≤ 50 from hB.1 60) (show 0 ≤ v 63 ∧ v 63 ≤ 808 from hB.1 63) ((hW 0 (Or.inl rfl)).1) ((hW 1 (Or.inr rfl)).1) (show fr [60, 61, 63] [58, 59, 62] v a v a from fr.refl) (fun r64 r60 r63 r470 r471 fp0 => ?_)
  refine m_aload_n (j := 0) C dX12_go_0 rfl ?_
  have rv1 : 0 ≤ v 61 ∧ v 61 ≤ 1 := hB.1 61
  refine m_get (k := 61) C dX12_go_1 w6_120 (by decide) rfl ?_
  refine m_iconst C dX12_go_4 ?_
  refine m_icmp_ne (tgt := 9) C (r32_c (lo := 0) (hi := 1) rv1.1 rv1.2 (by decide) (by decide)) ⟨by decide, by decide⟩ dX12_go_5 (by decide) (fun c1 => ?_) (fun c1 => ?_)
  · refine m_iload_n (j := 1) C dX12_go_9 rfl ?_
    refine m_aload_n (j := 0) C dX12_go_10 rfl ?_
    have rv2 : 0 ≤ v 50 ∧ v 50 ≤ 40200 := hB.1 50
    refine m_get (k := 50) C dX12_go_11 w6_109 (by decide) rfl ?_
    refine m_icmp_ne (tgt := 22) C ⟨by omega, by omega⟩ (r32_c (lo := 0) (hi := 40200) rv2.1 rv2.2 (by decide) (by decide)) dX12_go_14 (by decide) (fun c2 => ?_) (fun c2 => ?_)
    · refine m_aload_n (j := 0) C dX12_go_22 rfl ?_
      have rv3 : 0 ≤ v 63 ∧ v 63 ≤ 808 := hB.1 63
      refine m_get (k := 63) C dX12_go_23 w6_122 (by decide) rfl ?_
      refine m_istore (lv2 := [(4, .int (iI (v 63))), (0, .ref h0), (1, .int (iI x)), (2, .int (iI pt)), (3, .int (iI g))]) C dX12_go_26 (by decide) rfl ?_
      refine m_aload_n (j := 1) C dX12_go_28 rfl ?_
      refine m_iload_n (j := 2) C dX12_go_29 rfl ?_
      refine m_iload_n (j := 4) C dX12_go_30 rfl ?_
      refine m_call (mc2 := 0) (ms2 := 0) (As := [.int (iI x), .int (iI g)]) (rest := []) C (E_mayBlank (x := x) (g := g) hB (by show 0 ≤ x ∧ x < (v 50); omega) (by show (v 50) ≤ 100; omega) (by omega)) dX12_go_31 kV_X12_374 rfl ck_13 rfl (Nat.le_of_ble_eq_true rfl) ⟨by dsimp only [rmq]; omega, by dsimp only [rmq]; omega⟩ ⟨Nat.le_of_ble_eq_true rfl, Nat.le_of_ble_eq_true rfl⟩ (fun rh1 vh1 ah1 h1 => ?_)
      obtain ⟨f1, rfl, fn1, _, ef1, mb1⟩ := h1
      obtain ⟨rfl, rfl⟩ := fn1.eq
      have gf1 : f1 = 0 ∨ f1 = 1 := ef1
      refine m_st (st2 := [.int (iI f1)]) rfl ?_
      have J1 : ∀ (vb1 : Nat → Int) (ab1 : Nat → Nat → Int), BX vb1 ab1 → fr [60, 61, 63] [58, 59, 62] v a vb1 ab1 → (vb1 63 = v 63) → (vb1 60 ≤ v 64) → (GI v a vb1 ab1 x pt g 1) → mw p l e (rmq (d + 1) 0 0) s m args below meth c G A 8 (MQ below (Qm G A (fun rq Lq Eq => ∃ (vq : Nat → Int) (aq : Nat → Nat → Int), mI G h0 ad ln vq aq Lq Eq ∧ (fun r v2 a2 => r = none ∧ fr [60, 61, 63] [58, 59, 62] v a v2 a2 ∧ BX v2 a2 ∧ ((v2 60 ≤ v 64 ∧ v2 63 = v 63) ∧ GEX v a v2 a2 x pt g)) rq vq aq)) args s 0 0 A) h0 ad ln vb1 ab1 0 0 73 [(4, .int (iI (v 63))), (0, .ref h0), (1, .int (iI x)), (2, .int (iI pt)), (3, .int (iI g))] [] := by
        intro  vb1 ab1 bxb1 fpb1 h63a h60a hI73
        refine m_sipush (z := 6008) C dX12_go_73 (by decide) ?_
        refine m_iload_n (j := 3) C dX12_go_76 rfl ?_
        refine m_imul C dX12_go_77 ?_
        refine m_istore (lv2 := [(5, .int (iI (6008 * pt))), (4, .int (iI (v 63))), (0, .ref h0), (1, .int (iI x)), (2, .int (iI pt)), (3, .int (iI g))]) C dX12_go_78 (by decide) rfl ?_
        have Lp1 : ∀ (nn : Nat) (r : Int) (vb2 : Nat → Int) (ab2 : Nat → Nat → Int), 6008 * pt + 6009 - r < (nn : Int) → BX vb2 ab2 → fr [60, 61, 63] [58, 59, 62] v a vb2 ab2 → (6008 * pt ≤ r ∧ r ≤ 6008 * pt + a 47 pt.toNat) → (0 ≤ a 47 pt.toNat ∧ a 47 pt.toNat ≤ 6008) → (vb2 63 = v 63) → (vb2 60 ≤ v 64) → (GI v a vb2 ab2 x pt g (r - 6008 * pt + 1)) → mw p l e (rmq (d + 1) 0 0) s m args below meth c G A 8 (MQ below (Qm G A (fun rq Lq Eq => ∃ (vq : Nat → Int) (aq : Nat → Nat → Int), mI G h0 ad ln vq aq Lq Eq ∧ (fun r v2 a2 => r = none ∧ fr [60, 61, 63] [58, 59, 62] v a v2 a2 ∧ BX v2 a2 ∧ ((v2 60 ≤ v 64 ∧ v2 63 = v 63) ∧ GEX v a v2 a2 x pt g)) rq vq aq)) args s 0 0 A) h0 ad ln vb2 ab2 0 0 80 [(5, .int (iI r)), (4, .int (iI (v 63))), (0, .ref h0), (1, .int (iI x)), (2, .int (iI pt)), (3, .int (iI g))] [] := by
          intro nn
          induction nn with
          | zero =>
            intro r vb2 ab2 hm bxb2 fpb2 hr hr47 h63b h60b hI80
            exact absurd hm (by omega)
          | succ nn ih1 =>
            intro r vb2 ab2 hm bxb2 fpb2 hr hr47 h63b h60b hI80
            refine m_iload (j := 0) C dX12_go_80 rfl ?_
            refine m_sipush (z := 6008) C dX12_go_82 (by decide) ?_
            refine m_iload_n (j := 4) C dX12_go_85 rfl ?_
            refine m_imul C dX12_go_86 ?_
            refine m_aload_n (j := 2) C dX12_go_87 rfl ?_
            refine m_geta (k := 47) C dX12_go_88 w6_106 (by decide) rfl ?_
            refine m_iload_n (j := 4) C dX12_go_91 rfl ?_
            refine m_ald (k := 47) C dX12_go_92 rfl rfl (by decide) (by omega) (by show _ < ((_ : Nat) : Int); simp only [mlen]; omega) (by decide) ?_
            refine hv2 (show 0 ≤ ab2 47 pt.toNat ∧ ab2 47 pt.toNat ≤ 6008 from bxb2.2 47 (pt.toNat)) (show ab2 47 (pt.toNat) = a 47 (pt.toNat) from congrFun (fpb2.2 47 rfl) (pt.toNat)) (fun ra1 ae1 => ?_)
            refine m_st (st2 := [.int (iI (a 47 pt.toNat)), .int (iI (6008 * pt)), .int (iI r)]) (congrArg (fun z => Value.int (iI z) :: [.int (iI (6008 * pt)), .int (iI r)]) (congrFun (fpb2.2 47 rfl) (pt.toNat))) ?_
            refine m_iadd C dX12_go_93 ?_
            refine m_icmp_ge (tgt := 310) C ⟨by omega, by omega⟩ ⟨by omega, by omega⟩ dX12_go_94 (by decide) (fun c3 => ?_) (fun c3 => ?_)
            · have rv4 : 0 ≤ vb2 60 ∧ vb2 60 ≤ 50 := bxb2.1 60
              refine hv2 (show 0 ≤ vb2 63 ∧ vb2 63 ≤ 808 from bxb2.1 63) (show 0 ≤ vb2 61 ∧ vb2 61 ≤ 1 from bxb2.1 61) (fun rv5 rv6 => ?_)
              exact m_vret C dX12_go_310 rfl (Nat.le_of_ble_eq_true rfl) (Nat.le_of_ble_eq_true rfl) ⟨rfl, fpb2, bxb2, ⟨(by show (vb2 60) ≤ (v 64) ∧ (vb2 63) = (v 63); omega), GI.fin hI80 (GFR.fr fpb2 rfl rfl) (by omega) (by omega) (by show (vb2 61) ≠ 0 ∨ r - 6008 * pt + 1 = a 47 pt.toNat + 1; omega)⟩⟩
            · refine m_aload_n (j := 2) C dX12_go_97 rfl ?_
              have rv7 : 0 ≤ vb2 61 ∧ vb2 61 ≤ 1 := bxb2.1 61
              refine m_get (k := 61) C dX12_go_98 w6_120 (by decide) rfl ?_
              refine m_if_ne (tgt := 310) C (r32_c (lo := 0) (hi := 1) rv7.1 rv7.2 (by decide) (by decide)) dX12_go_101 (by decide) (fun c4 => ?_) (fun c4 => ?_)
              · have rv8 : 0 ≤ vb2 60 ∧ vb2 60 ≤ 50 := bxb2.1 60
                have rv9 : 0 ≤ vb2 63 ∧ vb2 63 ≤ 808 := bxb2.1 63
                exact m_vret C dX12_go_310 rfl (Nat.le_of_ble_eq_true rfl) (Nat.le_of_ble_eq_true rfl) ⟨rfl, fpb2, bxb2, ⟨(by show (vb2 60) ≤ (v 64) ∧ (vb2 63) = (v 63); omega), GI.fin hI80 (GFR.fr fpb2 rfl rfl) (by omega) (by omega) (by show (vb2 61) ≠ 0 ∨ r - 6008 * pt + 1 = a 47 pt.toNat + 1; omega)⟩⟩
              · refine m_aload_n (j := 2) C dX12_go_104 rfl ?_
                refine m_iload (j := 0) C dX12_go_105 rfl ?_
                refine m_iload_n (j := 3) C dX12_go_107 rfl ?_
                refine m_iload_n (j := 4) C dX12_go_108 rfl ?_
                refine m_iload_n (j := 5) C dX12_go_109 rfl ?_
                refine hv9 (show RowOK a r from (hW (pt) (by omega)).2 r (by omega) (by omega)) (show 0 ≤ vb2 50 ∧ vb2 50 ≤ 40200 from bxb2.1 50) (show vb2 50 = v 50 from fpb2.1 50 rfl) (show (-4) ≤ ab2 44 r.toNat ∧ ab2 44 r.toNat ≤ 5999 from bxb2.2 44 (r.toNat)) (show ab2 44 (r.toNat) = a 44 (r.toNat) from congrFun (fpb2.2 44 rfl) (r.toNat)) (show 0 ≤ ab2 45 r.toNat ∧ ab2 45 r.toNat ≤ 23999 from bxb2.2 45 (r.toNat)) (show ab2 45 (r.toNat) = a 45 (r.toNat) from congrFun (fpb2.2 45 rfl) (r.toNat)) (show 0 ≤ ab2 46 r.toNat ∧ ab2 46 r.toNat ≤ 4 from bxb2.2 46 (r.toNat)) (show ab2 46 (r.toNat) = a 46 (r.toNat) from congrFun (fpb2.2 46 rfl) (r.toNat)) (fun ro rv10 ve1 ra2 ae2 ra3 ae3 ra4 ae4 => ?_)
                refine hv4 (ro.1) (ro.2.1) (ro.2.2.1) (ro.2.2.2) (fun ro1 ro2 ro3 ro4 => ?_)
                refine m_call (mc2 := 0) (ms2 := 0) (As := [.int (iI r), .int (iI x), .int (iI pt), .int (iI g)]) (rest := []) C (E_may (r1 := r) (x := x) (pt := pt) (g := g) bxb2 (by omega) (by show -4 ≤ ab2 44 r.toNat ∧ ab2 44 r.toNat < 6000; omega) (by show 1 ≤ ab2 46 r.toNat ∧ ab2 46 r.toNat ≤ 4; omega) (by show 0 ≤ ab2 45 r.toNat ∧ (0 ≤ ab2 44 r.toNat → ab2 45 r.toNat + ab2 46 r.toNat ≤ 24000) ∧ (ab2 44 r.toNat < 0 → ab2 45 r.toNat + ab2 46 r.toNat ≤ 480); omega) (by omega) (by show (vb2 50) ≤ 100; omega) (by omega) (by omega)) dX12_go_110 kV_X12_378 rfl ck_13 rfl (Nat.le_of_ble_eq_true rfl) ⟨by dsimp only [rmq]; omega, by dsimp only [rmq]; omega⟩ ⟨Nat.le_of_ble_eq_true rfl, Nat.le_of_ble_eq_true rfl⟩ (fun rh2 vh2 ah2 h2 => ?_)
                obtain ⟨f2, rfl, fn2, _, ef2, my1⟩ := h2
                obtain ⟨rfl, rfl⟩ := fn2.eq
                have gf2 : f2 = 0 ∨ (f2 = 1 ∧ x + ab2 46 r.toNat ≤ (vb2 50)) := ef2
                refine m_st (st2 := [.int (iI f2)]) rfl ?_
                refine m_if_ne (tgt := 119) C (r32_0p gf2) dX12_go_113 (by decide) (fun c5 => ?_) (fun c5 => ?_)
                · replace gf2 := (gf2.resolve_left c5)
                  refine m_aload_n (j := 2) C dX12_go_119 rfl ?_
                  refine m_geta (k := 44) C dX12_go_120 w6_103 (by decide) rfl ?_
                  refine m_iload (j := 0) C dX12_go_123 rfl ?_
                  refine m_ald (k := 44) C dX12_go_125 rfl rfl (by decide) (by omega) (by show _ < ((_ : Nat) : Int); simp only [mlen]; omega) (by decide) ?_
                  refine m_st (st2 := [.int (iI (a 44 r.toNat))]) (congrArg (fun z => Value.int (iI z) :: []) (congrFun (fpb2.2 44 rfl) (r.toNat))) ?_
                  refine m_istore (lv2 := [(6, .int (iI (a 44 r.toNat))), (5, .int (iI r)), (4, .int (iI (v 63))), (0, .ref h0), (1, .int (iI x)), (2, .int (iI pt)), (3, .int (iI g))]) C dX12_go_126 (by decide) rfl ?_
                  refine m_iconst C dX12_go_128 ?_
                  refine m_istore (lv2 := [(7, .int (iI 0)), (6, .int (iI (a 44 r.toNat))), (5, .int (iI r)), (4, .int (iI (v 63))), (0, .ref h0), (1, .int (iI x)), (2, .int (iI pt)), (3, .int (iI g))]) C dX12_go_129 (by decide) rfl ?_
                  have Lp2 : ∀ (nn : Nat) (k : Int) (vb3 : Nat → Int) (ab3 : Nat → Nat → Int), 9 - k < (nn : Int) → BX vb3 ab3 → fr [60, 61, 63] [58, 59, 62] v a vb3 ab3 → (0 ≤ k ∧ k ≤ 8 ∧ (a 44 r.toNat < 0 → k = 0) ∧ (0 ≤ a 44 r.toNat → k ≤ a 12 (a 44 r.toNat).toNat)) → (vb3 63 = v 63) → (vb3 60 ≤ v 64) → (G131 v a vb3 ab3 x pt g r k) → mw p l e (rmq (d + 1) 0 0) s m args below meth c G A 8 (MQ below (Qm G A (fun rq Lq Eq => ∃ (vq : Nat → Int) (aq : Nat → Nat → Int), mI G h0 ad ln vq aq Lq Eq ∧ (fun r v2 a2 => r = none ∧ fr [60, 61, 63] [58, 59, 62] v a v2 a2 ∧ BX v2 a2 ∧ ((v2 60 ≤ v 64 ∧ v2 63 = v 63) ∧ GEX v a v2 a2 x pt g)) rq vq aq)) args s 0 0 A) h0 ad ln vb3 ab3 0 0 131 [(7, .int (iI k)), (6, .int (iI (a 44 r.toNat))), (5, .int (iI r)), (4, .int (iI (v 63))), (0, .ref h0), (1, .int (iI x)), (2, .int (iI pt)), (3, .int (iI g))] [] := by
                    intro nn
                    induction nn with
                    | zero =>
                      intro k vb3 ab3 hm bxb3 fpb3 hk h63c h60c hJ131
                      exact absurd hm (by omega)
                    | succ nn ih2 =>
                      intro k vb3 ab3 hm bxb3 fpb3 hk h63c h60c hJ131
                      have J2 : ∀ (vb4 : Nat → Int) (ab4 : Nat → Nat → Int), BX vb4 ab4 → fr [60, 61, 63] [58, 59, 62] v a vb4 ab4 → (vb4 63 = v 63) → (vb4 60 ≤ v 64) → (G195 v a vb4 ab4 x pt g r) → mw p l e (rmq (d + 1) 0 0) s m args below meth c G A 8 (MQ below (Qm G A (fun rq Lq Eq => ∃ (vq : Nat → Int) (aq : Nat → Nat → Int), mI G h0 ad ln vq aq Lq Eq ∧ (fun r v2 a2 => r = none ∧ fr [60, 61, 63] [58, 59, 62] v a v2 a2 ∧ BX v2 a2 ∧ ((v2 60 ≤ v 64 ∧ v2 63 = v 63) ∧ GEX v a v2 a2 x pt g)) rq vq aq)) args s 0 0 A) h0 ad ln vb4 ab4 0 0 195 [(6, .int (iI (a 44 r.toNat))), (5, .int (iI r)), (4, .int (iI (v 63))), (0, .ref h0), (1, .int (iI x)), (2, .int (iI pt)), (3, .int (iI g))] [] := by
                        intro  vb4 ab4 bxb4 fpb4 h63d h60d hJ195
                        have J3 : ∀ (vb5 : Nat → Int) (ab5 : Nat → Nat → Int), BX vb5 ab5 → fr [60, 61, 63] [58, 59, 62] v a vb5 ab5 → (0 ≤ vb5 63 ∧ vb5 63 ≤ 8 * x + 8 ∧ (a 44 r.toNat < 0 → vb5 63 ≤ 8 * x)) → (vb5 60 ≤ v 64) → (G220 v a vb5 ab5 x pt g r) → mw p l e (rmq (d + 1) 0 0) s m args below meth c G A 8 (MQ below (Qm G A (fun rq Lq Eq => ∃ (vq : Nat → Int) (aq : Nat → Nat → Int), mI G h0 ad ln vq aq Lq Eq ∧ (fun r v2 a2 => r = none ∧ fr [60, 61, 63] [58, 59, 62] v a v2 a2 ∧ BX v2 a2 ∧ ((v2 60 ≤ v 64 ∧ v2 63 = v 63) ∧ GEX v a v2 a2 x pt g)) rq vq aq)) args s 0 0 A) h0 ad ln vb5 ab5 0 0 220 [(6, .int (iI (a 44 r.toNat))), (5, .int (iI r)), (4, .int (iI (v 63))), (0, .ref h0), (1, .int (iI x)), (2, .int (iI pt)), (3, .int (iI g))] [] := by
                          intro  vb5 ab5 bxb5 fpb5 h63e h60e hJ220
                          have J4 : ∀ (vb6 : Nat → Int) (ab6 : Nat → Nat → Int), BX vb6 ab6 → fr [60, 61, 63] [58, 59, 62] v a vb6 ab6 → (0 ≤ vb6 63 ∧ vb6 63 ≤ 8 * x + 8) → (vb6 60 ≤ v 64) → (G267 v a vb6 ab6 x pt g r) → mw p l e (rmq (d + 1) 0 0) s m args below meth c G A 8 (MQ below (Qm G A (fun rq Lq Eq => ∃ (vq : Nat → Int) (aq : Nat → Nat → Int), mI G h0 ad ln vq aq Lq Eq ∧ (fun r v2 a2 => r = none ∧ fr [60, 61, 63] [58, 59, 62] v a v2 a2 ∧ BX v2 a2 ∧ ((v2 60 ≤ v 64 ∧ v2 63 = v 63) ∧ GEX v a v2 a2 x pt g)) rq vq aq)) args s 0 0 A) h0 ad ln vb6 ab6 0 0 267 [(6, .int (iI (a 44 r.toNat))), (5, .int (iI r)), (4, .int (iI (v 63))), (0, .ref h0), (1, .int (iI x)), (2, .int (iI pt)), (3, .int (iI g))] [] := by
                            intro  vb6 ab6 bxb6 fpb6 h63f h60f hJ267
                            refine m_aload_n (j := 3) C dX12_go_267 rfl ?_
                            refine m_iload_n (j := 4) C dX12_go_268 rfl ?_
                            refine m_aload_n (j := 3) C dX12_go_269 rfl ?_
                            refine m_geta (k := 46) C dX12_go_270 w6_105 (by decide) rfl ?_
                            refine m_iload (j := 1) C dX12_go_273 rfl ?_
                            refine m_ald (k := 46) C dX12_go_275 rfl rfl (by decide) (by omega) (by show _ < ((_ : Nat) : Int); simp only [mlen]; omega) (by decide) ?_
                            refine hv2 (show 0 ≤ ab6 46 r.toNat ∧ ab6 46 r.toNat ≤ 4 from bxb6.2 46 (r.toNat)) (show ab6 46 (r.toNat) = a 46 (r.toNat) from congrFun (fpb6.2 46 rfl) (r.toNat)) (fun ra5 ae5 => ?_)
                            refine m_st (st2 := [.int (iI (a 46 r.toNat)), .int (iI x), .ref h0]) (congrArg (fun z => Value.int (iI z) :: [.int (iI x), .ref h0]) (congrFun (fpb6.2 46 rfl) (r.toNat))) ?_
                            refine m_iadd C dX12_go_276 ?_
                            refine m_aload_n (j := 3) C dX12_go_277 rfl ?_
                            refine m_iload (j := 1) C dX12_go_278 rfl ?_
                            refine m_iload_n (j := 5) C dX12_go_280 rfl ?_
                            refine hv2 (show (-4) ≤ ab6 44 r.toNat ∧ ab6 44 r.toNat ≤ 5999 from bxb6.2 44 (r.toNat)) (show ab6 44 (r.toNat) = a 44 (r.toNat) from congrFun (fpb6.2 44 rfl) (r.toNat)) (fun ra6 ae6 => ?_)
                            refine m_call (mc2 := 0) (ms2 := 0) (As := [.int (iI r), .int (iI pt)]) (rest := [.int (iI (x + (a 46 r.toNat))), .ref h0]) C (E_next (w := r) (q := pt) bxb6 (by omega) (by omega)) dX12_go_281 kV_X12_367 rfl ck_13 rfl (Nat.le_of_ble_eq_true rfl) ⟨by dsimp only [rmq]; omega, by dsimp only [rmq]; omega⟩ ⟨Nat.le_of_ble_eq_true rfl, Nat.le_of_ble_eq_true rfl⟩ (fun rh3 vh3 ah3 h3 => ?_)
                            obtain ⟨f3, rfl, fn3, _, ef3⟩ := h3
                            obtain ⟨rfl, rfl⟩ := fn3.eq
                            have gf3 : (f3 = 0 ∨ f3 = 1) ∧ ((ab6 44 r.toNat = -3 ∧ f3 = 1) ∨ (ab6 44 r.toNat = -4 ∧ f3 = 0) ∨ ((ab6 44 r.toNat ≠ -3 ∧ ab6 44 r.toNat ≠ -4) ∧ f3 = pt)) := ef3
                            refine m_st (st2 := [.int (iI f3), .int (iI (x + (a 46 r.toNat))), .ref h0]) rfl ?_
                            refine m_iload (j := 0) C dX12_go_284 rfl ?_
                            refine m_iconst C dX12_go_286 ?_
                            refine m_icmp_ne (tgt := 294) C ⟨by omega, by omega⟩ ⟨by decide, by decide⟩ dX12_go_287 (by decide) (fun c6 => ?_) (fun c6 => ?_)
                            · refine m_iconst C dX12_go_294 ?_
                              refine hv6 (show 0 ≤ vb6 50 ∧ vb6 50 ≤ 40200 from bxb6.1 50) (show vb6 50 = v 50 from fpb6.1 50 rfl) (show 0 ≤ vb6 60 ∧ vb6 60 ≤ 50 from bxb6.1 60) (show 0 ≤ vb6 63 ∧ vb6 63 ≤ 808 from bxb6.1 63) (show 0 ≤ vb6 64 ∧ vb6 64 ≤ 50 from bxb6.1 64) (show vb6 64 = v 64 from fpb6.1 64 rfl) (fun rv11 ve2 rv12 rv13 rv14 ve3 => ?_)
                              refine m_call (mc2 := 0) (ms2 := 0) (As := [.int (iI (x + (a 46 r.toNat))), .int (iI f3), .int (iI 0)]) (rest := []) C (hf (x + (a 46 r.toNat)) (by omega) _ _ (f3) (0) bxb6 (RWS.fr hW fpb6 rfl) (by show (vb6 50) ≤ 100; omega) (by show 0 ≤ (x + (a 46 r.toNat)) ∧ (x + (a 46 r.toNat)) ≤ (vb6 50); omega) (by omega) (by omega) (by show (vb6 60) ≤ (vb6 64); omega) (by show (vb6 63) ≤ 8 * (x + (a 46 r.toNat)); omega)) dX12_go_295 kV_X12_391 rfl ck_13 rfl (Nat.le_of_ble_eq_true rfl) ⟨by dsimp only [rmq]; omega, by dsimp only [rmq]; omega⟩ ⟨Nat.le_of_ble_eq_true rfl, Nat.le_of_ble_eq_true rfl⟩ (fun rh4 vh4 ah4 h4 => ?_)
                              obtain ⟨rfl, fn4, bn1, ex1, gx1⟩ := h4
                              refine hv4 (fpb6.call fn4 rfl rfl) (show 0 ≤ vh4 60 ∧ vh4 60 ≤ 50 from bn1.1 60) (show 0 ≤ vh4 63 ∧ vh4 63 ≤ 808 from bn1.1 63) (show (vh4 60) ≤ (vb6 64) ∧ (vh4 63) = (vb6 63) from ex1) (fun fq1 rv15 rv16 gex1 => ?_)
                              refine m_st (st2 := []) rfl ?_
                              refine m_aload_n (j := 3) C dX12_go_298 rfl ?_
                              refine m_iload (j := 2) C dX12_go_299 rfl ?_
                              refine m_put (k := 63) (z := v 63) C dX12_go_301 w6_122 (by decide) rfl rfl rfl ?_
                              refine hv2 (show BX (va_up vh4 63 (v 63)) ah4 from bn1.put (k := 63) (z := v 63) (show 0 ≤ (v 63) ∧ (v 63) ≤ 808 by omega)) (fq1.put (k := 63) (z := v 63) rfl) (fun bq1 fq2 => ?_)
                              refine m_iinc (z := r) (j := 1) (lv2 := [(5, .int (iI (r + 1))), (6, .int (iI (a 44 r.toNat))), (4, .int (iI (v 63))), (0, .ref h0), (1, .int (iI x)), (2, .int (iI pt)), (3, .int (iI g))]) C dX12_go_304 rfl (by decide) rfl ?_
                              refine m_goto (tgt := 80) C dX12_go_307 (by decide) ?_
                              refine m_lv (lv2 := [(5, .int (iI (r + 1))), (4, .int (iI (v 63))), (0, .ref h0), (1, .int (iI x)), (2, .int (iI pt)), (3, .int (iI g))]) [0, 2, 3, 4, 5, 6] rfl ?_
                              exact ih1  (r + 1) _ _ (by omega) bq1 fq2 (by omega) (by omega) (by show (v 63) = v 63; omega) (by show (vh4 60) ≤ v 64; omega) (by have q := G267.go (i := r - 6008 * pt + 1) hJ267 (GFR.fr fpb6 rfl rfl) (by omega) (by omega) (nx := f3) (cp := 0) (by unfold NXQ; omega) (by unfold CPQ; omega) (by omega) gx1 rfl (v3 := (va_up vh4 63 (v 63))) (a3 := ah4) rfl rfl rfl rfl rfl rfl rfl; rw [show r - 6008 * pt + 1 + 1 = r + 1 - 6008 * pt + 1 by omega] at q; exact q)
                            · refine m_iconst C dX12_go_290 ?_
                              refine m_goto (tgt := 295) C dX12_go_291 (by decide) ?_
                              refine hv6 (show 0 ≤ vb6 50 ∧ vb6 50 ≤ 40200 from bxb6.1 50) (show vb6 50 = v 50 from fpb6.1 50 rfl) (show 0 ≤ vb6 60 ∧ vb6 60 ≤ 50 from bxb6.1 60) (show 0 ≤ vb6 63 ∧ vb6 63 ≤ 808 from bxb6.1 63) (show 0 ≤ vb6 64 ∧ vb6 64 ≤ 50 from bxb6.1 64) (show vb6 64 = v 64 from fpb6.1 64 rfl) (fun rv17 ve4 rv18 rv19 rv20 ve5 => ?_)
                              refine m_call (mc2 := 0) (ms2 := 0) (As := [.int (iI (x + (a 46 r.toNat))), .int (iI f3), .int (iI 1)]) (rest := []) C (hf (x + (a 46 r.toNat)) (by omega) _ _ (f3) (1) bxb6 (RWS.fr hW fpb6 rfl) (by show (vb6 50) ≤ 100; omega) (by show 0 ≤ (x + (a 46 r.toNat)) ∧ (x + (a 46 r.toNat)) ≤ (vb6 50); omega) (by omega) (by omega) (by show (vb6 60) ≤ (vb6 64); omega) (by show (vb6 63) ≤ 8 * (x + (a 46 r.toNat)); omega)) dX12_go_295 kV_X12_391 rfl ck_13 rfl (Nat.le_of_ble_eq_true rfl) ⟨by dsimp only [rmq]; omega, by dsimp only [rmq]; omega⟩ ⟨Nat.le_of_ble_eq_true rfl, Nat.le_of_ble_eq_true rfl⟩ (fun rh5 vh5 ah5 h5 => ?_)
                              obtain ⟨rfl, fn5, bn2, ex2, gx2⟩ := h5
                              refine hv4 (fpb6.call fn5 rfl rfl) (show 0 ≤ vh5 60 ∧ vh5 60 ≤ 50 from bn2.1 60) (show 0 ≤ vh5 63 ∧ vh5 63 ≤ 808 from bn2.1 63) (show (vh5 60) ≤ (vb6 64) ∧ (vh5 63) = (vb6 63) from ex2) (fun fq3 rv21 rv22 gex2 => ?_)
                              refine m_st (st2 := []) rfl ?_
                              refine m_aload_n (j := 3) C dX12_go_298 rfl ?_
                              refine m_iload (j := 2) C dX12_go_299 rfl ?_
                              refine m_put (k := 63) (z := v 63) C dX12_go_301 w6_122 (by decide) rfl rfl rfl ?_
                              refine hv2 (show BX (va_up vh5 63 (v 63)) ah5 from bn2.put (k := 63) (z := v 63) (show 0 ≤ (v 63) ∧ (v 63) ≤ 808 by omega)) (fq3.put (k := 63) (z := v 63) rfl) (fun bq2 fq4 => ?_)
                              refine m_iinc (z := r) (j := 1) (lv2 := [(5, .int (iI (r + 1))), (6, .int (iI (a 44 r.toNat))), (4, .int (iI (v 63))), (0, .ref h0), (1, .int (iI x)), (2, .int (iI pt)), (3, .int (iI g))]) C dX12_go_304 rfl (by decide) rfl ?_
                              refine m_goto (tgt := 80) C dX12_go_307 (by decide) ?_
                              refine m_lv (lv2 := [(5, .int (iI (r + 1))), (4, .int (iI (v 63))), (0, .ref h0), (1, .int (iI x)), (2, .int (iI pt)), (3, .int (iI g))]) [0, 2, 3, 4, 5, 6] rfl ?_
                              exact ih1  (r + 1) _ _ (by omega) bq2 fq4 (by omega) (by omega) (by show (v 63) = v 63; omega) (by show (vh5 60) ≤ v 64; omega) (by have q := G267.go (i := r - 6008 * pt + 1) hJ267 (GFR.fr fpb6 rfl rfl) (by omega) (by omega) (nx := f3) (cp := 1) (by unfold NXQ; omega) (by unfold CPQ; omega) (by omega) gx2 rfl (v3 := (va_up vh5 63 (v 63))) (a3 := ah5) rfl rfl rfl rfl rfl rfl rfl; rw [show r - 6008 * pt + 1 + 1 = r + 1 - 6008 * pt + 1 by omega] at q; exact q)
                          refine m_iload (j := 0) C dX12_go_220 rfl ?_
                          refine m_bipush (z := (-3)) C dX12_go_222 (by decide) ?_
                          refine m_icmp_eq (tgt := 234) C ⟨by omega, by omega⟩ ⟨by decide, by decide⟩ dX12_go_224 (by decide) (fun c7 => ?_) (fun c7 => ?_)
                          · refine m_aload_n (j := 3) C dX12_go_234 rfl ?_
                            refine m_geta (k := 62) C dX12_go_235 w6_121 (by decide) rfl ?_
                            refine m_aload_n (j := 3) C dX12_go_238 rfl ?_
                            have rv23 : 0 ≤ vb5 63 ∧ vb5 63 ≤ 808 := bxb5.1 63
                            refine m_get (k := 63) C dX12_go_239 w6_122 (by decide) rfl ?_
                            refine m_iload (j := 0) C dX12_go_242 rfl ?_
                            refine m_bipush (z := (-3)) C dX12_go_244 (by decide) ?_
                            refine m_icmp_ne (tgt := 254) C ⟨by omega, by omega⟩ ⟨by decide, by decide⟩ dX12_go_246 (by decide) (fun z => absurd z (by omega)) (fun _ => ?_)
                            refine m_bipush (z := 60) C dX12_go_249 (by decide) ?_
                            refine m_goto (tgt := 256) C dX12_go_251 (by decide) ?_
                            refine m_ast (k := 62) C dX12_go_256 rfl rfl (by decide) rv23.1 (Int.lt_of_le_of_lt rv23.2 (by decide)) (by decide) ?_
                            refine hv2 (show BX vb5 (up2 ab5 62 (vb5 63).toNat 60) from bxb5.set (k := 62) (i := (vb5 63).toNat) (z := 60) ⟨by decide, by decide⟩) (fpb5.set (k := 62) (i := (vb5 63).toNat) (z := 60) rfl) (fun bq3 fq5 => ?_)
                            refine m_aload_n (j := 3) C dX12_go_257 rfl ?_
                            refine m_dup C dX12_go_258 rfl ?_
                            refine m_get (k := 63) C dX12_go_259 w6_122 (by decide) rfl ?_
                            refine m_iconst C dX12_go_262 ?_
                            refine m_iadd C dX12_go_263 ?_
                            refine m_put (k := 63) (z := (vb5 63) + 1) C dX12_go_264 w6_122 (by decide) rfl rfl rfl ?_
                            refine hv2 (show BX (va_up vb5 63 ((vb5 63) + 1)) (up2 ab5 62 (vb5 63).toNat 60) from bq3.put (k := 63) (z := (vb5 63) + 1) (show 0 ≤ ((vb5 63) + 1) ∧ ((vb5 63) + 1) ≤ 808 by omega)) (fq5.put (k := 63) (z := (vb5 63) + 1) rfl) (fun bq4 fq6 => ?_)
                            have rv24 : 0 ≤ vb5 60 ∧ vb5 60 ≤ 50 := bq4.1 60
                            refine m_lv (lv2 := [(6, .int (iI (a 44 r.toNat))), (5, .int (iI r)), (4, .int (iI (v 63))), (0, .ref h0), (1, .int (iI x)), (2, .int (iI pt)), (3, .int (iI g))]) [0, 1, 2, 3, 4, 5, 6] rfl ?_
                            exact J4   _ _  bq4 fq6 (by show 0 ≤ ((vb5 63) + 1) ∧ ((vb5 63) + 1) ≤ 8 * x + 8; omega) (by show (vb5 60) ≤ v 64; omega) (hJ220.turn (y := 60) (fpb5.2 44 rfl) (by omega) rfl (by unfold up2; rfl) rfl rfl rfl rfl rfl rfl rfl rfl)
                          · refine m_iload (j := 0) C dX12_go_227 rfl ?_
                            refine m_bipush (z := (-4)) C dX12_go_229 (by decide) ?_
                            refine m_icmp_ne (tgt := 267) C ⟨by omega, by omega⟩ ⟨by decide, by decide⟩ dX12_go_231 (by decide) (fun c8 => ?_) (fun c8 => ?_)
                            · have rv25 : 0 ≤ vb5 63 ∧ vb5 63 ≤ 808 := bxb5.1 63
                              have rv26 : 0 ≤ vb5 60 ∧ vb5 60 ≤ 50 := bxb5.1 60
                              refine m_lv (lv2 := [(6, .int (iI (a 44 r.toNat))), (5, .int (iI r)), (4, .int (iI (v 63))), (0, .ref h0), (1, .int (iI x)), (2, .int (iI pt)), (3, .int (iI g))]) [0, 1, 2, 3, 4, 5, 6] rfl ?_
                              exact J4   _ _  bxb5 fpb5 (by show 0 ≤ (vb5 63) ∧ (vb5 63) ≤ 8 * x + 8; omega) (by show (vb5 60) ≤ v 64; omega) (hJ220.keep (fpb5.2 44 rfl) ⟨by omega, by omega⟩)
                            · refine m_aload_n (j := 3) C dX12_go_234 rfl ?_
                              refine m_geta (k := 62) C dX12_go_235 w6_121 (by decide) rfl ?_
                              refine m_aload_n (j := 3) C dX12_go_238 rfl ?_
                              have rv27 : 0 ≤ vb5 63 ∧ vb5 63 ≤ 808 := bxb5.1 63
                              refine m_get (k := 63) C dX12_go_239 w6_122 (by decide) rfl ?_
                              refine m_iload (j := 0) C dX12_go_242 rfl ?_
                              refine m_bipush (z := (-3)) C dX12_go_244 (by decide) ?_
                              refine m_icmp_ne (tgt := 254) C ⟨by omega, by omega⟩ ⟨by decide, by decide⟩ dX12_go_246 (by decide) (fun _ => ?_) (fun z => absurd z (by omega))
                              refine m_bipush (z := 62) C dX12_go_254 (by decide) ?_
                              refine m_ast (k := 62) C dX12_go_256 rfl rfl (by decide) rv27.1 (Int.lt_of_le_of_lt rv27.2 (by decide)) (by decide) ?_
                              refine hv2 (show BX vb5 (up2 ab5 62 (vb5 63).toNat 62) from bxb5.set (k := 62) (i := (vb5 63).toNat) (z := 62) ⟨by decide, by decide⟩) (fpb5.set (k := 62) (i := (vb5 63).toNat) (z := 62) rfl) (fun bq5 fq7 => ?_)
                              refine m_aload_n (j := 3) C dX12_go_257 rfl ?_
                              refine m_dup C dX12_go_258 rfl ?_
                              refine m_get (k := 63) C dX12_go_259 w6_122 (by decide) rfl ?_
                              refine m_iconst C dX12_go_262 ?_
                              refine m_iadd C dX12_go_263 ?_
                              refine m_put (k := 63) (z := (vb5 63) + 1) C dX12_go_264 w6_122 (by decide) rfl rfl rfl ?_
                              refine hv2 (show BX (va_up vb5 63 ((vb5 63) + 1)) (up2 ab5 62 (vb5 63).toNat 62) from bq5.put (k := 63) (z := (vb5 63) + 1) (show 0 ≤ ((vb5 63) + 1) ∧ ((vb5 63) + 1) ≤ 808 by omega)) (fq7.put (k := 63) (z := (vb5 63) + 1) rfl) (fun bq6 fq8 => ?_)
                              have rv28 : 0 ≤ vb5 60 ∧ vb5 60 ≤ 50 := bq6.1 60
                              refine m_lv (lv2 := [(6, .int (iI (a 44 r.toNat))), (5, .int (iI r)), (4, .int (iI (v 63))), (0, .ref h0), (1, .int (iI x)), (2, .int (iI pt)), (3, .int (iI g))]) [0, 1, 2, 3, 4, 5, 6] rfl ?_
                              exact J4   _ _  bq6 fq8 (by show 0 ≤ ((vb5 63) + 1) ∧ ((vb5 63) + 1) ≤ 8 * x + 8; omega) (by show (vb5 60) ≤ v 64; omega) (hJ220.turn (y := 62) (fpb5.2 44 rfl) (by omega) rfl (by unfold up2; rfl) rfl rfl rfl rfl rfl rfl rfl rfl)
                        refine m_aload_n (j := 3) C dX12_go_195 rfl ?_
                        refine m_dup C dX12_go_196 rfl ?_
                        have rv29 : 0 ≤ vb4 63 ∧ vb4 63 ≤ 808 := bxb4.1 63
                        refine m_get (k := 63) C dX12_go_197 w6_122 (by decide) rfl ?_
                        refine m_iload (j := 0) C dX12_go_200 rfl ?_
                        refine m_if_lt (tgt := 215) C ⟨by omega, by omega⟩ dX12_go_202 (by decide) (fun c9 => ?_) (fun c9 => ?_)
                        · refine m_iconst C dX12_go_215 ?_
                          refine m_iadd C dX12_go_216 ?_
                          refine m_put (k := 63) (z := (vb4 63) + 0) C dX12_go_217 w6_122 (by decide) rfl rfl rfl ?_
                          refine hv2 (show BX (va_up vb4 63 ((vb4 63) + 0)) ab4 from bxb4.put (k := 63) (z := (vb4 63) + 0) (show 0 ≤ ((vb4 63) + 0) ∧ ((vb4 63) + 0) ≤ 808 by omega)) (fpb4.put (k := 63) (z := (vb4 63) + 0) rfl) (fun bq7 fq9 => ?_)
                          have rv30 : 0 ≤ vb4 60 ∧ vb4 60 ≤ 50 := bq7.1 60
                          refine m_lv (lv2 := [(6, .int (iI (a 44 r.toNat))), (5, .int (iI r)), (4, .int (iI (v 63))), (0, .ref h0), (1, .int (iI x)), (2, .int (iI pt)), (3, .int (iI g))]) [0, 1, 2, 3, 4, 5, 6] rfl ?_
                          exact J3   _ _  bq7 fq9 (by show 0 ≤ ((vb4 63) + 0) ∧ ((vb4 63) + 0) ≤ 8 * x + 8 ∧ (a 44 r.toNat < 0 → ((vb4 63) + 0) ≤ 8 * x); omega) (by show (vb4 60) ≤ v 64; omega) (hJ195.up (fq9.2 44 rfl) (by show (a 44 r.toNat < 0 ∧ ((vb4 63) + 0) = vb4 63) ∨ (0 ≤ a 44 r.toNat ∧ ((vb4 63) + 0) = vb4 63 + a 12 (a 44 r.toNat).toNat); omega) (fun j => (hB.2 12 j).1) rfl rfl rfl)
                        · refine m_aload_n (j := 3) C dX12_go_205 rfl ?_
                          refine m_geta (k := 12) C dX12_go_206 w6_71 (by decide) rfl ?_
                          refine m_iload (j := 0) C dX12_go_209 rfl ?_
                          refine m_ald (k := 12) C dX12_go_211 rfl rfl (by decide) (by omega) (by show _ < ((_ : Nat) : Int); simp only [mlen]; omega) (by decide) ?_
                          refine hv2 (show 0 ≤ ab4 12 (a 44 r.toNat).toNat ∧ ab4 12 (a 44 r.toNat).toNat ≤ 8 from bxb4.2 12 ((a 44 r.toNat).toNat)) (show ab4 12 ((a 44 r.toNat).toNat) = a 12 ((a 44 r.toNat).toNat) from congrFun (fpb4.2 12 rfl) ((a 44 r.toNat).toNat)) (fun ra7 ae7 => ?_)
                          refine m_st (st2 := [.int (iI (a 12 (a 44 r.toNat).toNat)), .int (iI (vb4 63)), .ref h0]) (congrArg (fun z => Value.int (iI z) :: [.int (iI (vb4 63)), .ref h0]) (congrFun (fpb4.2 12 rfl) ((a 44 r.toNat).toNat))) ?_
                          refine m_goto (tgt := 216) C dX12_go_212 (by decide) ?_
                          refine m_iadd C dX12_go_216 ?_
                          refine m_put (k := 63) (z := (vb4 63) + (a 12 (a 44 r.toNat).toNat)) C dX12_go_217 w6_122 (by decide) rfl rfl rfl ?_
                          refine hv2 (show BX (va_up vb4 63 ((vb4 63) + (a 12 (a 44 r.toNat).toNat))) ab4 from bxb4.put (k := 63) (z := (vb4 63) + (a 12 (a 44 r.toNat).toNat)) (show 0 ≤ ((vb4 63) + (a 12 (a 44 r.toNat).toNat)) ∧ ((vb4 63) + (a 12 (a 44 r.toNat).toNat)) ≤ 808 by omega)) (fpb4.put (k := 63) (z := (vb4 63) + (a 12 (a 44 r.toNat).toNat)) rfl) (fun bq8 fq10 => ?_)
                          have rv31 : 0 ≤ vb4 60 ∧ vb4 60 ≤ 50 := bq8.1 60
                          refine m_lv (lv2 := [(6, .int (iI (a 44 r.toNat))), (5, .int (iI r)), (4, .int (iI (v 63))), (0, .ref h0), (1, .int (iI x)), (2, .int (iI pt)), (3, .int (iI g))]) [0, 1, 2, 3, 4, 5, 6] rfl ?_
                          exact J3   _ _  bq8 fq10 (by show 0 ≤ ((vb4 63) + (a 12 (a 44 r.toNat).toNat)) ∧ ((vb4 63) + (a 12 (a 44 r.toNat).toNat)) ≤ 8 * x + 8 ∧ (a 44 r.toNat < 0 → ((vb4 63) + (a 12 (a 44 r.toNat).toNat)) ≤ 8 * x); omega) (by show (vb4 60) ≤ v 64; omega) (hJ195.up (fq10.2 44 rfl) (by show (a 44 r.toNat < 0 ∧ ((vb4 63) + (a 12 (a 44 r.toNat).toNat)) = vb4 63) ∨ (0 ≤ a 44 r.toNat ∧ ((vb4 63) + (a 12 (a 44 r.toNat).toNat)) = vb4 63 + a 12 (a 44 r.toNat).toNat); omega) (fun j => (hB.2 12 j).1) rfl rfl rfl)
                      refine m_iload (j := 1) C dX12_go_131 rfl ?_
                      refine m_if_lt (tgt := 195) C ⟨by omega, by omega⟩ dX12_go_133 (by decide) (fun c10 => ?_) (fun c10 => ?_)
                      · have rv32 : 0 ≤ vb3 63 ∧ vb3 63 ≤ 808 := bxb3.1 63
                        have rv33 : 0 ≤ vb3 60 ∧ vb3 60 ≤ 50 := bxb3.1 60
                        refine m_lv (lv2 := [(6, .int (iI (a 44 r.toNat))), (5, .int (iI r)), (4, .int (iI (v 63))), (0, .ref h0), (1, .int (iI x)), (2, .int (iI pt)), (3, .int (iI g))]) [1, 2, 3, 4, 5, 6, 7] rfl ?_
                        exact J2   _ _  bxb3 fpb3 (by show (vb3 63) = v 63; omega) (by show (vb3 60) ≤ v 64; omega) (hJ131.fin (fpb3.2 44 rfl) (by omega))
                      · refine m_iload (j := 0) C dX12_go_136 rfl ?_
                        refine m_aload_n (j := 4) C dX12_go_138 rfl ?_
                        refine m_geta (k := 12) C dX12_go_139 w6_71 (by decide) rfl ?_
                        refine m_iload (j := 1) C dX12_go_142 rfl ?_
                        refine m_ald (k := 12) C dX12_go_144 rfl rfl (by decide) (by omega) (by show _ < ((_ : Nat) : Int); simp only [mlen]; omega) (by decide) ?_
                        refine hv2 (show 0 ≤ ab3 12 (a 44 r.toNat).toNat ∧ ab3 12 (a 44 r.toNat).toNat ≤ 8 from bxb3.2 12 ((a 44 r.toNat).toNat)) (show ab3 12 ((a 44 r.toNat).toNat) = a 12 ((a 44 r.toNat).toNat) from congrFun (fpb3.2 12 rfl) ((a 44 r.toNat).toNat)) (fun ra8 ae8 => ?_)
                        refine m_st (st2 := [.int (iI (a 12 (a 44 r.toNat).toNat)), .int (iI k)]) (congrArg (fun z => Value.int (iI z) :: [.int (iI k)]) (congrFun (fpb3.2 12 rfl) ((a 44 r.toNat).toNat))) ?_
                        refine m_icmp_ge (tgt := 195) C (r32_c (lo := 0) (hi := 8) hk.1 hk.2.1 (by decide) (by decide)) ⟨by omega, by omega⟩ dX12_go_145 (by decide) (fun c11 => ?_) (fun c11 => ?_)
                        · have rv34 : 0 ≤ vb3 63 ∧ vb3 63 ≤ 808 := bxb3.1 63
                          have rv35 : 0 ≤ vb3 60 ∧ vb3 60 ≤ 50 := bxb3.1 60
                          refine m_lv (lv2 := [(6, .int (iI (a 44 r.toNat))), (5, .int (iI r)), (4, .int (iI (v 63))), (0, .ref h0), (1, .int (iI x)), (2, .int (iI pt)), (3, .int (iI g))]) [1, 2, 3, 4, 5, 6, 7] rfl ?_
                          exact J2   _ _  bxb3 fpb3 (by show (vb3 63) = v 63; omega) (by show (vb3 60) ≤ v 64; omega) (hJ131.fin (fpb3.2 44 rfl) (by omega))
                        · refine m_aload_n (j := 4) C dX12_go_148 rfl ?_
                          refine m_geta (k := 62) C dX12_go_149 w6_121 (by decide) rfl ?_
                          refine m_aload_n (j := 4) C dX12_go_152 rfl ?_
                          have rv36 : 0 ≤ vb3 63 ∧ vb3 63 ≤ 808 := bxb3.1 63
                          refine m_get (k := 63) C dX12_go_153 w6_122 (by decide) rfl ?_
                          refine m_iload (j := 0) C dX12_go_156 rfl ?_
                          refine m_iadd C dX12_go_158 ?_
                          refine m_aload_n (j := 4) C dX12_go_159 rfl ?_
                          refine m_geta (k := 14) C dX12_go_160 w6_73 (by decide) rfl ?_
                          refine m_bipush (z := 8) C dX12_go_163 (by decide) ?_
                          refine m_iload (j := 1) C dX12_go_165 rfl ?_
                          refine m_imul C dX12_go_167 ?_
                          refine m_iload (j := 0) C dX12_go_168 rfl ?_
                          refine m_iadd C dX12_go_170 ?_
                          refine m_ald (k := 14) C dX12_go_171 rfl rfl (by decide) (by omega) (by show _ < ((_ : Nat) : Int); simp only [mlen]; omega) (by decide) ?_
                          refine hv2 (show 0 ≤ ab3 14 ((8 * (a 44 r.toNat)) + k).toNat ∧ ab3 14 ((8 * (a 44 r.toNat)) + k).toNat ≤ 125 from bxb3.2 14 (((8 * (a 44 r.toNat)) + k).toNat)) (show ab3 14 (((8 * (a 44 r.toNat)) + k).toNat) = a 14 (((8 * (a 44 r.toNat)) + k).toNat) from congrFun (fpb3.2 14 rfl) (((8 * (a 44 r.toNat)) + k).toNat)) (fun ra9 ae9 => ?_)
                          refine m_st (st2 := [.int (iI (a 14 ((8 * (a 44 r.toNat)) + k).toNat)), .int (iI ((vb3 63) + k)), .ref (ad 62)]) (congrArg (fun z => Value.int (iI z) :: [.int (iI ((vb3 63) + k)), .ref (ad 62)]) (congrFun (fpb3.2 14 rfl) (((8 * (a 44 r.toNat)) + k).toNat))) ?_
                          refine m_iload_n (j := 7) C dX12_go_172 rfl ?_
                          refine m_if_eq (tgt := 186) C ⟨by omega, by omega⟩ dX12_go_173 (by decide) (fun c12 => ?_) (fun c12 => ?_)
                          · refine m_iconst C dX12_go_186 ?_
                            refine m_isub C dX12_go_187 ?_
                            refine m_ast (k := 62) C dX12_go_188 rfl rfl (by decide) (by omega) (by show _ < ((_ : Nat) : Int); simp only [mlen]; omega) (by decide) ?_
                            refine hv2 (show BX vb3 (up2 ab3 62 ((vb3 63) + k).toNat ((a 14 ((8 * (a 44 r.toNat)) + k).toNat) - 0)) from bxb3.set (k := 62) (i := ((vb3 63) + k).toNat) (z := (a 14 ((8 * (a 44 r.toNat)) + k).toNat) - 0) (show (-2147483648) ≤ ((a 14 ((8 * (a 44 r.toNat)) + k).toNat) - 0) ∧ ((a 14 ((8 * (a 44 r.toNat)) + k).toNat) - 0) ≤ 2147483647 by omega)) (fpb3.set (k := 62) (i := ((vb3 63) + k).toNat) (z := (a 14 ((8 * (a 44 r.toNat)) + k).toNat) - 0) rfl) (fun bq9 fq11 => ?_)
                            refine m_iinc (z := k) (j := 0) (lv2 := [(7, .int (iI (k + 1))), (6, .int (iI (a 44 r.toNat))), (5, .int (iI r)), (4, .int (iI (v 63))), (0, .ref h0), (1, .int (iI x)), (2, .int (iI pt)), (3, .int (iI g))]) C dX12_go_189 rfl (by decide) rfl ?_
                            refine m_goto (tgt := 131) C dX12_go_192 (by decide) ?_
                            have rv37 : 0 ≤ vb3 60 ∧ vb3 60 ≤ 50 := bq9.1 60
                            refine m_lv (lv2 := [(7, .int (iI (k + 1))), (6, .int (iI (a 44 r.toNat))), (5, .int (iI r)), (4, .int (iI (v 63))), (0, .ref h0), (1, .int (iI x)), (2, .int (iI pt)), (3, .int (iI g))]) [0, 1, 2, 3, 4, 5, 6, 7] rfl ?_
                            exact ih2  (k + 1) _ _ (by omega) bq9 fq11 (by have q : 0 ≤ a 12 (a 44 r.toNat).toNat ∧ a 12 (a 44 r.toNat).toNat ≤ 8 := hB.2 12 _; omega) (by show (vb3 63) = v 63; omega) (by show (vb3 60) ≤ v 64; omega) (hJ131.step (by omega) (by omega) (fpb3.2 44 rfl) (by omega) (by unfold up2; rfl) (by omega) (by split <;> omega) rfl rfl rfl rfl rfl rfl rfl rfl rfl)
                          · refine m_iload (j := 0) C dX12_go_176 rfl ?_
                            refine m_if_ne (tgt := 186) C (r32_c (lo := 0) (hi := 8) hk.1 hk.2.1 (by decide) (by decide)) dX12_go_178 (by decide) (fun c13 => ?_) (fun c13 => ?_)
                            · refine m_iconst C dX12_go_186 ?_
                              refine m_isub C dX12_go_187 ?_
                              refine m_ast (k := 62) C dX12_go_188 rfl rfl (by decide) (by omega) (by show _ < ((_ : Nat) : Int); simp only [mlen]; omega) (by decide) ?_
                              refine hv2 (show BX vb3 (up2 ab3 62 ((vb3 63) + k).toNat ((a 14 ((8 * (a 44 r.toNat)) + k).toNat) - 0)) from bxb3.set (k := 62) (i := ((vb3 63) + k).toNat) (z := (a 14 ((8 * (a 44 r.toNat)) + k).toNat) - 0) (show (-2147483648) ≤ ((a 14 ((8 * (a 44 r.toNat)) + k).toNat) - 0) ∧ ((a 14 ((8 * (a 44 r.toNat)) + k).toNat) - 0) ≤ 2147483647 by omega)) (fpb3.set (k := 62) (i := ((vb3 63) + k).toNat) (z := (a 14 ((8 * (a 44 r.toNat)) + k).toNat) - 0) rfl) (fun bq10 fq12 => ?_)
                              refine m_iinc (z := k) (j := 0) (lv2 := [(7, .int (iI (k + 1))), (6, .int (iI (a 44 r.toNat))), (5, .int (iI r)), (4, .int (iI (v 63))), (0, .ref h0), (1, .int (iI x)), (2, .int (iI pt)), (3, .int (iI g))]) C dX12_go_189 rfl (by decide) rfl ?_
                              refine m_goto (tgt := 131) C dX12_go_192 (by decide) ?_
                              have rv38 : 0 ≤ vb3 60 ∧ vb3 60 ≤ 50 := bq10.1 60
                              refine m_lv (lv2 := [(7, .int (iI (k + 1))), (6, .int (iI (a 44 r.toNat))), (5, .int (iI r)), (4, .int (iI (v 63))), (0, .ref h0), (1, .int (iI x)), (2, .int (iI pt)), (3, .int (iI g))]) [0, 1, 2, 3, 4, 5, 6, 7] rfl ?_
                              exact ih2  (k + 1) _ _ (by omega) bq10 fq12 (by have q : 0 ≤ a 12 (a 44 r.toNat).toNat ∧ a 12 (a 44 r.toNat).toNat ≤ 8 := hB.2 12 _; omega) (by show (vb3 63) = v 63; omega) (by show (vb3 60) ≤ v 64; omega) (hJ131.step (by omega) (by omega) (fpb3.2 44 rfl) (by omega) (by unfold up2; rfl) (by omega) (by split <;> omega) rfl rfl rfl rfl rfl rfl rfl rfl rfl)
                            · refine m_bipush (z := 32) C dX12_go_181 (by decide) ?_
                              refine m_goto (tgt := 187) C dX12_go_183 (by decide) ?_
                              refine m_isub C dX12_go_187 ?_
                              refine m_ast (k := 62) C dX12_go_188 rfl rfl (by decide) (by omega) (by show _ < ((_ : Nat) : Int); simp only [mlen]; omega) (by decide) ?_
                              refine hv2 (show BX vb3 (up2 ab3 62 ((vb3 63) + k).toNat ((a 14 ((8 * (a 44 r.toNat)) + k).toNat) - 32)) from bxb3.set (k := 62) (i := ((vb3 63) + k).toNat) (z := (a 14 ((8 * (a 44 r.toNat)) + k).toNat) - 32) (show (-2147483648) ≤ ((a 14 ((8 * (a 44 r.toNat)) + k).toNat) - 32) ∧ ((a 14 ((8 * (a 44 r.toNat)) + k).toNat) - 32) ≤ 2147483647 by omega)) (fpb3.set (k := 62) (i := ((vb3 63) + k).toNat) (z := (a 14 ((8 * (a 44 r.toNat)) + k).toNat) - 32) rfl) (fun bq11 fq13 => ?_)
                              refine m_iinc (z := k) (j := 0) (lv2 := [(7, .int (iI (k + 1))), (6, .int (iI (a 44 r.toNat))), (5, .int (iI r)), (4, .int (iI (v 63))), (0, .ref h0), (1, .int (iI x)), (2, .int (iI pt)), (3, .int (iI g))]) C dX12_go_189 rfl (by decide) rfl ?_
                              refine m_goto (tgt := 131) C dX12_go_192 (by decide) ?_
                              have rv39 : 0 ≤ vb3 60 ∧ vb3 60 ≤ 50 := bq11.1 60
                              refine m_lv (lv2 := [(7, .int (iI (k + 1))), (6, .int (iI (a 44 r.toNat))), (5, .int (iI r)), (4, .int (iI (v 63))), (0, .ref h0), (1, .int (iI x)), (2, .int (iI pt)), (3, .int (iI g))]) [0, 1, 2, 3, 4, 5, 6, 7] rfl ?_
                              exact ih2  (k + 1) _ _ (by omega) bq11 fq13 (by have q : 0 ≤ a 12 (a 44 r.toNat).toNat ∧ a 12 (a 44 r.toNat).toNat ≤ 8 := hB.2 12 _; omega) (by show (vb3 63) = v 63; omega) (by show (vb3 60) ≤ v 64; omega) (hJ131.step (by omega) (by omega) (fpb3.2 44 rfl) (by omega) (by unfold up2; rfl) (by omega) (by split <;> omega) rfl rfl rfl rfl rfl rfl rfl rfl rfl)
                  refine hv2 (show 0 ≤ vb2 63 ∧ vb2 63 ≤ 808 from bxb2.1 63) (show 0 ≤ vb2 60 ∧ vb2 60 ≤ 50 from bxb2.1 60) (fun rv40 rv41 => ?_)
                  refine m_lv (lv2 := [(7, .int (iI 0)), (6, .int (iI (a 44 r.toNat))), (5, .int (iI r)), (4, .int (iI (v 63))), (0, .ref h0), (1, .int (iI x)), (2, .int (iI pt)), (3, .int (iI g))]) [0, 1, 2, 3, 4, 5, 6, 7] rfl ?_
                  exact Lp2 10 0 _ _ (by omega) bxb2 fpb2 (by have q : 0 ≤ a 12 (a 44 r.toNat).toNat ∧ a 12 (a 44 r.toNat).toNat ≤ 8 := hB.2 12 _; omega) (by show (vb2 63) = v 63; omega) (by show (vb2 60) ≤ v 64; omega) ((hI80.row rfl (GFR.fr fpb2 rfl rfl) my1 (by omega) ⟨by omega, by omega⟩ (by omega)).2 (by omega))
                · clear gf2
                  refine m_goto (tgt := 304) C dX12_go_116 (by decide) ?_
                  refine m_iinc (z := r) (j := 0) (lv2 := [(5, .int (iI (r + 1))), (4, .int (iI (v 63))), (0, .ref h0), (1, .int (iI x)), (2, .int (iI pt)), (3, .int (iI g))]) C dX12_go_304 rfl (by decide) rfl ?_
                  refine m_goto (tgt := 80) C dX12_go_307 (by decide) ?_
                  refine hv2 (show 0 ≤ vb2 63 ∧ vb2 63 ≤ 808 from bxb2.1 63) (show 0 ≤ vb2 60 ∧ vb2 60 ≤ 50 from bxb2.1 60) (fun rv42 rv43 => ?_)
                  refine m_lv (lv2 := [(5, .int (iI (r + 1))), (4, .int (iI (v 63))), (0, .ref h0), (1, .int (iI x)), (2, .int (iI pt)), (3, .int (iI g))]) [0, 1, 2, 3, 4, 5] rfl ?_
                  exact ih1  (r + 1) _ _ (by omega) bxb2 fpb2 (by omega) (by omega) (by show (vb2 63) = v 63; omega) (by show (vb2 60) ≤ v 64; omega) (by have q := (hI80.row rfl (GFR.fr fpb2 rfl rfl) my1 (by omega) ⟨by omega, by omega⟩ (by omega)).1 (by omega); rw [show r - 6008 * pt + 1 + 1 = r + 1 - 6008 * pt + 1 by omega] at q; exact q)
        refine hv2 (show 0 ≤ vb1 63 ∧ vb1 63 ≤ 808 from bxb1.1 63) (show 0 ≤ vb1 60 ∧ vb1 60 ≤ 50 from bxb1.1 60) (fun rv44 rv45 => ?_)
        refine m_lv (lv2 := [(5, .int (iI (6008 * pt))), (4, .int (iI (v 63))), (0, .ref h0), (1, .int (iI x)), (2, .int (iI pt)), (3, .int (iI g))]) [0, 1, 2, 3, 4, 5] rfl ?_
        exact Lp1 6010 (6008 * pt) _ _ (by omega) bxb1 fpb1 (by have q : 0 ≤ a 47 pt.toNat ∧ a 47 pt.toNat ≤ 6008 := hB.2 47 _; omega) (by have q : 0 ≤ a 47 pt.toNat ∧ a 47 pt.toNat ≤ 6008 := hB.2 47 _; omega) (by show (vb1 63) = v 63; omega) (by show (vb1 60) ≤ v 64; omega) (by have q := hI73; rw [show (1 : Int) = 6008 * pt - 6008 * pt + 1 by omega] at q; exact q)
      refine m_if_eq (tgt := 73) C (r32_01 gf1) dX12_go_34 (by decide) (fun c14 => ?_) (fun c14 => ?_)
      · clear gf1
        have rv46 : 0 ≤ v 60 ∧ v 60 ≤ 50 := hB.1 60
        refine m_lv (lv2 := [(4, .int (iI (v 63))), (0, .ref h0), (1, .int (iI x)), (2, .int (iI pt)), (3, .int (iI g))]) [0, 1, 2, 3, 4] rfl ?_
        exact J1   _ _  hB fp0 (by show (v 63) = v 63; omega) (by show (v 60) ≤ v 64; omega) (GI.nob GI.init (GFR.fr fp0 rfl rfl) mb1 (by omega) ⟨by omega, by omega⟩)
      · replace gf1 := (gf1.resolve_left c14)
        refine m_aload_n (j := 1) C dX12_go_37 rfl ?_
        refine m_geta (k := 62) C dX12_go_38 w6_121 (by decide) rfl ?_
        refine m_aload_n (j := 1) C dX12_go_41 rfl ?_
        refine m_get (k := 63) C dX12_go_42 w6_122 (by decide) rfl ?_
        refine m_bipush (z := 32) C dX12_go_45 (by decide) ?_
        refine m_ast (k := 62) C dX12_go_47 rfl rfl (by decide) rv3.1 (Int.lt_of_le_of_lt rv3.2 (by decide)) (by decide) ?_
        refine hv2 (show BX v (up2 a 62 (v 63).toNat 32) from hB.set (k := 62) (i := (v 63).toNat) (z := 32) ⟨by decide, by decide⟩) (fp0.set (k := 62) (i := (v 63).toNat) (z := 32) rfl) (fun bq12 fq14 => ?_)
        refine m_aload_n (j := 1) C dX12_go_48 rfl ?_
        refine m_dup C dX12_go_49 rfl ?_
        refine m_get (k := 63) C dX12_go_50 w6_122 (by decide) rfl ?_
        refine m_iconst C dX12_go_53 ?_
        refine m_iadd C dX12_go_54 ?_
        refine m_put (k := 63) (z := (v 63) + 1) C dX12_go_55 w6_122 (by decide) rfl rfl rfl ?_
        refine hv2 (show BX (va_up v 63 ((v 63) + 1)) (up2 a 62 (v 63).toNat 32) from bq12.put (k := 63) (z := (v 63) + 1) (show 0 ≤ ((v 63) + 1) ∧ ((v 63) + 1) ≤ 808 by omega)) (fq14.put (k := 63) (z := (v 63) + 1) rfl) (fun bq13 fq15 => ?_)
        refine m_aload_n (j := 1) C dX12_go_58 rfl ?_
        refine m_iload_n (j := 2) C dX12_go_59 rfl ?_
        refine m_iconst C dX12_go_60 ?_
        refine m_iadd C dX12_go_61 ?_
        refine m_iconst C dX12_go_62 ?_
        refine m_iconst C dX12_go_63 ?_
        refine hv2 (show 0 ≤ v 60 ∧ v 60 ≤ 50 from bq13.1 60) (show 0 ≤ v 64 ∧ v 64 ≤ 50 from bq13.1 64) (fun rv47 rv48 => ?_)
        refine m_call (mc2 := 0) (ms2 := 0) (As := [.int (iI (x + 1)), .int (iI 0), .int (iI 0)]) (rest := []) C (hf (x + 1) (by omega) _ _ (0) (0) bq13 (RWS.fr hW fq15 rfl) (by show (v 50) ≤ 100; omega) (by show 0 ≤ (x + 1) ∧ (x + 1) ≤ (v 50); omega) (by omega) (by omega) (by show (v 60) ≤ (v 64); omega) (by show ((v 63) + 1) ≤ 8 * (x + 1); omega)) dX12_go_64 kV_X12_391 rfl ck_13 rfl (Nat.le_of_ble_eq_true rfl) ⟨by dsimp only [rmq]; omega, by dsimp only [rmq]; omega⟩ ⟨Nat.le_of_ble_eq_true rfl, Nat.le_of_ble_eq_true rfl⟩ (fun rh6 vh6 ah6 h6 => ?_)
        obtain ⟨rfl, fn6, bn3, ex3, gx3⟩ := h6
        refine hv4 (fq15.call fn6 rfl rfl) (show 0 ≤ vh6 60 ∧ vh6 60 ≤ 50 from bn3.1 60) (show 0 ≤ vh6 63 ∧ vh6 63 ≤ 808 from bn3.1 63) (show (vh6 60) ≤ (v 64) ∧ (vh6 63) = ((v 63) + 1) from ex3) (fun fq16 rv49 rv50 gex3 => ?_)
        refine m_st (st2 := []) rfl ?_
        refine m_aload_n (j := 1) C dX12_go_67 rfl ?_
        refine m_iload (j := 0) C dX12_go_68 rfl ?_
        refine m_put (k := 63) (z := v 63) C dX12_go_70 w6_122 (by decide) rfl rfl rfl ?_
        refine hv2 (show BX (va_up vh6 63 (v 63)) ah6 from bn3.put (k := 63) (z := v 63) (show 0 ≤ (v 63) ∧ (v 63) ≤ 808 by omega)) (fq16.put (k := 63) (z := v 63) rfl) (fun bq14 fq17 => ?_)
        refine m_lv (lv2 := [(4, .int (iI (v 63))), (0, .ref h0), (1, .int (iI x)), (2, .int (iI pt)), (3, .int (iI g))]) [0, 1, 2, 3, 4] rfl ?_
        exact J1   _ _  bq14 fq17 (by show (v 63) = v 63; omega) (by show (vh6 60) ≤ v 64; omega) (GI.bl (v1 := v) (a1 := a) (v2 := (va_up v 63 ((v 63) + 1))) (a2 := (up2 a 62 (v 63).toNat 32)) (v4 := (va_up vh6 63 (v 63))) (a4 := ah6) GI.init (GFR.fr fp0 rfl rfl) mb1 (by omega) ⟨by omega, by omega⟩ rfl (by unfold up2; rfl) rfl rfl rfl rfl rfl (GFR.fr fq15 rfl rfl) (by omega) gx3 rfl rfl rfl rfl rfl rfl rfl)
    · refine m_aload_n (j := 0) C dX12_go_17 rfl ?_
      refine hv3 (show 0 ≤ v 60 ∧ v 60 ≤ 50 from hB.1 60) (show 0 ≤ v 63 ∧ v 63 ≤ 808 from hB.1 63) (show 0 ≤ v 64 ∧ v 64 ≤ 50 from hB.1 64) (fun rv51 rv52 rv53 => ?_)
      refine m_call (mc2 := 0) (ms2 := 0) (As := []) (rest := []) C (E_keep hB (by show (v 60) ≤ (v 64); omega)) dX12_go_18 kV_X12_385 rfl ck_13 rfl (Nat.le_of_ble_eq_true rfl) ⟨by dsimp only [rmq]; omega, by dsimp only [rmq]; omega⟩ ⟨Nat.le_of_ble_eq_true rfl, Nat.le_of_ble_eq_true rfl⟩ (fun rh7 vh7 ah7 h7 => ?_)
      obtain ⟨rfl, fn7, bn4, ex4, ke1⟩ := h7
      refine hv3 (fp0.call fn7 rfl rfl) (show 0 ≤ vh7 60 ∧ vh7 60 ≤ 50 from bn4.1 60) (show (vh7 60) ≤ (v 64) from ex4) (fun fq18 rv54 gex4 => ?_)
      refine m_st (st2 := []) rfl ?_
      refine hv2 (show 0 ≤ vh7 63 ∧ vh7 63 ≤ 808 from bn4.1 63) (show vh7 63 = v 63 from fn7.1 63 rfl) (fun rv55 ve6 => ?_)
      exact m_vret C dX12_go_21 rfl (Nat.le_of_ble_eq_true rfl) (Nat.le_of_ble_eq_true rfl) ⟨rfl, fq18, bn4, ⟨(by show (vh7 60) ≤ (v 64) ∧ (vh7 63) = (v 63); omega), GEX.keep (by omega) (by omega) ke1 (fn7.1 63 rfl) (fn7.2 62 rfl)⟩⟩
  · have rv56 : 0 ≤ v 60 ∧ v 60 ≤ 50 := hB.1 60
    have rv57 : 0 ≤ v 63 ∧ v 63 ≤ 808 := hB.1 63
    exact m_vret C dX12_go_8 rfl (Nat.le_of_ble_eq_true rfl) (Nat.le_of_ble_eq_true rfl) ⟨rfl, fp0, hB, ⟨(by show (v 60) ≤ (v 64) ∧ (v 63) = (v 63); omega), GEX.more (by omega)⟩⟩
theorem E_goN {l : Launch} {G : GT} {h0 : Nat} {ad ln : Nat → Nat} : ∀ (n : Nat) (x : Int), 100 < x + n → GoD l G h0 ad ln (n + 3) x := by
  intro n
  induction n with
  | zero => intro x h1 v a pt g hB hW h50 hx; omega
  | succ n ih =>
    intro x h1 v a pt g hB hW h50 hx hp hg h60 h63
    exact E_go1 (d := n + 3) hB hW h50 hx hp hg h60 h63 (by omega) (fun b hb => ih b (by omega))
theorem E_go {l : Launch} {G : GT} {h0 : Nat} {ad ln : Nat → Nat} {v : Nat → Int} {a : Nat → Nat → Int} {x pt g : Int} (hB : BX v a) (hW : RWS a) (h50 : v 50 ≤ 100) (hx : 0 ≤ x ∧ x ≤ v 50) (hp : pt = 0 ∨ pt = 1) (hg : g = 0 ∨ g = 1) (h60 : v 60 ≤ v 64) (h63 : v 63 ≤ 8 * x) : Mm l G yX12_go cX12_go 8 none 104 [.int (iI x), .int (iI pt), .int (iI g)] h0 ad ln v a 0 0 (fun r v2 a2 => r = none ∧ fr [60, 61, 63] [58, 59, 62] v a v2 a2 ∧ BX v2 a2 ∧ ((v2 60 ≤ v 64 ∧ v2 63 = v 63) ∧ GEX v a v2 a2 x pt g)) := E_goN 101 x (by omega) v a pt g hB hW h50 hx hp hg h60 h63
end
section
def OKG (v : Nat → Int) (a : Nat → Nat → Int) (E : List (Option (List Int))) (t l m : Int) : Prop := WHL v a t ∧ (1 ≤ m ∧ m ≤ 50) ∧ ∃ xs, rwe E l = some (some xs) ∧ xs.length ≤ 100
def RGX (v : Nat → Int) (a : Nat → Nat → Int) (v2 : Nat → Int) (a2 : Nat → Nat → Int) (t l m f : Int) : Prop := ∀ E, SHA v a E → (¬ OKG v a E t l m ∧ f = -1 ∧ v2 60 = v 60 ∧ v2 61 = v 61 ∧ a2 58 = a 58 ∧ a2 59 = a 59) ∨ (OKG v a E t l m ∧ (NZL a (gat0 a t) → NZL a (gat1 a t) → ∃ xs K mo, rwe E l = some (some xs) ∧ KMQ m.toNat (RDC a (gat0 a t) (gat1 a t) (RR0 xs) (fsn (v 56)) ((xs.length : Nat) : Int) 0 0 0) K mo ∧ f = ((K.length : Nat) : Int) ∧ KLQ v2 a2 K ∧ v2 61 = mo))
def GRW (a : Nat → Nat → Int) (v1 : Nat → Int) (a1 : Nat → Nat → Int) (l i : Int) : Prop := v1 50 = i ∧ ∀ j : Int, 0 ≤ j → j < i → a1 48 j.toNat = a 35 (200 * l + j).toNat
def RGA (v : Nat → Int) (a : Nat → Nat → Int) (k i f : Int) : Prop := ((0 ≤ k ∧ k < v 60) ∧ (0 ≤ i ∧ i < a 59 k.toNat) ∧ f = a 58 (808 * k + i).toNat) ∨ (¬ ((0 ≤ k ∧ k < v 60) ∧ (0 ≤ i ∧ i < a 59 k.toNat)) ∧ f = -1)
section GRDS
variable {v v1 v2 v3 v4 v5 v6 v7 : Nat → Int} {a a1 a2 a3 a4 a6 a7 : Nat → Nat → Int} {t l m f i z : Int} {V A A3 : List Nat}
theorem RGX.bad (hb : ∀ E, SHA v a E → ¬ OKG v a E t l m) (hf : f = -1) (e60 : v2 60 = v 60) (e61 : v2 61 = v 61) (e58 : a2 58 = a 58) (e59 : a2 59 = a 59) : RGX v a v2 a2 t l m f := fun E hE => Or.inl ⟨hb E hE, hf, e60, e61, e58, e59⟩
theorem OKG.line (hl : (¬ (0 ≤ l ∧ l < v 36) ∨ ((0 ≤ l ∧ l < v 36) ∧ a 34 l.toNat < 0)) ∨ ((0 ≤ l ∧ l < v 36) ∧ 0 ≤ a 34 l.toNat ∧ 100 < a 34 l.toNat)) : ∀ E, SHA v a E → ¬ OKG v a E t l m := fun E hE h => by
  obtain ⟨_, _, xs, x1, x2⟩ := h
  rcases hl with hl | ⟨h1, h2, h3⟩
  · exact hE.fault hl ⟨xs, x1⟩
  · obtain ⟨ys, y1, y2, _⟩ := hE.have_ h1.1 h1.2 h2
    rw [x1] at y1
    cases y1
    omega
theorem GRW.zero (h : v1 50 = 0) : GRW a v1 a1 l 0 := ⟨h, fun j h1 h2 => absurd h1 (by omega)⟩
theorem GRW.step (hr : GRW a v1 a1 l i) (hi : 0 ≤ i) (e50 : v2 50 = v1 50 + 1) (e48 : a2 48 = va_up (a1 48) (v1 50).toNat z) (hz : z = a 35 (200 * l + i).toNat) : GRW a v2 a2 l (i + 1) := by
  have e := hr.1
  refine ⟨by omega, fun j h1 h2 => ?_⟩
  rw [e48]
  by_cases c : j < i
  · rw [va_up_ne _ _ (by omega)]
    exact hr.2 j h1 c
  · rw [show j.toNat = (v1 50).toNat by omega, va_up_self, hz, show j = i by omega]
theorem RGX.fin (hw : WHL v a t) (hm : 1 ≤ m ∧ m ≤ 50) (hl : (0 ≤ l ∧ l < v 36) ∧ 0 ≤ a 34 l.toNat ∧ a 34 l.toNat ≤ 100) (hW : GRW a v1 a1 l i) (hi : i = a 34 l.toNat) (hf1 : fr V A v a v1 a1) (cV : V.contains 56 = false) (cA : ([6, 8, 9, 10, 12, 13, 14, 15, 16, 17] : List Nat).all (fun k => !A.contains k) = true) (hG : GAT a1 a3 t) (hf3 : fr [] A3 v1 a1 v3 a3) (c3 : ([12, 13, 14, 15, 16, 17, 48] : List Nat).all (fun k => !A3.contains k) = true) (hf4 : fr [] [57] v3 a3 v4 a4) (hC : FC5 v4 a4 (-1)) (e50 : v5 50 = v4 50) (e56 : v5 56 = v4 56) (z60 : v5 60 = 0) (z61 : v5 61 = 0) (z63 : v5 63 = 0) (z64 : v5 64 = m) (hgo : (a4 57 0 = 0 ∧ v6 60 = v5 60 ∧ v6 61 = v5 61) ∨ (a4 57 0 ≠ 0 ∧ GEX v5 a4 v6 a6 0 0 0 ∧ v6 64 = v5 64)) (e7 : v7 60 = v6 60 ∧ v7 61 = v6 61 ∧ a7 58 = a6 58 ∧ a7 59 = a6 59) (hf : f = v6 60) : RGX v a v7 a7 t l m f := fun E hE => by
  obtain ⟨xs, x1, x2, x3⟩ := hE.have_ hl.1.1 hl.1.2 hl.2.1
  refine Or.inr ⟨⟨hw, hm, xs, x1, by omega⟩, fun n0 n1 => ?_⟩
  have k1 : ∀ j, ([6, 8, 9, 10, 12, 13, 14, 15, 16, 17] : List Nat).contains j = true → a1 j = a j := fun j hj => hf1.2 j (by
    have w := List.all_eq_true.mp cA j (List.contains_iff_mem.mp hj)
    simpa using w)
  have k3 : ∀ j, ([12, 13, 14, 15, 16, 17, 48] : List Nat).contains j = true → a3 j = a1 j := fun j hj => hf3.2 j (by
    have w := List.all_eq_true.mp c3 j (List.contains_iff_mem.mp hj)
    simpa using w)
  have gc := gat_cg (t := t) (k1 6 rfl) (k1 8 rfl) (k1 9 rfl) (k1 10 rfl) (k1 16 rfl)
  obtain ⟨g0, g1⟩ := hG
  rw [gc.1] at g0
  rw [gc.2] at g1
  refine hv2 (show v4 50 = i from (hf4.1 50 rfl).trans ((hf3.1 50 rfl).trans hW.1)) (show v4 56 = v 56 from (hf4.1 56 rfl).trans ((hf3.1 56 rfl).trans (hf1.1 56 cV))) (fun f50 f56 => ?_)
  have gx : GCX a v4 a4 (gat0 a t) (gat1 a t) (RR0 xs) := by
    refine ⟨⟨(g0.fr (hf4.2 44 rfl) (hf4.2 45 rfl) (hf4.2 46 rfl) (by rw [hf4.2 47 rfl])).cg (k1 13 rfl).symm (k1 16 rfl).symm, (g1.fr (hf4.2 44 rfl) (hf4.2 45 rfl) (hf4.2 46 rfl) (by rw [hf4.2 47 rfl])).cg (k1 13 rfl).symm (k1 16 rfl).symm⟩, ⟨n0, n1⟩, ⟨(hf4.2 12 rfl).trans ((k3 12 rfl).trans (k1 12 rfl)), (hf4.2 14 rfl).trans ((k3 14 rfl).trans (k1 14 rfl)), (hf4.2 15 rfl).trans ((k3 15 rfl).trans (k1 15 rfl)), (hf4.2 17 rfl).trans ((k3 17 rfl).trans (k1 17 rfl))⟩, fun j j1 j2 => ?_⟩
    rw [hf4.2 48 rfl, k3 48 rfl, hW.2 j j1 (by omega)]
    have u := x3 j.toNat (by omega)
    rw [show (200 * l + j).toNat = 200 * l.toNat + j.toNat by omega, u]
    rfl
  have cn := hC _ _ _ _ gx
  have en : v4 50 = ((xs.length : Nat) : Int) := by omega
  have c0 := cn 0 0 0 (by decide) (by omega) (Or.inl rfl) (Or.inl rfl)
  rw [show (4 * (0 : Int) + 2 * 0 + 0).toNat = 0 from rfl, en, f56] at c0
  rcases hgo with ⟨q1, q2, q3⟩ | ⟨q1, q2, q3⟩
  · have e : RDC a (gat0 a t) (gat1 a t) (RR0 xs) (fsn (v 56)) ((xs.length : Nat) : Int) 0 0 0 = [] := Classical.byContradiction (fun u => (c0.mpr u) q1)
    refine ⟨xs, [], 0, x1, ?_, ?_, ⟨?_, fun k w e => by simp at e⟩, ?_⟩
    · rw [e]
      exact KMQ.init
    · rw [hf, q2, z60]
      rfl
    · rw [e7.1, q2, z60]
      rfl
    · rw [e7.2.1, q3, z61]
  · have gx5 : GCX a v5 a4 (gat0 a t) (gat1 a t) (RR0 xs) := gx.cg e50 rfl rfl rfl rfl rfl rfl rfl rfl rfl
    have cn5 : CNP a v5 a4 (gat0 a t) (gat1 a t) (RR0 xs) (-1) := cn.cg e50 e56 rfl
    have nw : NWQ v5 a4 [] := ⟨by rw [z63]; rfl, fun j x e => by simp at e⟩
    have kp : KPS v5 a4 [] := ⟨[], by rw [z61]; exact KMQ.init, by rw [z60]; rfl, fun k w e => by simp at e⟩
    obtain ⟨_, K, r1, r2, r3⟩ := q2 a _ _ _ [] [] gx5 cn5 nw kp (fun _ => by decide)
    rw [q3, z64, pxs_nil, List.nil_append, e50, e56, en, f56] at r1
    refine ⟨xs, K, v6 61, x1, r1, by omega, ⟨by omega, fun k w e => ?_⟩, e7.2.1⟩
    rw [e7.2.2.1, e7.2.2.2]
    exact r3 k w e
end GRDS
set_option maxHeartbeats 4000000 in
set_option maxRecDepth 100000 in
theorem N2_readings {l : Launch} {G : GT} {h0 : Nat} {ad ln : Nat → Nat} {v : Nat → Int} {a : Nat → Nat → Int}  {t l0 n1 : Int} (hB : BX v a) (hT : TBL v a) (hW : RWS a) (ht : -2147483648 ≤ t ∧ t ≤ 2147483647) (hl0 : -2147483648 ≤ l0 ∧ l0 ≤ 2147483647) (hn1 : -2147483648 ≤ n1 ∧ n1 ≤ 2147483647) : Mm l G yX12_readings cX12_readings 5 (some .int) 105 [.int (iI t), .int (iI l0), .int (iI n1)] h0 ad ln v a 0 0 (fun r v2 a2 => ∃ f : Int, r = some (.int (iI f)) ∧ fr [0, 1, 50, 60, 61, 63, 64] [44, 45, 46, 47, 48, 49, 57, 58, 59, 62] v a v2 a2 ∧ BX v2 a2 ∧ (RWS a2 ∧ RGX v a v2 a2 t l0 n1 f)) := by
  refine Mm.mk (by decide) (Nat.le_of_ble_eq_true rfl) ?_
  intro p e s m args below meth c A C
  refine hv2 (show 0 ≤ v 4 ∧ v 4 ≤ 30 from hB.1 4) (show fr [0, 1, 50, 60, 61, 63, 64] [44, 45, 46, 47, 48, 49, 57, 58, 59, 62] v a v a from fr.refl) (fun h30 fp0 => ?_)
  refine m_iload_n (j := 3) C dX12_readings_0 rfl ?_
  refine m_iconst C dX12_readings_1 ?_
  refine m_bipush (z := 50) C dX12_readings_2 (by decide) ?_
  refine m_callS (As := [.int (iI n1), .int (iI 1), .int (iI 50)]) (rest := []) C (fun L E => s_isIn (iI n1) (iI 1) (iI 50)) dX12_readings_4 kS_X12_174 rfl rfl (Nat.le_of_ble_eq_true rfl) ⟨Nat.le_of_ble_eq_true rfl, Nat.le_of_ble_eq_true rfl⟩ ⟨Nat.le_of_ble_eq_true rfl, Nat.le_of_ble_eq_true rfl⟩ ?_
  rcases inn_c (x := n1) (lo := 1) (hi := 50) ⟨by omega, by omega⟩ ⟨by decide, by decide⟩ ⟨by decide, by decide⟩ with ⟨h1a, h1b, h1e⟩ | ⟨h1a, h1e⟩
  · refine m_st (st2 := [.int (iI 1)]) (by rw [h1e]) ?_
    refine m_if_ne (tgt := 17) C ⟨by decide, by decide⟩ dX12_readings_7 (by decide) (fun _ => ?_) (fun z => absurd z (by omega))
    refine m_aload_n (j := 0) C dX12_readings_17 rfl ?_
    refine m_iload_n (j := 1) C dX12_readings_18 rfl ?_
    have rv1 : 0 ≤ v 4 ∧ v 4 ≤ 30 := hB.1 4
    refine m_call (mc2 := 0) (ms2 := 0) (As := [.int (iI t)]) (rest := []) C (E_isWhole (t := t) hB (hT.fr fp0 rfl rfl) (by show -2147483648 ≤ t ∧ t ≤ 2147483647; omega)) dX12_readings_19 kV_X12_171 rfl ck_13 rfl (Nat.le_of_ble_eq_true rfl) ⟨Nat.le_of_ble_eq_true rfl, Nat.le_of_ble_eq_true rfl⟩ ⟨Nat.le_of_ble_eq_true rfl, Nat.le_of_ble_eq_true rfl⟩ (fun rh2 vh2 ah2 h2 => ?_)
    obtain ⟨f1, rfl, fn1, bn1, ex1⟩ := h2
    obtain ⟨rfl, rfl⟩ := fn1.eq
    obtain ⟨ex1, tl1⟩ := ex1
    have gf1 : f1 = 0 ∨ (f1 = 1 ∧ 0 ≤ t ∧ t < (v 4)) := ex1
    refine m_st (st2 := [.int (iI f1)]) rfl ?_
    refine m_if_ne (tgt := 31) C (r32_0p gf1) dX12_readings_22 (by decide) (fun c1 => ?_) (fun c1 => ?_)
    · replace gf1 := (gf1.resolve_left c1)
      refine m_aload_n (j := 0) C dX12_readings_31 rfl ?_
      refine m_iload_n (j := 2) C dX12_readings_32 rfl ?_
      have rv2 : 0 ≤ v 36 ∧ v 36 ≤ 200 := hB.1 36
      refine m_call (mc2 := 0) (ms2 := 0) (As := [.int (iI l0)]) (rest := []) C (M_lineFault (l0 := l0) hB.rg ⟨by omega, by omega⟩ ⟨hB.1 36, hB.2 34⟩) dX12_readings_33 kV_X12_294 rfl ck_13 rfl (Nat.le_of_ble_eq_true rfl) ⟨Nat.le_of_ble_eq_true rfl, Nat.le_of_ble_eq_true rfl⟩ ⟨Nat.le_of_ble_eq_true rfl, Nat.le_of_ble_eq_true rfl⟩ (fun rh3 vh3 ah3 h3 => ?_)
      obtain ⟨f2, rfl, hf2, rfl, rfl⟩ := h3
      refine hv2 (show (f2 = 2 ∧ ¬ (0 ≤ l0 ∧ l0 < (v 36))) ∨ (f2 = 1 ∧ 0 ≤ l0 ∧ l0 < (v 36) ∧ a 34 l0.toNat < 0) ∨ (f2 = 0 ∧ 0 ≤ l0 ∧ l0 < (v 36) ∧ 0 ≤ a 34 l0.toNat) from hf2) (show (-1) ≤ a 34 l0.toNat ∧ a 34 l0.toNat ≤ 200 from hB.2 34 (l0.toNat)) (fun gf2 ra1 => ?_)
      refine m_st (st2 := [.int (iI f2)]) rfl ?_
      refine m_if_le (tgt := 49) C ⟨by omega, by omega⟩ dX12_readings_36 (by decide) (fun c2 => ?_) (fun c2 => ?_)
      · refine m_aload_n (j := 0) C dX12_readings_49 rfl ?_
        refine m_geta (k := 34) C dX12_readings_50 w6_93 (by decide) rfl ?_
        refine m_iload_n (j := 2) C dX12_readings_53 rfl ?_
        refine m_ald (k := 34) C dX12_readings_54 rfl rfl (by decide) (by omega) (by show _ < ((_ : Nat) : Int); simp only [mlen]; omega) (by decide) ?_
        refine m_bipush (z := 100) C dX12_readings_55 (by decide) ?_
        refine m_icmp_le (tgt := 67) C (r32_c (lo := (-1)) (hi := 200) ra1.1 ra1.2 (by decide) (by decide)) ⟨by decide, by decide⟩ dX12_readings_57 (by decide) (fun c3 => ?_) (fun c3 => ?_)
        · refine m_aload_n (j := 0) C dX12_readings_67 rfl ?_
          refine m_iconst C dX12_readings_68 ?_
          refine m_put (k := 50) (z := 0) C dX12_readings_69 w6_109 (by decide) rfl rfl rfl ?_
          refine hv2 (show BX (va_up v 50 0) a from hB.put (k := 50) (z := 0) ⟨by decide, by decide⟩) (fp0.put (k := 50) (z := 0) rfl) (fun bq1 fq2 => ?_)
          refine m_iconst C dX12_readings_72 ?_
          refine m_istore (lv2 := [(4, .int (iI 0)), (0, .ref h0), (1, .int (iI t)), (2, .int (iI l0)), (3, .int (iI n1))]) C dX12_readings_73 (by decide) rfl ?_
          have Lp1 : ∀ (nn : Nat) (i1 : Int) (vb1 : Nat → Int) (ab1 : Nat → Nat → Int), 201 - i1 < (nn : Int) → BX vb1 ab1 → fr [0, 1, 50, 60, 61, 63, 64] [44, 45, 46, 47, 48, 49, 57, 58, 59, 62] v a vb1 ab1 → (0 ≤ i1 ∧ i1 ≤ a 34 l0.toNat) → (vb1 50 = i1) → (RWS ab1) → (GRW a vb1 ab1 l0 i1) → mw p l e (rmq 105 0 0) s m args below meth c G A 5 (MQ below (Qm G A (fun rq Lq Eq => ∃ (vq : Nat → Int) (aq : Nat → Nat → Int), mI G h0 ad ln vq aq Lq Eq ∧ (fun r v2 a2 => ∃ f : Int, r = some (.int (iI f)) ∧ fr [0, 1, 50, 60, 61, 63, 64] [44, 45, 46, 47, 48, 49, 57, 58, 59, 62] v a v2 a2 ∧ BX v2 a2 ∧ (RWS a2 ∧ RGX v a v2 a2 t l0 n1 f)) rq vq aq)) args s 0 0 A) h0 ad ln vb1 ab1 0 0 75 [(4, .int (iI i1)), (0, .ref h0), (1, .int (iI t)), (2, .int (iI l0)), (3, .int (iI n1))] [] := by
            intro nn
            induction nn with
            | zero =>
              intro i1 vb1 ab1 hm bxb1 fpb1 hi h501 hW1 hG75
              exact absurd hm (by omega)
            | succ nn ih1 =>
              intro i1 vb1 ab1 hm bxb1 fpb1 hi h501 hW1 hG75
              refine m_iload (j := 0) C dX12_readings_75 rfl ?_
              refine m_aload_n (j := 1) C dX12_readings_77 rfl ?_
              refine m_geta (k := 34) C dX12_readings_78 w6_93 (by decide) rfl ?_
              refine m_iload_n (j := 3) C dX12_readings_81 rfl ?_
              refine m_ald (k := 34) C dX12_readings_82 rfl rfl (by decide) (by omega) (by show _ < ((_ : Nat) : Int); simp only [mlen]; omega) (by decide) ?_
              refine hv2 (show (-1) ≤ ab1 34 l0.toNat ∧ ab1 34 l0.toNat ≤ 200 from bxb1.2 34 (l0.toNat)) (show ab1 34 (l0.toNat) = a 34 (l0.toNat) from congrFun (fpb1.2 34 rfl) (l0.toNat)) (fun ra2 ae1 => ?_)
              refine m_st (st2 := [.int (iI (a 34 l0.toNat)), .int (iI i1)]) (congrArg (fun z => Value.int (iI z) :: [.int (iI i1)]) (congrFun (fpb1.2 34 rfl) (l0.toNat))) ?_
              refine m_icmp_ge (tgt := 110) C ⟨by omega, by omega⟩ (r32_c (lo := (-1)) (hi := 200) ra1.1 ra1.2 (by decide) (by decide)) dX12_readings_83 (by decide) (fun c4 => ?_) (fun c4 => ?_)
              · refine m_aload_n (j := 1) C dX12_readings_110 rfl ?_
                refine m_iload_n (j := 2) C dX12_readings_111 rfl ?_
                refine hv2 (show 0 ≤ vb1 4 ∧ vb1 4 ≤ 30 from bxb1.1 4) (show vb1 4 = v 4 from fpb1.1 4 rfl) (fun rv3 ve1 => ?_)
                refine m_call (mc2 := 0) (ms2 := 0) (As := [.int (iI t)]) (rest := []) C (E_gather (t := t) bxb1 hW1 (hT.fr fpb1 rfl rfl) (by show 0 ≤ t ∧ t < (vb1 4); omega)) dX12_readings_112 kV_X12_354 rfl ck_13 rfl (Nat.le_of_ble_eq_true rfl) ⟨Nat.le_of_ble_eq_true rfl, Nat.le_of_ble_eq_true rfl⟩ ⟨Nat.le_of_ble_eq_true rfl, Nat.le_of_ble_eq_true rfl⟩ (fun rh4 vh4 ah4 h4 => ?_)
                obtain ⟨rfl, fn2, bn2, ex2⟩ := h4
                have fq3 := fpb1.call fn2 rfl rfl
                obtain ⟨pw1, ex2⟩ := ex2
                have tl2 := ex2
                refine m_st (st2 := []) rfl ?_
                refine m_aload_n (j := 1) C dX12_readings_115 rfl ?_
                refine hv2 (show 0 ≤ vh4 50 ∧ vh4 50 ≤ 40200 from bn2.1 50) (show vh4 50 = vb1 50 from fn2.1 50 rfl) (fun rv4 ve2 => ?_)
                refine m_call (mc2 := 0) (ms2 := 0) (As := []) (rest := []) C (E_findCan bn2 pw1 (by show (vh4 50) ≤ 100; omega)) dX12_readings_116 kV_X12_401 rfl ck_13 rfl (Nat.le_of_ble_eq_true rfl) ⟨Nat.le_of_ble_eq_true rfl, Nat.le_of_ble_eq_true rfl⟩ ⟨Nat.le_of_ble_eq_true rfl, Nat.le_of_ble_eq_true rfl⟩ (fun rh5 vh5 ah5 h5 => ?_)
                obtain ⟨rfl, fn3, bn3, fc1⟩ := h5
                refine hv2 (fq3.call fn3 rfl rfl) (show RWS ah5 from RWS.fr pw1 fn3 rfl) (fun fq4 pw2 => ?_)
                refine m_st (st2 := []) rfl ?_
                refine m_aload_n (j := 1) C dX12_readings_119 rfl ?_
                refine m_iconst C dX12_readings_120 ?_
                refine m_put (k := 60) (z := 0) C dX12_readings_121 w6_119 (by decide) rfl rfl rfl ?_
                refine hv2 (show BX (va_up vh5 60 0) ah5 from bn3.put (k := 60) (z := 0) ⟨by decide, by decide⟩) (fq4.put (k := 60) (z := 0) rfl) (fun bq2 fq5 => ?_)
                refine m_aload_n (j := 1) C dX12_readings_124 rfl ?_
                refine m_iconst C dX12_readings_125 ?_
                refine m_put (k := 61) (z := 0) C dX12_readings_126 w6_120 (by decide) rfl rfl rfl ?_
                refine hv2 (show BX (va_up (va_up vh5 60 0) 61 0) ah5 from bq2.put (k := 61) (z := 0) ⟨by decide, by decide⟩) (fq5.put (k := 61) (z := 0) rfl) (fun bq3 fq6 => ?_)
                refine m_aload_n (j := 1) C dX12_readings_129 rfl ?_
                refine m_iconst C dX12_readings_130 ?_
                refine m_put (k := 63) (z := 0) C dX12_readings_131 w6_122 (by decide) rfl rfl rfl ?_
                refine hv2 (show BX (va_up (va_up (va_up vh5 60 0) 61 0) 63 0) ah5 from bq3.put (k := 63) (z := 0) ⟨by decide, by decide⟩) (fq6.put (k := 63) (z := 0) rfl) (fun bq4 fq7 => ?_)
                refine m_aload_n (j := 1) C dX12_readings_134 rfl ?_
                refine m_iload_n (j := 4) C dX12_readings_135 rfl ?_
                refine m_put (k := 64) (z := n1) C dX12_readings_136 w6_123 (by decide) rfl rfl rfl ?_
                refine hv2 (show BX (va_up (va_up (va_up (va_up vh5 60 0) 61 0) 63 0) 64 n1) ah5 from bq4.put (k := 64) (z := n1) (show 0 ≤ n1 ∧ n1 ≤ 50 by omega)) (fq7.put (k := 64) (z := n1) rfl) (fun bq5 fq8 => ?_)
                refine m_aload_n (j := 1) C dX12_readings_139 rfl ?_
                refine m_geta (k := 57) C dX12_readings_140 w6_116 (by decide) rfl ?_
                refine m_iconst C dX12_readings_143 ?_
                refine m_zald (k := 57) C dX12_readings_144 rfl rfl (by decide) (by decide) (by decide) (by decide) ?_
                have ra3 : 0 ≤ ah5 57 0 ∧ ah5 57 0 ≤ 1 := bq5.2 57 (0)
                refine m_st (st2 := [.int (iI (ah5 57 0))]) rfl ?_
                refine m_if_eq (tgt := 155) C (r32_c (lo := 0) (hi := 1) ra3.1 ra3.2 (by decide) (by decide)) dX12_readings_145 (by decide) (fun c5 => ?_) (fun c5 => ?_)
                · refine m_aload_n (j := 1) C dX12_readings_155 rfl ?_
                  refine m_aload_n (j := 1) C dX12_readings_156 rfl ?_
                  refine m_get (k := 60) C dX12_readings_157 w6_119 (by decide) rfl ?_
                  refine m_st (st2 := [.int (iI 0), .ref h0]) rfl ?_
                  refine m_call (mc2 := 0) (ms2 := 0) (As := [.int (iI 0)]) (rest := []) C (B_fine (x := 0) bq5 (by show -2147483648 ≤ (0 : Int) ∧ (0 : Int) ≤ 2147483647; omega)) dX12_readings_160 kV_X12_158 rfl ck_13 rfl (Nat.le_of_ble_eq_true rfl) ⟨Nat.le_of_ble_eq_true rfl, Nat.le_of_ble_eq_true rfl⟩ ⟨Nat.le_of_ble_eq_true rfl, Nat.le_of_ble_eq_true rfl⟩ (fun rh6 vh6 ah6 h6 => ?_)
                  obtain ⟨f4, rfl, fn4, bn4, ex3⟩ := h6
                  refine hv3 (fq8.call fn4 rfl rfl) (show RWS ah6 from RWS.fr pw2 fn4 rfl) (show f4 = (0 : Int) from ex3) (fun fq9 pw3 gf4 => ?_)
                  refine m_st (st2 := [.int (iI f4)]) rfl ?_
                  refine hv8 (show 0 ≤ vh6 60 ∧ vh6 60 ≤ 50 from bn4.1 60) (show vh6 60 = 0 from fn4.1 60 rfl) (show 0 ≤ vh6 61 ∧ vh6 61 ≤ 1 from bn4.1 61) (show vh6 61 = 0 from fn4.1 61 rfl) (show 0 ≤ vh6 63 ∧ vh6 63 ≤ 808 from bn4.1 63) (show vh6 63 = 0 from fn4.1 63 rfl) (show 0 ≤ vh6 64 ∧ vh6 64 ≤ 50 from bn4.1 64) (show vh6 64 = n1 from fn4.1 64 rfl) (fun rv5 ve3 rv6 ve4 rv7 ve5 rv8 ve6 => ?_)
                  exact m_iret C dX12_readings_163 rfl (Nat.le_of_ble_eq_true rfl) (Nat.le_of_ble_eq_true rfl) ⟨f4, rfl, fq9, bn4, ⟨pw3, RGX.fin (v5 := (va_up (va_up (va_up (va_up vh5 60 0) 61 0) 63 0) 64 n1)) (v6 := (va_up (va_up (va_up (va_up vh5 60 0) 61 0) 63 0) 64 n1)) (a6 := ah5) (tl1.mp (by omega)) ⟨by omega, by omega⟩ ⟨⟨by omega, by omega⟩, by omega, by omega⟩ hG75 (by omega) fpb1 rfl rfl tl2 fn2 rfl fn3 fc1 rfl rfl rfl rfl rfl rfl (Or.inl ⟨by omega, rfl, rfl⟩) ⟨fn4.1 60 rfl, fn4.1 61 rfl, fn4.2 58 rfl, fn4.2 59 rfl⟩ (by show f4 = (0 : Int); omega)⟩⟩
                · refine m_aload_n (j := 1) C dX12_readings_148 rfl ?_
                  refine m_iconst C dX12_readings_149 ?_
                  refine m_iconst C dX12_readings_150 ?_
                  refine m_iconst C dX12_readings_151 ?_
                  refine hv2 (show 0 ≤ vh5 50 ∧ vh5 50 ≤ 40200 from bq5.1 50) (show vh5 50 = vh4 50 from fn3.1 50 rfl) (fun rv9 ve7 => ?_)
                  refine m_call (mc2 := 0) (ms2 := 0) (As := [.int (iI 0), .int (iI 0), .int (iI 0)]) (rest := []) C (E_go (x := 0) (pt := 0) (g := 0) bq5 pw2 (by show (vh5 50) ≤ 100; omega) (by show 0 ≤ 0 ∧ 0 ≤ (vh5 50); omega) (by omega) (by omega) (by show 0 ≤ n1; omega) (by show 0 ≤ 8 * 0; omega)) dX12_readings_152 kV_X12_391 rfl ck_13 rfl (Nat.le_of_ble_eq_true rfl) ⟨Nat.le_of_ble_eq_true rfl, Nat.le_of_ble_eq_true rfl⟩ ⟨Nat.le_of_ble_eq_true rfl, Nat.le_of_ble_eq_true rfl⟩ (fun rh7 vh7 ah7 h7 => ?_)
                  obtain ⟨rfl, fn5, bn5, ex4, gx1⟩ := h7
                  refine hv5 (fq8.call fn5 rfl rfl) (show RWS ah7 from RWS.fr pw2 fn5 rfl) (show 0 ≤ vh7 60 ∧ vh7 60 ≤ 50 from bn5.1 60) (show 0 ≤ vh7 63 ∧ vh7 63 ≤ 808 from bn5.1 63) (show (vh7 60) ≤ n1 ∧ (vh7 63) = 0 from ex4) (fun fq10 pw4 rv10 rv11 gex4 => ?_)
                  refine m_st (st2 := []) rfl ?_
                  refine m_aload_n (j := 1) C dX12_readings_155 rfl ?_
                  refine m_aload_n (j := 1) C dX12_readings_156 rfl ?_
                  refine m_get (k := 60) C dX12_readings_157 w6_119 (by decide) rfl ?_
                  refine m_call (mc2 := 0) (ms2 := 0) (As := [.int (iI (vh7 60))]) (rest := []) C (B_fine (x := vh7 60) bn5 (by show -2147483648 ≤ (vh7 60) ∧ (vh7 60) ≤ 2147483647; omega)) dX12_readings_160 kV_X12_158 rfl ck_13 rfl (Nat.le_of_ble_eq_true rfl) ⟨Nat.le_of_ble_eq_true rfl, Nat.le_of_ble_eq_true rfl⟩ ⟨Nat.le_of_ble_eq_true rfl, Nat.le_of_ble_eq_true rfl⟩ (fun rh8 vh8 ah8 h8 => ?_)
                  obtain ⟨f5, rfl, fn6, bn6, ex5⟩ := h8
                  refine hv3 (fq10.call fn6 rfl rfl) (show RWS ah8 from RWS.fr pw4 fn6 rfl) (show f5 = (vh7 60) from ex5) (fun fq11 pw5 gf5 => ?_)
                  refine m_st (st2 := [.int (iI f5)]) rfl ?_
                  refine hv9 (show 0 ≤ vh8 60 ∧ vh8 60 ≤ 50 from bn6.1 60) (show vh8 60 = vh7 60 from fn6.1 60 rfl) (show 0 ≤ vh8 61 ∧ vh8 61 ≤ 1 from bn6.1 61) (show vh8 61 = vh7 61 from fn6.1 61 rfl) (show 0 ≤ vh8 63 ∧ vh8 63 ≤ 808 from bn6.1 63) (show vh8 63 = vh7 63 from fn6.1 63 rfl) (show 0 ≤ vh8 64 ∧ vh8 64 ≤ 50 from bn6.1 64) (show vh8 64 = vh7 64 from fn6.1 64 rfl) (show vh7 64 = n1 from fn5.1 64 rfl) (fun rv12 ve8 rv13 ve9 rv14 ve10 rv15 ve11 ve12 => ?_)
                  exact m_iret C dX12_readings_163 rfl (Nat.le_of_ble_eq_true rfl) (Nat.le_of_ble_eq_true rfl) ⟨f5, rfl, fq11, bn6, ⟨pw5, RGX.fin (v5 := (va_up (va_up (va_up (va_up vh5 60 0) 61 0) 63 0) 64 n1)) (tl1.mp (by omega)) ⟨by omega, by omega⟩ ⟨⟨by omega, by omega⟩, by omega, by omega⟩ hG75 (by omega) fpb1 rfl rfl tl2 fn2 rfl fn3 fc1 rfl rfl rfl rfl rfl rfl (Or.inr ⟨by omega, gx1, fn5.1 64 rfl⟩) ⟨fn6.1 60 rfl, fn6.1 61 rfl, fn6.2 58 rfl, fn6.2 59 rfl⟩ (by omega)⟩⟩
              · refine m_aload_n (j := 1) C dX12_readings_86 rfl ?_
                refine m_aload_n (j := 1) C dX12_readings_87 rfl ?_
                refine m_geta (k := 35) C dX12_readings_88 w6_94 (by decide) rfl ?_
                refine m_sipush (z := 200) C dX12_readings_91 (by decide) ?_
                refine m_iload_n (j := 3) C dX12_readings_94 rfl ?_
                refine m_imul C dX12_readings_95 ?_
                refine m_iload (j := 0) C dX12_readings_96 rfl ?_
                refine m_iadd C dX12_readings_98 ?_
                refine m_ald (k := 35) C dX12_readings_99 rfl rfl (by decide) (by omega) (by show _ < ((_ : Nat) : Int); simp only [mlen]; omega) (by decide) ?_
                refine hv2 (show (-2147483648) ≤ ab1 35 ((200 * l0) + i1).toNat ∧ ab1 35 ((200 * l0) + i1).toNat ≤ 2147483647 from bxb1.2 35 (((200 * l0) + i1).toNat)) (show ab1 35 (((200 * l0) + i1).toNat) = a 35 (((200 * l0) + i1).toNat) from congrFun (fpb1.2 35 rfl) (((200 * l0) + i1).toNat)) (fun ra4 ae2 => ?_)
                refine m_st (st2 := [.int (iI (a 35 ((200 * l0) + i1).toNat)), .ref h0]) (congrArg (fun z => Value.int (iI z) :: [.ref h0]) (congrFun (fpb1.2 35 rfl) (((200 * l0) + i1).toNat))) ?_
                refine m_iconst C dX12_readings_100 ?_
                have rv16 : 0 ≤ vb1 50 ∧ vb1 50 ≤ 40200 := bxb1.1 50
                refine m_call (mc2 := 0) (ms2 := 0) (As := [.int (iI (a 35 ((200 * l0) + i1).toNat)), .int (iI 0)]) (rest := []) C (E_putRow (x := a 35 ((200 * l0) + i1).toNat) (y := 0) bxb1 (by omega) (by omega) (by show (vb1 50) < 40200; omega)) dX12_readings_101 kV_X12_351 rfl ck_13 rfl (Nat.le_of_ble_eq_true rfl) ⟨Nat.le_of_ble_eq_true rfl, Nat.le_of_ble_eq_true rfl⟩ ⟨Nat.le_of_ble_eq_true rfl, Nat.le_of_ble_eq_true rfl⟩ (fun rh9 vh9 ah9 h9 => ?_)
                obtain ⟨rfl, fn7, bn7, ex6, pr1⟩ := h9
                refine hv3 (fpb1.call fn7 rfl rfl) (show RWS ah9 from RWS.fr hW1 fn7 rfl) (show vh9 50 = (vb1 50) + 1 from ex6) (fun fq12 pw6 gfn7 => ?_)
                refine m_st (st2 := []) rfl ?_
                refine m_iinc (z := i1) (j := 0) (lv2 := [(4, .int (iI (i1 + 1))), (0, .ref h0), (1, .int (iI t)), (2, .int (iI l0)), (3, .int (iI n1))]) C dX12_readings_104 rfl (by decide) rfl ?_
                refine m_goto (tgt := 75) C dX12_readings_107 (by decide) ?_
                have rv17 : 0 ≤ vh9 50 ∧ vh9 50 ≤ 40200 := bn7.1 50
                refine m_lv (lv2 := [(4, .int (iI (i1 + 1))), (0, .ref h0), (1, .int (iI t)), (2, .int (iI l0)), (3, .int (iI n1))]) [0, 1, 2, 3, 4] rfl ?_
                exact ih1  (i1 + 1) _ _ (by omega) bn7 fq12 (by omega) (by show (vh9 50) = (i1 + 1); omega) pw6 (hG75.step (by omega) ex6 pr1 rfl)
          refine m_lv (lv2 := [(4, .int (iI 0)), (0, .ref h0), (1, .int (iI t)), (2, .int (iI l0)), (3, .int (iI n1))]) [0, 1, 2, 3, 4] rfl ?_
          exact Lp1 202 0 _ _ (by omega) bq1 fq2 (by omega) (by show 0 = 0; omega) hW (GRW.zero (by show 0 = 0; omega))
        · refine m_aload_n (j := 0) C dX12_readings_60 rfl ?_
          refine m_bipush (z := 6) C dX12_readings_61 (by decide) ?_
          refine m_call (mc2 := 0) (ms2 := 0) (As := [.int (iI 6)]) (rest := []) C (B_bad (x := 6) hB (by show -2147483648 ≤ (6 : Int) ∧ (6 : Int) ≤ 2147483647; omega)) dX12_readings_63 kV_X12_154 rfl ck_13 rfl (Nat.le_of_ble_eq_true rfl) ⟨Nat.le_of_ble_eq_true rfl, Nat.le_of_ble_eq_true rfl⟩ ⟨Nat.le_of_ble_eq_true rfl, Nat.le_of_ble_eq_true rfl⟩ (fun rh10 vh10 ah10 h10 => ?_)
          obtain ⟨f6, rfl, fn8, bn8, ex7⟩ := h10
          refine hv3 (fp0.call fn8 rfl rfl) (show RWS ah10 from RWS.fr hW fn8 rfl) (show f6 = -1 from ex7) (fun fq13 pw7 gf6 => ?_)
          refine m_st (st2 := [.int (iI f6)]) rfl ?_
          refine hv4 (show 0 ≤ vh10 60 ∧ vh10 60 ≤ 50 from bn8.1 60) (show vh10 60 = v 60 from fn8.1 60 rfl) (show 0 ≤ vh10 61 ∧ vh10 61 ≤ 1 from bn8.1 61) (show vh10 61 = v 61 from fn8.1 61 rfl) (fun rv18 ve13 rv19 ve14 => ?_)
          exact m_iret C dX12_readings_66 rfl (Nat.le_of_ble_eq_true rfl) (Nat.le_of_ble_eq_true rfl) ⟨f6, rfl, fq13, bn8, ⟨pw7, RGX.bad (OKG.line (by omega)) (by omega) (by show (vh10 60) = v 60; omega) (by show (vh10 61) = v 61; omega) (fn8.2 58 rfl) (fn8.2 59 rfl)⟩⟩
      · refine m_aload_n (j := 0) C dX12_readings_39 rfl ?_
        refine m_aload_n (j := 0) C dX12_readings_40 rfl ?_
        refine m_iload_n (j := 2) C dX12_readings_41 rfl ?_
        refine m_call (mc2 := 0) (ms2 := 0) (As := [.int (iI l0)]) (rest := [.ref h0]) C (M_lineFault (l0 := l0) hB.rg ⟨by omega, by omega⟩ ⟨hB.1 36, hB.2 34⟩) dX12_readings_42 kV_X12_294 rfl ck_13 rfl (Nat.le_of_ble_eq_true rfl) ⟨Nat.le_of_ble_eq_true rfl, Nat.le_of_ble_eq_true rfl⟩ ⟨Nat.le_of_ble_eq_true rfl, Nat.le_of_ble_eq_true rfl⟩ (fun rh11 vh11 ah11 h11 => ?_)
        obtain ⟨f7, rfl, hf7, rfl, rfl⟩ := h11
        have gf7 : (f7 = 2 ∧ ¬ (0 ≤ l0 ∧ l0 < (v 36))) ∨ (f7 = 1 ∧ 0 ≤ l0 ∧ l0 < (v 36) ∧ a 34 l0.toNat < 0) ∨ (f7 = 0 ∧ 0 ≤ l0 ∧ l0 < (v 36) ∧ 0 ≤ a 34 l0.toNat) := hf7
        refine m_st (st2 := [.int (iI f7), .ref h0]) rfl ?_
        refine m_call (mc2 := 0) (ms2 := 0) (As := [.int (iI f7)]) (rest := []) C (B_bad (x := f7) hB (by show -2147483648 ≤ f7 ∧ f7 ≤ 2147483647; omega)) dX12_readings_45 kV_X12_154 rfl ck_13 rfl (Nat.le_of_ble_eq_true rfl) ⟨Nat.le_of_ble_eq_true rfl, Nat.le_of_ble_eq_true rfl⟩ ⟨Nat.le_of_ble_eq_true rfl, Nat.le_of_ble_eq_true rfl⟩ (fun rh12 vh12 ah12 h12 => ?_)
        obtain ⟨f8, rfl, fn9, bn9, ex8⟩ := h12
        refine hv3 (fp0.call fn9 rfl rfl) (show RWS ah12 from RWS.fr hW fn9 rfl) (show f8 = -1 from ex8) (fun fq14 pw8 gf8 => ?_)
        refine m_st (st2 := [.int (iI f8)]) rfl ?_
        refine hv4 (show 0 ≤ vh12 60 ∧ vh12 60 ≤ 50 from bn9.1 60) (show vh12 60 = v 60 from fn9.1 60 rfl) (show 0 ≤ vh12 61 ∧ vh12 61 ≤ 1 from bn9.1 61) (show vh12 61 = v 61 from fn9.1 61 rfl) (fun rv20 ve15 rv21 ve16 => ?_)
        exact m_iret C dX12_readings_48 rfl (Nat.le_of_ble_eq_true rfl) (Nat.le_of_ble_eq_true rfl) ⟨f8, rfl, fq14, bn9, ⟨pw8, RGX.bad (OKG.line (by omega)) (by omega) (by show (vh12 60) = v 60; omega) (by show (vh12 61) = v 61; omega) (fn9.2 58 rfl) (fn9.2 59 rfl)⟩⟩
    · clear gf1
      refine m_aload_n (j := 0) C dX12_readings_25 rfl ?_
      refine m_iconst C dX12_readings_26 ?_
      refine m_call (mc2 := 0) (ms2 := 0) (As := [.int (iI 3)]) (rest := []) C (B_bad (x := 3) hB (by show -2147483648 ≤ (3 : Int) ∧ (3 : Int) ≤ 2147483647; omega)) dX12_readings_27 kV_X12_154 rfl ck_13 rfl (Nat.le_of_ble_eq_true rfl) ⟨Nat.le_of_ble_eq_true rfl, Nat.le_of_ble_eq_true rfl⟩ ⟨Nat.le_of_ble_eq_true rfl, Nat.le_of_ble_eq_true rfl⟩ (fun rh13 vh13 ah13 h13 => ?_)
      obtain ⟨f9, rfl, fn10, bn10, ex9⟩ := h13
      refine hv3 (fp0.call fn10 rfl rfl) (show RWS ah13 from RWS.fr hW fn10 rfl) (show f9 = -1 from ex9) (fun fq15 pw9 gf9 => ?_)
      refine m_st (st2 := [.int (iI f9)]) rfl ?_
      refine hv4 (show 0 ≤ vh13 60 ∧ vh13 60 ≤ 50 from bn10.1 60) (show vh13 60 = v 60 from fn10.1 60 rfl) (show 0 ≤ vh13 61 ∧ vh13 61 ≤ 1 from bn10.1 61) (show vh13 61 = v 61 from fn10.1 61 rfl) (fun rv22 ve17 rv23 ve18 => ?_)
      exact m_iret C dX12_readings_30 rfl (Nat.le_of_ble_eq_true rfl) (Nat.le_of_ble_eq_true rfl) ⟨f9, rfl, fq15, bn10, ⟨pw9, RGX.bad (fun _ _ q9 => absurd (tl1.mpr q9.1) (by omega)) (by omega) (by show (vh13 60) = v 60; omega) (by show (vh13 61) = v 61; omega) (fn10.2 58 rfl) (fn10.2 59 rfl)⟩⟩
  · refine m_st (st2 := [.int (iI 0)]) (by rw [h1e]) ?_
    refine m_if_ne (tgt := 17) C ⟨by decide, by decide⟩ dX12_readings_7 (by decide) (fun z => absurd z (by omega)) (fun _ => ?_)
    refine m_aload_n (j := 0) C dX12_readings_10 rfl ?_
    refine m_bipush (z := 6) C dX12_readings_11 (by decide) ?_
    refine m_call (mc2 := 0) (ms2 := 0) (As := [.int (iI 6)]) (rest := []) C (B_bad (x := 6) hB (by show -2147483648 ≤ (6 : Int) ∧ (6 : Int) ≤ 2147483647; omega)) dX12_readings_13 kV_X12_154 rfl ck_13 rfl (Nat.le_of_ble_eq_true rfl) ⟨Nat.le_of_ble_eq_true rfl, Nat.le_of_ble_eq_true rfl⟩ ⟨Nat.le_of_ble_eq_true rfl, Nat.le_of_ble_eq_true rfl⟩ (fun rh14 vh14 ah14 h14 => ?_)
    obtain ⟨f10, rfl, fn11, bn11, ex10⟩ := h14
    refine hv3 (fp0.call fn11 rfl rfl) (show RWS ah14 from RWS.fr hW fn11 rfl) (show f10 = -1 from ex10) (fun fq16 pw10 gf10 => ?_)
    refine m_st (st2 := [.int (iI f10)]) rfl ?_
    refine hv4 (show 0 ≤ vh14 60 ∧ vh14 60 ≤ 50 from bn11.1 60) (show vh14 60 = v 60 from fn11.1 60 rfl) (show 0 ≤ vh14 61 ∧ vh14 61 ≤ 1 from bn11.1 61) (show vh14 61 = v 61 from fn11.1 61 rfl) (fun rv24 ve19 rv25 ve20 => ?_)
    exact m_iret C dX12_readings_16 rfl (Nat.le_of_ble_eq_true rfl) (Nat.le_of_ble_eq_true rfl) ⟨f10, rfl, fq16, bn11, ⟨pw10, RGX.bad (fun _ _ q9 => by have q8 := q9.2.1; omega) (by omega) (by show (vh14 60) = v 60; omega) (by show (vh14 61) = v 61; omega) (fn11.2 58 rfl) (fn11.2 59 rfl)⟩⟩
set_option maxHeartbeats 4000000 in
set_option maxRecDepth 100000 in
theorem N2_reading {l : Launch} {G : GT} {h0 : Nat} {ad ln : Nat → Nat} {v : Nat → Int} {a : Nat → Nat → Int}  {k i : Int} (hB : BX v a) (hk : -2147483648 ≤ k ∧ k ≤ 2147483647) (hi : -2147483648 ≤ i ∧ i ≤ 2147483647) : Mm l G yX12_reading cX12_reading 3 (some .int) 2 [.int (iI k), .int (iI i)] h0 ad ln v a 0 0 (fun r v2 a2 => ∃ f : Int, r = some (.int (iI f)) ∧ fr [0, 1] [] v a v2 a2 ∧ BX v2 a2 ∧ (RGA v a k i f)) := by
  refine Mm.mk (by decide) (Nat.le_of_ble_eq_true rfl) ?_
  intro p e s m args below meth c A C
  have fp0 : fr [0, 1] [] v a v a := fr.refl
  refine m_iload_n (j := 1) C dX12_reading_0 rfl ?_
  refine m_iconst C dX12_reading_1 ?_
  refine m_aload_n (j := 0) C dX12_reading_2 rfl ?_
  have rv1 : 0 ≤ v 60 ∧ v 60 ≤ 50 := hB.1 60
  refine m_get (k := 60) C dX12_reading_3 w6_119 (by decide) rfl ?_
  refine m_iconst C dX12_reading_6 ?_
  refine m_isub C dX12_reading_7 ?_
  refine m_callS (As := [.int (iI k), .int (iI 0), .int (iI ((v 60) - 1))]) (rest := []) C (fun L E => s_isIn (iI k) (iI 0) (iI ((v 60) - 1))) dX12_reading_8 kS_X12_174 rfl rfl (Nat.le_of_ble_eq_true rfl) ⟨Nat.le_of_ble_eq_true rfl, Nat.le_of_ble_eq_true rfl⟩ ⟨Nat.le_of_ble_eq_true rfl, Nat.le_of_ble_eq_true rfl⟩ ?_
  rcases inn_c (x := k) (lo := 0) (hi := (v 60) - 1) ⟨by omega, by omega⟩ ⟨by decide, by decide⟩ ⟨by omega, by omega⟩ with ⟨h1a, h1b, h1e⟩ | ⟨h1a, h1e⟩
  · refine m_st (st2 := [.int (iI 1)]) (by rw [h1e]) ?_
    refine m_if_eq (tgt := 49) C ⟨by decide, by decide⟩ dX12_reading_11 (by decide) (fun z => absurd z (by omega)) (fun _ => ?_)
    refine m_iload_n (j := 2) C dX12_reading_14 rfl ?_
    refine m_iconst C dX12_reading_15 ?_
    refine m_aload_n (j := 0) C dX12_reading_16 rfl ?_
    refine m_geta (k := 59) C dX12_reading_17 w6_118 (by decide) rfl ?_
    refine m_iload_n (j := 1) C dX12_reading_20 rfl ?_
    refine m_ald (k := 59) C dX12_reading_21 rfl rfl (by decide) (by omega) (by show _ < ((_ : Nat) : Int); simp only [mlen]; omega) (by decide) ?_
    have ra1 : 0 ≤ a 59 k.toNat ∧ a 59 k.toNat ≤ 808 := hB.2 59 (k.toNat)
    refine m_iconst C dX12_reading_22 ?_
    refine m_isub C dX12_reading_23 ?_
    refine m_callS (As := [.int (iI i), .int (iI 0), .int (iI ((a 59 k.toNat) - 1))]) (rest := []) C (fun L E => s_isIn (iI i) (iI 0) (iI ((a 59 k.toNat) - 1))) dX12_reading_24 kS_X12_174 rfl rfl (Nat.le_of_ble_eq_true rfl) ⟨Nat.le_of_ble_eq_true rfl, Nat.le_of_ble_eq_true rfl⟩ ⟨Nat.le_of_ble_eq_true rfl, Nat.le_of_ble_eq_true rfl⟩ ?_
    rcases inn_c (x := i) (lo := 0) (hi := (a 59 k.toNat) - 1) ⟨by omega, by omega⟩ ⟨by decide, by decide⟩ ⟨by omega, by omega⟩ with ⟨h2a, h2b, h2e⟩ | ⟨h2a, h2e⟩
    · refine m_st (st2 := [.int (iI 1)]) (by rw [h2e]) ?_
      refine m_if_eq (tgt := 49) C ⟨by decide, by decide⟩ dX12_reading_27 (by decide) (fun z => absurd z (by omega)) (fun _ => ?_)
      refine m_aload_n (j := 0) C dX12_reading_30 rfl ?_
      refine m_aload_n (j := 0) C dX12_reading_31 rfl ?_
      refine m_geta (k := 58) C dX12_reading_32 w6_117 (by decide) rfl ?_
      refine m_sipush (z := 808) C dX12_reading_35 (by decide) ?_
      refine m_iload_n (j := 1) C dX12_reading_38 rfl ?_
      refine m_imul C dX12_reading_39 ?_
      refine m_iload_n (j := 2) C dX12_reading_40 rfl ?_
      refine m_iadd C dX12_reading_41 ?_
      refine m_ald (k := 58) C dX12_reading_42 rfl rfl (by decide) (by omega) (by show _ < ((_ : Nat) : Int); simp only [mlen]; omega) (by decide) ?_
      have ra2 : (-2147483648) ≤ a 58 ((808 * k) + i).toNat ∧ a 58 ((808 * k) + i).toNat ≤ 2147483647 := hB.2 58 (((808 * k) + i).toNat)
      refine m_call (mc2 := 0) (ms2 := 0) (As := [.int (iI (a 58 ((808 * k) + i).toNat))]) (rest := []) C (B_fine (x := a 58 ((808 * k) + i).toNat) hB (by show -2147483648 ≤ (a 58 ((808 * k) + i).toNat) ∧ (a 58 ((808 * k) + i).toNat) ≤ 2147483647; omega)) dX12_reading_43 kV_X12_158 rfl ck_13 rfl (Nat.le_of_ble_eq_true rfl) ⟨Nat.le_of_ble_eq_true rfl, Nat.le_of_ble_eq_true rfl⟩ ⟨Nat.le_of_ble_eq_true rfl, Nat.le_of_ble_eq_true rfl⟩ (fun rh3 vh3 ah3 h3 => ?_)
      obtain ⟨f1, rfl, fn1, bn1, ex1⟩ := h3
      refine hv2 (fp0.call fn1 rfl rfl) (show f1 = (a 58 ((808 * k) + i).toNat) from ex1) (fun fq1 gf1 => ?_)
      refine m_st (st2 := [.int (iI f1)]) rfl ?_
      refine m_goto (tgt := 54) C dX12_reading_46 (by decide) ?_
      exact m_iret C dX12_reading_54 rfl (Nat.le_of_ble_eq_true rfl) (Nat.le_of_ble_eq_true rfl) ⟨f1, rfl, fq1, bn1, (by unfold RGA; omega)⟩
    · refine m_st (st2 := [.int (iI 0)]) (by rw [h2e]) ?_
      refine m_if_eq (tgt := 49) C ⟨by decide, by decide⟩ dX12_reading_27 (by decide) (fun _ => ?_) (fun z => absurd z (by omega))
      refine m_aload_n (j := 0) C dX12_reading_49 rfl ?_
      refine m_iconst C dX12_reading_50 ?_
      refine m_call (mc2 := 0) (ms2 := 0) (As := [.int (iI 2)]) (rest := []) C (B_bad (x := 2) hB (by show -2147483648 ≤ (2 : Int) ∧ (2 : Int) ≤ 2147483647; omega)) dX12_reading_51 kV_X12_154 rfl ck_13 rfl (Nat.le_of_ble_eq_true rfl) ⟨Nat.le_of_ble_eq_true rfl, Nat.le_of_ble_eq_true rfl⟩ ⟨Nat.le_of_ble_eq_true rfl, Nat.le_of_ble_eq_true rfl⟩ (fun rh4 vh4 ah4 h4 => ?_)
      obtain ⟨f2, rfl, fn2, bn2, ex2⟩ := h4
      refine hv2 (fp0.call fn2 rfl rfl) (show f2 = -1 from ex2) (fun fq2 gf2 => ?_)
      refine m_st (st2 := [.int (iI f2)]) rfl ?_
      exact m_iret C dX12_reading_54 rfl (Nat.le_of_ble_eq_true rfl) (Nat.le_of_ble_eq_true rfl) ⟨f2, rfl, fq2, bn2, (by unfold RGA; omega)⟩
  · refine m_st (st2 := [.int (iI 0)]) (by rw [h1e]) ?_
    refine m_if_eq (tgt := 49) C ⟨by decide, by decide⟩ dX12_reading_11 (by decide) (fun _ => ?_) (fun z => absurd z (by omega))
    refine m_aload_n (j := 0) C dX12_reading_49 rfl ?_
    refine m_iconst C dX12_reading_50 ?_
    refine m_call (mc2 := 0) (ms2 := 0) (As := [.int (iI 2)]) (rest := []) C (B_bad (x := 2) hB (by show -2147483648 ≤ (2 : Int) ∧ (2 : Int) ≤ 2147483647; omega)) dX12_reading_51 kV_X12_154 rfl ck_13 rfl (Nat.le_of_ble_eq_true rfl) ⟨Nat.le_of_ble_eq_true rfl, Nat.le_of_ble_eq_true rfl⟩ ⟨Nat.le_of_ble_eq_true rfl, Nat.le_of_ble_eq_true rfl⟩ (fun rh5 vh5 ah5 h5 => ?_)
    obtain ⟨f3, rfl, fn3, bn3, ex3⟩ := h5
    refine hv2 (fp0.call fn3 rfl rfl) (show f3 = -1 from ex3) (fun fq3 gf3 => ?_)
    refine m_st (st2 := [.int (iI f3)]) rfl ?_
    exact m_iret C dX12_reading_54 rfl (Nat.le_of_ble_eq_true rfl) (Nat.le_of_ble_eq_true rfl) ⟨f3, rfl, fq3, bn3, (by unfold RGA; omega)⟩
end
section
def hs (H : Heap) : Nat := (H.toList.map (fun c => c.slots.size)).sum
def mu (H : Heap) : Nat := 16 * H.size + hs H
theorem sbn_hs {s t : State} {locs : List Loc} {k n : Nat} (h : s.sameButNew t locs k n) : hs t.heap = hs s.heap + ((t.heap.toList.drop s.heap.size).map (·.slots.size)).sum := by
  obtain ⟨-, h2, -, -, -, h6⟩ := h
  have e : (t.heap.toList.take s.heap.size).map (fun c => c.slots.size) = s.heap.toList.map (fun c => c.slots.size) := by
    apply List.ext_getElem?
    intro i
    rw [List.getElem?_map, List.getElem?_map]
    by_cases hi : i < s.heap.size
    · rw [List.getElem?_take_of_lt hi]
      obtain ⟨c2, g1, -, g3, -⟩ := h6 i s.heap[i] (Array.getElem?_eq_getElem hi)
      rw [Array.getElem?_toList, Array.getElem?_toList, g1, Array.getElem?_eq_getElem hi]
      exact congrArg some g3
    · rw [List.getElem?_eq_none (by rw [List.length_take, Array.length_toList]; omega), List.getElem?_eq_none (by rw [Array.length_toList]; omega)]
  unfold hs
  rw [← e, ← List.sum_append, ← List.map_append, List.take_append_drop]
section MUS
variable {p : Program} {l : Launch} {e : Env} {R : Room} {s : State} {m : MethodId} {args : Array Value} {below : List Frame} {meth : Method} {c : Code} {T : State} {locs : List Loc} {kc ks : Nat}
theorem stand_mu (X : Stand p l e R s m args below meth c T locs kc ks) : mu T.heap ≤ mu s.heap + (16 * kc + ks) := by
  have h := X.same
  refine hv3 (show hs T.heap = hs s.heap + ((T.heap.toList.drop s.heap.size).map (·.slots.size)).sum from sbn_hs (t := T.setVm s.vm) h) (show T.heap.size ≤ s.heap.size + kc from h.2.2.1) (show ((T.heap.toList.drop s.heap.size).map (·.slots.size)).sum ≤ ks from h.2.2.2.2.1) (fun h1 h2 h3 => ?_)
  unfold mu
  rw [h1]
  omega
theorem stand_narrow (X : Stand p l e R s m args below meth c T locs kc ks) {u : Nat} (hu : mu T.heap ≤ mu s.heap + u) : ∃ kc2 ks2 : Nat, 16 * kc2 + ks2 ≤ u ∧ Stand p l e R s m args below meth c T locs kc2 ks2 := by
  have h := X.same
  refine hv2 (show hs T.heap = hs s.heap + ((T.heap.toList.drop s.heap.size).map (·.slots.size)).sum from sbn_hs (t := T.setVm s.vm) h) (show s.heap.size ≤ T.heap.size from h.2.1) (fun h1 h2 => ?_)
  refine ⟨T.heap.size - s.heap.size, ((T.heap.toList.drop s.heap.size).map (·.slots.size)).sum, ?_, { X with same := ⟨h.1, h.2.1, ?_, h.2.2.2.1, Nat.le_refl _, h.2.2.2.2.2⟩ }⟩
  · unfold mu at hu; omega
  · show T.heap.size ≤ s.heap.size + (T.heap.size - s.heap.size); omega
end MUS
abbrev PU : Type := Option Value → List Nat → (Nat → va_E) → Nat → Prop
def Qu (G : GT) (A : Nat → Prop) (Post : PU) : Array Value → State → Outcome → State → Prop := fun _ st oc t => (∃ (v : Option Value) (L2 : List Nat) (E2 : Nat → va_E) (u : Nat), oc = .returned v ∧ Post v L2 E2 u ∧ mu t.heap ≤ mu st.heap + u ∧ va_P G.1 vwCl (va_pl L2 E2) t.heap ∧ va_D A (va_pl L2 E2)) ∧ va_F A st t
abbrev rmu (d r : Nat) : Room := { frames := d, cells := r / 16, slots := r, locals := 64 * d }
def Mir (mi : Nat) (U : State) : Prop := va_Mi "[Ljava/lang/Object;" mi U ∧ va_Dc U
theorem Mir.warm {mi : Nat} {s U : State} (h : Mir mi s) (hW : s.WarmedH U.vm) : Mir mi U := ⟨va_Mi.moved hW.alike h.1, va_Dc.moved hW.alike h.2⟩
def Pcu (G : GT) (mi : Nat) (L : List Nat) (E : Nat → va_E) (sz : Nat) (U : State) : Prop := Pcq G L E sz U ∧ Mir mi U
def Mu (l : Launch) (G : GT) (mi : Nat) (y : MethodName) (cc : ByteArray) (n : Nat) (ret : Option FieldType) (d : Nat) (av : List Value) (L : List Nat) (E : Nat → va_E) (r : Nat) (Post : PU) : Prop :=
  ∀ sz : Nat, Met l y (.code y cc n ret :: lw_g) (rmu d r) (va_Pc av (Pcu G mi L E sz)) (Qu G (va_A (va_pl L E) sz) Post) (r / 16) r (va_A (va_pl L E) sz)

def wu (p : Program) (l : Launch) (e : Env) (d0 r0 : Nat) (s : State) (m : MethodId) (args : Array Value) (below : List Frame) (meth : Method) (c : Code) (G : GT) (A : Nat → Prop) (nL : Nat) (Q : State → Prop) (L : List Nat) (E : Nat → va_E) (u pc : Nat) (lv : List (Nat × Value)) (st : List Value) : Prop := ∀ kc ks : Nat, 16 * kc + ks ≤ u → wq p l e (rmu d0 r0) s m args below meth c G A nL Q L E kc ks pc lv st
theorem Pcu.blind {G : GT} {mi : Nat} {L : List Nat} {E : Nat → va_E} {sz : Nat} {av : List Value} : FrameBlind (va_Pc av (Pcu G mi L E sz)) := by
  intro a U g mk q
  have h1 := Pcq.blind (G := G) (L := L) (E := E) (sz := sz) (av := av) a U g mk ⟨q.1, q.2.1⟩
  exact ⟨h1.1, h1.2, va_Mi.moved (u := U) (U := U.calling g mk a) (Vm.Alike.refl U.vm) q.2.2.1, va_Dc.moved (u := U) (U := U.calling g mk a) (Vm.Alike.refl U.vm) q.2.2.2⟩
section UQ
variable {p : Program} {l : Launch} {e : Env} {d0 r0 : Nat} {s : State} {m : MethodId} {args : Array Value} {below : List Frame} {meth : Method} {c : Code} {cc : ByteArray} {y : MethodName} {ret : Option FieldType} {G : GT} {A : Nat → Prop} {nL mi : Nat} {Q : State → Prop} {L : List Nat} {E : Nat → va_E} {u pc : Nat} {lv : List (Nat × Value)} {st : List Value} {Post : PU}
theorem Mu.mk {n d r : Nat} {av : List Value} (hy : plainName y.cls = true) (hn : (lg_sl av).length ≤ n) (body : ∀ (p : Program) (e : Env) (s : State) (m : MethodId) (args : Array Value) (below : List Frame) (meth : Method) (c : Code) (A : Nat → Prop), Cq p s m args meth c cc y ret G A n → Mir mi s → wu p l e d r s m args below meth c G A n (MQ below (Qu G A Post) args s (r / 16) r A) L E 0 0 (lv_args 0 av) []) : Mu l G mi y cc n ret d av L E r Post := by
  intro sz
  refine Met.ofW (cc := cc) (maxL := n) (ret := ret) hy rfl ?_
  intro p e s m args below meth c s₁ B hml hv
  obtain ⟨rfl, ⟨hsz, hP, hK, hD0, hZ, hN⟩, hM⟩ := hv
  subst hsz
  refine hv2 (atoms_spec (ws := .code y cc n ret :: lw_g) B.pre) (lv_entry av (n := n) hn) (fun hts hl => ?_)
  rw [lg_entry_eq]
  have hown := findClass_of_methodNamed B.named
  exact body p e s m _ below meth c _ ⟨B.exec, B.bytes, hml, hown, fun w hw => hts w (List.mem_cons_of_mem _ hw), hK, fun q h => Or.inr h, hZ, B.returns, B.notSynchronized, (name_of_methodNamed B.named B.method).1, hN⟩ hM 0 0 (Nat.le_refl _) s.heap [] _ hP hD0.self va_S.rf hl
theorem u_after (C : Cq p s m args meth c cc y ret G A nL) {r2 kc ks : Nat} {a2 : Array Value} {st0 rest : List Value} {P2 : PU} {H : Heap} {locs : List Loc} {ls : Array Slot} (hu : 16 * kc + ks ≤ u) (hD : va_D A (va_pl L E)) (hS : va_S A s.heap H locs) (hl : lv_has ls nL lv) (hr : va_Run p l e (rmu d0 r0) s m args below meth c H locs kc ks (r2 / 16) r2 (F0 m pc ls st0) rest (Qu G (va_A (va_pl L E) H.size) P2 a2) (va_A (va_pl L E) H.size)) (kk : ∀ (v : Option Value) (L2 : List Nat) (E2 : Nat → va_E) (u2 : Nat), P2 v L2 E2 u2 → wu p l e d0 r0 s m args below meth c G A nL Q L2 E2 (u + u2) (pc + 3) lv (v.toList ++ rest)) : W p l e (rmu d0 r0) s m args below meth c H locs kc ks Q (F0 m pc ls st0) := by
  have hF := pl_free hD hS C.2.2.2.2.2.2.1
  intro T hT X
  obtain ⟨v, st₀, t, T', Lc, h0, X', hL, e1, e2, ⟨⟨v', L', E', u2, hv, hp, hm, hP', hD'⟩, hz, hk⟩, stp⟩ := hr T hT X
  cases hv
  have hmu := stand_mu X
  rw [hT] at hmu
  rw [h0] at hz hk hm
  obtain ⟨kc2, ks2, hn, X''⟩ := stand_narrow X' (u := u + u2) (by rw [e1]; omega)
  have hS1 : va_S A s.heap T'.heap (locs ++ Lc) := ⟨Nat.le_trans hS.1 (by rw [e1]; exact hz), fun q h1 h2 => by rw [e1, hk q (Nat.lt_of_lt_of_le h1 hS.1) (fun z => h2 (hF q z))]; exact hS.2.1 q h1 h2, fun q hq => by
      rcases List.mem_append.mp hq with h | h
      · exact hS.2.2 q h
      · exact hF _ (hL q h)⟩
  obtain ⟨t2, a1, b1⟩ := kk v L' E' u2 hp kc2 ks2 hn T'.heap (locs ++ Lc) ls (by rw [e1]; exact hP') (hD'.weaken (fun _ q _ h => hF q.1 h)) hS1 hl T' rfl X''
  exact ⟨t2, stp t2 a1, b1⟩
theorem u_room {kc ks u r2 r0 : Nat} (h : 16 * kc + ks ≤ u) (hr : u + r2 ≤ r0) : kc + r2 / 16 ≤ r0 / 16 ∧ ks + r2 ≤ r0 := ⟨by omega, by omega⟩
theorem u_callV (C : Cq p s m args meth c cc y ret G A nL) (hM : Mir mi s) {y2 : MethodName} {cc2 : ByteArray} {n2 d2 r2 idx k2 : Nat} {P2 : PU} {As rest : List Value} {b ci N : Nat} {ret2 : Option FieldType} {T : u_T} {ty : Nat → FieldType} {f : Nat → Value} (M : Mu l G mi y2 cc2 n2 ret2 d2 (.ref b :: As) L E r2 P2) (d : decode cc pc = .ok (.invokevirtual idx, 3)) (hw : Wv y.cls idx y2 cc2 n2 ret2 k2) (hk : As.length = k2) (hb : b ∈ L) (hE : E b = ob ci N f) (ck : Ck ci y2.cls T N ty) (hst : st = As.reverse ++ .ref b :: rest) (hcat : (rest.map fun v => v.category).sum ≤ 8) (hR : d2 + 1 ≤ d0 ∧ 8 + (n2 + 11) + 64 * d2 ≤ 64 * d0) (hf : u + r2 ≤ r0) (kk : ∀ (v : Option Value) (L2 : List Nat) (E2 : Nat → va_E) (u2 : Nat), P2 v L2 E2 u2 → wu p l e d0 r0 s m args below meth c G A nL Q L2 E2 (u + u2) (pc + 3) lv (v.toList ++ rest)) : wu p l e d0 r0 s m args below meth c G A nL Q L E u pc lv st := by
  intro kc ks hu H locs ls hP hD hS hl
  subst hst
  obtain ⟨q0, hq⟩ := pl_at (E := E) hb
  obtain ⟨⟨w1, w2, w3, w4⟩, w5, w6⟩ := hw
  have hts := C.2.2.2.2.1
  exact u_after C hu hD hS hl (va_runV (As := As) (rest := rest) (Ts := lw_g) ⟨C.1, C.2.1, C.2.2.1, C.2.2.2.1, hts⟩ (M H.size) ⟨callB_of k2 hts (lw_goodIn w3) rfl rfl rfl (hts _ w2) (hts _ w1) w4 hR, hts _ w5, hts _ w6⟩ ⟨Pcu.blind, va_recv C.2.2.2.2.2.1 hP (ci := ci) (q0 := q0) ck.1 (by rw [hq, hE]; rfl), fun U hU hW => ⟨rfl, ⟨by rw [hU], by rw [hU]; exact hP, va_K.moved hW.alike C.2.2.2.2.2.1, hD.weaken (fun _ _ _ _ => trivial), C.2.2.2.2.2.2.2.1.pass hS (pl_free hD hS C.2.2.2.2.2.2.1) hW.alike hU, C.2.2.2.2.2.2.2.2.2.2.2.warm hW⟩, hM.warm hW⟩⟩ rfl hk hl.1 rfl (lv_room hcat) d (u_room hu hf)) kk
theorem u_callI (C : Cq p s m args meth c cc y ret G A nL) (hM : Mir mi s) {y2 : MethodName} {cc2 : ByteArray} {n2 d2 r2 idx k2 : Nat} {P2 : PU} {As rest : List Value} {b : Nat} (M : Mu l G mi y2 cc2 n2 none d2 (.ref b :: As) L E r2 P2) (d : decode cc pc = .ok (.invokespecial idx, 3)) (hw : Wi y.cls idx y2 cc2 n2 k2) (hk : As.length = k2) (hst : st = As.reverse ++ .ref b :: rest) (hcat : (rest.map fun v => v.category).sum ≤ 8) (hR : d2 + 1 ≤ d0 ∧ 8 + (n2 + 11) + 64 * d2 ≤ 64 * d0) (hf : u + r2 ≤ r0) (kk : ∀ (v : Option Value) (L2 : List Nat) (E2 : Nat → va_E) (u2 : Nat), P2 v L2 E2 u2 → wu p l e d0 r0 s m args below meth c G A nL Q L2 E2 (u + u2) (pc + 3) lv (v.toList ++ rest)) : wu p l e d0 r0 s m args below meth c G A nL Q L E u pc lv st := by
  intro kc ks hu H locs ls hP hD hS hl
  subst hst
  obtain ⟨⟨w1, w2, w3, w4⟩, w5, w6⟩ := hw
  have hts := C.2.2.2.2.1
  exact u_after C hu hD hS hl (va_runI (As := As) (rest := rest) (Ts := lw_g) ⟨C.1, C.2.1, C.2.2.1, C.2.2.2.1, hts⟩ (M H.size) ⟨callB_of k2 hts (lw_goodIn w3) rfl rfl rfl (hts _ w2) (hts _ w1) w4 hR, w5, hts _ w6⟩ ⟨Pcu.blind, fun U hU hW => ⟨rfl, ⟨by rw [hU], by rw [hU]; exact hP, va_K.moved hW.alike C.2.2.2.2.2.1, hD.weaken (fun _ _ _ _ => trivial), C.2.2.2.2.2.2.2.1.pass hS (pl_free hD hS C.2.2.2.2.2.2.1) hW.alike hU, C.2.2.2.2.2.2.2.2.2.2.2.warm hW⟩, hM.warm hW⟩⟩ rfl hk hl.1 rfl (lv_room hcat) d (u_room hu hf)) kk
theorem u_callS (C : Cq p s m args meth c cc y ret G A nL) (hM : Mir mi s) {y2 : MethodName} {cc2 : ByteArray} {n2 d2 r2 idx k2 : Nat} {P2 : PU} {As rest : List Value} {ret2 : Option FieldType} (M : Mu l G mi y2 cc2 n2 ret2 d2 As L E r2 P2) (d : decode cc pc = .ok (.invokestatic idx, 3)) (hw : Ws y.cls idx y2 cc2 n2 ret2 k2) (hk : As.length = k2) (hst : st = As.reverse ++ rest) (hcat : (rest.map fun v => v.category).sum ≤ 8) (hR : d2 + 1 ≤ d0 ∧ 8 + (n2 + 11) + 64 * d2 ≤ 64 * d0) (hf : u + r2 ≤ r0) (kk : ∀ (v : Option Value) (L2 : List Nat) (E2 : Nat → va_E) (u2 : Nat), P2 v L2 E2 u2 → wu p l e d0 r0 s m args below meth c G A nL Q L2 E2 (u + u2) (pc + 3) lv (v.toList ++ rest)) : wu p l e d0 r0 s m args below meth c G A nL Q L E u pc lv st := by
  intro kc ks hu H locs ls hP hD hS hl
  subst hst
  obtain ⟨⟨w1, w2, w3, w4⟩, w5⟩ := hw
  have hts := C.2.2.2.2.1
  exact u_after C hu hD hS hl (va_runS (As := As) (rest := rest) (Ts := lw_g) ⟨C.1, C.2.1, C.2.2.1, C.2.2.2.1, hts⟩ (M H.size) ⟨callB_of k2 hts (lw_goodIn w3) rfl rfl rfl (hts _ w2) (hts _ w1) w4 hR, hts _ w5⟩ ⟨Pcu.blind, fun U hU hW => ⟨rfl, ⟨by rw [hU], by rw [hU]; exact hP, va_K.moved hW.alike C.2.2.2.2.2.1, hD.weaken (fun _ _ _ _ => trivial), C.2.2.2.2.2.2.2.1.pass hS (pl_free hD hS C.2.2.2.2.2.2.1) hW.alike hU, C.2.2.2.2.2.2.2.2.2.2.2.warm hW⟩, hM.warm hW⟩⟩ rfl hk hl.1 rfl (lv_room hcat) d (u_room hu hf)) kk
theorem u_callIN (C : Cq p s m args meth c cc y ret G A nL) (hM : Mir mi s) {y2 : MethodName} {cc2 : ByteArray} {n2 d2 r2 idx k2 : Nat} {P2 : PU} {As rest : List Value} {b : Nat} {host : String} (M : Mu l G mi y2 cc2 n2 none d2 (.ref b :: As) L E r2 P2) (d : decode cc pc = .ok (.invokespecial idx, 3)) (hw : Wn y.cls idx y2 host cc2 n2 k2) (hk : As.length = k2) (hst : st = As.reverse ++ .ref b :: rest) (hcat : (rest.map fun v => v.category).sum ≤ 8) (hR : d2 + 1 ≤ d0 ∧ 8 + (n2 + 11) + 64 * d2 ≤ 64 * d0) (hf : u + r2 ≤ r0) (kk : ∀ (v : Option Value) (L2 : List Nat) (E2 : Nat → va_E) (u2 : Nat), P2 v L2 E2 u2 → wu p l e d0 r0 s m args below meth c G A nL Q L2 E2 (u + u2) (pc + 3) lv (v.toList ++ rest)) : wu p l e d0 r0 s m args below meth c G A nL Q L E u pc lv st := by
  intro kc ks hu H locs ls hP hD hS hl
  subst hst
  obtain ⟨⟨w1, w2, w3, w4⟩, w5, w6⟩ := hw
  have hts := C.2.2.2.2.1
  exact u_after C hu hD hS hl (va_runIN (As := As) (rest := rest) (Ts := lw_g) ⟨C.1, C.2.1, C.2.2.1, C.2.2.2.1, hts⟩ (M H.size) ⟨va_cnB k2 hts (lw_goodIn w3) rfl rfl rfl (C.2.2.2.2.2.2.2.2.2.2.2.1 _ _ _ _ w1) (hts _ w2) w4 hR, w5, hts _ w6⟩ ⟨Pcu.blind, fun U hU hW => ⟨rfl, ⟨by rw [hU], by rw [hU]; exact hP, va_K.moved hW.alike C.2.2.2.2.2.1, hD.weaken (fun _ _ _ _ => trivial), C.2.2.2.2.2.2.2.1.pass hS (pl_free hD hS C.2.2.2.2.2.2.1) hW.alike hU, C.2.2.2.2.2.2.2.2.2.2.2.warm hW⟩, hM.warm hW⟩⟩ rfl hk hl.1 rfl (lv_room hcat) d (u_room hu hf)) kk
theorem u_wid {kc ks u r0 : Nat} (h : 16 * kc + ks ≤ u) (hr : u ≤ r0) : kc ≤ r0 / 16 ∧ ks ≤ r0 := ⟨by omega, by omega⟩
theorem u_iret (C : Cq p s m args meth c cc y ret G A nL) {v : Int32} (d : decode cc pc = .ok (.ireturn, 1)) (hr : ret = some .int) (hur : u ≤ r0) (hp : Post (some (.int v)) L E u) : wu p l e d0 r0 s m args below meth c G A nL (MQ below (Qu G A Post) args s (r0 / 16) r0 A) L E u pc lv [.int v] := by
  intro kc ks hu H locs ls hP hD hS hl T hT X
  have hmu := stand_mu X
  rw [hT] at hmu
  refine W.widen (u_wid hu hur).1 (u_wid hu hur).2 ?_ T hT X
  exact W.iret C.1 C.2.1 (C.2.2.2.2.2.2.2.2.1.trans hr) (fun t ht hW => ⟨⟨_, L, E, u, rfl, hp, by rw [ht]; omega, by rw [ht]; exact hP, hD⟩, hS.F ht⟩) hS.2.2 d C.2.2.2.2.2.2.2.2.2.1
theorem u_zret (C : Cq p s m args meth c cc y ret G A nL) {v : Int32} (d : decode cc pc = .ok (.ireturn, 1)) (hr : ret = some .boolean) (hn : narrow .boolean (.int v) = .int v) (hur : u ≤ r0) (hp : Post (some (.int v)) L E u) : wu p l e d0 r0 s m args below meth c G A nL (MQ below (Qu G A Post) args s (r0 / 16) r0 A) L E u pc lv [.int v] := by
  intro kc ks hu H locs ls hP hD hS hl T hT X
  have hmu := stand_mu X
  rw [hT] at hmu
  refine W.widen (u_wid hu hur).1 (u_wid hu hur).2 ?_ T hT X
  exact W.zret C.1 C.2.1 (C.2.2.2.2.2.2.2.2.1.trans hr) hn (fun t ht hW => ⟨⟨_, L, E, u, rfl, hp, by rw [ht]; omega, by rw [ht]; exact hP, hD⟩, hS.F ht⟩) hS.2.2 d C.2.2.2.2.2.2.2.2.2.1
theorem u_vret (C : Cq p s m args meth c cc y ret G A nL) (d : decode cc pc = .ok (.return_, 1)) (hr : ret = none) (hur : u ≤ r0) (hp : Post none L E u) : wu p l e d0 r0 s m args below meth c G A nL (MQ below (Qu G A Post) args s (r0 / 16) r0 A) L E u pc lv [] := by
  intro kc ks hu H locs ls hP hD hS hl T hT X
  have hmu := stand_mu X
  rw [hT] at hmu
  refine W.widen (u_wid hu hur).1 (u_wid hu hur).2 ?_ T hT X
  exact W.vret C.1 C.2.1 (C.2.2.2.2.2.2.2.2.1.trans hr) (fun t ht hW => ⟨⟨_, L, E, u, rfl, hp, by rw [ht]; omega, by rw [ht]; exact hP, hD⟩, hS.F ht⟩) hS.2.2 d C.2.2.2.2.2.2.2.2.2.1
theorem u_aret (C : Cq p s m args meth c cc y ret G A nL) {v : Value} {rt : FieldType} (d : decode cc pc = .ok (.areturn, 1)) (hr : ret = some rt) (hrt : (∃ n, rt = .object n) ∨ ∃ t, rt = .array t) (hv : v = .null ∨ ∃ a, v = .ref a) (hur : u ≤ r0) (hp : Post (some v) L E u) : wu p l e d0 r0 s m args below meth c G A nL (MQ below (Qu G A Post) args s (r0 / 16) r0 A) L E u pc lv [v] := by
  intro kc ks hu H locs ls hP hD hS hl T hT X
  have hmu := stand_mu X
  rw [hT] at hmu
  refine W.widen (u_wid hu hur).1 (u_wid hu hur).2 ?_ T hT X
  exact W.aret C.1 C.2.1 (C.2.2.2.2.2.2.2.2.1.trans hr) hrt hv (fun t ht hW => ⟨⟨_, L, E, u, rfl, hp, by rw [ht]; omega, by rw [ht]; exact hP, hD⟩, hS.F ht⟩) hS.2.2 d C.2.2.2.2.2.2.2.2.2.1
end UQ
end
