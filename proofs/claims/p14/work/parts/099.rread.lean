def SDX (a : Nat → Nat → Int) (w x u f : Int) : Prop := f = 1 ↔ (x + a 46 w.toNat ≤ u ∧ ∀ k : Int, 0 ≤ k → k < a 46 w.toNat → rcl a w k = a 48 (x + k).toNat)
def SDI (a : Nat → Nat → Int) (w x u k g : Int) : Prop := g = 1 ↔ (x + a 46 w.toNat ≤ u ∧ ∀ j : Int, 0 ≤ j → j < k → rcl a w j = a 48 (x + j).toNat)
def LCX (a : Nat → Nat → Int) (q x u : Int) (l : List Int) (R : Nat → Int) : Prop := HLD a a q l ∧ NZL a l ∧ (∀ j : Int, x ≤ j → j < u → R j.toNat = a 48 j.toNat) ∧ R u.toNat = 0
def bix (q b : Int) : Int := if b < 0 then -1 else b - 6008 * q
def LGI (a : Nat → Nat → Int) (q x u r b : Int) : Prop := ∀ l R, LCX a q x u l R → BSI a R x l (r - 6008 * q) (bix q b)
def LGX (a : Nat → Nat → Int) (q x u f : Int) : Prop := ∀ l R, LCX a q x u l R → (f = -1 ∧ BSQ a R x l none) ∨ ((6008 * q ≤ f ∧ f < 6008 * q + a 47 q.toNat) ∧ ∃ d, l[(f - 6008 * q).toNat]? = some d ∧ rent a a f d ∧ BSQ a R x l (some d))
def OUTL (v : Nat → Int) (a : Nat → Nat → Int) (bs : List Int) : Prop := v 52 = ((bs.length : Nat) : Int) ∧ ∀ (j : Nat) (x : Int), bs[j]? = some x → a 51 j = x
def TLX (v : Nat → Int) (a : Nat → Nat → Int) (v2 : Nat → Int) (a2 : Nat → Nat → Int) (x f : Int) : Prop := ∀ bs, OUTL v a bs → (f = 1 ∧ OUTL v2 a2 (bs ++ [x])) ∨ (f = 0 ∧ bs.length = 4000)
section RRD1
variable {v v1 v2 : Nat → Int} {a a1 a2 : Nat → Nat → Int} {l : List Int} {R : Nat → Int} {w x u k g f q r b d e y : Int} {bs : List Int}
theorem SDI.init1 (h : x + a 46 w.toNat ≤ u) : SDI a w x u 0 1 := ⟨fun _ => ⟨h, fun j h1 h2 => absurd h1 (by omega)⟩, fun _ => rfl⟩
theorem SDI.init0 (h : u < x + a 46 w.toNat) : SDI a w x u 0 0 := ⟨fun e => absurd e (by decide), fun e => absurd e.1 (by omega)⟩
theorem SDI.step1 (h : SDI a w x u k g) (hg : g = 1) (e : rcl a w k = a 48 (x + k).toNat) : SDI a w x u (k + 1) 1 := ⟨fun _ => ⟨(h.mp hg).1, fun j h1 h2 => by
  by_cases c : j < k
  · exact (h.mp hg).2 j h1 c
  · rw [show j = k by omega]; exact e⟩, fun _ => rfl⟩
theorem SDI.step0 (hk : 0 ≤ k) (e : ¬ rcl a w k = a 48 (x + k).toNat) : SDI a w x u (k + 1) 0 := ⟨fun e => absurd e (by decide), fun q => absurd (q.2 k hk (by omega)) e⟩
theorem SDI.fin (h : SDI a w x u k g) (hk : k = a 46 w.toNat) : SDX a w x u g := by
  subst hk
  exact h
theorem SDI.no (h : SDI a w x u k g) (hg : g = 0) (hk : k ≤ a 46 w.toNat) : SDX a w x u g := ⟨fun e => absurd e (by omega), fun q => absurd (h.mpr ⟨q.1, fun j h1 h2 => q.2 j h1 (by omega)⟩) (by omega)⟩
theorem SDX.std (h : SDX a w x u f) (hr : rent a a w d) (hd : (1 ≤ rlen a d ∧ rlen a d ≤ 4) ∧ ∀ k : Int, 0 ≤ k → k < rlen a d → dcl a d k ≠ 0) (hR : ∀ j : Int, x ≤ j → j < u → R j.toNat = a 48 j.toNat) (hu : R u.toNat = 0) (hx : x ≤ u) : f = 1 ↔ STD a R x d := by
  obtain ⟨e1, e2⟩ := hr.rc1 rfl rfl
  unfold SDX at h
  rw [h, e1]
  refine ⟨fun g k h1 h2 => ?_, fun g => ?_⟩
  · rw [← e2 k, hR (x + k) (by omega) (by omega)]
    exact g.2 k h1 h2
  · have le : x + rlen a d ≤ u := by
      by_cases c : x + rlen a d ≤ u
      · exact c
      · have q := g (u - x) (by omega) (by omega)
        rw [show x + (u - x) = u by omega, hu] at q
        exact absurd q (hd.2 (u - x) (by omega) (by omega))
    refine ⟨le, fun k h1 h2 => ?_⟩
    rw [e2 k, g k h1 h2, hR (x + k) (by omega) (by omega)]
theorem HLD.tt (h : HLD a a2 q l) (hq : 0 ≤ q) (h0 : 6008 * q ≤ r) (h1 : r < 6008 * q + a2 47 q.toNat) : ∃ d, l[(r - 6008 * q).toNat]? = some d ∧ rent a a2 r d := by
  have e := h.1
  have lt : (r - 6008 * q).toNat < l.length := by omega
  have g := List.getElem?_eq_getElem lt
  refine ⟨_, g, ?_⟩
  have w := h.2.2 _ _ g
  rw [show 6008 * q + (((r - 6008 * q).toNat : Nat) : Int) = r by omega] at w
  exact w
theorem LGI.init : LGI a q x u (6008 * q) (-1) := fun l R _ => by
  rw [show 6008 * q - 6008 * q = 0 by omega]
  exact BSI.zero
theorem LGI.skip (h : LGI a q x u r b) (hq : q = 0 ∨ q = 1) (hr : 6008 * q ≤ r ∧ r < 6008 * q + a 47 q.toNat) (hs : SDX a r x u f) (hf : f ≠ 1) (hx : x ≤ u) : LGI a q x u (r + 1) b := fun l R hc => by
  obtain ⟨c1, c2, c3, c4⟩ := hc
  obtain ⟨d, d1, d2⟩ := c1.tt (by omega) hr.1 hr.2
  have g := h l R ⟨c1, c2, c3, c4⟩
  rw [show r + 1 - 6008 * q = (r - 6008 * q) + 1 by omega]
  exact g.skip (by omega) d1 (fun q2 => hf ((hs.std d2 (c2 _ _ d1) c3 c4 hx).mpr q2))
theorem bix_p (h : 0 ≤ b) : bix q b = b - 6008 * q := if_neg (by omega)
theorem LGI.less (h : LGI a q x u r b) (hq : q = 0 ∨ q = 1) (hr : 6008 * q ≤ r ∧ r < 6008 * q + a 47 q.toNat) (hb : 6008 * q ≤ b ∧ b < r) (hl : a 46 r.toNat ≤ a 46 b.toNat) : LGI a q x u (r + 1) b := fun l R hc => by
  obtain ⟨c1, c2, c3, c4⟩ := hc
  obtain ⟨d, d1, d2⟩ := c1.tt (by omega) hr.1 hr.2
  obtain ⟨e, e1, e2⟩ := c1.tt (r := b) (by omega) hb.1 (by omega)
  have g := h l R ⟨c1, c2, c3, c4⟩
  rw [bix_p (by omega)] at g
  rw [show r + 1 - 6008 * q = (r - 6008 * q) + 1 by omega, bix_p (by omega)]
  have w1 := (d2.rc1 rfl rfl).1
  have w2 := (e2.rc1 rfl rfl).1
  exact g.less (by omega) d1 (by omega) e1 (by omega)
theorem LGI.take (h : LGI a q x u r b) (hq : q = 0 ∨ q = 1) (hr : 6008 * q ≤ r ∧ r < 6008 * q + a 47 q.toNat) (hs : SDX a r x u f) (hf : f = 1) (hx : x ≤ u) (hb : b < 0 ∨ ((6008 * q ≤ b ∧ b < r) ∧ a 46 b.toNat < a 46 r.toNat)) : LGI a q x u (r + 1) r := fun l R hc => by
  obtain ⟨c1, c2, c3, c4⟩ := hc
  obtain ⟨d, d1, d2⟩ := c1.tt (by omega) hr.1 hr.2
  have g := h l R ⟨c1, c2, c3, c4⟩
  rw [show r + 1 - 6008 * q = (r - 6008 * q) + 1 by omega, bix_p (by omega)]
  refine g.take (by omega) d1 ((hs.std d2 (c2 _ _ d1) c3 c4 hx).mp hf) ?_
  rcases hb with hb | ⟨hb, hl⟩
  · exact Or.inl (if_pos hb)
  · obtain ⟨e, e1, e2⟩ := c1.tt (r := b) (by omega) hb.1 (by omega)
    have w1 := (d2.rc1 rfl rfl).1
    have w2 := (e2.rc1 rfl rfl).1
    refine Or.inr ⟨e, ?_, by omega⟩
    rw [bix_p (by omega)]
    exact e1
theorem LGX.mk (h : LGI a q x u r b) (hq : q = 0 ∨ q = 1) (hr : r = 6008 * q + a 47 q.toNat) (hb : b = -1 ∨ (6008 * q ≤ b ∧ b < r)) : LGX a q x u b := fun l R hc => by
  have g := h l R hc
  have e := hc.1.1
  rw [show r - 6008 * q = ((l.length : Nat) : Int) by omega] at g
  rcases hb with hb | hb
  · subst hb
    exact Or.inl ⟨rfl, g.none (by unfold bix; rw [if_pos (by decide)]; decide)⟩
  · obtain ⟨d, d1, d2⟩ := hc.1.tt (r := b) (by omega) hb.1 (by omega)
    rw [bix_p (by omega)] at g
    exact Or.inr ⟨⟨hb.1, by omega⟩, d, d1, d2, g.some (by omega) d1⟩
theorem OUTL.fr (h : OUTL v a bs) (h52 : v2 52 = v 52) (h51 : a2 51 = a 51) : OUTL v2 a2 bs := ⟨h52.trans h.1, fun j x e => by rw [h51]; exact h.2 j x e⟩
theorem OUTL.snoc (h : OUTL v a bs) (h52 : v2 52 = v 52 + 1) (h51 : a2 51 = va_up (a 51) (v 52).toNat x) : OUTL v2 a2 (bs ++ [x]) := by
  have e := h.1
  refine ⟨by rw [len1]; omega, fun j y ej => ?_⟩
  rw [h51]
  rcases ap1 ej with ⟨c, ej⟩ | ⟨c, ej⟩
  · rw [va_up_ne _ _ (by omega)]
    exact h.2 j y ej
  · rw [show j = (v 52).toNat by omega, va_up_self]
    exact ej
end RRD1
def RCQ (a : Nat → Nat → Int) (q u : Int) (l0 l1 : List Int) (R : Nat → Int) : Prop := (HLD a a 0 l0 ∧ HLD a a 1 l1) ∧ (NZL a l0 ∧ NZL a l1) ∧ ((∀ (j : Nat) (d : Int), l0[j]? = some d → rol d ≠ 3) ∧ ∀ (j : Nat) (d : Int), l1[j]? = some d → rol d ≠ 2) ∧ (∀ j : Int, q ≤ j → j < u → R j.toNat = a 48 j.toNat ∧ R j.toNat ≠ 0) ∧ R u.toNat = 0
def RWC (v : Nat → Int) (a : Nat → Nat → Int) (q u : Int) (l0 l1 : List Int) (R : Nat → Int) (bs : List Int) : Prop := RCQ a q u l0 l1 R ∧ OUTL v a bs ∧ MRC a l0 l1 R (q, 0, 0, 1, 1) bs
def RWX (v : Nat → Int) (a : Nat → Nat → Int) (v2 : Nat → Int) (a2 : Nat → Nat → Int) (q u f : Int) : Prop := ∀ l0 l1 R bs, RWC v a q u l0 l1 R bs → (f = 0 ∧ ∃ g b2, MRC a l0 l1 R (u, g, 0, 1, 1) b2 ∧ OUTL v2 a2 b2) ∨ (f = 9 ∧ RWG a l0 l1 R) ∨ (f = 6 ∧ ROV a l0 l1 R 4000)
def RW8 (v : Nat → Int) (a : Nat → Nat → Int) (v1 : Nat → Int) (a1 : Nat → Nat → Int) (q u pt g x : Int) : Prop := ∀ l0 l1 R bs, RWC v a q u l0 l1 R bs → ∃ b1, MRC a l0 l1 R (x, pt, g, 1, 1) b1 ∧ OUTL v1 a1 b1
def RRB (a : Nat → Nat → Int) (l0 l1 : List Int) (R : Nat → Int) (x pt g : Int) (b1 : List Int) (r d : Int) : Prop := MRC a l0 l1 R (x, pt, g, 1, 1) b1 ∧ R x.toNat ≠ 0 ∧ rent a a r d ∧ BSQ a R x (if pt = 0 then l0 else l1) (some d) ∧ (g = 1 → SMR a d)
def RWB (v : Nat → Int) (a : Nat → Nat → Int) (v1 : Nat → Int) (a1 : Nat → Nat → Int) (q u pt g x r : Int) : Prop := ∀ l0 l1 R bs, RWC v a q u l0 l1 R bs → ∃ b1 d, RRB a l0 l1 R x pt g b1 r d ∧ OUTL v1 a1 b1
def RW6 (v : Nat → Int) (a : Nat → Nat → Int) (v1 : Nat → Int) (a1 : Nat → Nat → Int) (q u pt g x r k : Int) : Prop := ∀ l0 l1 R bs, RWC v a q u l0 l1 R bs → ∃ b1 d, RRB a l0 l1 R x pt g b1 r d ∧ 0 ≤ d ∧ OUTL v1 a1 (b1 ++ rlt a d g k.toNat)
def RW7 (v : Nat → Int) (a : Nat → Nat → Int) (v1 : Nat → Int) (a1 : Nat → Nat → Int) (q u pt g x r : Int) : Prop := ∀ l0 l1 R bs, RWC v a q u l0 l1 R bs → ∃ b1 d, RRB a l0 l1 R x pt g b1 r d ∧ OUTL v1 a1 (b1 ++ (if 0 ≤ d then rout a d g else []))
section RRD2
variable {v v1 v2 v3 : Nat → Int} {a a1 a2 a3 : Nat → Nat → Int} {l0 l1 : List Int} {R : Nat → Int} {w x u k g g2 f q r b d e y z c pt p2 : Int} {bs : List Int}
theorem rent.r44 (hr : rent a a2 r d) : (0 ≤ d ∧ a2 44 r.toNat = d ∧ rol d = 4) ∨ (d < 0 ∧ a2 44 r.toNat = -1 - rol d ∧ 0 ≤ rol d ∧ rol d ≤ 3) := by
  by_cases c : 0 ≤ d
  · exact Or.inl ⟨c, (hr.1 c).1, if_pos c⟩
  · have e : rol d = (-1 - d) % 4 := if_neg c
    have h := (hr.2 (by omega)).1
    exact Or.inr ⟨by omega, by rw [e]; exact h, by omega, by omega⟩
theorem rlt_len : ∀ n : Nat, (rlt a d g n).length = n := by
  intro n
  induction n with
  | zero => rfl
  | succ n ih =>
    show (rlt a d g n ++ [_]).length = n + 1
    rw [len1, ih]
theorem RCQ.lcx (h : RCQ a q u l0 l1 R) (hp : pt = 0 ∨ pt = 1) (hx : q ≤ x) : LCX a pt x u (if pt = 0 then l0 else l1) R := by
  obtain ⟨⟨h1, h2⟩, ⟨h3, h4⟩, _, h5, h6⟩ := h
  rcases hp with e | e
  · subst e
    rw [if_pos rfl]
    exact ⟨h1, h3, fun j g1 g2 => (h5 j (by omega) g2).1, h6⟩
  · subst e
    rw [if_neg (by decide)]
    exact ⟨h2, h4, fun j g1 g2 => (h5 j (by omega) g2).1, h6⟩
theorem RW8.init : RW8 v a v a q u 0 0 q := fun _ _ _ bs h => ⟨bs, h.2.2, h.2.1⟩
theorem RW8.go (h : RW8 v a v1 a1 q u pt g x) (hp : pt = 0 ∨ pt = 1) (hL : LGX a pt x u r) (hr : 0 ≤ r) (hs : g = 1 → (0 ≤ a 44 r.toNat ∧ 97 ≤ a 14 (8 * a 44 r.toNat).toNat ∧ a 14 (8 * a 44 r.toNat).toNat ≤ 122)) (hx : q ≤ x ∧ x < u) : RWB v a v1 a1 q u pt g x r := fun l0 l1 R bs hc => by
  obtain ⟨b1, g1, g2⟩ := h l0 l1 R bs hc
  rcases hL _ _ (hc.1.lcx hp hx.1) with ⟨w, _⟩ | ⟨w, d, d1, d2, d3⟩
  · omega
  · refine ⟨b1, d, ⟨g1, (hc.1.2.2.2.1 x hx.1 hx.2).2, d2, d3, fun e => ?_⟩, g2⟩
    have s := hs e
    rcases d2.r44 with ⟨q1, q2, _⟩ | ⟨q1, q2, q3, _⟩
    · rw [q2] at s
      exact s
    · omega
theorem RW8.fin (h : RW8 v a v1 a1 q u pt g x) (hx : x = u) (hg : g = 0) (hf : f = 0) (h52 : v2 52 = v1 52) (h51 : a2 51 = a1 51) : RWX v a v2 a2 q u f := fun l0 l1 R bs hc => by
  obtain ⟨b1, g1, g2⟩ := h l0 l1 R bs hc
  subst hx
  subst hg
  exact Or.inl ⟨hf, pt, b1, g1, g2.fr h52 h51⟩
theorem RWB.fr (h : RWB v a v1 a1 q u pt g x r) (h52 : v2 52 = v1 52) (h51 : a2 51 = a1 51) : RWB v a v2 a2 q u pt g x r := fun l0 l1 R bs hc => by
  obtain ⟨b1, d, g1, g2⟩ := h l0 l1 R bs hc
  exact ⟨b1, d, g1, g2.fr h52 h51⟩
theorem RW6.step (h : RW6 v a v1 a1 q u pt g x r k) (hk : 0 ≤ k) (ht : TLX v1 a1 v2 a2 z f) (hf : f = 1) (hz : z = a 14 (8 * a 44 r.toNat + k).toNat - (if g = 1 ∧ k = 0 then 32 else 0)) : RW6 v a v2 a2 q u pt g x r (k + 1) := fun l0 l1 R bs hc => by
  obtain ⟨b1, d, g1, g2, g3⟩ := h l0 l1 R bs hc
  refine ⟨b1, d, g1, g2, ?_⟩
  have e : a 44 r.toNat = d := by rcases g1.2.2.1.r44 with ⟨q1, q2, _⟩ | ⟨q1, q2, q3, _⟩ <;> omega
  rcases ht _ g3 with ⟨_, w⟩ | ⟨w, _⟩
  · rw [show (k + 1).toNat = k.toNat + 1 by omega]
    show OUTL v2 a2 (b1 ++ (rlt a d g k.toNat ++ [a 14 (8 * d + ((k.toNat : Nat) : Int)).toNat - (if g = 1 ∧ k.toNat = 0 then 32 else 0)]))
    rw [← List.append_assoc, show ((k.toNat : Nat) : Int) = k by omega]
    have e2 : (if g = 1 ∧ k.toNat = 0 then (32 : Int) else 0) = (if g = 1 ∧ k = 0 then 32 else 0) := by
      by_cases q1 : g = 1 ∧ k = 0
      · rw [if_pos q1, if_pos ⟨q1.1, by omega⟩]
      · rw [if_neg q1, if_neg (fun q2 => q1 ⟨q2.1, by omega⟩)]
    have hz2 : z = a 14 (8 * d + k).toNat - (if g = 1 ∧ k = 0 then 32 else 0) := by rw [hz, e]
    rw [e2, ← hz2]
    exact w
  · omega
theorem RW6.ov (h : RW6 v a v1 a1 q u pt g x r k) (hk : 0 ≤ k ∧ k < a 12 (a 44 r.toNat).toNat) (ht : TLX v1 a1 v2 a2 z f) (hf : f = 0) : RWX v a v3 a3 q u 6 := fun l0 l1 R bs hc => by
  obtain ⟨b1, d, g1, g2, g3⟩ := h l0 l1 R bs hc
  have e : a 44 r.toNat = d := by rcases g1.2.2.1.r44 with ⟨q1, q2, _⟩ | ⟨q1, q2, q3, _⟩ <;> omega
  rcases ht _ g3 with ⟨w, _⟩ | ⟨_, w⟩
  · omega
  · refine Or.inr (Or.inr ⟨rfl, (g1.1.row g1.2.1 g1.2.2.2.1 g1.2.2.2.2).ov ?_⟩)
    rw [List.length_append, rlt_len] at w
    have e3 : rout a d g = rlt a d g (a 12 d.toNat).toNat := if_pos g2
    rw [List.length_append, e3, rlt_len]
    rw [e] at hk
    omega
theorem RW6.fin (h : RW6 v a v1 a1 q u pt g x r k) (hk : k = a 12 (a 44 r.toNat).toNat) : RW7 v a v1 a1 q u pt g x r := fun l0 l1 R bs hc => by
  obtain ⟨b1, d, g1, g2, g3⟩ := h l0 l1 R bs hc
  have e : a 44 r.toNat = d := by rcases g1.2.2.1.r44 with ⟨q1, q2, _⟩ | ⟨q1, q2, q3, _⟩ <;> omega
  refine ⟨b1, d, g1, ?_⟩
  have e3 : rout a d g = rlt a d g (a 12 d.toNat).toNat := if_pos g2
  rw [if_pos g2, e3, ← e, ← hk, e]
  exact g3
theorem RW7.next (h : RW7 v a v1 a1 q u pt g x r) (hi : a 44 r.toNat ≠ -3 ∧ a 44 r.toNat ≠ -4) (hg2 : (g2 = 1 ∧ a 44 r.toNat = -1) ∨ (g2 = 0 ∧ a 44 r.toNat ≠ -1)) (hy : y = x + a 46 r.toNat) : RW8 v a v1 a1 q u pt g2 y := fun l0 l1 R bs hc => by
  obtain ⟨b1, d, g1, g3⟩ := h l0 l1 R bs hc
  have w := g1.1.row g1.2.1 g1.2.2.2.1 g1.2.2.2.2
  have e1 := (g1.2.2.1.rc1 rfl rfl).1
  have k := g1.2.2.1.r44
  have e2 : ngp d pt = pt := by
    unfold ngp
    rw [if_neg (by omega), if_neg (by omega)]
  have e3 : ngh d = g2 := by
    unfold ngh
    split <;> omega
  have e4 : (if 0 ≤ d then rout a d g else []) = rout a d g := by
    by_cases c : 0 ≤ d
    · rw [if_pos c]
    · rw [if_neg c]
      unfold rout
      rw [if_neg c, if_neg (by omega), if_neg (by omega)]
  rw [e2, e3, ← e1, ← hy] at w
  rw [e4] at g3
  exact ⟨_, w, g3⟩
end RRD2
def SMX (a : Nat → Nat → Int) (w f : Int) : Prop := f = 1 ↔ (0 ≤ a 44 w.toNat ∧ 97 ≤ a 14 (8 * a 44 w.toNat).toNat ∧ a 14 (8 * a 44 w.toNat).toNat ≤ 122)
section RRD3
variable {v v2 : Nat → Int} {a a1 a2 : Nat → Nat → Int} {l : List Int} {q x u f w : Int} {V A : List Nat} {d k r : Int}
theorem rlen_cg (h13 : a1 13 = a 13) (h16 : a1 16 = a 16) : rlen a1 d = rlen a d := by
  unfold rlen
  rw [h13, h16]
theorem dcl_cg (h15 : a1 15 = a 15) (h17 : a1 17 = a 17) : dcl a1 d k = dcl a d k := by
  unfold dcl
  rw [h15, h17]
theorem rent_cg (h : rent a a r d) (h44 : a1 44 = a 44) (h45 : a1 45 = a 45) (h46 : a1 46 = a 46) (h13 : a1 13 = a 13) (h16 : a1 16 = a 16) : rent a1 a1 r d := by
  unfold rent at h ⊢
  rw [h44, h45, h46, h13, h16]
  exact h
theorem STD_cg {R : Nat → Int} {p : Int} (h13 : a1 13 = a 13) (h16 : a1 16 = a 16) (h15 : a1 15 = a 15) (h17 : a1 17 = a 17) : STD a1 R p d ↔ STD a R p d := by
  unfold STD
  rw [rlen_cg h13 h16]
  exact ⟨fun g k h1 h2 => by rw [← dcl_cg h15 h17]; exact g k h1 h2, fun g k h1 h2 => by rw [dcl_cg h15 h17]; exact g k h1 h2⟩
theorem BSQ_cg {R : Nat → Int} {p : Int} {c : Option Int} (h13 : a1 13 = a 13) (h16 : a1 16 = a 16) (h15 : a1 15 = a 15) (h17 : a1 17 = a 17) (h : BSQ a1 R p l c) : BSQ a R p l c := by
  obtain ⟨x, g1, g2⟩ := h
  refine ⟨x, ?_, g2⟩
  rcases g1 with ⟨e1, g1⟩ | ⟨e1, d, g1, g3, g4⟩
  · exact Or.inl ⟨e1, fun j d hj hd hs => g1 j d hj hd ((STD_cg h13 h16 h15 h17).mpr hs)⟩
  · refine Or.inr ⟨e1, d, g1, (STD_cg h13 h16 h15 h17).mp g3, fun j e hj he hs => ?_⟩
    have w := g4 j e hj he ((STD_cg h13 h16 h15 h17).mpr hs)
    rw [rlen_cg h13 h16, rlen_cg h13 h16] at w
    exact w
theorem LGX.fr (h : LGX a1 q x u f) (hf : fr V A v a v2 a1) (c13 : A.contains 13 = false := by rfl) (c15 : A.contains 15 = false := by rfl) (c16 : A.contains 16 = false := by rfl) (c17 : A.contains 17 = false := by rfl) (c44 : A.contains 44 = false := by rfl) (c45 : A.contains 45 = false := by rfl) (c46 : A.contains 46 = false := by rfl) (c47 : A.contains 47 = false := by rfl) (c48 : A.contains 48 = false := by rfl) : LGX a q x u f := fun l R hc => by
  obtain ⟨h1, h2, h3, h4⟩ := hc
  have e13 := hf.2 13 c13
  have e15 := hf.2 15 c15
  have e16 := hf.2 16 c16
  have e17 := hf.2 17 c17
  have e44 := hf.2 44 c44
  have e45 := hf.2 45 c45
  have e46 := hf.2 46 c46
  have e47 := hf.2 47 c47
  have e48 := hf.2 48 c48
  have k1 : HLD a1 a1 q l := ((h1.fr e44 e45 e46 (by rw [e47])).cg e13 e16)
  have k2 : NZL a1 l := fun j d hd => by
    rw [rlen_cg e13 e16]
    exact ⟨(h2 j d hd).1, fun k g1 g2 => by rw [dcl_cg e15 e17]; exact (h2 j d hd).2 k g1 g2⟩
  have k3 : LCX a1 q x u l R := ⟨k1, k2, fun j g1 g2 => by rw [e48]; exact h3 j g1 g2, h4⟩
  rcases h l R k3 with ⟨g1, g2⟩ | ⟨g1, d, g2, g3, g4⟩
  · exact Or.inl ⟨g1, BSQ_cg e13 e16 e15 e17 g2⟩
  · rw [e47] at g1
    exact Or.inr ⟨g1, d, g2, rent_cg g3 e44.symm e45.symm e46.symm e13.symm e16.symm, BSQ_cg e13 e16 e15 e17 g4⟩
theorem SMX.fr (h : SMX a1 w f) (hf : fr V A v a v2 a1) (c14 : A.contains 14 = false := by rfl) (c44 : A.contains 44 = false := by rfl) : SMX a w f := by
  unfold SMX at h ⊢
  rw [← hf.2 14 c14, ← hf.2 44 c44]
  exact h
end RRD3
def RAC (v : Nat → Int) (a : Nat → Nat → Int) (l0 l1 : List Int) (R : Nat → Int) : Prop := (HLD a a 0 l0 ∧ HLD a a 1 l1) ∧ (NZL a l0 ∧ NZL a l1) ∧ ((∀ (j : Nat) (d : Int), l0[j]? = some d → rol d ≠ 3) ∧ ∀ (j : Nat) (d : Int), l1[j]? = some d → rol d ≠ 2) ∧ ∀ j : Nat, (((j : Nat) : Int) < v 50 → R j = a 48 j) ∧ (v 50 ≤ ((j : Nat) : Int) → R j = 0)
def RAI (v : Nat → Int) (a : Nat → Nat → Int) (v1 : Nat → Int) (a1 : Nat → Nat → Int) (x g : Int) : Prop := ∀ l0 l1 R, RAC v a l0 l1 R → ∃ bs, MRC a l0 l1 R (x, 0, 0, g, 0) bs ∧ OUTL v1 a1 bs
def RAW (v : Nat → Int) (a : Nat → Nat → Int) (v1 : Nat → Int) (a1 : Nat → Nat → Int) (x : Int) : Prop := ∀ l0 l1 R, RAC v a l0 l1 R → ∃ bs, MRC a l0 l1 R (x, 0, 0, 1, 1) bs ∧ OUTL v1 a1 bs
def RAX (v : Nat → Int) (a : Nat → Nat → Int) (v2 : Nat → Int) (a2 : Nat → Nat → Int) (f : Int) : Prop := ∀ l0 l1 R, RAC v a l0 l1 R → (f = 0 ∧ ∃ bs, RFN a l0 l1 R bs ∧ OUTL v2 a2 bs) ∨ (f ≠ 0 ∧ (RWG a l0 l1 R ∨ ROV a l0 l1 R 4000))
section RRD4
variable {v v1 v2 v3 : Nat → Int} {a a1 a2 a3 : Nat → Nat → Int} {l0 l1 : List Int} {R : Nat → Int} {x y g f w f1 : Int}
theorem RAI.init (h : v1 52 = 0) : RAI v a v1 a1 0 0 := fun l0 l1 R _ => ⟨[], MRC.zero, h, fun j x e => by simp at e⟩
theorem RAW.rwc (h : RAW v a v1 a1 x) (h48 : a1 48 = a 48) (hA : a1 13 = a 13 ∧ a1 15 = a 15 ∧ a1 16 = a 16 ∧ a1 17 = a 17 ∧ a1 44 = a 44 ∧ a1 45 = a 45 ∧ a1 46 = a 46 ∧ a1 47 = a 47) (hm : ∀ l0 l1 R s bs, MRC a l0 l1 R s bs → MRC a1 l0 l1 R s bs) (hx : 0 ≤ x ∧ x ≤ y ∧ y ≤ v 50) (hn : ∀ j : Int, x ≤ j → j < y → a 48 j.toNat ≠ 0) (he : y = v 50 ∨ a 48 y.toNat = 0) (hc : RAC v a l0 l1 R) : ∃ bs, RWC v1 a1 x y l0 l1 R bs := by
  obtain ⟨bs, g1, g2⟩ := h l0 l1 R hc
  obtain ⟨⟨c1, c2⟩, ⟨c3, c4⟩, c5, c6⟩ := hc
  obtain ⟨e13, e15, e16, e17, e44, e45, e46, e47⟩ := hA
  have nz : ∀ l, NZL a l → NZL a1 l := fun l hl j d hd => by
    rw [rlen_cg e13 e16]
    exact ⟨(hl j d hd).1, fun k k1 k2 => by rw [dcl_cg e15 e17]; exact (hl j d hd).2 k k1 k2⟩
  refine ⟨bs, ⟨⟨(c1.fr e44 e45 e46 (by rw [e47])).cg e13 e16, (c2.fr e44 e45 e46 (by rw [e47])).cg e13 e16⟩, ⟨nz _ c3, nz _ c4⟩, c5, fun j j1 j2 => ?_, ?_⟩, g2, hm _ _ _ _ _ g1⟩
  · have e := (c6 j.toNat).1 (by omega)
    rw [h48, e]
    exact ⟨rfl, hn j j1 j2⟩
  · by_cases q : y = v 50
    · exact (c6 y.toNat).2 (by omega)
    · rw [(c6 y.toNat).1 (by omega)]
      rcases he with he | he
      · exact absurd he q
      · exact he
theorem rout_cg {d h : Int} (h12 : a1 12 = a 12) (h14 : a1 14 = a 14) : rout a1 d h = rout a d h := by
  have e : ∀ n : Nat, rlt a1 d h n = rlt a d h n := by
    intro n
    induction n with
    | zero => rfl
    | succ n ih =>
      show rlt a1 d h n ++ [_] = rlt a d h n ++ [_]
      rw [ih, h14]
  unfold rout
  rw [e, h12]
theorem SMR_cg {d : Int} (h14 : a1 14 = a 14) : SMR a1 d ↔ SMR a d := by
  unfold SMR
  rw [h14]
theorem mst_cg {s s2 : Int × Int × Int × Int × Int} {o : List Int} (h12 : a1 12 = a 12) (h13 : a1 13 = a 13) (h14 : a1 14 = a 14) (h15 : a1 15 = a 15) (h16 : a1 16 = a 16) (h17 : a1 17 = a 17) (h : mst a1 l0 l1 R s s2 o) : mst a l0 l1 R s s2 o := by
  rcases h with h | h | ⟨p1, p2, d, p3, p4, p5, p6⟩ | h
  · exact Or.inl h
  · exact Or.inr (Or.inl h)
  · rw [rlen_cg h13 h16] at p5
    rw [rout_cg h12 h14] at p6
    exact Or.inr (Or.inr (Or.inl ⟨p1, p2, d, BSQ_cg h13 h16 h15 h17 p3, fun e => (SMR_cg h14).mp (p4 e), p5, p6⟩))
  · exact Or.inr (Or.inr (Or.inr h))
theorem mrn_cg (h12 : a1 12 = a 12) (h13 : a1 13 = a 13) (h14 : a1 14 = a 14) (h15 : a1 15 = a 15) (h16 : a1 16 = a 16) (h17 : a1 17 = a 17) : ∀ (k : Nat) (s s2 : Int × Int × Int × Int × Int) (o : List Int), mrn a1 l0 l1 R k s s2 o → mrn a l0 l1 R k s s2 o := by
  intro k
  induction k with
  | zero => intro s s2 o h; exact h
  | succ k ih =>
    intro s s2 o h
    obtain ⟨t, o1, o2, g1, g2, g3⟩ := h
    exact ⟨t, o1, o2, mst_cg h12 h13 h14 h15 h16 h17 g1, ih _ _ _ g2, g3⟩
theorem MRC_cg {s : Int × Int × Int × Int × Int} {bs : List Int} (h12 : a1 12 = a 12) (h13 : a1 13 = a 13) (h14 : a1 14 = a 14) (h15 : a1 15 = a 15) (h16 : a1 16 = a 16) (h17 : a1 17 = a 17) (h : MRC a1 l0 l1 R s bs) : MRC a l0 l1 R s bs := by
  obtain ⟨k, g⟩ := h
  exact ⟨k, mrn_cg h12 h13 h14 h15 h16 h17 _ _ _ _ g⟩
theorem MSB_cg {s : Int × Int × Int × Int × Int} (h13 : a1 13 = a 13) (h14 : a1 14 = a 14) (h15 : a1 15 = a 15) (h16 : a1 16 = a 16) (h17 : a1 17 = a 17) (h : MSB a1 l0 l1 R s) : MSB a l0 l1 R s := by
  obtain ⟨w, h⟩ := h
  refine ⟨w, ?_⟩
  rcases h with ⟨h1, h2 | ⟨h2, d, h3, h4⟩⟩ | h
  · exact Or.inl ⟨h1, Or.inl (BSQ_cg h13 h16 h15 h17 h2)⟩
  · exact Or.inl ⟨h1, Or.inr ⟨h2, d, BSQ_cg h13 h16 h15 h17 h3, fun q => h4 ((SMR_cg h14).mpr q)⟩⟩
  · exact Or.inr h
theorem RWG_cg (h12 : a1 12 = a 12) (h13 : a1 13 = a 13) (h14 : a1 14 = a 14) (h15 : a1 15 = a 15) (h16 : a1 16 = a 16) (h17 : a1 17 = a 17) (h : RWG a1 l0 l1 R) : RWG a l0 l1 R := by
  obtain ⟨s, bs, g1, g2⟩ := h
  exact ⟨s, bs, MRC_cg h12 h13 h14 h15 h16 h17 g1, MSB_cg h13 h14 h15 h16 h17 g2⟩
theorem ROV_cg {n : Nat} (h12 : a1 12 = a 12) (h13 : a1 13 = a 13) (h14 : a1 14 = a 14) (h15 : a1 15 = a 15) (h16 : a1 16 = a 16) (h17 : a1 17 = a 17) (h : ROV a1 l0 l1 R n) : ROV a l0 l1 R n := by
  obtain ⟨s, bs, g1, g2⟩ := h
  exact ⟨s, bs, MRC_cg h12 h13 h14 h15 h16 h17 g1, g2⟩
theorem RFN_cg {bs : List Int} (h12 : a1 12 = a 12) (h13 : a1 13 = a 13) (h14 : a1 14 = a 14) (h15 : a1 15 = a 15) (h16 : a1 16 = a 16) (h17 : a1 17 = a 17) (h : RFN a1 l0 l1 R bs) : RFN a l0 l1 R bs := by
  obtain ⟨s, g1, g2⟩ := h
  exact ⟨s, MRC_cg h12 h13 h14 h15 h16 h17 g1, g2⟩
def KTA (a a1 : Nat → Nat → Int) : Prop := (a1 12 = a 12 ∧ a1 13 = a 13 ∧ a1 14 = a 14 ∧ a1 15 = a 15 ∧ a1 16 = a 16 ∧ a1 17 = a 17) ∧ (a1 44 = a 44 ∧ a1 45 = a 45 ∧ a1 46 = a 46 ∧ a1 47 = a 47) ∧ a1 48 = a 48
theorem KTA.fr {V A : List Nat} (hf : fr V A v a v1 a1) (hc : ([12, 13, 14, 15, 16, 17, 44, 45, 46, 47, 48] : List Nat).all (fun k => !A.contains k) = true) : KTA a a1 := by
  have k : ∀ j, ([12, 13, 14, 15, 16, 17, 44, 45, 46, 47, 48] : List Nat).contains j = true → a1 j = a j := fun j hj => hf.2 j (by
    have w := List.all_eq_true.mp hc j (List.contains_iff_mem.mp hj)
    simpa using w)
  exact ⟨⟨k 12 rfl, k 13 rfl, k 14 rfl, k 15 rfl, k 16 rfl, k 17 rfl⟩, ⟨k 44 rfl, k 45 rfl, k 46 rfl, k 47 rfl⟩, k 48 rfl⟩
theorem RAW.run (h : RAW v a v1 a1 x) (hk : KTA a a1) (hx : 0 ≤ x ∧ x ≤ y ∧ y ≤ v 50) (hn : ∀ j : Int, x ≤ j → j < y → a 48 j.toNat ≠ 0) (he : y = v 50 ∨ a 48 y.toNat = 0) (hw : RWX v1 a1 v2 a2 x y f) : (f = 0 → RAI v a v2 a2 y 1) ∧ (f ≠ 0 → RAX v a v3 a3 f) := by
  obtain ⟨⟨k12, k13, k14, k15, k16, k17⟩, ⟨k44, k45, k46, k47⟩, k48⟩ := hk
  have go : ∀ l0 l1 R, RAC v a l0 l1 R → (f = 0 ∧ ∃ g b2, MRC a1 l0 l1 R (y, g, 0, 1, 1) b2 ∧ OUTL v2 a2 b2) ∨ (f = 9 ∧ RWG a1 l0 l1 R) ∨ (f = 6 ∧ ROV a1 l0 l1 R 4000) := fun l0 l1 R hc => by
    obtain ⟨bs, g⟩ := h.rwc (y := y) k48 ⟨k13, k15, k16, k17, k44, k45, k46, k47⟩ (fun _ _ _ _ _ q => MRC_cg k12.symm k13.symm k14.symm k15.symm k16.symm k17.symm q) hx hn he hc
    exact hw l0 l1 R bs g
  refine ⟨fun e l0 l1 R hc => ?_, fun e l0 l1 R hc => ?_⟩
  · rcases go l0 l1 R hc with ⟨_, g, b2, w1, w2⟩ | ⟨w, _⟩ | ⟨w, _⟩
    · have z : R y.toNat = 0 := by
        by_cases q : y = v 50
        · exact (hc.2.2.2 y.toNat).2 (by omega)
        · rw [(hc.2.2.2 y.toNat).1 (by omega)]
          rcases he with he | he
          · exact absurd he q
          · exact he
      exact ⟨b2, (MRC_cg k12 k13 k14 k15 k16 k17 w1).wend z (by decide), w2⟩
    · omega
    · omega
  · rcases go l0 l1 R hc with ⟨w, _⟩ | ⟨_, w⟩ | ⟨_, w⟩
    · exact absurd w e
    · exact Or.inr ⟨e, Or.inl (RWG_cg k12 k13 k14 k15 k16 k17 w)⟩
    · exact Or.inr ⟨e, Or.inr (ROV_cg k12 k13 k14 k15 k16 k17 w)⟩
theorem RAI.fin (h : RAI v a v1 a1 x g) (hx : v 50 ≤ x) (h0 : 0 ≤ x) : RAX v a v1 a1 0 := fun l0 l1 R hc => by
  obtain ⟨bs, g1, g2⟩ := h l0 l1 R hc
  exact Or.inl ⟨rfl, bs, g1.fin (fun j hj => (hc.2.2.2 j).2 (by omega)), g2⟩
end RRD4
