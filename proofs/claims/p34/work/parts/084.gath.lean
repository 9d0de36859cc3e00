def rng : Nat → Int → List Int
  | 0, _ => []
  | n + 1, x => x :: rng n (x + 1)
def rwl (r b : Nat → Int) : Nat → Int → List Int
  | 0, _ => []
  | n + 1, t => if 0 ≤ t then rng (r t.toNat).toNat (200 * t) ++ rwl r b n (b t.toNat) else []
def upc (r b : Nat → Int) : Nat → Int → Prop
  | 0, _ => True
  | n + 1, t => 0 ≤ t → r t.toNat = 1 ∧ upc r b n (b t.toNat)
def whl (v : Nat → Int) (a : Nat → Nat → Int) : Nat → Int → Prop
  | 0, _ => False
  | n + 1, t => (0 ≤ t ∧ t < v 4 ∧ a 5 t.toNat = 1) ∧ (a 6 t.toNat = 5 → whl v a n (a 8 t.toNat) ∧ whl v a n (a 9 t.toNat)) ∧ (1 ≤ a 6 t.toNat → a 6 t.toNat ≤ 3 → whl v a n (a 8 t.toNat))
def RWL (a : Nat → Nat → Int) (t : Int) : List Int := rwl (a 10) (a 8) 31 t
def UPC (a : Nat → Nat → Int) (t : Int) : Prop := upc (a 5) (a 8) 31 t
def WHL (v : Nat → Int) (a : Nat → Nat → Int) (t : Int) : Prop := whl v a 31 t
def WHE (f : Int) (v : Nat → Int) (a : Nat → Nat → Int) (n : Nat) (t : Int) : Prop := f = 1 ↔ whl v a n t
def indl (a : Nat → Nat → Int) (I : Int) : List Int := if 0 < a 16 I.toNat then [-1 - I] else []
def rws1 (a : Nat → Nat → Int) (t : Int) : List Int := (RWL a t ++ indl a (4 * t + 0)) ++ indl a (4 * t + 1)
def gat0 (a : Nat → Nat → Int) (t : Int) : List Int := if a 6 t.toNat = 5 then rws1 a (a 8 t.toNat) ++ indl a (4 * t + 2) else rws1 a t
def gat1 (a : Nat → Nat → Int) (t : Int) : List Int := if a 6 t.toNat = 5 then rws1 a (a 9 t.toNat) ++ indl a (4 * t + 3) else []
def rent (a a2 : Nat → Nat → Int) (r d : Int) : Prop := (0 ≤ d → a2 44 r.toNat = d ∧ a2 45 r.toNat = 4 * d ∧ a2 46 r.toNat = a 13 d.toNat) ∧ (d < 0 → a2 44 r.toNat = -1 - (-1 - d) % 4 ∧ a2 45 r.toNat = 4 * (-1 - d) ∧ a2 46 r.toNat = a 16 (-1 - d).toNat)
def HLD (a a2 : Nat → Nat → Int) (q : Int) (l : List Int) : Prop := a2 47 q.toNat = (l.length : Int) ∧ l.length ≤ 6008 ∧ ∀ (r : Nat) (d : Int), l[r]? = some d → rent a a2 (6008 * q + (r : Int)) d
def ADDR (a : Nat → Nat → Int) (q x y z : Int) : Nat → Nat → Int := up2 (up2 (up2 (up2 a 44 (6008 * q + a 47 q.toNat).toNat x) 45 (6008 * q + a 47 q.toNat).toNat y) 46 (6008 * q + a 47 q.toNat).toNat z) 47 q.toNat (a 47 q.toNat + 1)
def ADI (a a2 : Nat → Nat → Int) (q t w : Int) : Prop := (0 < a 16 (4 * t + w).toNat ∧ a2 = ADDR a q (-1 - w) (4 * (4 * t + w)) (a 16 (4 * t + w).toNat)) ∨ (a 16 (4 * t + w).toNat ≤ 0 ∧ a2 = a)
def OTH (a a1 a2 : Nat → Nat → Int) (q : Int) : Prop := ∀ (q2 : Int) (l : List Int), (q2 = 0 ∨ q2 = 1) → q2 ≠ q → HLD a a1 q2 l → HLD a a2 q2 l
def ARX (a a2 : Nat → Nat → Int) (q t : Int) : Prop := HLD a a2 q (rws1 a t) ∧ OTH a a a2 q
def HX (a a2 : Nat → Nat → Int) (q t b : Int) : Prop := ∃ l, HLD a a2 q l ∧ l ++ RWL a b = RWL a t ∧ OTH a a a2 q
def HY (a a2 : Nat → Nat → Int) (q t b r : Int) : Prop := ∃ l, HLD a a2 q l ∧ l ++ (rng (200 * b + a 10 b.toNat - r).toNat r ++ RWL a (a 8 b.toNat)) = RWL a t ∧ OTH a a a2 q
def GAT (a a2 : Nat → Nat → Int) (t : Int) : Prop := HLD a a2 0 (gat0 a t) ∧ HLD a a2 1 (gat1 a t)
def rlen (a : Nat → Nat → Int) (d : Int) : Int := if 0 ≤ d then a 13 d.toNat else a 16 (-1 - d).toNat
def dcl (a : Nat → Nat → Int) (d k : Int) : Int := if 0 ≤ d then a 15 (4 * d + k).toNat else a 17 (4 * (-1 - d) + k).toNat
def rcl (a : Nat → Nat → Int) (r k : Int) : Int := if 0 ≤ a 44 r.toNat then a 15 (a 45 r.toNat + k).toNat else a 17 (a 45 r.toNat + k).toNat
def ALK (f : Int) (a : Nat → Nat → Int) (x y : Int) : Prop := (∀ k : Int, 0 ≤ k → k < f → rcl a x k = rcl a y k) ∧ (f < a 46 x.toNat → f < a 46 y.toNat → rcl a x f ≠ rcl a y f)
def ALS (a : Nat → Nat → Int) (d e f : Int) : Prop := (0 ≤ f ∧ f ≤ rlen a d ∧ f ≤ rlen a e) ∧ (∀ k : Int, 0 ≤ k → k < f → dcl a d k = dcl a e k) ∧ (f < rlen a d → f < rlen a e → dcl a d f ≠ dcl a e f)
def PRT (v : Nat → Int) (a : Nat → Nat → Int) (t x y f : Int) : Prop := (¬ WHL v a t ∧ f = -1) ∨ (WHL v a t ∧ ((¬ (0 ≤ x ∧ x < ((gat0 a t).length : Int) ∧ 0 ≤ y ∧ y < ((gat0 a t).length : Int)) ∧ f = -1) ∨ ((0 ≤ x ∧ 0 ≤ y) ∧ ∃ d e k, (gat0 a t)[x.toNat]? = some d ∧ (gat0 a t)[y.toNat]? = some e ∧ ALS a d e k ∧ (((k = rlen a d ∨ k = rlen a e) ∧ f = -1 - k) ∨ ((k ≠ rlen a d ∧ k ≠ rlen a e) ∧ f = k)))))
section GATS
variable {v v2 : Nat → Int} {a a1 a2 a3 a4 : Nat → Nat → Int} {q x y z t b r d e w f f1 f2 k : Int} {n : Nat} {l : List Int}
theorem rwl_s {r b : Nat → Int} (n : Nat) (t : Int) : rwl r b (n + 1) t = if 0 ≤ t then rng (r t.toNat).toNat (200 * t) ++ rwl r b n (b t.toNat) else [] := rfl
theorem upc_s {r b : Nat → Int} (n : Nat) (t : Int) : upc r b (n + 1) t = (0 ≤ t → r t.toNat = 1 ∧ upc r b n (b t.toNat)) := rfl
theorem rwl_fuel {r b : Nat → Int} {V : Int} (hb : ∀ t : Int, 0 ≤ t → t < V → b t.toNat < t) : ∀ (n m : Nat) (t : Int), t < V → t < (n : Int) → t < (m : Int) → rwl r b n t = rwl r b m t := by
  intro n
  induction n with
  | zero =>
    intro m t h1 h2 h3
    cases m with
    | zero => rfl
    | succ m => rw [rwl_s, if_neg (by omega)]; rfl
  | succ n ih =>
    intro m t h1 h2 h3
    cases m with
    | zero => rw [rwl_s, if_neg (by omega)]; rfl
    | succ m =>
      rw [rwl_s, rwl_s]
      by_cases h : 0 ≤ t
      · have h4 := hb t h h1
        rw [if_pos h, if_pos h, ih m (b t.toNat) (by omega) (by omega) (by omega)]
      · rw [if_neg h, if_neg h]
theorem upc_fuel {r b : Nat → Int} {V : Int} (hb : ∀ t : Int, 0 ≤ t → t < V → b t.toNat < t) : ∀ (n m : Nat) (t : Int), t < V → t < (n : Int) → t < (m : Int) → (upc r b n t ↔ upc r b m t) := by
  intro n
  induction n with
  | zero =>
    intro m t h1 h2 h3
    cases m with
    | zero => exact Iff.rfl
    | succ m => rw [upc_s]; exact ⟨fun _ h => absurd h (by omega), fun _ => trivial⟩
  | succ n ih =>
    intro m t h1 h2 h3
    cases m with
    | zero => rw [upc_s]; exact ⟨fun _ => trivial, fun _ h => absurd h (by omega)⟩
    | succ m =>
      rw [upc_s, upc_s]
      refine ⟨fun h h0 => ?_, fun h h0 => ?_⟩
      · have h4 := hb t h0 h1
        exact ⟨(h h0).1, (ih m (b t.toNat) (by omega) (by omega) (by omega)).mp (h h0).2⟩
      · have h4 := hb t h0 h1
        exact ⟨(h h0).1, (ih m (b t.toNat) (by omega) (by omega) (by omega)).mpr (h h0).2⟩
theorem TBL.b8 (h : TBL v a) : ∀ t : Int, 0 ≤ t → t < v 4 → a 8 t.toNat < t := fun t h1 h2 => by
  have := h.1 t h1 h2
  omega
theorem RWL.s (h : TBL v a) (h30 : v 4 ≤ 30) (h0 : 0 ≤ t) (h4 : t < v 4) : RWL a t = rng (a 10 t.toNat).toNat (200 * t) ++ RWL a (a 8 t.toNat) := by
  have h8 := h.b8 t h0 h4
  have e := rwl_fuel (r := a 10) h.b8 30 31 (a 8 t.toNat) (by omega) (by omega) (by omega)
  show rwl (a 10) (a 8) 31 t = rng (a 10 t.toNat).toNat (200 * t) ++ rwl (a 10) (a 8) 31 (a 8 t.toNat)
  rw [← e]; exact (rwl_s 30 t).trans (if_pos h0)
theorem RWL.neg0 (h0 : t < 0) : RWL a t = [] := (rwl_s 30 t).trans (if_neg (by omega))
theorem UPC.s (h : TBL v a) (h30 : v 4 ≤ 30) (h0 : 0 ≤ t) (h4 : t < v 4) : UPC a t ↔ (a 5 t.toNat = 1 ∧ UPC a (a 8 t.toNat)) := by
  have h8 := h.b8 t h0 h4
  have e := upc_fuel (r := a 5) h.b8 30 31 (a 8 t.toNat) (by omega) (by omega) (by omega)
  show upc (a 5) (a 8) (30 + 1) t ↔ (a 5 t.toNat = 1 ∧ upc (a 5) (a 8) 31 (a 8 t.toNat))
  rw [← e, upc_s]
  exact ⟨fun h => h h0, fun h _ => h⟩
theorem UPC.neg0 (h0 : t < 0) : UPC a t := fun h => absurd h (by omega)
theorem whl_up (h : TBL v a) (h30 : v 4 ≤ 30) : ∀ (n : Nat) (t : Int), 0 ≤ t → t < v 4 → t < (n : Int) → a 6 t.toNat ≤ 4 → (whl v a n t ↔ UPC a t) := by
  intro n
  induction n with
  | zero => intro t h0 h4 hn; omega
  | succ n ih =>
    intro t h0 h4 hn h6
    have ht := h.1 t h0 h4
    rw [UPC.s h h30 h0 h4]
    show ((0 ≤ t ∧ t < v 4 ∧ a 5 t.toNat = 1) ∧ (a 6 t.toNat = 5 → whl v a n (a 8 t.toNat) ∧ whl v a n (a 9 t.toNat)) ∧ (1 ≤ a 6 t.toNat → a 6 t.toNat ≤ 3 → whl v a n (a 8 t.toNat))) ↔ _
    rcases ht with ⟨k1, k2⟩ | ⟨k1, k2, k3, k4, k5⟩ | ⟨k1, k2⟩
    · refine ⟨fun g => ⟨g.1.2.2, UPC.neg0 (by omega)⟩, fun g => ⟨⟨h0, h4, g.1⟩, fun e => absurd e (by omega), fun e1 e2 => absurd e1 (by omega)⟩⟩
    · have g1 := ih (a 8 t.toNat) k3 (by omega) (by omega) (by omega)
      exact ⟨fun g => ⟨g.1.2.2, g1.mp (g.2.2 k1 k2)⟩, fun g => ⟨⟨h0, h4, g.1⟩, fun e => absurd e (by omega), fun _ _ => g1.mpr g.2⟩⟩
    · exfalso; omega
theorem WHL.p (h : TBL v a) (h30 : v 4 ≤ 30) (h0 : 0 ≤ t) (h4 : t < v 4) (h6 : a 6 t.toNat ≠ 5) : WHL v a t ↔ UPC a t := by
  have ht := h.1 t h0 h4
  exact whl_up h h30 31 t h0 h4 (by omega) (by omega)
theorem WHL.j (h : TBL v a) (h30 : v 4 ≤ 30) (h0 : 0 ≤ t) (h4 : t < v 4) (h6 : a 6 t.toNat = 5) : WHL v a t ↔ (UPC a t ∧ UPC a (a 9 t.toNat)) := by
  have ht := h.1 t h0 h4
  rcases ht with ⟨k1, k2⟩ | ⟨k1, k2, k3, k4, k5⟩ | ⟨k1, k2, k3, k4, k5, k6, k7⟩
  · exfalso; omega
  · exfalso; omega
  · have g1 := whl_up h h30 30 (a 8 t.toNat) k2 (by omega) (by omega) (by omega)
    have g2 := whl_up h h30 30 (a 9 t.toNat) k5 (by omega) (by omega) (by omega)
    rw [UPC.s h h30 h0 h4]
    show ((0 ≤ t ∧ t < v 4 ∧ a 5 t.toNat = 1) ∧ (a 6 t.toNat = 5 → whl v a 30 (a 8 t.toNat) ∧ whl v a 30 (a 9 t.toNat)) ∧ (1 ≤ a 6 t.toNat → a 6 t.toNat ≤ 3 → whl v a 30 (a 8 t.toNat))) ↔ _
    exact ⟨fun g => ⟨⟨g.1.2.2, g1.mp (g.2.1 h6).1⟩, g2.mp (g.2.1 h6).2⟩, fun g => ⟨⟨h0, h4, g.1.1⟩, fun _ => ⟨g1.mpr g.1.2, g2.mpr g.2⟩, fun _ e => absurd e (by omega)⟩⟩
theorem WHL.tr (h : WHL v a t) : 0 ≤ t ∧ t < v 4 ∧ a 5 t.toNat = 1 := h.1
theorem WHE.no0 (h : ¬ (0 ≤ t ∧ t < v 4 ∧ a 5 t.toNat = 1)) : WHE 0 v a (n + 1) t := ⟨fun q => absurd q (by decide), fun q => absurd q.1 h⟩
theorem WHE.j11 (ht : 0 ≤ t ∧ t < v 4 ∧ a 5 t.toNat = 1) (h6 : a 6 t.toNat = 5) (h1 : WHE f1 v a n (a 8 t.toNat)) (h2 : WHE f2 v a n (a 9 t.toNat)) (e1 : f1 = 1) (e2 : f2 = 1) : WHE 1 v a (n + 1) t := ⟨fun _ => ⟨ht, fun _ => ⟨h1.mp e1, h2.mp e2⟩, fun _ q => absurd q (by omega)⟩, fun _ => rfl⟩
theorem WHE.j0 (h6 : a 6 t.toNat = 5) (h1 : WHE f1 v a n (a 8 t.toNat)) (e1 : f1 ≠ 1) : WHE 0 v a (n + 1) t := ⟨fun q => absurd q (by decide), fun q => absurd (h1.mpr (q.2.1 h6).1) e1⟩
theorem WHE.j10 (h6 : a 6 t.toNat = 5) (h2 : WHE f2 v a n (a 9 t.toNat)) (e2 : f2 ≠ 1) : WHE 0 v a (n + 1) t := ⟨fun q => absurd q (by decide), fun q => absurd (h2.mpr (q.2.1 h6).2) e2⟩
theorem WHE.p (ht : 0 ≤ t ∧ t < v 4 ∧ a 5 t.toNat = 1) (h6 : a 6 t.toNat < 1 ∨ a 6 t.toNat = 4) : WHE 1 v a (n + 1) t := ⟨fun _ => ⟨ht, fun q => absurd q (by omega), fun q1 q2 => absurd q1 (by omega)⟩, fun _ => rfl⟩
theorem WHE.b1 (ht : 0 ≤ t ∧ t < v 4 ∧ a 5 t.toNat = 1) (h6 : 1 ≤ a 6 t.toNat ∧ a 6 t.toNat ≤ 3) (h1 : WHE f1 v a n (a 8 t.toNat)) (e1 : f1 = 1) : WHE 1 v a (n + 1) t := ⟨fun _ => ⟨ht, fun q => absurd q (by omega), fun _ _ => h1.mp e1⟩, fun _ => rfl⟩
theorem WHE.b0 (h6 : 1 ≤ a 6 t.toNat ∧ a 6 t.toNat ≤ 3) (h1 : WHE f1 v a n (a 8 t.toNat)) (e1 : f1 ≠ 1) : WHE 0 v a (n + 1) t := ⟨fun q => absurd q (by decide), fun q => absurd (h1.mpr (q.2.2 h6.1 h6.2)) e1⟩
theorem rng_z (h : r ≤ x) : rng (r - x).toNat x = [] := by rw [show (r - x).toNat = 0 by omega]; rfl
theorem rng_c (h : x < r) : rng (r - x).toNat x = x :: rng (r - (x + 1)).toNat (x + 1) := by rw [show (r - x).toNat = (r - (x + 1)).toNat + 1 by omega]; rfl
theorem add47 (j : Nat) : ADDR a q x y z 47 j = if j = q.toNat then a 47 q.toNat + 1 else a 47 j := by
  unfold ADDR
  by_cases e : j = q.toNat
  · subst e; rw [up2_s, if_pos rfl]
  · rw [up2_ne (Or.inr e), if_neg e, up2_ne (Or.inl (by decide)), up2_ne (Or.inl (by decide)), up2_ne (Or.inl (by decide))]
theorem add44 (j : Nat) : ADDR a q x y z 44 j = if j = (6008 * q + a 47 q.toNat).toNat then x else a 44 j := by
  unfold ADDR
  rw [up2_ne (Or.inl (by decide)), up2_ne (Or.inl (by decide)), up2_ne (Or.inl (by decide))]
  by_cases e : j = (6008 * q + a 47 q.toNat).toNat
  · subst e; rw [up2_s, if_pos rfl]
  · rw [up2_ne (Or.inr e), if_neg e]
theorem add45 (j : Nat) : ADDR a q x y z 45 j = if j = (6008 * q + a 47 q.toNat).toNat then y else a 45 j := by
  unfold ADDR
  rw [up2_ne (Or.inl (by decide)), up2_ne (Or.inl (by decide))]
  by_cases e : j = (6008 * q + a 47 q.toNat).toNat
  · subst e; rw [up2_s, if_pos rfl]
  · rw [up2_ne (Or.inr e), if_neg e, up2_ne (Or.inl (by decide))]
theorem add46 (j : Nat) : ADDR a q x y z 46 j = if j = (6008 * q + a 47 q.toNat).toNat then z else a 46 j := by
  unfold ADDR
  rw [up2_ne (Or.inl (by decide))]
  by_cases e : j = (6008 * q + a 47 q.toNat).toNat
  · subst e; rw [up2_s, if_pos rfl]
  · rw [up2_ne (Or.inr e), if_neg e, up2_ne (Or.inl (by decide)), up2_ne (Or.inl (by decide))]
theorem gl_lt {r : Nat} (h : l[r]? = some d) : r < l.length := by
  by_cases e : r < l.length
  · exact e
  · rw [List.getElem?_eq_none (by omega)] at h; cases h
theorem HLD.nil (h : a2 47 q.toNat = 0) : HLD a a2 q [] := ⟨h, by decide, fun r d e => by simp at e⟩
theorem HLD.fr (h : HLD a a2 q l) (h4 : a3 44 = a2 44) (h5 : a3 45 = a2 45) (h6 : a3 46 = a2 46) (h7 : a3 47 q.toNat = a2 47 q.toNat) : HLD a a3 q l := by
  unfold HLD rent at h ⊢
  rw [h4, h5, h6, h7]; exact h
theorem HLD.cg (h : HLD a a2 q l) (h4 : a1 13 = a 13) (h5 : a1 16 = a 16) : HLD a1 a2 q l := by
  unfold HLD rent at h ⊢
  rw [h4, h5]; exact h
theorem HLD.snoc (h : HLD a a2 q l) (hq : q = 0 ∨ q = 1) (hn : a2 47 q.toNat < 6008) (h1 : 0 ≤ d → x = d ∧ y = 4 * d ∧ z = a 13 d.toNat) (h2 : d < 0 → x = -1 - (-1 - d) % 4 ∧ y = 4 * (-1 - d) ∧ z = a 16 (-1 - d).toNat) : HLD a (ADDR a2 q x y z) q (l ++ [d]) := by
  obtain ⟨g1, g2, g3⟩ := h
  refine ⟨?_, ?_, fun r e he => ?_⟩
  · have e0 : (l ++ [d]).length = l.length + 1 := by rw [List.length_append]; rfl
    rw [add47, if_pos rfl]; omega
  · rw [List.length_append]
    show l.length + 1 ≤ 6008
    omega
  · have lt := gl_lt he
    rw [List.length_append] at lt
    have lt2 : r < l.length + 1 := lt
    unfold rent
    rw [add44, add45, add46]
    by_cases e1 : r < l.length
    · rw [List.getElem?_append_left e1] at he
      have ne : ¬ (6008 * q + (r : Int)).toNat = (6008 * q + a2 47 q.toNat).toNat := by omega
      rw [if_neg ne, if_neg ne, if_neg ne]
      exact g3 r e he
    · rw [List.getElem?_append_right (by omega), show r - l.length = 0 by omega] at he
      cases he
      rw [if_pos (by omega), if_pos (by omega), if_pos (by omega)]
      exact ⟨h1, h2⟩
theorem HLD.oth {q2 : Int} (h : HLD a a2 q2 l) (hq : q = 0 ∨ q = 1) (hq2 : q2 = 0 ∨ q2 = 1) (ne : q2 ≠ q) (hn : 0 ≤ a2 47 q.toNat ∧ a2 47 q.toNat < 6008) : HLD a (ADDR a2 q x y z) q2 l := by
  obtain ⟨g1, g2, g3⟩ := h
  refine ⟨by rw [add47, if_neg (by omega)]; exact g1, g2, fun r e he => ?_⟩
  have lt := gl_lt he
  have ne : ¬ (6008 * q2 + (r : Int)).toNat = (6008 * q + a2 47 q.toNat).toNat := by omega
  unfold rent
  rw [add44, add45, add46, if_neg ne, if_neg ne, if_neg ne]
  exact g3 r e he
theorem OTH.refl : OTH a a1 a1 q := fun _ _ _ _ h => h
theorem OTH.add (h : OTH a a1 a2 q) (hq : q = 0 ∨ q = 1) (hn : 0 ≤ a2 47 q.toNat ∧ a2 47 q.toNat < 6008) : OTH a a1 (ADDR a2 q x y z) q := fun q2 l h1 h2 h3 => (h q2 l h1 h2 h3).oth hq h1 h2 hn
theorem OTH.ind (h : OTH a a1 a2 q) (hA : ADI a2 a3 q t w) (hq : q = 0 ∨ q = 1) (hn : 0 ≤ a2 47 q.toNat ∧ a2 47 q.toNat < 6008) : OTH a a1 a3 q := by
  rcases hA with ⟨_, e⟩ | ⟨_, e⟩
  · rw [e]; exact h.add hq hn
  · rw [e]; exact h
theorem HLD.ind (h : HLD a a2 q l) (hA : ADI a2 a3 q t w) (h16 : a2 16 = a 16) (hq : q = 0 ∨ q = 1) (hn : a2 47 q.toNat < 6008) (ht : 0 ≤ t) (hw : 0 ≤ w ∧ w ≤ 3) : HLD a a3 q (l ++ indl a (4 * t + w)) := by
  unfold indl
  rw [← h16]
  rcases hA with ⟨g, e⟩ | ⟨g, e⟩
  · rw [e, if_pos g]
    refine h.snoc hq hn (fun q => absurd q (by omega)) (fun _ => ⟨by omega, by omega, ?_⟩)
    rw [h16, show -1 - (-1 - (4 * t + w)) = 4 * t + w by omega]
  · rw [e, if_neg (by omega), List.append_nil]; exact h
theorem HX.init (h7 : ∀ q2 : Int, (q2 = 0 ∨ q2 = 1) → q2 ≠ q → a2 47 q2.toNat = a 47 q2.toNat) (h : a2 47 q.toNat = 0) (h4 : a2 44 = a 44) (h5 : a2 45 = a 45) (h6 : a2 46 = a 46) : HX a a2 q t t := ⟨[], HLD.nil h, rfl, fun q2 l e1 e2 g => g.fr h4 h5 h6 (h7 q2 e1 e2)⟩
theorem HX.start (h : HX a a2 q t b) (hT : TBL v a) (h30 : v 4 ≤ 30) (h0 : 0 ≤ b) (h4 : b < v 4) (h10 : 0 ≤ a 10 b.toNat) : HY a a2 q t b (200 * b) := by
  obtain ⟨l, g1, g2, g3⟩ := h
  refine ⟨l, g1, ?_, g3⟩
  rw [RWL.s hT h30 h0 h4] at g2
  rw [show 200 * b + a 10 b.toNat - 200 * b = a 10 b.toNat by omega]
  exact g2
theorem HY.step (h : HY a a2 q t b r) (hq : q = 0 ∨ q = 1) (hr : r < 200 * b + a 10 b.toNat) (h0 : 0 ≤ r) (hn : 0 ≤ a2 47 q.toNat ∧ a2 47 q.toNat < 6008) : HY a (ADDR a2 q r (4 * r) (a 13 r.toNat)) q t b (r + 1) := by
  obtain ⟨l, g1, g2, g3⟩ := h
  refine ⟨l ++ [r], g1.snoc hq hn.2 (fun _ => ⟨rfl, rfl, rfl⟩) (fun e => absurd e (by omega)), ?_, g3.add hq hn⟩
  rw [rng_c hr] at g2
  rw [List.append_assoc]
  exact g2
theorem HY.fin (h : HY a a2 q t b r) (hr : 200 * b + a 10 b.toNat ≤ r) : HX a a2 q t (a 8 b.toNat) := by
  obtain ⟨l, g1, g2, g3⟩ := h
  refine ⟨l, g1, ?_, g3⟩
  rw [rng_z hr] at g2
  exact g2
theorem HX.fin (h : HX a a1 q t b) (hb : b < 0) (t1 : ADI a1 a2 q t 0) (t2 : ADI a2 a3 q t 1) (f1 : a1 16 = a 16) (f2 : a2 16 = a 16) (hq : q = 0 ∨ q = 1) (n1 : 0 ≤ a1 47 q.toNat ∧ a1 47 q.toNat < 6008) (n2 : 0 ≤ a2 47 q.toNat ∧ a2 47 q.toNat < 6008) (ht : 0 ≤ t) : ARX a a3 q t := by
  obtain ⟨l, g1, g2, g3⟩ := h
  rw [RWL.neg0 hb, List.append_nil] at g2
  subst g2
  exact ⟨(g1.ind t1 f1 hq n1.2 ht ⟨by decide, by decide⟩).ind t2 f2 hq n2.2 ht ⟨by decide, by decide⟩, (g3.ind t1 hq n1).ind t2 hq n2⟩
theorem rws1.cg (h8 : a1 8 = a 8) (h10 : a1 10 = a 10) (h16 : a1 16 = a 16) : rws1 a1 t = rws1 a t := by
  unfold rws1 RWL indl
  rw [h8, h10, h16]
theorem GAT.mk0 (hk : a 6 t.toNat ≠ 5) (h1 : ARX a1 a2 0 t) (z1 : a1 47 1 = 0) (f8 : a1 8 = a 8) (f10 : a1 10 = a 10) (f13 : a1 13 = a 13) (f16 : a1 16 = a 16) : GAT a a2 t := by
  unfold GAT gat0 gat1
  rw [if_neg hk, if_neg hk]
  have e := h1.1
  rw [rws1.cg f8 f10 f16] at e
  exact ⟨e.cg f13.symm f16.symm, (h1.2 1 [] (by decide) (by decide) (HLD.nil z1)).cg f13.symm f16.symm⟩
theorem GAT.mk1 {b s : Int} (hk : a 6 t.toNat = 5) (hb : b = a 8 t.toNat) (hs : s = a 9 t.toNat) (h1 : ARX a1 a2 0 b) (i1 : ADI a2 a3 0 t 2) (h2 : ARX a3 a4 1 s) {a5 : Nat → Nat → Int} (i2 : ADI a4 a5 1 t 3) (f8 : a1 8 = a 8) (f10 : a1 10 = a 10) (f13 : a1 13 = a 13) (f16 : a1 16 = a 16) (e16 : a2 16 = a 16) (g8 : a3 8 = a 8) (g10 : a3 10 = a 10) (g13 : a3 13 = a 13) (g16 : a3 16 = a 16) (k16 : a4 16 = a 16) (n1 : 0 ≤ a2 47 0 ∧ a2 47 0 < 6008) (n2 : 0 ≤ a4 47 1 ∧ a4 47 1 < 6008) (ht : 0 ≤ t) : GAT a a5 t := by
  unfold GAT gat0 gat1
  rw [if_pos hk, if_pos hk, ← hb, ← hs]
  have e := h1.1
  rw [rws1.cg f8 f10 f16] at e
  have e1 := (e.cg f13.symm f16.symm).ind i1 e16 (Or.inl rfl) n1.2 ht ⟨by decide, by decide⟩
  have e2 := h2.2 0 _ (Or.inl rfl) (by decide) (e1.cg g13 g16)
  have e3 := h2.1
  rw [rws1.cg g8 g10 g16] at e3
  refine ⟨?_, (e3.cg g13.symm g16.symm).ind i2 k16 (Or.inr rfl) n2.2 ht ⟨by decide, by decide⟩⟩
  rcases i2 with ⟨_, w⟩ | ⟨_, w⟩
  · rw [w]; exact (e2.cg g13.symm g16.symm).oth (Or.inr rfl) (Or.inl rfl) (by decide) n2
  · rw [w]; exact e2.cg g13.symm g16.symm
theorem rent.rc1 {r d : Int} (h : rent a a2 r d) (h15 : a2 15 = a 15) (h17 : a2 17 = a 17) : a2 46 r.toNat = rlen a d ∧ ∀ k, rcl a2 r k = dcl a d k := by
  unfold rlen rcl dcl
  by_cases e : 0 ≤ d
  · obtain ⟨g1, g2, g3⟩ := h.1 e
    refine ⟨by rw [if_pos e]; exact g3, fun k => ?_⟩
    rw [if_pos e, if_pos (by omega), g2, h15]
  · obtain ⟨g1, g2, g3⟩ := h.2 (by omega)
    refine ⟨by rw [if_neg e]; exact g3, fun k => ?_⟩
    rw [if_neg e, if_neg (by omega), g2, h17]
theorem ALK.als {x y d e : Int} (h : ALK f a2 x y) (hx : rent a a2 x d) (hy : rent a a2 y e) (h15 : a2 15 = a 15) (h17 : a2 17 = a 17) (hf : 0 ≤ f ∧ f ≤ a2 46 x.toNat ∧ f ≤ a2 46 y.toNat) : ALS a d e f := by
  have g1 := hx.rc1 h15 h17
  have g2 := hy.rc1 h15 h17
  refine ⟨⟨hf.1, by rw [← g1.1]; exact hf.2.1, by rw [← g2.1]; exact hf.2.2⟩, fun k k0 k1 => ?_, fun e1 e2 => ?_⟩
  · rw [← g1.2, ← g2.2]; exact h.1 k k0 k1
  · rw [← g1.2, ← g2.2]; exact h.2 (by rw [g1.1]; exact e1) (by rw [g2.1]; exact e2)
theorem ALS.uni (h : ALS a d e f1) (h2 : ALS a d e f2) : f1 = f2 := by
  obtain ⟨⟨p1, p2, p3⟩, p4, p5⟩ := h
  obtain ⟨⟨q1, q2, q3⟩, q4, q5⟩ := h2
  by_cases e1 : f1 < f2
  · exact absurd (q4 f1 p1 e1) (p5 (by omega) (by omega))
  · by_cases e2 : f2 < f1
    · exact absurd (p4 f2 q1 e2) (q5 (by omega) (by omega))
    · omega
theorem PRT.uni (h : PRT v a t x y f1) (h2 : PRT v a t x y f2) : f1 = f2 := by
  rcases h with ⟨p1, p2⟩ | ⟨p1, p2⟩
  · rcases h2 with ⟨q1, q2⟩ | ⟨q1, _⟩
    · omega
    · exact absurd q1 p1
  · rcases h2 with ⟨q1, _⟩ | ⟨_, q2⟩
    · exact absurd p1 q1
    · rcases p2 with ⟨p3, p4⟩ | ⟨p0, d, e, k, p3, p4, p5, p6⟩
      · rcases q2 with ⟨q3, q4⟩ | ⟨q0, d, e, k, q3, q4, _⟩
        · omega
        · have l1 := gl_lt q3
          have l2 := gl_lt q4
          exact absurd ⟨q0.1, by omega, q0.2, by omega⟩ p3
      · rcases q2 with ⟨q3, q4⟩ | ⟨q0, d2, e2, k2, q3, q4, q5, q6⟩
        · have l1 := gl_lt p3
          have l2 := gl_lt p4
          exact absurd ⟨p0.1, by omega, p0.2, by omega⟩ q3
        · rw [p3] at q3; cases q3
          rw [p4] at q4; cases q4
          have g := p5.uni q5
          subst g
          omega
theorem HLD.att (h : HLD a a2 0 l) (h0 : 0 ≤ x) (h1 : x < a2 47 0) : ∃ d, l[x.toNat]? = some d ∧ rent a a2 x d := by
  obtain ⟨g1, g2, g3⟩ := h
  have g4 : a2 47 0 = (l.length : Int) := g1
  have lt : x.toNat < l.length := by omega
  refine ⟨l[x.toNat], List.getElem?_eq_getElem lt, ?_⟩
  have := g3 x.toNat _ (List.getElem?_eq_getElem lt)
  rw [show (6008 * 0 + ((x.toNat : Nat) : Int)) = x by omega] at this
  exact this
theorem PRT.ok {f k : Int} (hw : WHL v a t) (hG : GAT a a2 t) (hx : 0 ≤ x ∧ x < a2 47 0) (hy : 0 ≤ y ∧ y < a2 47 0) (h15 : a2 15 = a 15) (h17 : a2 17 = a 17) (hk : 0 ≤ k ∧ k ≤ a2 46 x.toNat ∧ k ≤ a2 46 y.toNat) (hA : ALK k a2 x y) (hf : ((k = a2 46 x.toNat ∨ k = a2 46 y.toNat) ∧ f = -1 - k) ∨ ((k ≠ a2 46 x.toNat ∧ k ≠ a2 46 y.toNat) ∧ f = k)) : PRT v a t x y f := by
  obtain ⟨d, d1, d2⟩ := (hG.1).att hx.1 hx.2
  obtain ⟨e, e1, e2⟩ := (hG.1).att hy.1 hy.2
  refine Or.inr ⟨hw, Or.inr ⟨⟨hx.1, hy.1⟩, d, e, k, d1, e1, hA.als d2 e2 h15 h17 hk, ?_⟩⟩
  rw [← (d2.rc1 h15 h17).1, ← (e2.rc1 h15 h17).1]; exact hf
theorem PRT.no (hw : WHL v a t) (hG : GAT a a2 t) (hx : ¬ (0 ≤ x ∧ x < a2 47 0 ∧ 0 ≤ y ∧ y < a2 47 0)) : PRT v a t x y (-1) := by
  have g : a2 47 0 = ((gat0 a t).length : Int) := hG.1.1
  rw [g] at hx
  exact Or.inr ⟨hw, Or.inl ⟨hx, rfl⟩⟩
end GATS
def WholeE (l : Launch) (G : GT) (h0 : Nat) (ad ln : Nat → Nat) (d n : Nat) (t : Int) : Prop := ∀ (v : Nat → Int) (a : Nat → Nat → Int), BX v a → TBL v a → Mm l G yX12_isWhole cX12_isWhole 2 (some .boolean) d [.int (iI t)] h0 ad ln v a 0 0 (fun r v2 a2 => ∃ f : Int, r = some (.int (iI f)) ∧ fr [] [] v a v2 a2 ∧ BX v2 a2 ∧ ((f = 0 ∨ (f = 1 ∧ 0 ≤ t ∧ t < v 4)) ∧ WHE f v a n t))
set_option maxHeartbeats 4000000 in
set_option maxRecDepth 100000 in
theorem E_isWhole1 {l : Launch} {G : GT} {h0 : Nat} {ad ln : Nat → Nat} {v : Nat → Int} {a : Nat → Nat → Int} {d n : Nat} {t : Int} (hB : BX v a) (hT : TBL v a) (ht : -2147483648 ≤ t ∧ t ≤ 2147483647) (hd : 3 ≤ d) (hf : ∀ b : Int, 0 ≤ b → b < t → WholeE l G h0 ad ln d n b) : Mm l G yX12_isWhole cX12_isWhole 2 (some .boolean) (d + 1) [.int (iI t)] h0 ad ln v a 0 0 (fun r v2 a2 => ∃ f : Int, r = some (.int (iI f)) ∧ fr [] [] v a v2 a2 ∧ BX v2 a2 ∧ ((f = 0 ∨ (f = 1 ∧ 0 ≤ t ∧ t < v 4)) ∧ WHE f v a (n + 1) t)) := by
  refine Mm.mk (by decide) (Nat.le_of_ble_eq_true rfl) ?_
  intro p e s m args below meth c A C
  have h30 : 0 ≤ v 4 ∧ v 4 ≤ 30 := hB.1 4
  have fp0 : fr [] [] v a v a := fr.refl
  refine m_aload_n (j := 0) C dX12_isWhole_0 rfl ?_
  refine m_iload_n (j := 1) C dX12_isWhole_1 rfl ?_
  have rv1 : 0 ≤ v 4 ∧ v 4 ≤ 30 := hB.1 4
  refine m_call (mc2 := 0) (ms2 := 0) (As := [.int (iI t)]) (rest := []) C (B_isTable (t := t) hB (by show -2147483648 ≤ t ∧ t ≤ 2147483647; omega)) dX12_isWhole_2 kV_X12_167 rfl ck_13 rfl (Nat.le_of_ble_eq_true rfl) ⟨by dsimp only [rmq]; omega, by dsimp only [rmq]; omega⟩ ⟨Nat.le_of_ble_eq_true rfl, Nat.le_of_ble_eq_true rfl⟩ (fun rh1 vh1 ah1 h1 => ?_)
  obtain ⟨f1, rfl, fn1, bn1, ex1⟩ := h1
  obtain ⟨rfl, rfl⟩ := fn1.eq
  have gf1 : (f1 = 0 ∧ (t < 0 ∨ (v 4) ≤ t ∨ a 5 t.toNat = 0)) ∨ (f1 = 1 ∧ 0 ≤ t ∧ t < (v 4) ∧ a 5 t.toNat = 1) := ex1
  have ra1 : 0 ≤ a 5 t.toNat ∧ a 5 t.toNat ≤ 1 := hB.2 5 (t.toNat)
  refine m_st (st2 := [.int (iI f1)]) rfl ?_
  refine m_if_ne (tgt := 10) C ⟨by omega, by omega⟩ dX12_isWhole_5 (by decide) (fun c1 => ?_) (fun c1 => ?_)
  · have ht0 := hT.1 t (by omega) (by omega)
    refine m_aload_n (j := 0) C dX12_isWhole_10 rfl ?_
    refine m_geta (k := 6) C dX12_isWhole_11 w6_65 (by decide) rfl ?_
    refine m_iload_n (j := 1) C dX12_isWhole_14 rfl ?_
    refine m_ald (k := 6) C dX12_isWhole_15 rfl rfl (by decide) (by omega) (by show _ < ((_ : Nat) : Int); simp only [mlen]; omega) (by decide) ?_
    have ra2 : 0 ≤ a 6 t.toNat ∧ a 6 t.toNat ≤ 5 := hB.2 6 (t.toNat)
    refine m_iconst C dX12_isWhole_16 ?_
    refine m_icmp_ne (tgt := 52) C ⟨by omega, by omega⟩ ⟨by decide, by decide⟩ dX12_isWhole_17 (by decide) (fun c2 => ?_) (fun c2 => ?_)
    · refine m_aload_n (j := 0) C dX12_isWhole_52 rfl ?_
      refine m_geta (k := 6) C dX12_isWhole_53 w6_65 (by decide) rfl ?_
      refine m_iload_n (j := 1) C dX12_isWhole_56 rfl ?_
      refine m_ald (k := 6) C dX12_isWhole_57 rfl rfl (by decide) (by omega) (by show _ < ((_ : Nat) : Int); simp only [mlen]; omega) (by decide) ?_
      refine m_iconst C dX12_isWhole_58 ?_
      refine m_icmp_lt (tgt := 85) C ⟨by omega, by omega⟩ ⟨by decide, by decide⟩ dX12_isWhole_59 (by decide) (fun c3 => ?_) (fun c3 => ?_)
      · refine m_iconst C dX12_isWhole_85 ?_
        refine m_goto (tgt := 90) C dX12_isWhole_86 (by decide) ?_
        exact m_zret C dX12_isWhole_90 rfl (Or.inr rfl) (Nat.le_of_ble_eq_true rfl) (Nat.le_of_ble_eq_true rfl) ⟨1, rfl, fp0, hB, ⟨by omega, WHE.p (by omega) (by omega)⟩⟩
      · refine m_aload_n (j := 0) C dX12_isWhole_62 rfl ?_
        refine m_geta (k := 6) C dX12_isWhole_63 w6_65 (by decide) rfl ?_
        refine m_iload_n (j := 1) C dX12_isWhole_66 rfl ?_
        refine m_ald (k := 6) C dX12_isWhole_67 rfl rfl (by decide) (by omega) (by show _ < ((_ : Nat) : Int); simp only [mlen]; omega) (by decide) ?_
        refine m_iconst C dX12_isWhole_68 ?_
        refine m_icmp_gt (tgt := 85) C ⟨by omega, by omega⟩ ⟨by decide, by decide⟩ dX12_isWhole_69 (by decide) (fun c4 => ?_) (fun c4 => ?_)
        · refine m_iconst C dX12_isWhole_85 ?_
          refine m_goto (tgt := 90) C dX12_isWhole_86 (by decide) ?_
          exact m_zret C dX12_isWhole_90 rfl (Or.inr rfl) (Nat.le_of_ble_eq_true rfl) (Nat.le_of_ble_eq_true rfl) ⟨1, rfl, fp0, hB, ⟨by omega, WHE.p (by omega) (by omega)⟩⟩
        · refine m_aload_n (j := 0) C dX12_isWhole_72 rfl ?_
          refine m_aload_n (j := 0) C dX12_isWhole_73 rfl ?_
          refine m_geta (k := 8) C dX12_isWhole_74 w6_67 (by decide) rfl ?_
          refine m_iload_n (j := 1) C dX12_isWhole_77 rfl ?_
          refine m_ald (k := 8) C dX12_isWhole_78 rfl rfl (by decide) (by omega) (by show _ < ((_ : Nat) : Int); simp only [mlen]; omega) (by decide) ?_
          have ra3 : (-1) ≤ a 8 t.toNat ∧ a 8 t.toNat ≤ 29 := hB.2 8 (t.toNat)
          refine m_call (mc2 := 0) (ms2 := 0) (As := [.int (iI (a 8 t.toNat))]) (rest := []) C (hf (a 8 t.toNat) (by omega) (by omega) _ _ hB hT) dX12_isWhole_79 kV_X12_171 rfl ck_13 rfl (Nat.le_of_ble_eq_true rfl) ⟨by dsimp only [rmq]; omega, by dsimp only [rmq]; omega⟩ ⟨Nat.le_of_ble_eq_true rfl, Nat.le_of_ble_eq_true rfl⟩ (fun rh2 vh2 ah2 h2 => ?_)
          obtain ⟨f2, rfl, fn2, _, ef2, we1⟩ := h2
          obtain ⟨rfl, rfl⟩ := fn2.eq
          refine m_st (st2 := [.int (iI f2)]) rfl ?_
          refine m_if_eq (tgt := 89) C ⟨by omega, by omega⟩ dX12_isWhole_82 (by decide) (fun c5 => ?_) (fun c5 => ?_)
          · refine m_iconst C dX12_isWhole_89 ?_
            exact m_zret C dX12_isWhole_90 rfl (Or.inl rfl) (Nat.le_of_ble_eq_true rfl) (Nat.le_of_ble_eq_true rfl) ⟨0, rfl, fp0, hB, ⟨by omega, WHE.b0 (by omega) we1 (by omega)⟩⟩
          · refine m_iconst C dX12_isWhole_85 ?_
            refine m_goto (tgt := 90) C dX12_isWhole_86 (by decide) ?_
            exact m_zret C dX12_isWhole_90 rfl (Or.inr rfl) (Nat.le_of_ble_eq_true rfl) (Nat.le_of_ble_eq_true rfl) ⟨1, rfl, fp0, hB, ⟨by omega, WHE.b1 (by omega) (by omega) we1 (by omega)⟩⟩
    · refine m_aload_n (j := 0) C dX12_isWhole_20 rfl ?_
      refine m_aload_n (j := 0) C dX12_isWhole_21 rfl ?_
      refine m_geta (k := 8) C dX12_isWhole_22 w6_67 (by decide) rfl ?_
      refine m_iload_n (j := 1) C dX12_isWhole_25 rfl ?_
      refine m_ald (k := 8) C dX12_isWhole_26 rfl rfl (by decide) (by omega) (by show _ < ((_ : Nat) : Int); simp only [mlen]; omega) (by decide) ?_
      have ra4 : (-1) ≤ a 8 t.toNat ∧ a 8 t.toNat ≤ 29 := hB.2 8 (t.toNat)
      refine m_call (mc2 := 0) (ms2 := 0) (As := [.int (iI (a 8 t.toNat))]) (rest := []) C (hf (a 8 t.toNat) (by omega) (by omega) _ _ hB hT) dX12_isWhole_27 kV_X12_171 rfl ck_13 rfl (Nat.le_of_ble_eq_true rfl) ⟨by dsimp only [rmq]; omega, by dsimp only [rmq]; omega⟩ ⟨Nat.le_of_ble_eq_true rfl, Nat.le_of_ble_eq_true rfl⟩ (fun rh3 vh3 ah3 h3 => ?_)
      obtain ⟨f3, rfl, fn3, _, ef3, we2⟩ := h3
      obtain ⟨rfl, rfl⟩ := fn3.eq
      refine m_st (st2 := [.int (iI f3)]) rfl ?_
      refine m_if_eq (tgt := 50) C ⟨by omega, by omega⟩ dX12_isWhole_30 (by decide) (fun c6 => ?_) (fun c6 => ?_)
      · refine m_iconst C dX12_isWhole_50 ?_
        exact m_zret C dX12_isWhole_51 rfl (Or.inl rfl) (Nat.le_of_ble_eq_true rfl) (Nat.le_of_ble_eq_true rfl) ⟨0, rfl, fp0, hB, ⟨by omega, WHE.j0 (by omega) we2 (by omega)⟩⟩
      · refine m_aload_n (j := 0) C dX12_isWhole_33 rfl ?_
        refine m_aload_n (j := 0) C dX12_isWhole_34 rfl ?_
        refine m_geta (k := 9) C dX12_isWhole_35 w6_68 (by decide) rfl ?_
        refine m_iload_n (j := 1) C dX12_isWhole_38 rfl ?_
        refine m_ald (k := 9) C dX12_isWhole_39 rfl rfl (by decide) (by omega) (by show _ < ((_ : Nat) : Int); simp only [mlen]; omega) (by decide) ?_
        have ra5 : (-1) ≤ a 9 t.toNat ∧ a 9 t.toNat ≤ 29 := hB.2 9 (t.toNat)
        refine m_call (mc2 := 0) (ms2 := 0) (As := [.int (iI (a 9 t.toNat))]) (rest := []) C (hf (a 9 t.toNat) (by omega) (by omega) _ _ hB hT) dX12_isWhole_40 kV_X12_171 rfl ck_13 rfl (Nat.le_of_ble_eq_true rfl) ⟨by dsimp only [rmq]; omega, by dsimp only [rmq]; omega⟩ ⟨Nat.le_of_ble_eq_true rfl, Nat.le_of_ble_eq_true rfl⟩ (fun rh4 vh4 ah4 h4 => ?_)
        obtain ⟨f4, rfl, fn4, _, ef4, we3⟩ := h4
        obtain ⟨rfl, rfl⟩ := fn4.eq
        refine m_st (st2 := [.int (iI f4)]) rfl ?_
        refine m_if_eq (tgt := 50) C ⟨by omega, by omega⟩ dX12_isWhole_43 (by decide) (fun c7 => ?_) (fun c7 => ?_)
        · refine m_iconst C dX12_isWhole_50 ?_
          exact m_zret C dX12_isWhole_51 rfl (Or.inl rfl) (Nat.le_of_ble_eq_true rfl) (Nat.le_of_ble_eq_true rfl) ⟨0, rfl, fp0, hB, ⟨by omega, WHE.j10 (by omega) we3 (by omega)⟩⟩
        · refine m_iconst C dX12_isWhole_46 ?_
          refine m_goto (tgt := 51) C dX12_isWhole_47 (by decide) ?_
          exact m_zret C dX12_isWhole_51 rfl (Or.inr rfl) (Nat.le_of_ble_eq_true rfl) (Nat.le_of_ble_eq_true rfl) ⟨1, rfl, fp0, hB, ⟨by omega, WHE.j11 (by omega) (by omega) we2 we3 (by omega) (by omega)⟩⟩
  · refine m_iconst C dX12_isWhole_8 ?_
    exact m_zret C dX12_isWhole_9 rfl (Or.inl rfl) (Nat.le_of_ble_eq_true rfl) (Nat.le_of_ble_eq_true rfl) ⟨0, rfl, fp0, hB, ⟨by omega, WHE.no0 (by omega)⟩⟩
theorem E_isWholeN {l : Launch} {G : GT} {h0 : Nat} {ad ln : Nat → Nat} : ∀ (n : Nat) (t : Int), 0 ≤ t → t < (n : Int) → n ≤ 30 → WholeE l G h0 ad ln (n + 3) n t := by
  intro n
  induction n with
  | zero => intro t h1 h2; omega
  | succ n ih =>
    intro t h1 h2 h3 v a hB hT
    exact E_isWhole1 (d := n + 3) (n := n) hB hT ⟨by omega, by omega⟩ (by omega) (fun b hb hb2 => ih b hb (by omega) (by omega))
set_option maxHeartbeats 4000000 in
set_option maxRecDepth 100000 in
theorem E_isWhole {l : Launch} {G : GT} {h0 : Nat} {ad ln : Nat → Nat} {v : Nat → Int} {a : Nat → Nat → Int}  {t : Int} (hB : BX v a) (hT : TBL v a) (ht : -2147483648 ≤ t ∧ t ≤ 2147483647) : Mm l G yX12_isWhole cX12_isWhole 2 (some .boolean) 34 [.int (iI t)] h0 ad ln v a 0 0 (fun r v2 a2 => ∃ f : Int, r = some (.int (iI f)) ∧ fr [] [] v a v2 a2 ∧ BX v2 a2 ∧ ((f = 0 ∨ (f = 1 ∧ 0 ≤ t ∧ t < v 4)) ∧ WHE f v a 31 t)) := by
  refine Mm.mk (by decide) (Nat.le_of_ble_eq_true rfl) ?_
  intro p e s m args below meth c A C
  have h30 : 0 ≤ v 4 ∧ v 4 ≤ 30 := hB.1 4
  have fp0 : fr [] [] v a v a := fr.refl
  refine m_aload_n (j := 0) C dX12_isWhole_0 rfl ?_
  refine m_iload_n (j := 1) C dX12_isWhole_1 rfl ?_
  have rv1 : 0 ≤ v 4 ∧ v 4 ≤ 30 := hB.1 4
  refine m_call (mc2 := 0) (ms2 := 0) (As := [.int (iI t)]) (rest := []) C (B_isTable (t := t) hB (by show -2147483648 ≤ t ∧ t ≤ 2147483647; omega)) dX12_isWhole_2 kV_X12_167 rfl ck_13 rfl (Nat.le_of_ble_eq_true rfl) ⟨Nat.le_of_ble_eq_true rfl, Nat.le_of_ble_eq_true rfl⟩ ⟨Nat.le_of_ble_eq_true rfl, Nat.le_of_ble_eq_true rfl⟩ (fun rh1 vh1 ah1 h1 => ?_)
  obtain ⟨f1, rfl, fn1, bn1, ex1⟩ := h1
  obtain ⟨rfl, rfl⟩ := fn1.eq
  have gf1 : (f1 = 0 ∧ (t < 0 ∨ (v 4) ≤ t ∨ a 5 t.toNat = 0)) ∨ (f1 = 1 ∧ 0 ≤ t ∧ t < (v 4) ∧ a 5 t.toNat = 1) := ex1
  have ra1 : 0 ≤ a 5 t.toNat ∧ a 5 t.toNat ≤ 1 := hB.2 5 (t.toNat)
  refine m_st (st2 := [.int (iI f1)]) rfl ?_
  refine m_if_ne (tgt := 10) C ⟨by omega, by omega⟩ dX12_isWhole_5 (by decide) (fun c1 => ?_) (fun c1 => ?_)
  · have ht0 := hT.1 t (by omega) (by omega)
    refine m_aload_n (j := 0) C dX12_isWhole_10 rfl ?_
    refine m_geta (k := 6) C dX12_isWhole_11 w6_65 (by decide) rfl ?_
    refine m_iload_n (j := 1) C dX12_isWhole_14 rfl ?_
    refine m_ald (k := 6) C dX12_isWhole_15 rfl rfl (by decide) (by omega) (by show _ < ((_ : Nat) : Int); simp only [mlen]; omega) (by decide) ?_
    have ra2 : 0 ≤ a 6 t.toNat ∧ a 6 t.toNat ≤ 5 := hB.2 6 (t.toNat)
    refine m_iconst C dX12_isWhole_16 ?_
    refine m_icmp_ne (tgt := 52) C ⟨by omega, by omega⟩ ⟨by decide, by decide⟩ dX12_isWhole_17 (by decide) (fun c2 => ?_) (fun c2 => ?_)
    · refine m_aload_n (j := 0) C dX12_isWhole_52 rfl ?_
      refine m_geta (k := 6) C dX12_isWhole_53 w6_65 (by decide) rfl ?_
      refine m_iload_n (j := 1) C dX12_isWhole_56 rfl ?_
      refine m_ald (k := 6) C dX12_isWhole_57 rfl rfl (by decide) (by omega) (by show _ < ((_ : Nat) : Int); simp only [mlen]; omega) (by decide) ?_
      refine m_iconst C dX12_isWhole_58 ?_
      refine m_icmp_lt (tgt := 85) C ⟨by omega, by omega⟩ ⟨by decide, by decide⟩ dX12_isWhole_59 (by decide) (fun c3 => ?_) (fun c3 => ?_)
      · refine m_iconst C dX12_isWhole_85 ?_
        refine m_goto (tgt := 90) C dX12_isWhole_86 (by decide) ?_
        exact m_zret C dX12_isWhole_90 rfl (Or.inr rfl) (Nat.le_of_ble_eq_true rfl) (Nat.le_of_ble_eq_true rfl) ⟨1, rfl, fp0, hB, ⟨by omega, WHE.p (by omega) (by omega)⟩⟩
      · refine m_aload_n (j := 0) C dX12_isWhole_62 rfl ?_
        refine m_geta (k := 6) C dX12_isWhole_63 w6_65 (by decide) rfl ?_
        refine m_iload_n (j := 1) C dX12_isWhole_66 rfl ?_
        refine m_ald (k := 6) C dX12_isWhole_67 rfl rfl (by decide) (by omega) (by show _ < ((_ : Nat) : Int); simp only [mlen]; omega) (by decide) ?_
        refine m_iconst C dX12_isWhole_68 ?_
        refine m_icmp_gt (tgt := 85) C ⟨by omega, by omega⟩ ⟨by decide, by decide⟩ dX12_isWhole_69 (by decide) (fun c4 => ?_) (fun c4 => ?_)
        · refine m_iconst C dX12_isWhole_85 ?_
          refine m_goto (tgt := 90) C dX12_isWhole_86 (by decide) ?_
          exact m_zret C dX12_isWhole_90 rfl (Or.inr rfl) (Nat.le_of_ble_eq_true rfl) (Nat.le_of_ble_eq_true rfl) ⟨1, rfl, fp0, hB, ⟨by omega, WHE.p (by omega) (by omega)⟩⟩
        · refine m_aload_n (j := 0) C dX12_isWhole_72 rfl ?_
          refine m_aload_n (j := 0) C dX12_isWhole_73 rfl ?_
          refine m_geta (k := 8) C dX12_isWhole_74 w6_67 (by decide) rfl ?_
          refine m_iload_n (j := 1) C dX12_isWhole_77 rfl ?_
          refine m_ald (k := 8) C dX12_isWhole_78 rfl rfl (by decide) (by omega) (by show _ < ((_ : Nat) : Int); simp only [mlen]; omega) (by decide) ?_
          have ra3 : (-1) ≤ a 8 t.toNat ∧ a 8 t.toNat ≤ 29 := hB.2 8 (t.toNat)
          refine m_call (mc2 := 0) (ms2 := 0) (As := [.int (iI (a 8 t.toNat))]) (rest := []) C ((E_isWholeN 30 (a 8 t.toNat) (by omega) (by omega) (Nat.le_refl _)) _ _ hB hT) dX12_isWhole_79 kV_X12_171 rfl ck_13 rfl (Nat.le_of_ble_eq_true rfl) ⟨Nat.le_of_ble_eq_true rfl, Nat.le_of_ble_eq_true rfl⟩ ⟨Nat.le_of_ble_eq_true rfl, Nat.le_of_ble_eq_true rfl⟩ (fun rh2 vh2 ah2 h2 => ?_)
          obtain ⟨f2, rfl, fn2, _, ef2, we1⟩ := h2
          obtain ⟨rfl, rfl⟩ := fn2.eq
          refine m_st (st2 := [.int (iI f2)]) rfl ?_
          refine m_if_eq (tgt := 89) C ⟨by omega, by omega⟩ dX12_isWhole_82 (by decide) (fun c5 => ?_) (fun c5 => ?_)
          · refine m_iconst C dX12_isWhole_89 ?_
            exact m_zret C dX12_isWhole_90 rfl (Or.inl rfl) (Nat.le_of_ble_eq_true rfl) (Nat.le_of_ble_eq_true rfl) ⟨0, rfl, fp0, hB, ⟨by omega, WHE.b0 (by omega) we1 (by omega)⟩⟩
          · refine m_iconst C dX12_isWhole_85 ?_
            refine m_goto (tgt := 90) C dX12_isWhole_86 (by decide) ?_
            exact m_zret C dX12_isWhole_90 rfl (Or.inr rfl) (Nat.le_of_ble_eq_true rfl) (Nat.le_of_ble_eq_true rfl) ⟨1, rfl, fp0, hB, ⟨by omega, WHE.b1 (by omega) (by omega) we1 (by omega)⟩⟩
    · refine m_aload_n (j := 0) C dX12_isWhole_20 rfl ?_
      refine m_aload_n (j := 0) C dX12_isWhole_21 rfl ?_
      refine m_geta (k := 8) C dX12_isWhole_22 w6_67 (by decide) rfl ?_
      refine m_iload_n (j := 1) C dX12_isWhole_25 rfl ?_
      refine m_ald (k := 8) C dX12_isWhole_26 rfl rfl (by decide) (by omega) (by show _ < ((_ : Nat) : Int); simp only [mlen]; omega) (by decide) ?_
      have ra4 : (-1) ≤ a 8 t.toNat ∧ a 8 t.toNat ≤ 29 := hB.2 8 (t.toNat)
      refine m_call (mc2 := 0) (ms2 := 0) (As := [.int (iI (a 8 t.toNat))]) (rest := []) C ((E_isWholeN 30 (a 8 t.toNat) (by omega) (by omega) (Nat.le_refl _)) _ _ hB hT) dX12_isWhole_27 kV_X12_171 rfl ck_13 rfl (Nat.le_of_ble_eq_true rfl) ⟨Nat.le_of_ble_eq_true rfl, Nat.le_of_ble_eq_true rfl⟩ ⟨Nat.le_of_ble_eq_true rfl, Nat.le_of_ble_eq_true rfl⟩ (fun rh3 vh3 ah3 h3 => ?_)
      obtain ⟨f3, rfl, fn3, _, ef3, we2⟩ := h3
      obtain ⟨rfl, rfl⟩ := fn3.eq
      refine m_st (st2 := [.int (iI f3)]) rfl ?_
      refine m_if_eq (tgt := 50) C ⟨by omega, by omega⟩ dX12_isWhole_30 (by decide) (fun c6 => ?_) (fun c6 => ?_)
      · refine m_iconst C dX12_isWhole_50 ?_
        exact m_zret C dX12_isWhole_51 rfl (Or.inl rfl) (Nat.le_of_ble_eq_true rfl) (Nat.le_of_ble_eq_true rfl) ⟨0, rfl, fp0, hB, ⟨by omega, WHE.j0 (by omega) we2 (by omega)⟩⟩
      · refine m_aload_n (j := 0) C dX12_isWhole_33 rfl ?_
        refine m_aload_n (j := 0) C dX12_isWhole_34 rfl ?_
        refine m_geta (k := 9) C dX12_isWhole_35 w6_68 (by decide) rfl ?_
        refine m_iload_n (j := 1) C dX12_isWhole_38 rfl ?_
        refine m_ald (k := 9) C dX12_isWhole_39 rfl rfl (by decide) (by omega) (by show _ < ((_ : Nat) : Int); simp only [mlen]; omega) (by decide) ?_
        have ra5 : (-1) ≤ a 9 t.toNat ∧ a 9 t.toNat ≤ 29 := hB.2 9 (t.toNat)
        refine m_call (mc2 := 0) (ms2 := 0) (As := [.int (iI (a 9 t.toNat))]) (rest := []) C ((E_isWholeN 30 (a 9 t.toNat) (by omega) (by omega) (Nat.le_refl _)) _ _ hB hT) dX12_isWhole_40 kV_X12_171 rfl ck_13 rfl (Nat.le_of_ble_eq_true rfl) ⟨Nat.le_of_ble_eq_true rfl, Nat.le_of_ble_eq_true rfl⟩ ⟨Nat.le_of_ble_eq_true rfl, Nat.le_of_ble_eq_true rfl⟩ (fun rh4 vh4 ah4 h4 => ?_)
        obtain ⟨f4, rfl, fn4, _, ef4, we3⟩ := h4
        obtain ⟨rfl, rfl⟩ := fn4.eq
        refine m_st (st2 := [.int (iI f4)]) rfl ?_
        refine m_if_eq (tgt := 50) C ⟨by omega, by omega⟩ dX12_isWhole_43 (by decide) (fun c7 => ?_) (fun c7 => ?_)
        · refine m_iconst C dX12_isWhole_50 ?_
          exact m_zret C dX12_isWhole_51 rfl (Or.inl rfl) (Nat.le_of_ble_eq_true rfl) (Nat.le_of_ble_eq_true rfl) ⟨0, rfl, fp0, hB, ⟨by omega, WHE.j10 (by omega) we3 (by omega)⟩⟩
        · refine m_iconst C dX12_isWhole_46 ?_
          refine m_goto (tgt := 51) C dX12_isWhole_47 (by decide) ?_
          exact m_zret C dX12_isWhole_51 rfl (Or.inr rfl) (Nat.le_of_ble_eq_true rfl) (Nat.le_of_ble_eq_true rfl) ⟨1, rfl, fp0, hB, ⟨by omega, WHE.j11 (by omega) (by omega) we2 we3 (by omega) (by omega)⟩⟩
  · refine m_iconst C dX12_isWhole_8 ?_
    exact m_zret C dX12_isWhole_9 rfl (Or.inl rfl) (Nat.le_of_ble_eq_true rfl) (Nat.le_of_ble_eq_true rfl) ⟨0, rfl, fp0, hB, ⟨by omega, WHE.no0 (by omega)⟩⟩
set_option maxHeartbeats 4000000 in
set_option maxRecDepth 100000 in
theorem E_addRow {l : Launch} {G : GT} {h0 : Nat} {ad ln : Nat → Nat} {v : Nat → Int} {a : Nat → Nat → Int}  {q x y z : Int} (hB : BX v a) (hW : RWS a) (hq : q = 0 ∨ q = 1) (h47 : a 47 q.toNat < 6008) (hx : -4 ≤ x ∧ x < 6000) (hz : 1 ≤ z ∧ z ≤ 4) (hy : 0 ≤ y) (h1 : 0 ≤ x → y + z ≤ 24000) (h2 : x < 0 → y + z ≤ 480) : Mm l G yX12_addRow cX12_addRow 6 none 0 [.int (iI q), .int (iI x), .int (iI y), .int (iI z)] h0 ad ln v a 0 0 (fun r v2 a2 => r = none ∧ fr [] [44, 45, 46, 47] v a v2 a2 ∧ BX v2 a2 ∧ (RWS a2 ∧ (a2 47 q.toNat = a 47 q.toNat + 1) ∧ a2 = ADDR a q x y z)) := by
  refine Mm.mk (by decide) (Nat.le_of_ble_eq_true rfl) ?_
  intro p e s m args below meth c A C
  have r47 : 0 ≤ a 47 q.toNat ∧ a 47 q.toNat ≤ 6008 := hB.2 47 _
  have fp0 : fr [] [44, 45, 46, 47] v a v a := fr.refl
  refine m_sipush (z := 6008) C dX12_addRow_0 (by decide) ?_
  refine m_iload_n (j := 1) C dX12_addRow_3 rfl ?_
  refine m_imul C dX12_addRow_4 ?_
  refine m_aload_n (j := 0) C dX12_addRow_5 rfl ?_
  refine m_geta (k := 47) C dX12_addRow_6 w6_106 (by decide) rfl ?_
  refine m_iload_n (j := 1) C dX12_addRow_9 rfl ?_
  refine m_ald (k := 47) C dX12_addRow_10 rfl rfl (by decide) (by omega) (by show _ < ((_ : Nat) : Int); simp only [mlen]; omega) (by decide) ?_
  have ra1 : 0 ≤ a 47 q.toNat ∧ a 47 q.toNat ≤ 6008 := hB.2 47 (q.toNat)
  refine m_iadd C dX12_addRow_11 ?_
  refine m_istore (lv2 := [(5, .int (iI ((6008 * q) + (a 47 q.toNat)))), (0, .ref h0), (1, .int (iI q)), (2, .int (iI x)), (3, .int (iI y)), (4, .int (iI z))]) C dX12_addRow_12 (by decide) rfl ?_
  refine m_aload_n (j := 1) C dX12_addRow_14 rfl ?_
  refine m_geta (k := 44) C dX12_addRow_15 w6_103 (by decide) rfl ?_
  refine m_iload (j := 0) C dX12_addRow_18 rfl ?_
  refine m_iload_n (j := 3) C dX12_addRow_20 rfl ?_
  refine m_ast (k := 44) C dX12_addRow_21 rfl rfl (by decide) (by omega) (by show _ < ((_ : Nat) : Int); simp only [mlen]; omega) (by decide) ?_
  have bq1 : BX v (up2 a 44 ((6008 * q) + (a 47 q.toNat)).toNat x) := hB.set (k := 44) (i := ((6008 * q) + (a 47 q.toNat)).toNat) (z := x) (show (-4) ≤ x ∧ x ≤ 5999 by omega)
  have fq1 := fp0.set (k := 44) (i := ((6008 * q) + (a 47 q.toNat)).toNat) (z := x) rfl
  refine m_aload_n (j := 1) C dX12_addRow_22 rfl ?_
  refine m_geta (k := 45) C dX12_addRow_23 w6_104 (by decide) rfl ?_
  refine m_iload (j := 0) C dX12_addRow_26 rfl ?_
  refine m_iload_n (j := 4) C dX12_addRow_28 rfl ?_
  refine m_ast (k := 45) C dX12_addRow_29 rfl rfl (by decide) (by omega) (by show _ < ((_ : Nat) : Int); simp only [mlen]; omega) (by decide) ?_
  have bq2 : BX v (up2 (up2 a 44 ((6008 * q) + (a 47 q.toNat)).toNat x) 45 ((6008 * q) + (a 47 q.toNat)).toNat y) := bq1.set (k := 45) (i := ((6008 * q) + (a 47 q.toNat)).toNat) (z := y) (show 0 ≤ y ∧ y ≤ 23999 by omega)
  have fq2 := fq1.set (k := 45) (i := ((6008 * q) + (a 47 q.toNat)).toNat) (z := y) rfl
  refine m_aload_n (j := 1) C dX12_addRow_30 rfl ?_
  refine m_geta (k := 46) C dX12_addRow_31 w6_105 (by decide) rfl ?_
  refine m_iload (j := 0) C dX12_addRow_34 rfl ?_
  refine m_iload (j := 5) C dX12_addRow_36 rfl ?_
  refine m_ast (k := 46) C dX12_addRow_38 rfl rfl (by decide) (by omega) (by show _ < ((_ : Nat) : Int); simp only [mlen]; omega) (by decide) ?_
  have bq3 : BX v (up2 (up2 (up2 a 44 ((6008 * q) + (a 47 q.toNat)).toNat x) 45 ((6008 * q) + (a 47 q.toNat)).toNat y) 46 ((6008 * q) + (a 47 q.toNat)).toNat z) := bq2.set (k := 46) (i := ((6008 * q) + (a 47 q.toNat)).toNat) (z := z) (show 0 ≤ z ∧ z ≤ 4 by omega)
  have fq3 := fq2.set (k := 46) (i := ((6008 * q) + (a 47 q.toNat)).toNat) (z := z) rfl
  refine m_aload_n (j := 1) C dX12_addRow_39 rfl ?_
  refine m_geta (k := 47) C dX12_addRow_40 w6_106 (by decide) rfl ?_
  refine m_iload_n (j := 2) C dX12_addRow_43 rfl ?_
  refine m_dup2 C dX12_addRow_44 rfl rfl ?_
  refine m_ald (k := 47) C dX12_addRow_45 rfl rfl (by decide) (by omega) (by show _ < ((_ : Nat) : Int); simp only [mlen]; omega) (by decide) ?_
  refine m_st (st2 := [.int (iI (a 47 q.toNat)), .int (iI q), .ref (ad 47)]) rfl ?_
  refine m_iconst C dX12_addRow_46 ?_
  refine m_iadd C dX12_addRow_47 ?_
  refine m_ast (k := 47) C dX12_addRow_48 rfl rfl (by decide) (by omega) (by show _ < ((_ : Nat) : Int); simp only [mlen]; omega) (by decide) ?_
  have bq4 : BX v (up2 (up2 (up2 (up2 a 44 ((6008 * q) + (a 47 q.toNat)).toNat x) 45 ((6008 * q) + (a 47 q.toNat)).toNat y) 46 ((6008 * q) + (a 47 q.toNat)).toNat z) 47 q.toNat ((a 47 q.toNat) + 1)) := bq3.set (k := 47) (i := q.toNat) (z := (a 47 q.toNat) + 1) (show 0 ≤ ((a 47 q.toNat) + 1) ∧ ((a 47 q.toNat) + 1) ≤ 6008 by omega)
  have fq4 := fq3.set (k := 47) (i := q.toNat) (z := (a 47 q.toNat) + 1) rfl
  exact m_vret C dX12_addRow_49 rfl (Nat.le_of_ble_eq_true rfl) (Nat.le_of_ble_eq_true rfl) ⟨rfl, fq4, bq4, ⟨hW.add (r := 6008 * q + a 47 q.toNat) hq h47 rfl hx hz hy h1 h2, up2_s, rfl⟩⟩
set_option maxHeartbeats 4000000 in
set_option maxRecDepth 100000 in
theorem E_addIndicator {l : Launch} {G : GT} {h0 : Nat} {ad ln : Nat → Nat} {v : Nat → Int} {a : Nat → Nat → Int}  {q t w1 : Int} (hB : BX v a) (hW : RWS a) (hq : q = 0 ∨ q = 1) (ht : 0 ≤ t ∧ t < 30) (hw : 0 ≤ w1 ∧ w1 ≤ 3) (h47 : a 47 q.toNat < 6008) : Mm l G yX12_addIndicator cX12_addIndicator 5 none 1 [.int (iI q), .int (iI t), .int (iI w1)] h0 ad ln v a 0 0 (fun r v2 a2 => r = none ∧ fr [] [44, 45, 46, 47] v a v2 a2 ∧ BX v2 a2 ∧ (RWS a2 ∧ (a2 47 q.toNat ≤ a 47 q.toNat + 1) ∧ ADI a a2 q t w1)) := by
  refine Mm.mk (by decide) (Nat.le_of_ble_eq_true rfl) ?_
  intro p e s m args below meth c A C
  have fp0 : fr [] [44, 45, 46, 47] v a v a := fr.refl
  refine m_iconst C dX12_addIndicator_0 ?_
  refine m_iload_n (j := 2) C dX12_addIndicator_1 rfl ?_
  refine m_imul C dX12_addIndicator_2 ?_
  refine m_iload_n (j := 3) C dX12_addIndicator_3 rfl ?_
  refine m_iadd C dX12_addIndicator_4 ?_
  refine m_istore (lv2 := [(4, .int (iI ((4 * t) + w1))), (0, .ref h0), (1, .int (iI q)), (2, .int (iI t)), (3, .int (iI w1))]) C dX12_addIndicator_5 (by decide) rfl ?_
  refine m_aload_n (j := 1) C dX12_addIndicator_7 rfl ?_
  refine m_geta (k := 16) C dX12_addIndicator_8 w6_75 (by decide) rfl ?_
  refine m_iload (j := 0) C dX12_addIndicator_11 rfl ?_
  refine m_ald (k := 16) C dX12_addIndicator_13 rfl rfl (by decide) (by omega) (by show _ < ((_ : Nat) : Int); simp only [mlen]; omega) (by decide) ?_
  have ra1 : 0 ≤ a 16 ((4 * t) + w1).toNat ∧ a 16 ((4 * t) + w1).toNat ≤ 4 := hB.2 16 (((4 * t) + w1).toNat)
  refine m_if_le (tgt := 36) C ⟨by omega, by omega⟩ dX12_addIndicator_14 (by decide) (fun c1 => ?_) (fun c1 => ?_)
  · have ra2 : 0 ≤ a 47 q.toNat ∧ a 47 q.toNat ≤ 6008 := hB.2 47 (q.toNat)
    exact m_vret C dX12_addIndicator_36 rfl (Nat.le_of_ble_eq_true rfl) (Nat.le_of_ble_eq_true rfl) ⟨rfl, fp0, hB, ⟨hW, (by show a 47 q.toNat ≤ a 47 q.toNat + 1; omega), (Or.inr ⟨by omega, rfl⟩)⟩⟩
  · refine m_aload_n (j := 1) C dX12_addIndicator_17 rfl ?_
    refine m_iload_n (j := 2) C dX12_addIndicator_18 rfl ?_
    refine m_iconst C dX12_addIndicator_19 ?_
    refine m_iload_n (j := 4) C dX12_addIndicator_20 rfl ?_
    refine m_isub C dX12_addIndicator_21 ?_
    refine m_iconst C dX12_addIndicator_22 ?_
    refine m_iload (j := 0) C dX12_addIndicator_23 rfl ?_
    refine m_imul C dX12_addIndicator_25 ?_
    refine m_aload_n (j := 1) C dX12_addIndicator_26 rfl ?_
    refine m_geta (k := 16) C dX12_addIndicator_27 w6_75 (by decide) rfl ?_
    refine m_iload (j := 0) C dX12_addIndicator_30 rfl ?_
    refine m_ald (k := 16) C dX12_addIndicator_32 rfl rfl (by decide) (by omega) (by show _ < ((_ : Nat) : Int); simp only [mlen]; omega) (by decide) ?_
    have ra3 : 0 ≤ a 47 q.toNat ∧ a 47 q.toNat ≤ 6008 := hB.2 47 (q.toNat)
    refine m_call (mc2 := 0) (ms2 := 0) (As := [.int (iI q), .int (iI ((-1) - w1)), .int (iI (4 * ((4 * t) + w1))), .int (iI (a 16 ((4 * t) + w1).toNat))]) (rest := []) C (E_addRow (q := q) (x := (-1) - w1) (y := 4 * ((4 * t) + w1)) (z := a 16 ((4 * t) + w1).toNat) hB hW (by show q = 0 ∨ q = 1; omega) (by show a 47 q.toNat < 6008; omega) (by show -4 ≤ ((-1) - w1) ∧ ((-1) - w1) < 6000; omega) (by show 1 ≤ (a 16 ((4 * t) + w1).toNat) ∧ (a 16 ((4 * t) + w1).toNat) ≤ 4; omega) (by show 0 ≤ (4 * ((4 * t) + w1)); omega) (by show 0 ≤ ((-1) - w1) → (4 * ((4 * t) + w1)) + (a 16 ((4 * t) + w1).toNat) ≤ 24000; omega) (by show ((-1) - w1) < 0 → (4 * ((4 * t) + w1)) + (a 16 ((4 * t) + w1).toNat) ≤ 480; omega)) dX12_addIndicator_33 kV_X12_314 rfl ck_13 rfl (Nat.le_of_ble_eq_true rfl) ⟨Nat.le_of_ble_eq_true rfl, Nat.le_of_ble_eq_true rfl⟩ ⟨Nat.le_of_ble_eq_true rfl, Nat.le_of_ble_eq_true rfl⟩ (fun rh1 vh1 ah1 h1 => ?_)
    obtain ⟨rfl, fn1, bn1, ex1⟩ := h1
    have fq1 := fp0.call fn1 rfl rfl
    obtain ⟨pw1, ex1⟩ := ex1
    obtain ⟨ex1, tl1⟩ := ex1
    have gf1 : ah1 47 q.toNat = a 47 q.toNat + 1 := ex1
    have ra4 : 0 ≤ ah1 47 q.toNat ∧ ah1 47 q.toNat ≤ 6008 := bn1.2 47 (q.toNat)
    refine m_st (st2 := []) rfl ?_
    exact m_vret C dX12_addIndicator_36 rfl (Nat.le_of_ble_eq_true rfl) (Nat.le_of_ble_eq_true rfl) ⟨rfl, fq1, bn1, ⟨pw1, (by show ah1 47 q.toNat ≤ a 47 q.toNat + 1; omega), (Or.inl ⟨by omega, tl1⟩)⟩⟩
set_option maxHeartbeats 4000000 in
set_option maxRecDepth 100000 in
theorem E_addRows {l : Launch} {G : GT} {h0 : Nat} {ad ln : Nat → Nat} {v : Nat → Int} {a : Nat → Nat → Int}  {q t : Int} (hB : BX v a) (hW : RWS a) (hT : TBL v a) (hq : q = 0 ∨ q = 1) (ht : 0 ≤ t ∧ t < v 4) (h6 : a 6 t.toNat ≤ 4) : Mm l G yX12_addRows cX12_addRows 5 none 2 [.int (iI q), .int (iI t)] h0 ad ln v a 0 0 (fun r v2 a2 => r = none ∧ fr [] [44, 45, 46, 47] v a v2 a2 ∧ BX v2 a2 ∧ (RWS a2 ∧ (a2 47 q.toNat ≤ 6002) ∧ ARX a a2 q t)) := by
  refine Mm.mk (by decide) (Nat.le_of_ble_eq_true rfl) ?_
  intro p e s m args below meth c A C
  have h30 : 0 ≤ v 4 ∧ v 4 ≤ 30 := hB.1 4
  have fp0 : fr [] [44, 45, 46, 47] v a v a := fr.refl
  refine m_aload_n (j := 0) C dX12_addRows_0 rfl ?_
  refine m_geta (k := 47) C dX12_addRows_1 w6_106 (by decide) rfl ?_
  refine m_iload_n (j := 1) C dX12_addRows_4 rfl ?_
  refine m_iconst C dX12_addRows_5 ?_
  refine m_ast (k := 47) C dX12_addRows_6 rfl rfl (by decide) (by omega) (by show _ < ((_ : Nat) : Int); simp only [mlen]; omega) (by decide) ?_
  have bq1 : BX v (up2 a 47 q.toNat 0) := hB.set (k := 47) (i := q.toNat) (z := 0) ⟨by decide, by decide⟩
  have fq1 := fp0.set (k := 47) (i := q.toNat) (z := 0) rfl
  have pw1 : RWS (up2 a 47 q.toNat 0) := RWS.zero (q := q) hW (by omega)
  have zpw1 : (up2 a 47 q.toNat 0) 47 q.toNat = 0 := up2_s
  refine m_iload_n (j := 2) C dX12_addRows_7 rfl ?_
  refine m_istore_n (lv2 := [(3, .int (iI t)), (0, .ref h0), (1, .int (iI q)), (2, .int (iI t))]) C dX12_addRows_8 (by decide) rfl ?_
  have Lp1 : ∀ (nn : Nat) (b1 : Int) (vb1 : Nat → Int) (ab1 : Nat → Nat → Int), b1 + 1 < (nn : Int) → BX vb1 ab1 → fr [] [44, 45, 46, 47] v a vb1 ab1 → (-1 ≤ b1 ∧ b1 ≤ t) → (b1 = -1 ∨ a 6 b1.toNat ≤ 4) → (ab1 47 q.toNat + 200 * (b1 + 1) ≤ 6000) → (RWS ab1) → (HX a ab1 q t b1) → mw p l e (rmq 2 0 0) s m args below meth c G A 5 (MQ below (Qm G A (fun rq Lq Eq => ∃ (vq : Nat → Int) (aq : Nat → Nat → Int), mI G h0 ad ln vq aq Lq Eq ∧ (fun r v2 a2 => r = none ∧ fr [] [44, 45, 46, 47] v a v2 a2 ∧ BX v2 a2 ∧ (RWS a2 ∧ (a2 47 q.toNat ≤ 6002) ∧ ARX a a2 q t)) rq vq aq)) args s 0 0 A) h0 ad ln vb1 ab1 0 0 9 [(3, .int (iI b1)), (0, .ref h0), (1, .int (iI q)), (2, .int (iI t))] [] := by
    intro nn
    induction nn with
    | zero =>
      intro b1 vb1 ab1 hm bxb1 fpb1 hb hb6 h47 hW1 hH
      exact absurd hm (by omega)
    | succ nn ih1 =>
      intro b1 vb1 ab1 hm bxb1 fpb1 hb hb6 h47 hW1 hH
      refine m_iload_n (j := 0) C dX12_addRows_9 rfl ?_
      refine m_if_lt (tgt := 71) C ⟨by omega, by omega⟩ dX12_addRows_10 (by decide) (fun c1 => ?_) (fun c1 => ?_)
      · refine m_aload_n (j := 1) C dX12_addRows_71 rfl ?_
        refine m_iload_n (j := 2) C dX12_addRows_72 rfl ?_
        refine m_iload_n (j := 3) C dX12_addRows_73 rfl ?_
        refine m_iconst C dX12_addRows_74 ?_
        have ra1 : 0 ≤ ab1 47 q.toNat ∧ ab1 47 q.toNat ≤ 6008 := bxb1.2 47 (q.toNat)
        refine m_call (mc2 := 0) (ms2 := 0) (As := [.int (iI q), .int (iI t), .int (iI 0)]) (rest := []) C (E_addIndicator (q := q) (t := t) (w1 := 0) bxb1 hW1 (by show q = 0 ∨ q = 1; omega) (by show 0 ≤ t ∧ t < 30; omega) (by show 0 ≤ (0 : Int) ∧ (0 : Int) ≤ 3; omega) (by show ab1 47 q.toNat < 6008; omega)) dX12_addRows_75 kV_X12_317 rfl ck_13 rfl (Nat.le_of_ble_eq_true rfl) ⟨Nat.le_of_ble_eq_true rfl, Nat.le_of_ble_eq_true rfl⟩ ⟨Nat.le_of_ble_eq_true rfl, Nat.le_of_ble_eq_true rfl⟩ (fun rh1 vh1 ah1 h1 => ?_)
        obtain ⟨rfl, fn1, bn1, ex1⟩ := h1
        have fq2 := fpb1.call fn1 rfl rfl
        obtain ⟨pw2, ex1⟩ := ex1
        obtain ⟨ex1, tl1⟩ := ex1
        have gf1 : ah1 47 q.toNat ≤ ab1 47 q.toNat + 1 := ex1
        have ra2 : 0 ≤ ah1 47 q.toNat ∧ ah1 47 q.toNat ≤ 6008 := bn1.2 47 (q.toNat)
        refine m_st (st2 := []) rfl ?_
        refine m_aload_n (j := 1) C dX12_addRows_78 rfl ?_
        refine m_iload_n (j := 2) C dX12_addRows_79 rfl ?_
        refine m_iload_n (j := 3) C dX12_addRows_80 rfl ?_
        refine m_iconst C dX12_addRows_81 ?_
        refine m_call (mc2 := 0) (ms2 := 0) (As := [.int (iI q), .int (iI t), .int (iI 1)]) (rest := []) C (E_addIndicator (q := q) (t := t) (w1 := 1) bn1 pw2 (by show q = 0 ∨ q = 1; omega) (by show 0 ≤ t ∧ t < 30; omega) (by show 0 ≤ (1 : Int) ∧ (1 : Int) ≤ 3; omega) (by show ah1 47 q.toNat < 6008; omega)) dX12_addRows_82 kV_X12_317 rfl ck_13 rfl (Nat.le_of_ble_eq_true rfl) ⟨Nat.le_of_ble_eq_true rfl, Nat.le_of_ble_eq_true rfl⟩ ⟨Nat.le_of_ble_eq_true rfl, Nat.le_of_ble_eq_true rfl⟩ (fun rh2 vh2 ah2 h2 => ?_)
        obtain ⟨rfl, fn2, bn2, ex2⟩ := h2
        have fq3 := fq2.call fn2 rfl rfl
        obtain ⟨pw3, ex2⟩ := ex2
        obtain ⟨ex2, tl2⟩ := ex2
        have gf2 : ah2 47 q.toNat ≤ ah1 47 q.toNat + 1 := ex2
        have ra3 : 0 ≤ ah2 47 q.toNat ∧ ah2 47 q.toNat ≤ 6008 := bn2.2 47 (q.toNat)
        refine m_st (st2 := []) rfl ?_
        exact m_vret C dX12_addRows_85 rfl (Nat.le_of_ble_eq_true rfl) (Nat.le_of_ble_eq_true rfl) ⟨rfl, fq3, bn2, ⟨pw3, (by show ah2 47 q.toNat ≤ 6002; omega), HX.fin hH (by omega) tl1 tl2 (fpb1.2 16 rfl) (fq2.2 16 rfl) hq ⟨(bxb1.2 47 _).1, by omega⟩ ⟨(bn1.2 47 _).1, by omega⟩ (by omega)⟩⟩
      · have ht0 := hT.1 b1 (by omega) (by omega)
        have r10 : 0 ≤ a 10 b1.toNat ∧ a 10 b1.toNat ≤ 200 := hB.2 10 _
        refine m_sipush (z := 200) C dX12_addRows_13 (by decide) ?_
        refine m_iload_n (j := 0) C dX12_addRows_16 rfl ?_
        refine m_imul C dX12_addRows_17 ?_
        refine m_istore (lv2 := [(4, .int (iI (200 * b1))), (3, .int (iI b1)), (0, .ref h0), (1, .int (iI q)), (2, .int (iI t))]) C dX12_addRows_18 (by decide) rfl ?_
        have Lp2 : ∀ (nn : Nat) (r : Int) (vb2 : Nat → Int) (ab2 : Nat → Nat → Int), 200 * b1 + 200 - r < (nn : Int) → BX vb2 ab2 → fr [] [44, 45, 46, 47] v a vb2 ab2 → (200 * b1 ≤ r ∧ r ≤ 200 * b1 + a 10 b1.toNat) → (ab2 47 q.toNat + (200 * b1 + a 10 b1.toNat - r) + 200 * b1 ≤ 6000) → (RWS ab2) → (HY a ab2 q t b1 r) → mw p l e (rmq 2 0 0) s m args below meth c G A 5 (MQ below (Qm G A (fun rq Lq Eq => ∃ (vq : Nat → Int) (aq : Nat → Nat → Int), mI G h0 ad ln vq aq Lq Eq ∧ (fun r v2 a2 => r = none ∧ fr [] [44, 45, 46, 47] v a v2 a2 ∧ BX v2 a2 ∧ (RWS a2 ∧ (a2 47 q.toNat ≤ 6002) ∧ ARX a a2 q t)) rq vq aq)) args s 0 0 A) h0 ad ln vb2 ab2 0 0 20 [(4, .int (iI r)), (3, .int (iI b1)), (0, .ref h0), (1, .int (iI q)), (2, .int (iI t))] [] := by
          intro nn
          induction nn with
          | zero =>
            intro r vb2 ab2 hm bxb2 fpb2 hr h472 hW2 hH2
            exact absurd hm (by omega)
          | succ nn ih2 =>
            intro r vb2 ab2 hm bxb2 fpb2 hr h472 hW2 hH2
            refine m_iload (j := 0) C dX12_addRows_20 rfl ?_
            refine m_sipush (z := 200) C dX12_addRows_22 (by decide) ?_
            refine m_iload_n (j := 1) C dX12_addRows_25 rfl ?_
            refine m_imul C dX12_addRows_26 ?_
            refine m_aload_n (j := 2) C dX12_addRows_27 rfl ?_
            refine m_geta (k := 10) C dX12_addRows_28 w6_69 (by decide) rfl ?_
            refine m_iload_n (j := 1) C dX12_addRows_31 rfl ?_
            refine m_ald (k := 10) C dX12_addRows_32 rfl rfl (by decide) (by omega) (by show _ < ((_ : Nat) : Int); simp only [mlen]; omega) (by decide) ?_
            have ra4 : 0 ≤ ab2 10 b1.toNat ∧ ab2 10 b1.toNat ≤ 200 := bxb2.2 10 (b1.toNat)
            have ae1 : ab2 10 (b1.toNat) = a 10 (b1.toNat) := congrFun (fpb2.2 10 rfl) (b1.toNat)
            refine m_st (st2 := [.int (iI (a 10 b1.toNat)), .int (iI (200 * b1)), .int (iI r)]) (congrArg (fun z => Value.int (iI z) :: [.int (iI (200 * b1)), .int (iI r)]) (congrFun (fpb2.2 10 rfl) (b1.toNat))) ?_
            refine m_iadd C dX12_addRows_33 ?_
            refine m_icmp_ge (tgt := 61) C ⟨by omega, by omega⟩ ⟨by omega, by omega⟩ dX12_addRows_34 (by decide) (fun c2 => ?_) (fun c2 => ?_)
            · refine m_aload_n (j := 2) C dX12_addRows_61 rfl ?_
              refine m_geta (k := 8) C dX12_addRows_62 w6_67 (by decide) rfl ?_
              refine m_iload_n (j := 1) C dX12_addRows_65 rfl ?_
              refine m_ald (k := 8) C dX12_addRows_66 rfl rfl (by decide) (by omega) (by show _ < ((_ : Nat) : Int); simp only [mlen]; omega) (by decide) ?_
              have ra5 : (-1) ≤ ab2 8 b1.toNat ∧ ab2 8 b1.toNat ≤ 29 := bxb2.2 8 (b1.toNat)
              have ae2 : ab2 8 (b1.toNat) = a 8 (b1.toNat) := congrFun (fpb2.2 8 rfl) (b1.toNat)
              refine m_st (st2 := [.int (iI (a 8 b1.toNat))]) (congrArg (fun z => Value.int (iI z) :: []) (congrFun (fpb2.2 8 rfl) (b1.toNat))) ?_
              refine m_istore_n (lv2 := [(3, .int (iI (a 8 b1.toNat))), (4, .int (iI r)), (0, .ref h0), (1, .int (iI q)), (2, .int (iI t))]) C dX12_addRows_67 (by decide) rfl ?_
              refine m_goto (tgt := 9) C dX12_addRows_68 (by decide) ?_
              have ra6 : 0 ≤ ab2 47 q.toNat ∧ ab2 47 q.toNat ≤ 6008 := bxb2.2 47 (q.toNat)
              refine m_lv (lv2 := [(3, .int (iI (a 8 b1.toNat))), (0, .ref h0), (1, .int (iI q)), (2, .int (iI t))]) [0, 2, 3, 4] rfl ?_
              exact ih1  (a 8 b1.toNat) _ _ (by omega) bxb2 fpb2 (by omega) (by omega) (by show (ab2 47 q.toNat) + 200 * ((a 8 b1.toNat) + 1) ≤ 6000; omega) hW2 (HY.fin hH2 (by omega))
            · refine m_aload_n (j := 2) C dX12_addRows_37 rfl ?_
              refine m_iload_n (j := 3) C dX12_addRows_38 rfl ?_
              refine m_iload (j := 0) C dX12_addRows_39 rfl ?_
              refine m_iconst C dX12_addRows_41 ?_
              refine m_iload (j := 0) C dX12_addRows_42 rfl ?_
              refine m_imul C dX12_addRows_44 ?_
              refine m_aload_n (j := 2) C dX12_addRows_45 rfl ?_
              refine m_geta (k := 13) C dX12_addRows_46 w6_72 (by decide) rfl ?_
              refine m_iload (j := 0) C dX12_addRows_49 rfl ?_
              refine m_ald (k := 13) C dX12_addRows_51 rfl rfl (by decide) (by omega) (by show _ < ((_ : Nat) : Int); simp only [mlen]; omega) (by decide) ?_
              have ra7 : 0 ≤ ab2 13 r.toNat ∧ ab2 13 r.toNat ≤ 4 := bxb2.2 13 (r.toNat)
              have ae3 : ab2 13 (r.toNat) = a 13 (r.toNat) := congrFun (fpb2.2 13 rfl) (r.toNat)
              refine m_st (st2 := [.int (iI (a 13 r.toNat)), .int (iI (4 * r)), .int (iI r), .int (iI q), .ref h0]) (congrArg (fun z => Value.int (iI z) :: [.int (iI (4 * r)), .int (iI r), .int (iI q), .ref h0]) (congrFun (fpb2.2 13 rfl) (r.toNat))) ?_
              have hr0 := (hT.2 b1 r (by omega) (by omega) (by omega) (by omega)).2
              have ra8 : 0 ≤ ab2 47 q.toNat ∧ ab2 47 q.toNat ≤ 6008 := bxb2.2 47 (q.toNat)
              refine m_call (mc2 := 0) (ms2 := 0) (As := [.int (iI q), .int (iI r), .int (iI (4 * r)), .int (iI (a 13 r.toNat))]) (rest := []) C (E_addRow (q := q) (x := r) (y := 4 * r) (z := a 13 r.toNat) bxb2 hW2 (by show q = 0 ∨ q = 1; omega) (by show ab2 47 q.toNat < 6008; omega) (by show -4 ≤ r ∧ r < 6000; omega) (by show 1 ≤ (a 13 r.toNat) ∧ (a 13 r.toNat) ≤ 4; omega) (by show 0 ≤ (4 * r); omega) (by show 0 ≤ r → (4 * r) + (a 13 r.toNat) ≤ 24000; omega) (by show r < 0 → (4 * r) + (a 13 r.toNat) ≤ 480; omega)) dX12_addRows_52 kV_X12_314 rfl ck_13 rfl (Nat.le_of_ble_eq_true rfl) ⟨Nat.le_of_ble_eq_true rfl, Nat.le_of_ble_eq_true rfl⟩ ⟨Nat.le_of_ble_eq_true rfl, Nat.le_of_ble_eq_true rfl⟩ (fun rh3 vh3 ah3 h3 => ?_)
              obtain ⟨rfl, fn3, bn3, ex3⟩ := h3
              have fq4 := fpb2.call fn3 rfl rfl
              obtain ⟨pw4, ex3⟩ := ex3
              obtain ⟨ex3, tl3⟩ := ex3
              have gf3 : ah3 47 q.toNat = ab2 47 q.toNat + 1 := ex3
              have ra9 : 0 ≤ ah3 47 q.toNat ∧ ah3 47 q.toNat ≤ 6008 := bn3.2 47 (q.toNat)
              refine m_st (st2 := []) rfl ?_
              refine m_iinc (z := r) (j := 0) (lv2 := [(4, .int (iI (r + 1))), (3, .int (iI b1)), (0, .ref h0), (1, .int (iI q)), (2, .int (iI t))]) C dX12_addRows_55 rfl (by decide) rfl ?_
              refine m_goto (tgt := 20) C dX12_addRows_58 (by decide) ?_
              refine m_lv (lv2 := [(4, .int (iI (r + 1))), (3, .int (iI b1)), (0, .ref h0), (1, .int (iI q)), (2, .int (iI t))]) [0, 1, 2, 3, 4] rfl ?_
              exact ih2  (r + 1) _ _ (by omega) bn3 fq4 (by omega) (by show (ah3 47 q.toNat) + (200 * b1 + a 10 b1.toNat - (r + 1)) + 200 * b1 ≤ 6000; omega) pw4 (by rw [tl3]; exact HY.step hH2 hq (by omega) (by omega) ⟨(bxb2.2 47 _).1, by omega⟩)
        have ra10 : 0 ≤ ab1 47 q.toNat ∧ ab1 47 q.toNat ≤ 6008 := bxb1.2 47 (q.toNat)
        refine m_lv (lv2 := [(4, .int (iI (200 * b1))), (3, .int (iI b1)), (0, .ref h0), (1, .int (iI q)), (2, .int (iI t))]) [0, 1, 2, 3, 4] rfl ?_
        exact Lp2 202 (200 * b1) _ _ (by omega) bxb1 fpb1 (by omega) (by show (ab1 47 q.toNat) + (200 * b1 + a 10 b1.toNat - (200 * b1)) + 200 * b1 ≤ 6000; omega) hW1 (hH.start hT (by omega) (by omega) (by omega) (by omega))
  have ra11 : 0 ≤ (up2 a 47 q.toNat 0) 47 q.toNat ∧ (up2 a 47 q.toNat 0) 47 q.toNat ≤ 6008 := bq1.2 47 (q.toNat)
  refine m_lv (lv2 := [(3, .int (iI t)), (0, .ref h0), (1, .int (iI q)), (2, .int (iI t))]) [0, 1, 2, 3] rfl ?_
  exact Lp1 32 t _ _ (by omega) bq1 fq1 (by omega) (by omega) (by show ((up2 a 47 q.toNat 0) 47 q.toNat) + 200 * (t + 1) ≤ 6000; omega) pw1 (HX.init (fun q2 h1 h2 => up2_j (by omega)) up2_s (funext fun _ => up2_k (by decide)) (funext fun _ => up2_k (by decide)) (funext fun _ => up2_k (by decide)))
set_option maxHeartbeats 4000000 in
set_option maxRecDepth 100000 in
theorem E_gather {l : Launch} {G : GT} {h0 : Nat} {ad ln : Nat → Nat} {v : Nat → Int} {a : Nat → Nat → Int}  {t : Int} (hB : BX v a) (hW : RWS a) (hT : TBL v a) (ht : 0 ≤ t ∧ t < v 4) : Mm l G yX12_gather cX12_gather 2 none 3 [.int (iI t)] h0 ad ln v a 0 0 (fun r v2 a2 => r = none ∧ fr [] [44, 45, 46, 47] v a v2 a2 ∧ BX v2 a2 ∧ (RWS a2 ∧ GAT a a2 t)) := by
  refine Mm.mk (by decide) (Nat.le_of_ble_eq_true rfl) ?_
  intro p e s m args below meth c A C
  have h30 : 0 ≤ v 4 ∧ v 4 ≤ 30 := hB.1 4
  have ht0 := hT.1 t (by omega) (by omega)
  have fp0 : fr [] [44, 45, 46, 47] v a v a := fr.refl
  refine m_aload_n (j := 0) C dX12_gather_0 rfl ?_
  refine m_geta (k := 47) C dX12_gather_1 w6_106 (by decide) rfl ?_
  refine m_iconst C dX12_gather_4 ?_
  refine m_iconst C dX12_gather_5 ?_
  refine m_ast (k := 47) C dX12_gather_6 rfl rfl (by decide) (by decide) (by decide) (by decide) ?_
  have bq1 : BX v (up2 a 47 (1 : Int).toNat 0) := hB.set (k := 47) (i := (1 : Int).toNat) (z := 0) ⟨by decide, by decide⟩
  have fq1 := fp0.set (k := 47) (i := (1 : Int).toNat) (z := 0) rfl
  have pw1 : RWS (up2 a 47 (1 : Int).toNat 0) := RWS.zero (q := 1) hW (by omega)
  have zpw1 : (up2 a 47 (1 : Int).toNat 0) 47 (1 : Int).toNat = 0 := up2_s
  refine m_aload_n (j := 0) C dX12_gather_7 rfl ?_
  refine m_geta (k := 6) C dX12_gather_8 w6_65 (by decide) rfl ?_
  refine m_iload_n (j := 1) C dX12_gather_11 rfl ?_
  refine m_ald (k := 6) C dX12_gather_12 rfl rfl (by decide) (by omega) (by show _ < ((_ : Nat) : Int); simp only [mlen]; omega) (by decide) ?_
  have ra1 : 0 ≤ a 6 t.toNat ∧ a 6 t.toNat ≤ 5 := bq1.2 6 (t.toNat)
  refine m_st (st2 := [.int (iI (a 6 t.toNat))]) (congrArg (fun z => Value.int (iI z) :: []) (congrFun (fq1.2 6 rfl) (t.toNat))) ?_
  refine m_iconst C dX12_gather_13 ?_
  refine m_icmp_eq (tgt := 24) C ⟨by omega, by omega⟩ ⟨by decide, by decide⟩ dX12_gather_14 (by decide) (fun c1 => ?_) (fun c1 => ?_)
  · refine m_aload_n (j := 0) C dX12_gather_24 rfl ?_
    refine m_iconst C dX12_gather_25 ?_
    refine m_aload_n (j := 0) C dX12_gather_26 rfl ?_
    refine m_geta (k := 8) C dX12_gather_27 w6_67 (by decide) rfl ?_
    refine m_iload_n (j := 1) C dX12_gather_30 rfl ?_
    refine m_ald (k := 8) C dX12_gather_31 rfl rfl (by decide) (by omega) (by show _ < ((_ : Nat) : Int); simp only [mlen]; omega) (by decide) ?_
    have ra2 : (-1) ≤ a 8 t.toNat ∧ a 8 t.toNat ≤ 29 := bq1.2 8 (t.toNat)
    refine m_st (st2 := [.int (iI (a 8 t.toNat)), .int (iI 0), .ref h0]) (congrArg (fun z => Value.int (iI z) :: [.int (iI 0), .ref h0]) (congrFun (fq1.2 8 rfl) (t.toNat))) ?_
    have rv1 : 0 ≤ v 4 ∧ v 4 ≤ 30 := bq1.1 4
    have ra3 : 0 ≤ a 6 (a 8 t.toNat).toNat ∧ a 6 (a 8 t.toNat).toNat ≤ 5 := bq1.2 6 ((a 8 t.toNat).toNat)
    refine m_call (mc2 := 0) (ms2 := 0) (As := [.int (iI 0), .int (iI (a 8 t.toNat))]) (rest := []) C (E_addRows (q := 0) (t := a 8 t.toNat) bq1 pw1 (hT.fr fq1 rfl rfl) (by show (0 : Int) = 0 ∨ (0 : Int) = 1; omega) (by show 0 ≤ (a 8 t.toNat) ∧ (a 8 t.toNat) < (v 4); omega) (by show a 6 (a 8 t.toNat).toNat ≤ 4; omega)) dX12_gather_32 kV_X12_321 rfl ck_13 rfl (Nat.le_of_ble_eq_true rfl) ⟨Nat.le_of_ble_eq_true rfl, Nat.le_of_ble_eq_true rfl⟩ ⟨Nat.le_of_ble_eq_true rfl, Nat.le_of_ble_eq_true rfl⟩ (fun rh1 vh1 ah1 h1 => ?_)
    obtain ⟨rfl, fn1, bn1, ex1⟩ := h1
    have fq2 := fq1.call fn1 rfl rfl
    obtain ⟨pw2, ex1⟩ := ex1
    obtain ⟨ex1, tl1⟩ := ex1
    have gf1 : ah1 47 (0 : Int).toNat ≤ 6002 := ex1
    have ra4 : 0 ≤ ah1 47 (0 : Int).toNat ∧ ah1 47 (0 : Int).toNat ≤ 6008 := bn1.2 47 ((0 : Int).toNat)
    refine m_st (st2 := []) rfl ?_
    refine m_aload_n (j := 0) C dX12_gather_35 rfl ?_
    refine m_iconst C dX12_gather_36 ?_
    refine m_iload_n (j := 1) C dX12_gather_37 rfl ?_
    refine m_iconst C dX12_gather_38 ?_
    refine m_call (mc2 := 0) (ms2 := 0) (As := [.int (iI 0), .int (iI t), .int (iI 2)]) (rest := []) C (E_addIndicator (q := 0) (t := t) (w1 := 2) bn1 pw2 (by show (0 : Int) = 0 ∨ (0 : Int) = 1; omega) (by show 0 ≤ t ∧ t < 30; omega) (by show 0 ≤ (2 : Int) ∧ (2 : Int) ≤ 3; omega) (by show ah1 47 (0 : Int).toNat < 6008; omega)) dX12_gather_39 kV_X12_317 rfl ck_13 rfl (Nat.le_of_ble_eq_true rfl) ⟨Nat.le_of_ble_eq_true rfl, Nat.le_of_ble_eq_true rfl⟩ ⟨Nat.le_of_ble_eq_true rfl, Nat.le_of_ble_eq_true rfl⟩ (fun rh2 vh2 ah2 h2 => ?_)
    obtain ⟨rfl, fn2, bn2, ex2⟩ := h2
    have fq3 := fq2.call fn2 rfl rfl
    obtain ⟨pw3, ex2⟩ := ex2
    obtain ⟨ex2, tl2⟩ := ex2
    have gf2 : ah2 47 (0 : Int).toNat ≤ ah1 47 (0 : Int).toNat + 1 := ex2
    have ra5 : 0 ≤ ah2 47 (0 : Int).toNat ∧ ah2 47 (0 : Int).toNat ≤ 6008 := bn2.2 47 ((0 : Int).toNat)
    refine m_st (st2 := []) rfl ?_
    refine m_aload_n (j := 0) C dX12_gather_42 rfl ?_
    refine m_iconst C dX12_gather_43 ?_
    refine m_aload_n (j := 0) C dX12_gather_44 rfl ?_
    refine m_geta (k := 9) C dX12_gather_45 w6_68 (by decide) rfl ?_
    refine m_iload_n (j := 1) C dX12_gather_48 rfl ?_
    refine m_ald (k := 9) C dX12_gather_49 rfl rfl (by decide) (by omega) (by show _ < ((_ : Nat) : Int); simp only [mlen]; omega) (by decide) ?_
    have ra6 : (-1) ≤ ah2 9 t.toNat ∧ ah2 9 t.toNat ≤ 29 := bn2.2 9 (t.toNat)
    have ae1 : ah2 9 (t.toNat) = ah1 9 (t.toNat) := congrFun (fn2.2 9 rfl) (t.toNat)
    have ae2 : ah1 9 (t.toNat) = a 9 (t.toNat) := congrFun (fn1.2 9 rfl) (t.toNat)
    refine m_st (st2 := [.int (iI (a 9 t.toNat)), .int (iI 1), .ref h0]) (congrArg (fun z => Value.int (iI z) :: [.int (iI 1), .ref h0]) (congrFun (fq3.2 9 rfl) (t.toNat))) ?_
    have rv2 : 0 ≤ vh2 4 ∧ vh2 4 ≤ 30 := bn2.1 4
    have ve1 : vh2 4 = vh1 4 := fn2.1 4 rfl
    have ve2 : vh1 4 = v 4 := fn1.1 4 rfl
    have ra7 : 0 ≤ ah2 6 (a 9 t.toNat).toNat ∧ ah2 6 (a 9 t.toNat).toNat ≤ 5 := bn2.2 6 ((a 9 t.toNat).toNat)
    have ae3 : ah2 6 ((a 9 t.toNat).toNat) = ah1 6 ((a 9 t.toNat).toNat) := congrFun (fn2.2 6 rfl) ((a 9 t.toNat).toNat)
    have ae4 : ah1 6 ((a 9 t.toNat).toNat) = a 6 ((a 9 t.toNat).toNat) := congrFun (fn1.2 6 rfl) ((a 9 t.toNat).toNat)
    refine m_call (mc2 := 0) (ms2 := 0) (As := [.int (iI 1), .int (iI (a 9 t.toNat))]) (rest := []) C (E_addRows (q := 1) (t := a 9 t.toNat) bn2 pw3 (hT.fr fq3 rfl rfl) (by show (1 : Int) = 0 ∨ (1 : Int) = 1; omega) (by show 0 ≤ (a 9 t.toNat) ∧ (a 9 t.toNat) < (vh2 4); omega) (by show ah2 6 (a 9 t.toNat).toNat ≤ 4; omega)) dX12_gather_50 kV_X12_321 rfl ck_13 rfl (Nat.le_of_ble_eq_true rfl) ⟨Nat.le_of_ble_eq_true rfl, Nat.le_of_ble_eq_true rfl⟩ ⟨Nat.le_of_ble_eq_true rfl, Nat.le_of_ble_eq_true rfl⟩ (fun rh3 vh3 ah3 h3 => ?_)
    obtain ⟨rfl, fn3, bn3, ex3⟩ := h3
    have fq4 := fq3.call fn3 rfl rfl
    obtain ⟨pw4, ex3⟩ := ex3
    obtain ⟨ex3, tl3⟩ := ex3
    have gf3 : ah3 47 (1 : Int).toNat ≤ 6002 := ex3
    have ra8 : 0 ≤ ah3 47 (1 : Int).toNat ∧ ah3 47 (1 : Int).toNat ≤ 6008 := bn3.2 47 ((1 : Int).toNat)
    refine m_st (st2 := []) rfl ?_
    refine m_aload_n (j := 0) C dX12_gather_53 rfl ?_
    refine m_iconst C dX12_gather_54 ?_
    refine m_iload_n (j := 1) C dX12_gather_55 rfl ?_
    refine m_iconst C dX12_gather_56 ?_
    refine m_call (mc2 := 0) (ms2 := 0) (As := [.int (iI 1), .int (iI t), .int (iI 3)]) (rest := []) C (E_addIndicator (q := 1) (t := t) (w1 := 3) bn3 pw4 (by show (1 : Int) = 0 ∨ (1 : Int) = 1; omega) (by show 0 ≤ t ∧ t < 30; omega) (by show 0 ≤ (3 : Int) ∧ (3 : Int) ≤ 3; omega) (by show ah3 47 (1 : Int).toNat < 6008; omega)) dX12_gather_57 kV_X12_317 rfl ck_13 rfl (Nat.le_of_ble_eq_true rfl) ⟨Nat.le_of_ble_eq_true rfl, Nat.le_of_ble_eq_true rfl⟩ ⟨Nat.le_of_ble_eq_true rfl, Nat.le_of_ble_eq_true rfl⟩ (fun rh4 vh4 ah4 h4 => ?_)
    obtain ⟨rfl, fn4, bn4, ex4⟩ := h4
    have fq5 := fq4.call fn4 rfl rfl
    obtain ⟨pw5, ex4⟩ := ex4
    obtain ⟨ex4, tl4⟩ := ex4
    have gf4 : ah4 47 (1 : Int).toNat ≤ ah3 47 (1 : Int).toNat + 1 := ex4
    have ra9 : 0 ≤ ah4 47 (1 : Int).toNat ∧ ah4 47 (1 : Int).toNat ≤ 6008 := bn4.2 47 ((1 : Int).toNat)
    refine m_st (st2 := []) rfl ?_
    exact m_vret C dX12_gather_60 rfl (Nat.le_of_ble_eq_true rfl) (Nat.le_of_ble_eq_true rfl) ⟨rfl, fq5, bn4, ⟨pw5, GAT.mk1 (by omega) rfl rfl tl1 tl2 tl3 tl4 (fq1.2 8 rfl) (fq1.2 10 rfl) (fq1.2 13 rfl) (fq1.2 16 rfl) (fq2.2 16 rfl) (fq3.2 8 rfl) (fq3.2 10 rfl) (fq3.2 13 rfl) (fq3.2 16 rfl) (fq4.2 16 rfl) (show 0 ≤ ah1 47 (0 : Int).toNat ∧ ah1 47 (0 : Int).toNat < 6008 from ⟨(bn1.2 47 _).1, by omega⟩) (show 0 ≤ ah3 47 (1 : Int).toNat ∧ ah3 47 (1 : Int).toNat < 6008 from ⟨(bn3.2 47 _).1, by omega⟩) (by omega)⟩⟩
  · refine m_aload_n (j := 0) C dX12_gather_17 rfl ?_
    refine m_iconst C dX12_gather_18 ?_
    refine m_iload_n (j := 1) C dX12_gather_19 rfl ?_
    have rv3 : 0 ≤ v 4 ∧ v 4 ≤ 30 := bq1.1 4
    refine m_call (mc2 := 0) (ms2 := 0) (As := [.int (iI 0), .int (iI t)]) (rest := []) C (E_addRows (q := 0) (t := t) bq1 pw1 (hT.fr fq1 rfl rfl) (by show (0 : Int) = 0 ∨ (0 : Int) = 1; omega) (by show 0 ≤ t ∧ t < (v 4); omega) (by show a 6 t.toNat ≤ 4; omega)) dX12_gather_20 kV_X12_321 rfl ck_13 rfl (Nat.le_of_ble_eq_true rfl) ⟨Nat.le_of_ble_eq_true rfl, Nat.le_of_ble_eq_true rfl⟩ ⟨Nat.le_of_ble_eq_true rfl, Nat.le_of_ble_eq_true rfl⟩ (fun rh5 vh5 ah5 h5 => ?_)
    obtain ⟨rfl, fn5, bn5, ex5⟩ := h5
    have fq6 := fq1.call fn5 rfl rfl
    obtain ⟨pw6, ex5⟩ := ex5
    obtain ⟨ex5, tl5⟩ := ex5
    have gf5 : ah5 47 (0 : Int).toNat ≤ 6002 := ex5
    have ra10 : 0 ≤ ah5 47 (0 : Int).toNat ∧ ah5 47 (0 : Int).toNat ≤ 6008 := bn5.2 47 ((0 : Int).toNat)
    refine m_st (st2 := []) rfl ?_
    exact m_vret C dX12_gather_23 rfl (Nat.le_of_ble_eq_true rfl) (Nat.le_of_ble_eq_true rfl) ⟨rfl, fq6, bn5, ⟨pw6, GAT.mk0 (by omega) tl5 (show up2 a 47 (1 : Int).toNat 0 47 1 = 0 from up2_s) (fq1.2 8 rfl) (fq1.2 10 rfl) (fq1.2 13 rfl) (fq1.2 16 rfl)⟩⟩
set_option maxHeartbeats 4000000 in
set_option maxRecDepth 100000 in
theorem E_rowCell {l : Launch} {G : GT} {h0 : Nat} {ad ln : Nat → Nat} {v : Nat → Int} {a : Nat → Nat → Int}  {w k : Int} (hB : BX v a) (hr : 0 ≤ w ∧ w < 12016) (h45 : 0 ≤ a 45 w.toNat + k ∧ (0 ≤ a 44 w.toNat → a 45 w.toNat + k < 24000) ∧ (a 44 w.toNat < 0 → a 45 w.toNat + k < 480)) : Mm l G yX12_rowCell cX12_rowCell 3 (some .int) 0 [.int (iI w), .int (iI k)] h0 ad ln v a 0 0 (fun r v2 a2 => ∃ f : Int, r = some (.int (iI f)) ∧ fr [] [] v a v2 a2 ∧ BX v2 a2 ∧ ((-2147483648 ≤ f ∧ f ≤ 2147483647) ∧ f = rcl a w k)) := by
  refine Mm.mk (by decide) (Nat.le_of_ble_eq_true rfl) ?_
  intro p e s m args below meth c A C
  have fp0 : fr [] [] v a v a := fr.refl
  refine m_aload_n (j := 0) C dX12_rowCell_0 rfl ?_
  refine m_geta (k := 44) C dX12_rowCell_1 w6_103 (by decide) rfl ?_
  refine m_iload_n (j := 1) C dX12_rowCell_4 rfl ?_
  refine m_ald (k := 44) C dX12_rowCell_5 rfl rfl (by decide) (by omega) (by show _ < ((_ : Nat) : Int); simp only [mlen]; omega) (by decide) ?_
  have ra1 : (-4) ≤ a 44 w.toNat ∧ a 44 w.toNat ≤ 5999 := hB.2 44 (w.toNat)
  refine m_if_lt (tgt := 25) C ⟨by omega, by omega⟩ dX12_rowCell_6 (by decide) (fun c1 => ?_) (fun c1 => ?_)
  · refine m_aload_n (j := 0) C dX12_rowCell_25 rfl ?_
    refine m_geta (k := 17) C dX12_rowCell_26 w6_76 (by decide) rfl ?_
    refine m_aload_n (j := 0) C dX12_rowCell_29 rfl ?_
    refine m_geta (k := 45) C dX12_rowCell_30 w6_104 (by decide) rfl ?_
    refine m_iload_n (j := 1) C dX12_rowCell_33 rfl ?_
    refine m_ald (k := 45) C dX12_rowCell_34 rfl rfl (by decide) (by omega) (by show _ < ((_ : Nat) : Int); simp only [mlen]; omega) (by decide) ?_
    have ra2 : 0 ≤ a 45 w.toNat ∧ a 45 w.toNat ≤ 23999 := hB.2 45 (w.toNat)
    refine m_iload_n (j := 2) C dX12_rowCell_35 rfl ?_
    refine m_iadd C dX12_rowCell_36 ?_
    refine m_ald (k := 17) C dX12_rowCell_37 rfl rfl (by decide) (by omega) (by show _ < ((_ : Nat) : Int); simp only [mlen]; omega) (by decide) ?_
    have ra3 : (-2147483648) ≤ a 17 ((a 45 w.toNat) + k).toNat ∧ a 17 ((a 45 w.toNat) + k).toNat ≤ 2147483647 := hB.2 17 (((a 45 w.toNat) + k).toNat)
    exact m_iret C dX12_rowCell_38 rfl (Nat.le_of_ble_eq_true rfl) (Nat.le_of_ble_eq_true rfl) ⟨(a 17 ((a 45 w.toNat) + k).toNat), rfl, fp0, hB, ⟨by omega, by unfold rcl; rw [if_neg (by omega)]⟩⟩
  · refine m_aload_n (j := 0) C dX12_rowCell_9 rfl ?_
    refine m_geta (k := 15) C dX12_rowCell_10 w6_74 (by decide) rfl ?_
    refine m_aload_n (j := 0) C dX12_rowCell_13 rfl ?_
    refine m_geta (k := 45) C dX12_rowCell_14 w6_104 (by decide) rfl ?_
    refine m_iload_n (j := 1) C dX12_rowCell_17 rfl ?_
    refine m_ald (k := 45) C dX12_rowCell_18 rfl rfl (by decide) (by omega) (by show _ < ((_ : Nat) : Int); simp only [mlen]; omega) (by decide) ?_
    have ra4 : 0 ≤ a 45 w.toNat ∧ a 45 w.toNat ≤ 23999 := hB.2 45 (w.toNat)
    refine m_iload_n (j := 2) C dX12_rowCell_19 rfl ?_
    refine m_iadd C dX12_rowCell_20 ?_
    refine m_ald (k := 15) C dX12_rowCell_21 rfl rfl (by decide) (by omega) (by show _ < ((_ : Nat) : Int); simp only [mlen]; omega) (by decide) ?_
    have ra5 : (-2147483648) ≤ a 15 ((a 45 w.toNat) + k).toNat ∧ a 15 ((a 45 w.toNat) + k).toNat ≤ 2147483647 := hB.2 15 (((a 45 w.toNat) + k).toNat)
    refine m_goto (tgt := 38) C dX12_rowCell_22 (by decide) ?_
    exact m_iret C dX12_rowCell_38 rfl (Nat.le_of_ble_eq_true rfl) (Nat.le_of_ble_eq_true rfl) ⟨(a 15 ((a 45 w.toNat) + k).toNat), rfl, fp0, hB, ⟨by omega, by unfold rcl; rw [if_pos (by omega)]⟩⟩
def ALQ (a : Nat → Nat → Int) (x y k : Int) : Prop := ∀ j : Int, 0 ≤ j → j < k → rcl a x j = rcl a y j
theorem ALQ.zero {a : Nat → Nat → Int} {x y : Int} : ALQ a x y 0 := fun j h1 h2 => absurd h1 (by omega)
theorem ALQ.step {a : Nat → Nat → Int} {x y k : Int} (h : ALQ a x y k) (e : rcl a x k = rcl a y k) : ALQ a x y (k + 1) := fun j h1 h2 => by
  by_cases g : j < k
  · exact h j h1 g
  · rw [show j = k by omega]; exact e
set_option maxHeartbeats 4000000 in
set_option maxRecDepth 100000 in
theorem E_alike {l : Launch} {G : GT} {h0 : Nat} {ad ln : Nat → Nat} {v : Nat → Int} {a : Nat → Nat → Int}  {x y : Int} (hB : BX v a) (hx : RowOK a x) (hy : RowOK a y) : Mm l G yX12_alike cX12_alike 4 (some .int) 1 [.int (iI x), .int (iI y)] h0 ad ln v a 0 0 (fun r v2 a2 => ∃ f : Int, r = some (.int (iI f)) ∧ fr [] [] v a v2 a2 ∧ BX v2 a2 ∧ ((0 ≤ f ∧ f ≤ a 46 x.toNat ∧ f ≤ a 46 y.toNat) ∧ ALK f a x y)) := by
  refine Mm.mk (by decide) (Nat.le_of_ble_eq_true rfl) ?_
  intro p e s m args below meth c A C
  have uhx := hx
  unfold RowOK at uhx
  have uhy := hy
  unfold RowOK at uhy
  have fp0 : fr [] [] v a v a := fr.refl
  refine m_iconst C dX12_alike_0 ?_
  refine m_istore_n (lv2 := [(3, .int (iI 0)), (0, .ref h0), (1, .int (iI x)), (2, .int (iI y))]) C dX12_alike_1 (by decide) rfl ?_
  have Lp1 : ∀ (nn : Nat) (k : Int) (vb1 : Nat → Int) (ab1 : Nat → Nat → Int), 5 - k < (nn : Int) → BX vb1 ab1 → fr [] [] v a vb1 ab1 → (0 ≤ k ∧ k ≤ a 46 x.toNat ∧ k ≤ a 46 y.toNat) → (ALQ a x y k) → mw p l e (rmq 1 0 0) s m args below meth c G A 4 (MQ below (Qm G A (fun rq Lq Eq => ∃ (vq : Nat → Int) (aq : Nat → Nat → Int), mI G h0 ad ln vq aq Lq Eq ∧ (fun r v2 a2 => ∃ f : Int, r = some (.int (iI f)) ∧ fr [] [] v a v2 a2 ∧ BX v2 a2 ∧ ((0 ≤ f ∧ f ≤ a 46 x.toNat ∧ f ≤ a 46 y.toNat) ∧ ALK f a x y)) rq vq aq)) args s 0 0 A) h0 ad ln vb1 ab1 0 0 2 [(3, .int (iI k)), (0, .ref h0), (1, .int (iI x)), (2, .int (iI y))] [] := by
    intro nn
    induction nn with
    | zero =>
      intro k vb1 ab1 hm bxb1 fpb1 hk hK
      exact absurd hm (by omega)
    | succ nn ih1 =>
      intro k vb1 ab1 hm bxb1 fpb1 hk hK
      refine m_iload_n (j := 0) C dX12_alike_2 rfl ?_
      refine m_aload_n (j := 1) C dX12_alike_3 rfl ?_
      refine m_geta (k := 46) C dX12_alike_4 w6_105 (by decide) rfl ?_
      refine m_iload_n (j := 2) C dX12_alike_7 rfl ?_
      refine m_ald (k := 46) C dX12_alike_8 rfl rfl (by decide) (by omega) (by show _ < ((_ : Nat) : Int); simp only [mlen]; omega) (by decide) ?_
      have ra1 : 0 ≤ ab1 46 x.toNat ∧ ab1 46 x.toNat ≤ 4 := bxb1.2 46 (x.toNat)
      have ae1 : ab1 46 (x.toNat) = a 46 (x.toNat) := congrFun (fpb1.2 46 rfl) (x.toNat)
      refine m_st (st2 := [.int (iI (a 46 x.toNat)), .int (iI k)]) (congrArg (fun z => Value.int (iI z) :: [.int (iI k)]) (congrFun (fpb1.2 46 rfl) (x.toNat))) ?_
      refine m_icmp_ge (tgt := 43) C ⟨by omega, by omega⟩ ⟨by omega, by omega⟩ dX12_alike_9 (by decide) (fun c1 => ?_) (fun c1 => ?_)
      · refine m_iload_n (j := 0) C dX12_alike_43 rfl ?_
        exact m_iret C dX12_alike_44 rfl (Nat.le_of_ble_eq_true rfl) (Nat.le_of_ble_eq_true rfl) ⟨k, rfl, fpb1, bxb1, ⟨by omega, hK, fun e1 e2 => by exfalso; omega⟩⟩
      · refine m_iload_n (j := 0) C dX12_alike_12 rfl ?_
        refine m_aload_n (j := 1) C dX12_alike_13 rfl ?_
        refine m_geta (k := 46) C dX12_alike_14 w6_105 (by decide) rfl ?_
        refine m_iload_n (j := 3) C dX12_alike_17 rfl ?_
        refine m_ald (k := 46) C dX12_alike_18 rfl rfl (by decide) (by omega) (by show _ < ((_ : Nat) : Int); simp only [mlen]; omega) (by decide) ?_
        have ra2 : 0 ≤ ab1 46 y.toNat ∧ ab1 46 y.toNat ≤ 4 := bxb1.2 46 (y.toNat)
        have ae2 : ab1 46 (y.toNat) = a 46 (y.toNat) := congrFun (fpb1.2 46 rfl) (y.toNat)
        refine m_st (st2 := [.int (iI (a 46 y.toNat)), .int (iI k)]) (congrArg (fun z => Value.int (iI z) :: [.int (iI k)]) (congrFun (fpb1.2 46 rfl) (y.toNat))) ?_
        refine m_icmp_ge (tgt := 43) C ⟨by omega, by omega⟩ ⟨by omega, by omega⟩ dX12_alike_19 (by decide) (fun c2 => ?_) (fun c2 => ?_)
        · refine m_iload_n (j := 0) C dX12_alike_43 rfl ?_
          exact m_iret C dX12_alike_44 rfl (Nat.le_of_ble_eq_true rfl) (Nat.le_of_ble_eq_true rfl) ⟨k, rfl, fpb1, bxb1, ⟨by omega, hK, fun e1 e2 => by exfalso; omega⟩⟩
        · refine m_aload_n (j := 1) C dX12_alike_22 rfl ?_
          refine m_iload_n (j := 2) C dX12_alike_23 rfl ?_
          refine m_iload_n (j := 0) C dX12_alike_24 rfl ?_
          have ra3 : 0 ≤ ab1 45 x.toNat ∧ ab1 45 x.toNat ≤ 23999 := bxb1.2 45 (x.toNat)
          have ae3 : ab1 45 (x.toNat) = a 45 (x.toNat) := congrFun (fpb1.2 45 rfl) (x.toNat)
          have ra4 : (-4) ≤ ab1 44 x.toNat ∧ ab1 44 x.toNat ≤ 5999 := bxb1.2 44 (x.toNat)
          have ae4 : ab1 44 (x.toNat) = a 44 (x.toNat) := congrFun (fpb1.2 44 rfl) (x.toNat)
          refine m_call (mc2 := 0) (ms2 := 0) (As := [.int (iI x), .int (iI k)]) (rest := []) C (E_rowCell (w := x) (k := k) bxb1 (by show 0 ≤ x ∧ x < 12016; omega) (by show 0 ≤ ab1 45 x.toNat + k ∧ (0 ≤ ab1 44 x.toNat → ab1 45 x.toNat + k < 24000) ∧ (ab1 44 x.toNat < 0 → ab1 45 x.toNat + k < 480); omega)) dX12_alike_25 kV_X12_324 rfl ck_13 rfl (Nat.le_of_ble_eq_true rfl) ⟨Nat.le_of_ble_eq_true rfl, Nat.le_of_ble_eq_true rfl⟩ ⟨Nat.le_of_ble_eq_true rfl, Nat.le_of_ble_eq_true rfl⟩ (fun rh1 vh1 ah1 h1 => ?_)
          obtain ⟨f1, rfl, fn1, bn1, ex1⟩ := h1
          obtain ⟨rfl, rfl⟩ := fn1.eq
          obtain ⟨ex1, tl1⟩ := ex1
          have gf1 : -2147483648 ≤ f1 ∧ f1 ≤ 2147483647 := ex1
          refine m_st (st2 := [.int (iI f1)]) rfl ?_
          refine m_aload_n (j := 1) C dX12_alike_28 rfl ?_
          refine m_iload_n (j := 3) C dX12_alike_29 rfl ?_
          refine m_iload_n (j := 0) C dX12_alike_30 rfl ?_
          have ra5 : 0 ≤ ab1 45 y.toNat ∧ ab1 45 y.toNat ≤ 23999 := bxb1.2 45 (y.toNat)
          have ae5 : ab1 45 (y.toNat) = a 45 (y.toNat) := congrFun (fpb1.2 45 rfl) (y.toNat)
          have ra6 : (-4) ≤ ab1 44 y.toNat ∧ ab1 44 y.toNat ≤ 5999 := bxb1.2 44 (y.toNat)
          have ae6 : ab1 44 (y.toNat) = a 44 (y.toNat) := congrFun (fpb1.2 44 rfl) (y.toNat)
          refine m_call (mc2 := 0) (ms2 := 0) (As := [.int (iI y), .int (iI k)]) (rest := [.int (iI f1)]) C (E_rowCell (w := y) (k := k) bxb1 (by show 0 ≤ y ∧ y < 12016; omega) (by show 0 ≤ ab1 45 y.toNat + k ∧ (0 ≤ ab1 44 y.toNat → ab1 45 y.toNat + k < 24000) ∧ (ab1 44 y.toNat < 0 → ab1 45 y.toNat + k < 480); omega)) dX12_alike_31 kV_X12_324 rfl ck_13 rfl (Nat.le_of_ble_eq_true rfl) ⟨Nat.le_of_ble_eq_true rfl, Nat.le_of_ble_eq_true rfl⟩ ⟨Nat.le_of_ble_eq_true rfl, Nat.le_of_ble_eq_true rfl⟩ (fun rh2 vh2 ah2 h2 => ?_)
          obtain ⟨f2, rfl, fn2, bn2, ex2⟩ := h2
          obtain ⟨rfl, rfl⟩ := fn2.eq
          obtain ⟨ex2, tl2⟩ := ex2
          have gf2 : -2147483648 ≤ f2 ∧ f2 ≤ 2147483647 := ex2
          refine m_st (st2 := [.int (iI f2), .int (iI f1)]) rfl ?_
          refine m_icmp_ne (tgt := 43) C ⟨by omega, by omega⟩ ⟨by omega, by omega⟩ dX12_alike_34 (by decide) (fun c3 => ?_) (fun c3 => ?_)
          · refine m_iload_n (j := 0) C dX12_alike_43 rfl ?_
            exact m_iret C dX12_alike_44 rfl (Nat.le_of_ble_eq_true rfl) (Nat.le_of_ble_eq_true rfl) ⟨k, rfl, fpb1, bxb1, ⟨by omega, hK, fun _ _ => by rw [(fpb1.eq).2, ← tl1, ← tl2]; omega⟩⟩
          · refine m_iinc (z := k) (j := 0) (lv2 := [(3, .int (iI (k + 1))), (0, .ref h0), (1, .int (iI x)), (2, .int (iI y))]) C dX12_alike_37 rfl (by decide) rfl ?_
            refine m_goto (tgt := 2) C dX12_alike_40 (by decide) ?_
            refine m_lv (lv2 := [(3, .int (iI (k + 1))), (0, .ref h0), (1, .int (iI x)), (2, .int (iI y))]) [0, 1, 2, 3] rfl ?_
            exact ih1  (k + 1) _ _ (by omega) bxb1 fpb1 (by omega) (hK.step (by rw [(fpb1.eq).2, ← tl1, ← tl2]; omega))
  refine m_lv (lv2 := [(3, .int (iI 0)), (0, .ref h0), (1, .int (iI x)), (2, .int (iI y))]) [0, 1, 2, 3] rfl ?_
  exact Lp1 6 0 _ _ (by omega) hB fp0 (by omega) ALQ.zero
set_option maxHeartbeats 4000000 in
set_option maxRecDepth 100000 in
theorem N2_parts {l : Launch} {G : GT} {h0 : Nat} {ad ln : Nat → Nat} {v : Nat → Int} {a : Nat → Nat → Int}  {t x y : Int} (hB : BX v a) (hT : TBL v a) (hW : RWS a) (ht : -2147483648 ≤ t ∧ t ≤ 2147483647) (hx : -2147483648 ≤ x ∧ x ≤ 2147483647) (hy : -2147483648 ≤ y ∧ y ≤ 2147483647) : Mm l G yX12_parts cX12_parts 5 (some .int) 36 [.int (iI t), .int (iI x), .int (iI y)] h0 ad ln v a 0 0 (fun r v2 a2 => ∃ f : Int, r = some (.int (iI f)) ∧ fr [0, 1] [44, 45, 46, 47] v a v2 a2 ∧ BX v2 a2 ∧ (RWS a2 ∧ PRT v a t x y f)) := by
  refine Mm.mk (by decide) (Nat.le_of_ble_eq_true rfl) ?_
  intro p e s m args below meth c A C
  have h30 : 0 ≤ v 4 ∧ v 4 ≤ 30 := hB.1 4
  have fp0 : fr [0, 1] [44, 45, 46, 47] v a v a := fr.refl
  refine m_aload_n (j := 0) C dX12_parts_0 rfl ?_
  refine m_iload_n (j := 1) C dX12_parts_1 rfl ?_
  have rv1 : 0 ≤ v 4 ∧ v 4 ≤ 30 := hB.1 4
  refine m_call (mc2 := 0) (ms2 := 0) (As := [.int (iI t)]) (rest := []) C (E_isWhole (t := t) hB (hT.fr fp0 rfl rfl) (by show -2147483648 ≤ t ∧ t ≤ 2147483647; omega)) dX12_parts_2 kV_X12_171 rfl ck_13 rfl (Nat.le_of_ble_eq_true rfl) ⟨Nat.le_of_ble_eq_true rfl, Nat.le_of_ble_eq_true rfl⟩ ⟨Nat.le_of_ble_eq_true rfl, Nat.le_of_ble_eq_true rfl⟩ (fun rh1 vh1 ah1 h1 => ?_)
  obtain ⟨f1, rfl, fn1, bn1, ex1⟩ := h1
  obtain ⟨rfl, rfl⟩ := fn1.eq
  obtain ⟨ex1, tl1⟩ := ex1
  have gf1 : f1 = 0 ∨ (f1 = 1 ∧ 0 ≤ t ∧ t < (v 4)) := ex1
  refine m_st (st2 := [.int (iI f1)]) rfl ?_
  refine m_if_ne (tgt := 14) C ⟨by omega, by omega⟩ dX12_parts_5 (by decide) (fun c1 => ?_) (fun c1 => ?_)
  · refine m_aload_n (j := 0) C dX12_parts_14 rfl ?_
    refine m_iload_n (j := 1) C dX12_parts_15 rfl ?_
    refine m_call (mc2 := 0) (ms2 := 0) (As := [.int (iI t)]) (rest := []) C (E_gather (t := t) hB hW (hT.fr fp0 rfl rfl) (by show 0 ≤ t ∧ t < (v 4); omega)) dX12_parts_16 kV_X12_354 rfl ck_13 rfl (Nat.le_of_ble_eq_true rfl) ⟨Nat.le_of_ble_eq_true rfl, Nat.le_of_ble_eq_true rfl⟩ ⟨Nat.le_of_ble_eq_true rfl, Nat.le_of_ble_eq_true rfl⟩ (fun rh2 vh2 ah2 h2 => ?_)
    obtain ⟨rfl, fn2, bn2, ex2⟩ := h2
    have fq2 := fp0.call fn2 rfl rfl
    obtain ⟨pw1, ex2⟩ := ex2
    have tl2 := ex2
    refine m_st (st2 := []) rfl ?_
    refine m_iload_n (j := 2) C dX12_parts_19 rfl ?_
    refine m_iconst C dX12_parts_20 ?_
    refine m_aload_n (j := 0) C dX12_parts_21 rfl ?_
    refine m_geta (k := 47) C dX12_parts_22 w6_106 (by decide) rfl ?_
    refine m_iconst C dX12_parts_25 ?_
    refine m_ald (k := 47) C dX12_parts_26 rfl rfl (by decide) (by decide) (by decide) (by decide) ?_
    have ra1 : 0 ≤ ah2 47 0 ∧ ah2 47 0 ≤ 6008 := bn2.2 47 (0)
    refine m_st (st2 := [.int (iI (ah2 47 0)), .int (iI 0), .int (iI x)]) rfl ?_
    refine m_iconst C dX12_parts_27 ?_
    refine m_isub C dX12_parts_28 ?_
    refine m_callS (As := [.int (iI x), .int (iI 0), .int (iI ((ah2 47 0) - 1))]) (rest := []) C (fun L E => s_isIn (iI x) (iI 0) (iI ((ah2 47 0) - 1))) dX12_parts_29 kS_X12_174 rfl rfl (Nat.le_of_ble_eq_true rfl) ⟨Nat.le_of_ble_eq_true rfl, Nat.le_of_ble_eq_true rfl⟩ ⟨Nat.le_of_ble_eq_true rfl, Nat.le_of_ble_eq_true rfl⟩ ?_
    rcases inn_c (x := x) (lo := 0) (hi := (ah2 47 0) - 1) ⟨by omega, by omega⟩ ⟨by decide, by decide⟩ ⟨by omega, by omega⟩ with ⟨h3a, h3b, h3e⟩ | ⟨h3a, h3e⟩
    · refine m_st (st2 := [.int (iI 1)]) (by rw [h3e]) ?_
      refine m_if_eq (tgt := 51) C ⟨by decide, by decide⟩ dX12_parts_32 (by decide) (fun z => absurd z (by omega)) (fun _ => ?_)
      refine m_iload_n (j := 3) C dX12_parts_35 rfl ?_
      refine m_iconst C dX12_parts_36 ?_
      refine m_aload_n (j := 0) C dX12_parts_37 rfl ?_
      refine m_geta (k := 47) C dX12_parts_38 w6_106 (by decide) rfl ?_
      refine m_iconst C dX12_parts_41 ?_
      refine m_ald (k := 47) C dX12_parts_42 rfl rfl (by decide) (by decide) (by decide) (by decide) ?_
      refine m_st (st2 := [.int (iI (ah2 47 0)), .int (iI 0), .int (iI y)]) rfl ?_
      refine m_iconst C dX12_parts_43 ?_
      refine m_isub C dX12_parts_44 ?_
      refine m_callS (As := [.int (iI y), .int (iI 0), .int (iI ((ah2 47 0) - 1))]) (rest := []) C (fun L E => s_isIn (iI y) (iI 0) (iI ((ah2 47 0) - 1))) dX12_parts_45 kS_X12_174 rfl rfl (Nat.le_of_ble_eq_true rfl) ⟨Nat.le_of_ble_eq_true rfl, Nat.le_of_ble_eq_true rfl⟩ ⟨Nat.le_of_ble_eq_true rfl, Nat.le_of_ble_eq_true rfl⟩ ?_
      rcases inn_c (x := y) (lo := 0) (hi := (ah2 47 0) - 1) ⟨by omega, by omega⟩ ⟨by decide, by decide⟩ ⟨by omega, by omega⟩ with ⟨h4a, h4b, h4e⟩ | ⟨h4a, h4e⟩
      · refine m_st (st2 := [.int (iI 1)]) (by rw [h4e]) ?_
        refine m_if_ne (tgt := 57) C ⟨by decide, by decide⟩ dX12_parts_48 (by decide) (fun _ => ?_) (fun z => absurd z (by omega))
        refine m_aload_n (j := 0) C dX12_parts_57 rfl ?_
        refine m_iload_n (j := 2) C dX12_parts_58 rfl ?_
        refine m_iload_n (j := 3) C dX12_parts_59 rfl ?_
        refine m_call (mc2 := 0) (ms2 := 0) (As := [.int (iI x), .int (iI y)]) (rest := []) C (E_alike (x := x) (y := y) bn2 ((pw1 0 (by omega)).2 (x) (by omega) (by show x < 6008 * 0 + ah2 47 0; omega)) ((pw1 0 (by omega)).2 (y) (by omega) (by show y < 6008 * 0 + ah2 47 0; omega))) dX12_parts_60 kV_X12_404 rfl ck_13 rfl (Nat.le_of_ble_eq_true rfl) ⟨Nat.le_of_ble_eq_true rfl, Nat.le_of_ble_eq_true rfl⟩ ⟨Nat.le_of_ble_eq_true rfl, Nat.le_of_ble_eq_true rfl⟩ (fun rh5 vh5 ah5 h5 => ?_)
        obtain ⟨f3, rfl, fn3, _, ef3, al1⟩ := h5
        obtain ⟨rfl, rfl⟩ := fn3.eq
        have gf3 : 0 ≤ f3 ∧ f3 ≤ ah2 46 (x).toNat ∧ f3 ≤ ah2 46 (y).toNat := ef3
        refine m_st (st2 := [.int (iI f3)]) rfl ?_
        refine m_istore (lv2 := [(4, .int (iI f3)), (0, .ref h0), (1, .int (iI t)), (2, .int (iI x)), (3, .int (iI y))]) C dX12_parts_63 (by decide) rfl ?_
        refine m_aload_n (j := 1) C dX12_parts_65 rfl ?_
        refine m_iload (j := 0) C dX12_parts_66 rfl ?_
        refine m_aload_n (j := 1) C dX12_parts_68 rfl ?_
        refine m_geta (k := 46) C dX12_parts_69 w6_105 (by decide) rfl ?_
        refine m_iload_n (j := 3) C dX12_parts_72 rfl ?_
        refine m_ald (k := 46) C dX12_parts_73 rfl rfl (by decide) (by omega) (by show _ < ((_ : Nat) : Int); simp only [mlen]; omega) (by decide) ?_
        have ra2 : 0 ≤ ah2 46 x.toNat ∧ ah2 46 x.toNat ≤ 4 := bn2.2 46 (x.toNat)
        refine m_icmp_eq (tgt := 88) C ⟨by omega, by omega⟩ ⟨by omega, by omega⟩ dX12_parts_74 (by decide) (fun c2 => ?_) (fun c2 => ?_)
        · refine m_iconst C dX12_parts_88 ?_
          refine m_iload (j := 0) C dX12_parts_89 rfl ?_
          refine m_isub C dX12_parts_91 ?_
          refine m_goto (tgt := 97) C dX12_parts_92 (by decide) ?_
          refine m_call (mc2 := 0) (ms2 := 0) (As := [.int (iI ((-1) - f3))]) (rest := []) C (B_fine (x := (-1) - f3) bn2 (by show -2147483648 ≤ ((-1) - f3) ∧ ((-1) - f3) ≤ 2147483647; omega)) dX12_parts_97 kV_X12_158 rfl ck_13 rfl (Nat.le_of_ble_eq_true rfl) ⟨Nat.le_of_ble_eq_true rfl, Nat.le_of_ble_eq_true rfl⟩ ⟨Nat.le_of_ble_eq_true rfl, Nat.le_of_ble_eq_true rfl⟩ (fun rh6 vh6 ah6 h6 => ?_)
          obtain ⟨f4, rfl, fn4, bn3, ex3⟩ := h6
          have fq3 := fq2.call fn4 rfl rfl
          have pw2 : RWS ah6 := RWS.fr pw1 fn4 rfl
          have gf4 : f4 = ((-1) - f3) := ex3
          refine m_st (st2 := [.int (iI f4)]) rfl ?_
          exact m_iret C dX12_parts_100 rfl (Nat.le_of_ble_eq_true rfl) (Nat.le_of_ble_eq_true rfl) ⟨f4, rfl, fq3, bn3, ⟨pw2, PRT.ok (k := f3) (tl1.mp (by omega)) tl2 ⟨by omega, by omega⟩ ⟨by omega, by omega⟩ (fq2.2 15 rfl) (fq2.2 17 rfl) gf3 al1 (by omega)⟩⟩
        · refine m_iload (j := 0) C dX12_parts_77 rfl ?_
          refine m_aload_n (j := 1) C dX12_parts_79 rfl ?_
          refine m_geta (k := 46) C dX12_parts_80 w6_105 (by decide) rfl ?_
          refine m_iload_n (j := 4) C dX12_parts_83 rfl ?_
          refine m_ald (k := 46) C dX12_parts_84 rfl rfl (by decide) (by omega) (by show _ < ((_ : Nat) : Int); simp only [mlen]; omega) (by decide) ?_
          have ra3 : 0 ≤ ah2 46 y.toNat ∧ ah2 46 y.toNat ≤ 4 := bn2.2 46 (y.toNat)
          refine m_icmp_ne (tgt := 95) C ⟨by omega, by omega⟩ ⟨by omega, by omega⟩ dX12_parts_85 (by decide) (fun c3 => ?_) (fun c3 => ?_)
          · refine m_iload (j := 0) C dX12_parts_95 rfl ?_
            refine m_call (mc2 := 0) (ms2 := 0) (As := [.int (iI f3)]) (rest := []) C (B_fine (x := f3) bn2 (by show -2147483648 ≤ f3 ∧ f3 ≤ 2147483647; omega)) dX12_parts_97 kV_X12_158 rfl ck_13 rfl (Nat.le_of_ble_eq_true rfl) ⟨Nat.le_of_ble_eq_true rfl, Nat.le_of_ble_eq_true rfl⟩ ⟨Nat.le_of_ble_eq_true rfl, Nat.le_of_ble_eq_true rfl⟩ (fun rh7 vh7 ah7 h7 => ?_)
            obtain ⟨f5, rfl, fn5, bn4, ex4⟩ := h7
            have fq4 := fq2.call fn5 rfl rfl
            have pw3 : RWS ah7 := RWS.fr pw1 fn5 rfl
            have gf5 : f5 = f3 := ex4
            refine m_st (st2 := [.int (iI f5)]) rfl ?_
            exact m_iret C dX12_parts_100 rfl (Nat.le_of_ble_eq_true rfl) (Nat.le_of_ble_eq_true rfl) ⟨f5, rfl, fq4, bn4, ⟨pw3, PRT.ok (k := f3) (tl1.mp (by omega)) tl2 ⟨by omega, by omega⟩ ⟨by omega, by omega⟩ (fq2.2 15 rfl) (fq2.2 17 rfl) gf3 al1 (by omega)⟩⟩
          · refine m_iconst C dX12_parts_88 ?_
            refine m_iload (j := 0) C dX12_parts_89 rfl ?_
            refine m_isub C dX12_parts_91 ?_
            refine m_goto (tgt := 97) C dX12_parts_92 (by decide) ?_
            refine m_call (mc2 := 0) (ms2 := 0) (As := [.int (iI ((-1) - f3))]) (rest := []) C (B_fine (x := (-1) - f3) bn2 (by show -2147483648 ≤ ((-1) - f3) ∧ ((-1) - f3) ≤ 2147483647; omega)) dX12_parts_97 kV_X12_158 rfl ck_13 rfl (Nat.le_of_ble_eq_true rfl) ⟨Nat.le_of_ble_eq_true rfl, Nat.le_of_ble_eq_true rfl⟩ ⟨Nat.le_of_ble_eq_true rfl, Nat.le_of_ble_eq_true rfl⟩ (fun rh8 vh8 ah8 h8 => ?_)
            obtain ⟨f6, rfl, fn6, bn5, ex5⟩ := h8
            have fq5 := fq2.call fn6 rfl rfl
            have pw4 : RWS ah8 := RWS.fr pw1 fn6 rfl
            have gf6 : f6 = ((-1) - f3) := ex5
            refine m_st (st2 := [.int (iI f6)]) rfl ?_
            exact m_iret C dX12_parts_100 rfl (Nat.le_of_ble_eq_true rfl) (Nat.le_of_ble_eq_true rfl) ⟨f6, rfl, fq5, bn5, ⟨pw4, PRT.ok (k := f3) (tl1.mp (by omega)) tl2 ⟨by omega, by omega⟩ ⟨by omega, by omega⟩ (fq2.2 15 rfl) (fq2.2 17 rfl) gf3 al1 (by omega)⟩⟩
      · refine m_st (st2 := [.int (iI 0)]) (by rw [h4e]) ?_
        refine m_if_ne (tgt := 57) C ⟨by decide, by decide⟩ dX12_parts_48 (by decide) (fun z => absurd z (by omega)) (fun _ => ?_)
        refine m_aload_n (j := 0) C dX12_parts_51 rfl ?_
        refine m_iconst C dX12_parts_52 ?_
        refine m_call (mc2 := 0) (ms2 := 0) (As := [.int (iI 2)]) (rest := []) C (B_bad (x := 2) bn2 (by show -2147483648 ≤ (2 : Int) ∧ (2 : Int) ≤ 2147483647; omega)) dX12_parts_53 kV_X12_154 rfl ck_13 rfl (Nat.le_of_ble_eq_true rfl) ⟨Nat.le_of_ble_eq_true rfl, Nat.le_of_ble_eq_true rfl⟩ ⟨Nat.le_of_ble_eq_true rfl, Nat.le_of_ble_eq_true rfl⟩ (fun rh9 vh9 ah9 h9 => ?_)
        obtain ⟨f7, rfl, fn7, bn6, ex6⟩ := h9
        have fq6 := fq2.call fn7 rfl rfl
        have pw5 : RWS ah9 := RWS.fr pw1 fn7 rfl
        have gf7 : f7 = -1 := ex6
        refine m_st (st2 := [.int (iI f7)]) rfl ?_
        exact m_iret C dX12_parts_56 rfl (Nat.le_of_ble_eq_true rfl) (Nat.le_of_ble_eq_true rfl) ⟨f7, rfl, fq6, bn6, ⟨pw5, by rw [show f7 = -1 by omega]; exact PRT.no (tl1.mp (by omega)) tl2 (by omega)⟩⟩
    · refine m_st (st2 := [.int (iI 0)]) (by rw [h3e]) ?_
      refine m_if_eq (tgt := 51) C ⟨by decide, by decide⟩ dX12_parts_32 (by decide) (fun _ => ?_) (fun z => absurd z (by omega))
      refine m_aload_n (j := 0) C dX12_parts_51 rfl ?_
      refine m_iconst C dX12_parts_52 ?_
      refine m_call (mc2 := 0) (ms2 := 0) (As := [.int (iI 2)]) (rest := []) C (B_bad (x := 2) bn2 (by show -2147483648 ≤ (2 : Int) ∧ (2 : Int) ≤ 2147483647; omega)) dX12_parts_53 kV_X12_154 rfl ck_13 rfl (Nat.le_of_ble_eq_true rfl) ⟨Nat.le_of_ble_eq_true rfl, Nat.le_of_ble_eq_true rfl⟩ ⟨Nat.le_of_ble_eq_true rfl, Nat.le_of_ble_eq_true rfl⟩ (fun rh10 vh10 ah10 h10 => ?_)
      obtain ⟨f8, rfl, fn8, bn7, ex7⟩ := h10
      have fq7 := fq2.call fn8 rfl rfl
      have pw6 : RWS ah10 := RWS.fr pw1 fn8 rfl
      have gf8 : f8 = -1 := ex7
      refine m_st (st2 := [.int (iI f8)]) rfl ?_
      exact m_iret C dX12_parts_56 rfl (Nat.le_of_ble_eq_true rfl) (Nat.le_of_ble_eq_true rfl) ⟨f8, rfl, fq7, bn7, ⟨pw6, by rw [show f8 = -1 by omega]; exact PRT.no (tl1.mp (by omega)) tl2 (by omega)⟩⟩
  · refine m_aload_n (j := 0) C dX12_parts_8 rfl ?_
    refine m_iconst C dX12_parts_9 ?_
    refine m_call (mc2 := 0) (ms2 := 0) (As := [.int (iI 3)]) (rest := []) C (B_bad (x := 3) hB (by show -2147483648 ≤ (3 : Int) ∧ (3 : Int) ≤ 2147483647; omega)) dX12_parts_10 kV_X12_154 rfl ck_13 rfl (Nat.le_of_ble_eq_true rfl) ⟨Nat.le_of_ble_eq_true rfl, Nat.le_of_ble_eq_true rfl⟩ ⟨Nat.le_of_ble_eq_true rfl, Nat.le_of_ble_eq_true rfl⟩ (fun rh11 vh11 ah11 h11 => ?_)
    obtain ⟨f9, rfl, fn9, bn8, ex8⟩ := h11
    have fq8 := fp0.call fn9 rfl rfl
    have pw7 : RWS ah11 := RWS.fr hW fn9 rfl
    have gf9 : f9 = -1 := ex8
    refine m_st (st2 := [.int (iI f9)]) rfl ?_
    exact m_iret C dX12_parts_13 rfl (Nat.le_of_ble_eq_true rfl) (Nat.le_of_ble_eq_true rfl) ⟨f9, rfl, fq8, bn8, ⟨pw7, Or.inl ⟨fun q => absurd (tl1.mpr q) (by omega), by omega⟩⟩⟩
