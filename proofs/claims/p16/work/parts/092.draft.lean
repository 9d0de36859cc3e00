def LNH (a : Nat → Nat → Int) (l : Nat) (xs : List Int) : Prop := a 37 l = ((xs.length : Nat) : Int) ∧ ∀ (j : Nat) (x : Int), xs[j]? = some x → a 38 (200 * l + j) = x
def DRH (v : Nat → Int) (a : Nat → Nat → Int) (D : List (List Int)) : Prop := v 39 = ((D.length : Nat) : Int) ∧ ∀ (l : Nat) (xs : List Int), D[l]? = some xs → LNH a l xs
def bks (w : List (Int × Nat × Int)) : Nat → Int := fun j => ((w[j]?).map (fun x => x.2.2)).getD 0
abbrev kok (k n c d : Int) : Prop := k ≤ 3 ∧ (k = 2 → ¬ isD c ∧ ¬ isD d) ∧ (k = 3 → 6 ≤ n)
def lbk (w : List (Int × Nat × Int)) (k : Int) (st : Nat → Int) (d r : Int) : Nat → Int
  | 0 => -1
  | i + 1 => if 1 ≤ i ∧ bks w i ≠ 0 ∧ d < st i ∧ st i - d + 1 ≤ r ∧ kok k ((w.length : Nat) : Int) (lts w (i - 1)) (lts w i) then st i else lbk w k st d r i
def pql (xs : List Int) : List Int := if xs.length = 0 then [] else xs ++ [0]
def sgm (cs : List Int) (d : Nat) : Nat → List Int
  | 0 => []
  | n + 1 => sgm cs d n ++ [(cs[d + n]?).getD 0]
def rom (wd : Int) (xs : List Int) : Int := if xs.length = 0 then wd else wd - (((xs.length : Nat) : Int) + 1)
def flw (br : Int → Int → Int) (wd hy : Int) (cs : List Int) : Nat → Nat → List (List Int) → List Int → Option (List (List Int))
  | 0, _, _, _ => none
  | n + 1, d, D, xs => if ((cs.length : Nat) : Int) - ((d : Nat) : Int) ≤ rom wd xs then some (D ++ [pql xs ++ sgm cs d (cs.length - d)]) else if 0 ≤ br ((d : Nat) : Int) (rom wd xs) then (if D.length + 1 < 200 then flw br wd hy cs n (br ((d : Nat) : Int) (rom wd xs)).toNat (D ++ [(pql xs ++ sgm cs d ((br ((d : Nat) : Int) (rom wd xs)).toNat - d)) ++ [hy]]) [] else none) else if xs.length = 0 then some (D ++ [pql xs ++ sgm cs d (cs.length - d)]) else if D.length + 1 < 200 then flw br wd hy cs n d (D ++ [xs]) [] else none
def cen (wd : Int) (xs : List Int) : List Int := if xs.length = 0 ∨ wd ≤ ((xs.length : Nat) : Int) then xs else List.replicate ((wd - ((xs.length : Nat) : Int)) / 2).toNat 0 ++ xs
def cnl (wd : Int) : Nat → List (List Int) → List (List Int)
  | _, [] => []
  | 0, xs :: D => cen wd xs :: cnl wd 0 D
  | b + 1, xs :: D => xs :: cnl wd b D
def NLX (v : Nat → Int) (a : Nat → Nat → Int) (v2 : Nat → Int) (a2 : Nat → Nat → Int) (f : Int) : Prop := ∀ D, DRH v a D → (f = 1 ∧ D.length < 200 ∧ DRH v2 a2 (D ++ [[]])) ∨ (f = 0 ∧ D.length = 200)
def PUC (v : Nat → Int) (a : Nat → Nat → Int) (v2 : Nat → Int) (a2 : Nat → Nat → Int) (x : Int) : Prop := ∀ D xs, DRH v a (D ++ [xs]) → DRH v2 a2 (D ++ [xs ++ [x]])
def BGT (a : Nat → Nat → Int) (t : Int) (w : List (Int × Nat × Int)) (cs : List Int) (st : Nat → Int) : Prop := a 6 t.toNat ≠ 5 → ∀ j : Nat, j < w.length → a 26 j = st j ∧ st j < ((cs.length : Nat) : Int)
def brk (a : Nat → Nat → Int) (t : Int) (w : List (Int × Nat × Int)) (st : Nat → Int) (d r : Int) : Int := lbk w (a 6 t.toNat) st d r w.length
def BRI (v : Nat → Int) (a : Nat → Nat → Int) (t q z k f : Int) : Prop := ∀ w cs st, WDH v a w → BGT a t w cs st → f = lbk w (a 6 t.toNat) st q z k.toNat
def BRQ (v : Nat → Int) (a : Nat → Nat → Int) (t q z f : Int) : Prop := ∀ w cs st, WDH v a w → BGT a t w cs st → f = brk a t w st q z
def FCX (v : Nat → Int) (a : Nat → Nat → Int) (t : Int) (D : List (List Int)) (xs : List Int) (cs : List Int) (w : List (Int × Nat × Int)) (st : Nat → Int) : Prop := DRH v a (D ++ [xs]) ∧ MDH v a cs ∧ WDH v a w ∧ BGT a t w cs st
def FLV (v : Nat → Int) (a : Nat → Nat → Int) (t : Int) (D : List (List Int)) (xs : List Int) (cs : List Int) (w : List (Int × Nat × Int)) (st : Nat → Int) : Option (List (List Int)) := flw (brk a t w st) (v 31) (v 33) cs 201 0 D xs
def FLR (v : Nat → Int) (a : Nat → Nat → Int) (t : Int) (D : List (List Int)) (xs : List Int) (cs : List Int) (w : List (Int × Nat × Int)) (st : Nat → Int) (x : Int) (D1 : List (List Int)) (x1 : List Int) : Prop := ∃ n, 201 ≤ n + D1.length ∧ FLV v a t D xs cs w st = flw (brk a t w st) (v 31) (v 33) cs n x.toNat D1 x1
def FL2 (v : Nat → Int) (a : Nat → Nat → Int) (v1 : Nat → Int) (a1 : Nat → Nat → Int) (t x : Int) : Prop := ∀ D xs cs w st, FCX v a t D xs cs w st → ∃ D1 x1, FLR v a t D xs cs w st x D1 x1 ∧ DRH v1 a1 (D1 ++ [x1])
def FL4 (v : Nat → Int) (a : Nat → Nat → Int) (v1 : Nat → Int) (a1 : Nat → Nat → Int) (t x h k : Int) : Prop := ∀ D xs cs w st, FCX v a t D xs cs w st → ∃ D1 x1, FLR v a t D xs cs w st x D1 x1 ∧ ((x1.length : Nat) : Int) = h ∧ DRH v1 a1 (D1 ++ [pql x1 ++ sgm cs x.toNat (k - x).toNat])
def FLT (v : Nat → Int) (a : Nat → Nat → Int) (v2 : Nat → Int) (a2 : Nat → Nat → Int) (t f : Int) : Prop := ∀ D xs cs w st, FCX v a t D xs cs w st → (f = 1 → ∃ D2, FLV v a t D xs cs w st = some D2 ∧ DRH v2 a2 D2) ∧ (f ≠ 1 → FLV v a t D xs cs w st = none)
def CN2 (v : Nat → Int) (a : Nat → Nat → Int) (v1 : Nat → Int) (a1 : Nat → Nat → Int) (q x : Int) : Prop := ∀ D, DRH v a D → v1 39 = ((D.length : Nat) : Int) ∧ ∀ (l : Nat) (xs : List Int), D[l]? = some xs → LNH a1 l (if q ≤ ((l : Nat) : Int) ∧ ((l : Nat) : Int) < x then cen (v 31) xs else xs)
section DRAF
variable {v v1 v2 v3 : Nat → Int} {a a1 a2 a3 : Nat → Nat → Int} {D D1 : List (List Int)} {xs ys cs x1 : List Int} {w : List (Int × Nat × Int)} {st : Nat → Int} {x z t q k f h y1 d r hy wd c : Int} {i n l b : Nat} {br : Int → Int → Int}
theorem ap1 {α : Type} {D : List α} {u m : α} {l : Nat} (h : (D ++ [u])[l]? = some m) : (l < D.length ∧ D[l]? = some m) ∨ (l = D.length ∧ u = m) := by
  by_cases c : l < D.length
  · rw [List.getElem?_append_left c] at h
    exact Or.inl ⟨c, h⟩
  · rw [List.getElem?_append_right (by omega)] at h
    refine hv2 (gl3 h) (show ([u] : List α).length = 1 from rfl) (fun lt e1 => ?_)
    have e2 : l - D.length = 0 := by omega
    rw [e2] at h
    cases h
    exact Or.inr ⟨by omega, rfl⟩
theorem ap2 {α : Type} {D : List α} {u : α} : (D ++ [u])[D.length]? = some u := by
  rw [List.getElem?_append_right (Nat.le_refl _), Nat.sub_self]
  rfl
theorem ap3 {α : Type} {D : List α} {u m : α} {l : Nat} (h : D[l]? = some m) : (D ++ [u])[l]? = some m := by
  rw [List.getElem?_append_left (gl3 h)]
  exact h
theorem len1 {α : Type} {D : List α} {u : α} : (D ++ [u]).length = D.length + 1 := by
  rw [List.length_append]
  rfl
theorem LNH.fr (h : LNH a l xs) (h37 : a2 37 l = a 37 l) (h38 : ∀ j : Nat, j < xs.length → a2 38 (200 * l + j) = a 38 (200 * l + j)) : LNH a2 l xs := ⟨h37.trans h.1, fun j x e => (h38 j (gl3 e)).trans (h.2 j x e)⟩
theorem DRH.fr (h : DRH v a D) (hv : v2 39 = v 39) (h37 : a2 37 = a 37) (h38 : a2 38 = a 38) : DRH v2 a2 D := ⟨hv.trans h.1, fun l xs e => (h.2 l xs e).fr (by rw [h37]) (fun j _ => by rw [h38])⟩
theorem DRH.put (h : DRH v a (D ++ [xs])) (hb : ∀ l, a 37 l ≤ 200) (hn : n = (v 39 - 1).toNat) (hi : i = (200 * (v 39 - 1) + a 37 n).toNat) (hz : z = a 37 n + 1) (hv : v2 39 = v 39) : DRH v2 (up2 (up2 a 38 i x) 37 n z) (D ++ [xs ++ [x]]) := by
  obtain ⟨h1, h2⟩ := h
  rw [len1] at h1
  have en : n = D.length := by omega
  obtain ⟨g1, g2⟩ := h2 D.length xs ap2
  rw [en] at hi hz
  have ei : i = 200 * D.length + xs.length := by omega
  refine ⟨by rw [len1]; omega, fun l ys e => ?_⟩
  rcases ap1 e with ⟨c, e⟩ | ⟨c, e⟩
  · obtain ⟨k1, k2⟩ := h2 l ys (ap3 e)
    have k3 := hb l
    refine ⟨by rw [up2_j (by omega), up2_k (by decide)]; exact k1, fun j y ej => ?_⟩
    have lt := gl3 ej
    rw [up2_k (by decide), up2_j (by omega)]
    exact k2 j y ej
  · subst e
    subst c
    refine ⟨by rw [en, up2_s, len1]; omega, fun j y ej => ?_⟩
    rcases ap1 ej with ⟨c, ej⟩ | ⟨c, ej⟩
    · rw [up2_k (by decide), up2_j (by omega)]
      exact g2 j y ej
    · subst ej
      rw [up2_k (by decide), show 200 * D.length + j = i by omega, up2_s]
theorem DRH.new (h : DRH v a D) (hn : n = (v 39).toNat) (hv : v2 39 = v 39 + 1) : DRH v2 (up2 a 37 n 0) (D ++ [[]]) := by
  obtain ⟨h1, h2⟩ := h
  refine ⟨by rw [len1]; omega, fun l ys e => ?_⟩
  rcases ap1 e with ⟨c, e⟩ | ⟨c, e⟩
  · exact (h2 l ys e).fr (up2_j (by omega)) (fun j _ => up2_k (by decide))
  · subst e
    exact ⟨by rw [show l = n by omega, up2_s]; rfl, fun j y ej => by simp at ej⟩
theorem PUC.mk {o : Option Value} (hB : BX v a) (h : o = none ∧ v = v2 ∧ a2 = up2 (up2 a 38 (200 * (v 39 - 1) + a 37 (v 39 - 1).toNat).toNat x) 37 (v 39 - 1).toNat (a 37 (v 39 - 1).toNat + 1)) : PUC v a v2 a2 x := fun D xs hD => by
  obtain ⟨_, e1, e2⟩ := h
  rw [e2, ← e1]
  exact hD.put (fun l => (hB.2 37 l).2) rfl rfl rfl rfl
theorem NLX.mk {o : Option Value} (h : ∃ f : Int, o = some (.int (iI f)) ∧ ((f = 1 ∧ v 39 < 200 ∧ v2 = va_up v 39 (v 39 + 1) ∧ a2 = up2 a 37 (v 39).toNat 0) ∨ (f = 0 ∧ v 39 = 200 ∧ v = v2 ∧ a = a2))) : ∃ f : Int, o = some (.int (iI f)) ∧ (f = 0 ∨ f = 1) ∧ NLX v a v2 a2 f := by
  obtain ⟨f, e, h⟩ := h
  refine ⟨f, e, ?_, fun D hD => ?_⟩
  · rcases h with ⟨e1, _⟩ | ⟨e1, _⟩
    · exact Or.inr e1
    · exact Or.inl e1
  · have e0 := hD.1
    rcases h with ⟨e1, e2, e3, e4⟩ | ⟨e1, e2, e3, e4⟩
    · refine Or.inl ⟨e1, by omega, ?_⟩
      rw [e4]
      exact hD.new rfl (by rw [e3]; exact va_up_self _ _ _)
    · exact Or.inr ⟨e1, by omega⟩
theorem WDH.lx (h : WDH v a w) (hj : n < w.length) : a 20 n = lts w n := by
  have g := (h.2 n _ (List.getElem?_eq_getElem hj)).1
  rw [g]
  show _ = ((w[n]?).map (fun x => x.1)).getD 0
  (rw [List.getElem?_eq_getElem hj]) <;> rfl
theorem WDH.bx (h : WDH v a w) (hj : n < w.length) (h1 : 1 ≤ n) : a 22 n = bks w n := by
  have g := (h.2 n _ (List.getElem?_eq_getElem hj)).2.2 h1
  rw [g]
  show _ = ((w[n]?).map (fun x => x.2.2)).getD 0
  (rw [List.getElem?_eq_getElem hj]) <;> rfl
theorem lbk_s {k : Int} (i : Nat) : lbk w k st d r (i + 1) = if 1 ≤ i ∧ bks w i ≠ 0 ∧ d < st i ∧ st i - d + 1 ≤ r ∧ kok k ((w.length : Nat) : Int) (lts w (i - 1)) (lts w i) then st i else lbk w k st d r i := rfl
theorem BRI.init : BRI v a t q z 1 (-1) := fun w cs st _ _ => by
  show (-1 : Int) = lbk w (a 6 t.toNat) st q z (0 + 1)
  rw [lbk_s, if_neg (fun e => absurd e.1 (by decide))]
  rfl
theorem BRI.hit (h : BRI v a t q z k x) (hk : 1 ≤ k ∧ k < v 23) (h22 : a 22 k.toNat ≠ 0) (h26 : q < a 26 k.toNat) (hz : a 26 k.toNat - q + 1 ≤ z) (hg : kok (a 6 t.toNat) (v 23) (a 20 (k - 1).toNat) (a 20 k.toNat)) (e : f = a 26 k.toNat) : BRI v a t q z (k + 1) f := fun w cs st hw hs => by
  have e0 := hw.1
  have lt : k.toNat < w.length := by omega
  obtain ⟨s1, _⟩ := hs (by have := hg.1; omega) k.toNat lt
  have hl := hw.lx lt
  have hl2 := hw.lx (n := k.toNat - 1) (by omega)
  have hb := hw.bx lt (by omega)
  rw [show (k + 1).toNat = k.toNat + 1 by omega, lbk_s, if_pos]
  · omega
  · rw [← hl, ← hl2, ← hb, ← s1, ← e0, show k.toNat - 1 = (k - 1).toNat by omega]
    exact ⟨by omega, h22, h26, hz, hg⟩
theorem BRI.miss (h : BRI v a t q z k x) (hk : 1 ≤ k ∧ k < v 23) (hn : ¬ (a 22 k.toNat ≠ 0 ∧ q < a 26 k.toNat ∧ a 26 k.toNat - q + 1 ≤ z ∧ kok (a 6 t.toNat) (v 23) (a 20 (k - 1).toNat) (a 20 k.toNat))) : BRI v a t q z (k + 1) x := fun w cs st hw hs => by
  have e0 := hw.1
  have lt : k.toNat < w.length := by omega
  have hl := hw.lx lt
  have hl2 := hw.lx (n := k.toNat - 1) (by omega)
  have hb := hw.bx lt (by omega)
  rw [show (k + 1).toNat = k.toNat + 1 by omega, lbk_s, if_neg]
  · exact h w cs st hw hs
  · intro g
    obtain ⟨g1, g2, g3, g4, g5⟩ := g
    obtain ⟨s1, _⟩ := hs (by have := g5.1; omega) k.toNat lt
    rw [← hl, ← hl2, ← e0, show k.toNat - 1 = (k - 1).toNat by omega] at g5
    rw [← hb] at g2
    rw [← s1] at g3 g4
    exact hn ⟨g2, g3, g4, g5⟩
theorem BRI.fin (h : BRI v a t q z k f) (hk : k = v 23 ∨ (k = 1 ∧ v 23 ≤ 1)) : BRQ v a t q z f := fun w cs st hw hs => by
  refine hv2 (hw.1) (h w cs st hw hs) (fun e0 g => ?_)
  rcases hk with e | ⟨e1, e2⟩
  · rw [show k.toNat = w.length by omega] at g
    exact g
  · have g2 := BRI.init (v := v) (a := a) (t := t) (q := q) (z := z) w cs st hw hs
    rw [e1] at g
    unfold brk
    cases e3 : w.length with
    | zero => rw [g, ← g2]; rfl
    | succ m =>
      have e4 : m = 0 := by omega
      subst e4
      exact g
theorem BRQ.fr (h : BRQ v1 a1 t q z f) (h23 : v1 23 = v 23) (h6 : a1 6 = a 6) (h20 : a1 20 = a 20) (h21 : a1 21 = a 21) (h22 : a1 22 = a 22) (h26 : a1 26 = a 26) : BRQ v a t q z f := fun w cs st hw hs => by
  have g := h w cs st ⟨h23.trans hw.1, fun j y e => by rw [h20, h21, h22]; exact hw.2 j y e⟩ (by unfold BGT; rw [h6, h26]; exact hs)
  unfold brk at g ⊢
  rw [h6] at g
  exact g
theorem lbk_val {k : Int} : ∀ i : Nat, lbk w k st d r i = -1 ∨ ∃ j : Nat, j < i ∧ lbk w k st d r i = st j ∧ (1 ≤ j ∧ bks w j ≠ 0 ∧ d < st j ∧ st j - d + 1 ≤ r ∧ kok k ((w.length : Nat) : Int) (lts w (j - 1)) (lts w j)) := by
  intro i
  induction i with
  | zero => exact Or.inl rfl
  | succ i ih =>
    rw [lbk_s]
    split
    · rename_i c
      exact Or.inr ⟨i, by omega, rfl, c⟩
    · rcases ih with e | ⟨j, h1, h2, h3⟩
      · exact Or.inl e
      · exact Or.inr ⟨j, by omega, h2, h3⟩
theorem brk_lt (hs : BGT a t w cs st) : brk a t w st d r = -1 ∨ (d < brk a t w st d r ∧ brk a t w st d r < ((cs.length : Nat) : Int)) := by
  unfold brk
  rcases lbk_val (w := w) (k := a 6 t.toNat) (st := st) (d := d) (r := r) w.length with e | ⟨j, h1, h2, h3⟩
  · exact Or.inl e
  · have g := (hs (by have := h3.2.2.2.2.1; omega) j h1).2
    refine Or.inr ⟨?_, ?_⟩
    · rw [h2]; exact h3.2.2.1
    · rw [h2]; exact g
theorem flw_s {m d : Nat} : flw br wd hy cs (m + 1) d D xs = if ((cs.length : Nat) : Int) - ((d : Nat) : Int) ≤ rom wd xs then some (D ++ [pql xs ++ sgm cs d (cs.length - d)]) else if 0 ≤ br ((d : Nat) : Int) (rom wd xs) then (if D.length + 1 < 200 then flw br wd hy cs m (br ((d : Nat) : Int) (rom wd xs)).toNat (D ++ [(pql xs ++ sgm cs d ((br ((d : Nat) : Int) (rom wd xs)).toNat - d)) ++ [hy]]) [] else none) else if xs.length = 0 then some (D ++ [pql xs ++ sgm cs d (cs.length - d)]) else if D.length + 1 < 200 then flw br wd hy cs m d (D ++ [xs]) [] else none := rfl
theorem sgm_s (d n : Nat) : sgm cs d (n + 1) = sgm cs d n ++ [(cs[d + n]?).getD 0] := rfl
theorem MDH.g (h : MDH v a cs) (hn : n < cs.length) : a 24 n = (cs[n]?).getD 0 := by
  rw [h.2 n _ (List.getElem?_eq_getElem hn), List.getElem?_eq_getElem hn]
  rfl
theorem FL2.init : FL2 v a v a t 0 := fun D xs cs w st h => ⟨D, xs, ⟨201, by omega, rfl⟩, h.1⟩
theorem FL2.at37 (h : FL2 v a v1 a1 t x) (hc : FCX v a t D xs cs w st) : ∃ D1 x1, FLR v a t D xs cs w st x D1 x1 ∧ DRH v1 a1 (D1 ++ [x1]) ∧ a1 37 (v1 39 - 1).toNat = ((x1.length : Nat) : Int) := by
  obtain ⟨D1, x1, g1, g2⟩ := h D xs cs w st hc
  refine ⟨D1, x1, g1, g2, ?_⟩
  have e := g2.1
  rw [len1] at e
  rw [show (v1 39 - 1).toNat = D1.length by omega]
  exact (g2.2 D1.length x1 ap2).1
theorem FL2.fr (h : FL2 v a v1 a1 t x) (hv : v2 39 = v1 39) (h37 : a2 37 = a1 37) (h38 : a2 38 = a1 38) : FL2 v a v2 a2 t x := fun D xs cs w st hc => by
  obtain ⟨D1, x1, g1, g2⟩ := h D xs cs w st hc
  exact ⟨D1, x1, g1, g2.fr hv h37 h38⟩
theorem FL2.b0 (h : FL2 v a v1 a1 t x) (e : a1 37 (v1 39 - 1).toNat = z) (hz : z ≤ 0) : FL4 v a v1 a1 t x z x := fun D xs cs w st hc => by
  obtain ⟨D1, x1, g1, g2, g3⟩ := h.at37 hc
  refine ⟨D1, x1, g1, by omega, ?_⟩
  have e0 : x1.length = 0 := by omega
  have e1 := List.length_eq_zero_iff.mp e0
  subst e1
  rw [show (x - x).toNat = 0 by omega]
  exact g2
theorem FL2.b1 (h : FL2 v a v1 a1 t x) (e : a1 37 (v1 39 - 1).toNat = z) (hz : 0 < z) (hp : PUC v1 a1 v2 a2 0) : FL4 v a v2 a2 t x z x := fun D xs cs w st hc => by
  obtain ⟨D1, x1, g1, g2, g3⟩ := h.at37 hc
  refine ⟨D1, x1, g1, by omega, ?_⟩
  have g4 := hp D1 x1 g2
  rw [show (x - x).toNat = 0 by omega]
  unfold pql
  rw [if_neg (by omega)]
  show DRH v2 a2 (D1 ++ [(x1 ++ [0]) ++ []])
  rw [List.append_nil]
  exact g4
theorem FL4.put (h : FL4 v a v1 a1 t x c k) (hx : 0 ≤ x) (hk : x ≤ k ∧ k < v 25) (hz : z = a 24 k.toNat) (hp : PUC v1 a1 v2 a2 z) : FL4 v a v2 a2 t x c (k + 1) := fun D xs cs w st hc => by
  obtain ⟨D1, x1, g1, g2, g3⟩ := h D xs cs w st hc
  refine ⟨D1, x1, g1, g2, ?_⟩
  refine hv2 (hc.2.1.1) (hp _ _ g3) (fun e0 g4 => ?_)
  have e1 := hc.2.1.g (n := k.toNat) (by omega)
  rw [show (k + 1 - x).toNat = (k - x).toNat + 1 by omega, sgm_s, show x.toNat + (k - x).toNat = k.toNat by omega, ← e1, ← hz, ← List.append_assoc]
  exact g4
theorem rom_h (e : ((xs.length : Nat) : Int) = h) (hz : (h = 0 ∧ z = wd) ∨ (0 < h ∧ z = wd - (h + 1))) : rom wd xs = z := by
  unfold rom
  split <;> omega
theorem FLR.run {x : Int} (h : FLR v a t D xs cs w st x D1 x1) (hD : D1.length + 1 ≤ 200) : ∃ n, 201 ≤ n + (D1.length + 1) ∧ FLV v a t D xs cs w st = flw (brk a t w st) (v 31) (v 33) cs (n + 1) x.toNat D1 x1 := by
  obtain ⟨n, h1, h2⟩ := h
  cases n with
  | zero => omega
  | succ n => exact ⟨n, by omega, h2⟩
theorem FLR.fits {x : Int} (h : FLR v a t D xs cs w st x D1 x1) (hD : D1.length + 1 ≤ 200) (hx : 0 ≤ x) (hr : rom (v 31) x1 = z) (hc : ((cs.length : Nat) : Int) - x ≤ z) : FLV v a t D xs cs w st = some (D1 ++ [pql x1 ++ sgm cs x.toNat (cs.length - x.toNat)]) := by
  obtain ⟨n, _, h2⟩ := h.run hD
  rw [h2, flw_s, if_pos (by omega)]
theorem FLR.long {x : Int} (h : FLR v a t D xs cs w st x D1 x1) (hD : D1.length + 1 ≤ 200) (hx : 0 ≤ x) (hr : rom (v 31) x1 = z) (hc : z < ((cs.length : Nat) : Int) - x) (hb : brk a t w st x z < 0) (h0 : x1.length = 0) : FLV v a t D xs cs w st = some (D1 ++ [pql x1 ++ sgm cs x.toNat (cs.length - x.toNat)]) := by
  obtain ⟨n, _, h2⟩ := h.run hD
  have ex : ((x.toNat : Nat) : Int) = x := Int.toNat_of_nonneg hx
  rw [h2, flw_s, if_neg (by omega), if_neg (by rw [hr, ex]; omega), if_pos h0]
theorem FLR.next {x : Int} (h : FLR v a t D xs cs w st x D1 x1) (hD : D1.length + 1 < 200) (hx : 0 ≤ x) (hr : rom (v 31) x1 = z) (hc : z < ((cs.length : Nat) : Int) - x) (hb : brk a t w st x z < 0) (h0 : x1.length ≠ 0) : FLR v a t D xs cs w st x (D1 ++ [x1]) [] := by
  obtain ⟨n, h1, h2⟩ := h.run (by omega)
  have ex : ((x.toNat : Nat) : Int) = x := Int.toNat_of_nonneg hx
  refine ⟨n, by rw [len1]; exact h1, ?_⟩
  rw [h2, flw_s, if_neg (by omega), if_neg (by rw [hr, ex]; omega), if_neg h0, if_pos hD]
theorem FLR.nroom {x : Int} (h : FLR v a t D xs cs w st x D1 x1) (hD : D1.length + 1 = 200) (hx : 0 ≤ x) (hr : rom (v 31) x1 = z) (hc : z < ((cs.length : Nat) : Int) - x) (hb : 0 ≤ brk a t w st x z ∨ x1.length ≠ 0) : FLV v a t D xs cs w st = none := by
  obtain ⟨n, _, h2⟩ := h.run (by omega)
  have ex : ((x.toNat : Nat) : Int) = x := Int.toNat_of_nonneg hx
  rw [h2, flw_s, if_neg (by omega)]
  by_cases c : 0 ≤ brk a t w st x z
  · rw [if_pos (by rw [hr, ex]; exact c), if_neg (by omega)]
  · rw [if_neg (by rw [hr, ex]; exact c), if_neg (by omega), if_neg (by omega)]
theorem FLR.part {x : Int} (h : FLR v a t D xs cs w st x D1 x1) (hD : D1.length + 1 < 200) (hx : 0 ≤ x) (hr : rom (v 31) x1 = z) (hc : z < ((cs.length : Nat) : Int) - x) (hb : brk a t w st x z = y1) (h0 : 0 ≤ y1) : FLR v a t D xs cs w st y1 (D1 ++ [(pql x1 ++ sgm cs x.toNat (y1.toNat - x.toNat)) ++ [v 33]]) [] := by
  obtain ⟨n, h1, h2⟩ := h.run (by omega)
  have ex : ((x.toNat : Nat) : Int) = x := Int.toNat_of_nonneg hx
  refine ⟨n, by rw [len1]; exact h1, ?_⟩
  rw [h2, flw_s, if_neg (by omega), hr, ex, hb, if_pos h0, if_pos hD]
theorem DRH.l200 (h : DRH v a (D ++ [xs])) (hv : v 39 ≤ 200) : D.length + 1 ≤ 200 := by
  have e := h.1
  rw [len1] at e
  omega
theorem FL4.fin (h : FL4 v a v1 a1 t x c y1) (hx : 0 ≤ x) (hv : v1 39 ≤ 200) (he : y1 = v 25) (hz : (c = 0 ∧ z = v 31) ∨ (0 < c ∧ z = v 31 - (c + 1))) (hy : v 25 - x ≤ z ∨ (z < v 25 - x ∧ ((c = 0 ∧ BRQ v a t x z (-1)) ∨ BRQ v a t x z y1))) : FLT v a v1 a1 t 1 := fun D xs cs w st hc => ⟨fun _ => by
  obtain ⟨D1, x1, g1, g2, g3⟩ := h D xs cs w st hc
  refine hv3 (hc.2.1.1) (g3.l200 hv) (rom_h (wd := v 31) g2 hz) (fun e0 hD hr => ?_)
  rw [show (y1 - x).toNat = cs.length - x.toNat by omega] at g3
  refine ⟨_, ?_, g3⟩
  rcases hy with q | ⟨q, q2⟩
  · exact g1.fits hD hx hr (by omega)
  · rcases q2 with ⟨q2, q3⟩ | q3
    · have e := q3 w cs st hc.2.2.1 hc.2.2.2
      exact g1.long hD hx hr (by omega) (by omega) (by omega)
    · have e := q3 w cs st hc.2.2.1 hc.2.2.2
      have g := brk_lt (d := x) (r := z) hc.2.2.2
      omega, fun e => absurd rfl e⟩
theorem FL4.hyp (h : FL4 v a v1 a1 t x c y1) (hx : 0 ≤ x) (hv : v1 39 ≤ 200) (hz : (c = 0 ∧ z = v 31) ∨ (0 < c ∧ z = v 31 - (c + 1))) (hc0 : z < v 25 - x) (hb : BRQ v a t x z y1) (hy0 : 0 ≤ y1) (hyp : hy = v 33) (hp : PUC v1 a1 v2 a2 hy) (hn : NLX v2 a2 v3 a3 f) (hf : f = 1) : FL2 v a v3 a3 t y1 := fun D xs cs w st hc => by
  obtain ⟨D1, x1, g1, g2, g3⟩ := h D xs cs w st hc
  refine hv5 (hc.2.1.1) (rom_h (wd := v 31) g2 hz) (hb w cs st hc.2.2.1 hc.2.2.2) (brk_lt (d := x) (r := z) hc.2.2.2) (hp _ _ g3) (fun e0 hr e g g4 => ?_)
  rcases hn _ g4 with ⟨_, n2, n3⟩ | ⟨n1, _⟩
  · rw [len1] at n2
    have g5 := g1.part n2 hx hr (by omega) e.symm hy0
    rw [← hyp, show y1.toNat - x.toNat = (y1 - x).toNat by omega] at g5
    exact ⟨_, _, g5, n3⟩
  · omega
theorem FL4.hno (h : FL4 v a v1 a1 t x c y1) (hx : 0 ≤ x) (hz : (c = 0 ∧ z = v 31) ∨ (0 < c ∧ z = v 31 - (c + 1))) (hc0 : z < v 25 - x) (hb : BRQ v a t x z y1) (hy0 : 0 ≤ y1) (hp : PUC v1 a1 v2 a2 hy) (hn : NLX v2 a2 v3 a3 f) (hf : f ≠ 1) : FLT v a v3 a3 t 0 := fun D xs cs w st hc => ⟨fun e => absurd e (by decide), fun _ => by
  obtain ⟨D1, x1, g1, g2, g3⟩ := h D xs cs w st hc
  refine hv3 (hc.2.1.1) (rom_h (wd := v 31) g2 hz) (hb w cs st hc.2.2.1 hc.2.2.2) (fun e0 hr e => ?_)
  rcases hn _ (hp _ _ g3) with ⟨n1, _⟩ | ⟨_, n2⟩
  · omega
  · rw [len1] at n2
    exact g1.nroom n2 hx hr (by omega) (Or.inl (by omega))⟩
theorem FL2.nl (h : FL2 v a v1 a1 t x) (hx : 0 ≤ x) (e37 : a1 37 (v1 39 - 1).toNat = c) (hz : (c = 0 ∧ z = v 31) ∨ (0 < c ∧ z = v 31 - (c + 1))) (h0 : c ≠ 0) (hc0 : z < v 25 - x) (hb : BRQ v a t x z y1) (hy0 : y1 < 0) (hn : NLX v1 a1 v3 a3 f) (hf : f = 1) : FL2 v a v3 a3 t x := fun D xs cs w st hc => by
  obtain ⟨D1, x1, g1, g2, g3⟩ := h.at37 hc
  refine hv2 (hc.2.1.1) (hb w cs st hc.2.2.1 hc.2.2.2) (fun e0 e => ?_)
  have hr := rom_h (xs := x1) (h := c) (wd := v 31) (by omega) hz
  rcases hn _ g2 with ⟨_, n2, n3⟩ | ⟨n1, _⟩
  · rw [len1] at n2
    exact ⟨_, _, g1.next n2 hx hr (by omega) (by omega) (by omega), n3⟩
  · omega
theorem FL2.nno (h : FL2 v a v1 a1 t x) (hx : 0 ≤ x) (e37 : a1 37 (v1 39 - 1).toNat = c) (hz : (c = 0 ∧ z = v 31) ∨ (0 < c ∧ z = v 31 - (c + 1))) (h0 : c ≠ 0) (hc0 : z < v 25 - x) (hn : NLX v1 a1 v3 a3 f) (hf : f ≠ 1) : FLT v a v3 a3 t 0 := fun D xs cs w st hc => ⟨fun e => absurd e (by decide), fun _ => by
  obtain ⟨D1, x1, g1, g2, g3⟩ := h.at37 hc
  have e0 := hc.2.1.1
  have hr := rom_h (xs := x1) (h := c) (wd := v 31) (by omega) hz
  rcases hn _ g2 with ⟨n1, _⟩ | ⟨_, n2⟩
  · omega
  · rw [len1] at n2
    exact g1.nroom n2 hx hr (by omega) (Or.inr (by omega))⟩
end DRAF
def CE6 (v : Nat → Int) (a : Nat → Nat → Int) (v1 : Nat → Int) (a1 : Nat → Nat → Int) (q x y k : Int) : Prop := ∀ D, DRH v a D → v1 39 = ((D.length : Nat) : Int) ∧ (∀ (l : Nat) (xs : List Int), D[l]? = some xs → l ≠ x.toNat → LNH a1 l (if q ≤ ((l : Nat) : Int) ∧ ((l : Nat) : Int) < x then cen (v 31) xs else xs)) ∧ ∀ xs, D[x.toNat]? = some xs → a1 37 x.toNat = ((xs.length : Nat) : Int) ∧ ∀ (j : Nat) (e : Int), xs[j]? = some e → (((j : Nat) : Int) ≤ k → a1 38 (200 * x.toNat + j) = e) ∧ (k < ((j : Nat) : Int) → a1 38 (200 * x.toNat + j + y.toNat) = e)
def CE7 (v : Nat → Int) (a : Nat → Nat → Int) (v1 : Nat → Int) (a1 : Nat → Nat → Int) (q x y k : Int) : Prop := ∀ D, DRH v a D → v1 39 = ((D.length : Nat) : Int) ∧ (∀ (l : Nat) (xs : List Int), D[l]? = some xs → l ≠ x.toNat → LNH a1 l (if q ≤ ((l : Nat) : Int) ∧ ((l : Nat) : Int) < x then cen (v 31) xs else xs)) ∧ ∀ xs, D[x.toNat]? = some xs → a1 37 x.toNat = ((xs.length : Nat) : Int) ∧ (∀ (j : Nat) (e : Int), xs[j]? = some e → a1 38 (200 * x.toNat + j + y.toNat) = e) ∧ ∀ j : Nat, ((j : Nat) : Int) < k → a1 38 (200 * x.toNat + j) = 0
def CNX (v : Nat → Int) (a : Nat → Nat → Int) (v2 : Nat → Int) (a2 : Nat → Nat → Int) (q : Int) : Prop := ∀ D, DRH v a D → DRH v2 a2 (cnl (v 31) q.toNat D)
section CENT
variable {v v1 v2 v3 : Nat → Int} {a a1 a2 a3 : Nat → Nat → Int} {D : List (List Int)} {xs : List Int} {x z q k y c wd : Int} {i l b : Nat}
theorem cnl_get : ∀ (D : List (List Int)) (b l : Nat), (cnl wd b D)[l]? = if b ≤ l then (D[l]?).map (cen wd) else D[l]? := by
  intro D
  induction D with
  | nil => intro b l; cases b <;> simp [cnl]
  | cons xs D ih =>
    intro b l
    cases b with
    | zero =>
      rw [if_pos (Nat.zero_le _)]
      cases l with
      | zero => rfl
      | succ l =>
        have g := ih 0 l
        rw [if_pos (Nat.zero_le _)] at g
        exact g
    | succ b =>
      cases l with
      | zero => rw [if_neg (by omega)]; rfl
      | succ l =>
        have g := ih b l
        show (cnl wd b D)[l]? = if b + 1 ≤ l + 1 then (D[l]?).map (cen wd) else D[l]?
        rw [g]
        by_cases c : b ≤ l
        · rw [if_pos c, if_pos (by omega)]
        · rw [if_neg c, if_neg (by omega)]
theorem cnl_len : ∀ (D : List (List Int)) (b : Nat), (cnl wd b D).length = D.length := by
  intro D
  induction D with
  | nil => intro b; cases b <;> rfl
  | cons xs D ih =>
    intro b
    cases b with
    | zero => exact congrArg (· + 1) (ih 0)
    | succ b => exact congrArg (· + 1) (ih b)
theorem CN2.init : CN2 v a v a q q := fun D h => ⟨h.1, fun l xs e => by
  rw [if_neg (by omega)]
  exact h.2 l xs e⟩
theorem CN2.fin (h : CN2 v a v1 a1 q x) (hq : 0 ≤ q) (hx : v1 39 ≤ x) : CNX v a v1 a1 q := fun D hD => by
  obtain ⟨h1, h2⟩ := h D hD
  refine ⟨by rw [cnl_len]; exact h1, fun l ys e => ?_⟩
  rw [cnl_get] at e
  by_cases c : q.toNat ≤ l
  · rw [if_pos c] at e
    cases e2 : D[l]? with
    | none => rw [e2] at e; cases e
    | some xs =>
      rw [e2] at e
      cases e
      refine hv2 (gl3 e2) (h2 l xs e2) (fun lt g => ?_)
      rw [if_pos (by omega)] at g
      exact g
  · rw [if_neg c] at e
    have g := h2 l ys e
    rw [if_neg (by omega)] at g
    exact g
theorem CN2.go (h : CN2 v a v1 a1 q x) (hx : 0 ≤ x) (hk : k = a1 37 x.toNat - 1) : CE6 v a v1 a1 q x y k := fun D hD => by
  obtain ⟨h1, h2⟩ := h D hD
  refine ⟨h1, fun l xs e _ => h2 l xs e, fun xs e => ?_⟩
  have g := h2 x.toNat xs e
  rw [if_neg (by omega)] at g
  refine ⟨g.1, fun j e0 ej => ⟨fun _ => g.2 j e0 ej, fun hj => ?_⟩⟩
  refine hv2 (gl3 ej) (g.1) (fun lt g1 => ?_)
  omega
theorem CE6.mv (h : CE6 v a v1 a1 q x y k) (hb : ∀ l, a1 37 l ≤ 200) (hx : 0 ≤ x) (hk : 0 ≤ k ∧ 0 ≤ y ∧ k + y < 200) (hi : i = (200 * x + k + y).toNat) (hz : z = a1 38 (200 * x + k).toNat) : CE6 v a v1 (up2 a1 38 i z) q x y (k - 1) := fun D hD => by
  obtain ⟨h1, h2, h3⟩ := h D hD
  have ei : i = 200 * x.toNat + k.toNat + y.toNat := by omega
  refine ⟨h1, fun l xs e ne => ?_, fun xs e => ?_⟩
  · have g := h2 l xs e ne
    refine hv2 (hb l) (g.1) (fun b1 g1 => ?_)
    exact g.fr (up2_k (by decide)) (fun j hj => up2_j (by omega))
  · obtain ⟨g1, g2⟩ := h3 xs e
    refine ⟨by rw [up2_k (by decide)]; exact g1, fun j e0 ej => ⟨fun hj => ?_, fun hj => ?_⟩⟩
    · rw [up2_j (by omega)]
      exact (g2 j e0 ej).1 (by omega)
    · by_cases c : ((j : Nat) : Int) = k
      · rw [show 200 * x.toNat + j + y.toNat = i by omega, up2_s, hz, show (200 * x + k).toNat = 200 * x.toNat + j by omega]
        exact (g2 j e0 ej).1 (by omega)
      · rw [up2_j (by omega)]
        exact (g2 j e0 ej).2 (by omega)
theorem CE6.zr (h : CE6 v a v1 a1 q x y k) (hk : k < 0) : CE7 v a v1 a1 q x y 0 := fun D hD => by
  obtain ⟨h1, h2, h3⟩ := h D hD
  refine ⟨h1, h2, fun xs e => ?_⟩
  obtain ⟨g1, g2⟩ := h3 xs e
  exact ⟨g1, fun j e0 ej => (g2 j e0 ej).2 (by omega), fun j hj => absurd hj (by omega)⟩
theorem CE7.mv (h : CE7 v a v1 a1 q x y k) (hb : ∀ l, a1 37 l ≤ 200) (hx : 0 ≤ x) (hk : 0 ≤ k ∧ k < y ∧ k < 200) (hi : i = (200 * x + k).toNat) : CE7 v a v1 (up2 a1 38 i 0) q x y (k + 1) := fun D hD => by
  obtain ⟨h1, h2, h3⟩ := h D hD
  have ei : i = 200 * x.toNat + k.toNat := by omega
  refine ⟨h1, fun l xs e ne => ?_, fun xs e => ?_⟩
  · have g := h2 l xs e ne
    refine hv2 (hb l) (g.1) (fun b1 g1 => ?_)
    exact g.fr (up2_k (by decide)) (fun j hj => up2_j (by omega))
  · obtain ⟨g1, g2, g3⟩ := h3 xs e
    refine ⟨by rw [up2_k (by decide)]; exact g1, fun j e0 ej => ?_, fun j hj => ?_⟩
    · rw [up2_j (by omega)]
      exact g2 j e0 ej
    · by_cases c : ((j : Nat) : Int) = k
      · rw [show 200 * x.toNat + j = i by omega, up2_s]
      · rw [up2_j (by omega)]
        exact g3 j (by omega)
theorem CE7.fin (h : CE7 v a v1 a1 q x y k) (hx : 0 ≤ x ∧ q ≤ x) (hk : k = y) (hy : 0 ≤ y) (hc : a1 37 x.toNat = c) (hy2 : ((c = 0 ∨ v 31 ≤ c) ∧ y = 0) ∨ (0 < c ∧ c < v 31 ∧ y = (v 31 - c) / 2)) (hi : i = x.toNat) (hz : z = c + y) : CN2 v a v1 (up2 a1 37 i z) q (x + 1) := fun D hD => by
  obtain ⟨h1, h2, h3⟩ := h D hD
  subst hi
  refine ⟨h1, fun l xs e => ?_⟩
  by_cases cl : l = x.toNat
  · subst cl
    obtain ⟨g1, g2, g3⟩ := h3 xs e
    rw [if_pos (by omega)]
    unfold cen
    rcases hy2 with ⟨e1, e2⟩ | ⟨e1, e2, e3⟩
    · rw [if_pos (by omega)]
      refine ⟨by rw [up2_s]; omega, fun j e0 ej => ?_⟩
      have g := g2 j e0 ej
      rw [show 200 * x.toNat + j + y.toNat = 200 * x.toNat + j by omega] at g
      rw [up2_k (by decide)]
      exact g
    · rw [if_neg (by omega)]
      have en : ((v 31 - ((xs.length : Nat) : Int)) / 2).toNat = y.toNat := by rw [show ((xs.length : Nat) : Int) = c by omega, ← e3]
      rw [en]
      refine ⟨by rw [up2_s, List.length_append, List.length_replicate]; omega, fun j e0 ej => ?_⟩
      rw [up2_k (by decide)]
      by_cases cj : j < y.toNat
      · rw [List.getElem?_append_left (by rw [List.length_replicate]; exact cj), List.getElem?_replicate, if_pos cj] at ej
        cases ej
        exact g3 j (by omega)
      · rw [List.getElem?_append_right (by rw [List.length_replicate]; omega), List.length_replicate] at ej
        have g := g2 (j - y.toNat) e0 ej
        rw [show 200 * x.toNat + (j - y.toNat) + y.toNat = 200 * x.toNat + j by omega] at g
        exact g
  · have g := h2 l xs e cl
    have g2 : LNH (up2 a1 37 x.toNat z) l (if q ≤ ((l : Nat) : Int) ∧ ((l : Nat) : Int) < x then cen (v 31) xs else xs) := g.fr (up2_j cl) (fun j _ => up2_k (by decide))
    by_cases c1 : q ≤ ((l : Nat) : Int) ∧ ((l : Nat) : Int) < x
    · rw [if_pos c1] at g2
      rw [if_pos (by omega)]
      exact g2
    · rw [if_neg c1] at g2
      rw [if_neg (by omega)]
      exact g2
end CENT
