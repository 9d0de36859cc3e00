def tw (T : Nat → Int) (N : Nat) : Nat → Nat → Int → List (Int × Nat × Int) → Nat × List (Int × Nat × Int)
  | 0, p, _, w => (p, w)
  | n + 1, p, b, w => if N ≤ p ∨ T p = 10 then (p, w) else if T p = 32 then (if w.length = 0 then tw T N n (p + 1) b w else (p, w)) else if T p = 126 then tw T N n (p + 1) 1 w else tw T N n (p + 1) 0 (w ++ [(T p, p, b)])
def NNL (T : Nat → Int) (q u : Int) : Prop := ∀ j : Int, q ≤ j → j < u → T j.toNat ≠ 10
def TKP (T : Nat → Int) (N q u : Int) : Prop := (q ≤ u ∧ u ≤ N) ∧ NNL T q u ∧ (u = N ∨ T u.toNat = 10)
def TWF (T : Nat → Int) (N q : Int) : Nat × List (Int × Nat × Int) := tw T N.toNat (N.toNat + 1 - q.toNat) q.toNat 0 []
def TKI (T : Nat → Int) (N q p b : Int) (w : List (Int × Nat × Int)) : Prop := ∃ n, N.toNat + 1 ≤ n + p.toNat ∧ TWF T N q = tw T N.toNat n p.toNat b w
def WDH (v : Nat → Int) (a : Nat → Nat → Int) (w : List (Int × Nat × Int)) : Prop := v 23 = ((w.length : Nat) : Int) ∧ ∀ (j : Nat) (x : Int × Nat × Int), w[j]? = some x → a 20 j = x.1 ∧ a 21 j = ((x.2.1 : Nat) : Int) ∧ (1 ≤ j → a 22 j = x.2.2)
def TKW (v : Nat → Int) (a : Nat → Nat → Int) (T : Nat → Int) (N q x : Int) : Prop := ∃ w b, TKI T N q x b w ∧ WDH v a w ∧ (1 ≤ w.length → a 22 w.length = b)
def TKX (T : Nat → Int) (N : Int) (v : Nat → Int) (a : Nat → Nat → Int) (q f : Int) : Prop := ∃ w, TWF T N q = (f.toNat, w) ∧ WDH v a w
section WORDS
variable {v v2 : Nat → Int} {a a1 : Nat → Nat → Int} {T : Nat → Int} {N q u p b f z y x l : Int} {w : List (Int × Nat × Int)} {i i2 i3 pp n M P : Nat}
theorem tw_s : tw T M (n + 1) P b w = if M ≤ P ∨ T P = 10 then (P, w) else if T P = 32 then (if w.length = 0 then tw T M n (P + 1) b w else (P, w)) else if T P = 126 then tw T M n (P + 1) 1 w else tw T M n (P + 1) 0 (w ++ [(T P, P, b)]) := rfl
theorem TKI.init : TKI T N q q 0 [] := ⟨_, by omega, rfl⟩
theorem TKI.unf (h : TKI T N q p b w) (hp : 0 ≤ p ∧ p < N) (hn : T p.toNat ≠ 10) : ∃ n, N.toNat + 1 ≤ n + (p + 1).toNat ∧ TWF T N q = if T p.toNat = 32 then (if w.length = 0 then tw T N.toNat n (p + 1).toNat b w else (p.toNat, w)) else if T p.toNat = 126 then tw T N.toNat n (p + 1).toNat 1 w else tw T N.toNat n (p + 1).toNat 0 (w ++ [(T p.toNat, p.toNat, b)]) := by
  obtain ⟨n, h1, h2⟩ := h
  cases n with
  | zero => omega
  | succ n =>
    refine ⟨n, by omega, ?_⟩
    have no : ¬ (N.toNat ≤ p.toNat ∨ T p.toNat = 10) := fun e => by
      rcases e with e | e
      · omega
      · exact hn e
    rw [h2, tw_s, if_neg no, show (p + 1).toNat = p.toNat + 1 by omega]
theorem TKI.ltr (h : TKI T N q p b w) (hp : 0 ≤ p ∧ p < N) (h0 : T p.toNat ≠ 10) (e1 : T p.toNat ≠ 32) (e2 : T p.toNat ≠ 126) : TKI T N q (p + 1) 0 (w ++ [(T p.toNat, p.toNat, b)]) := by
  obtain ⟨n, h1, h2⟩ := h.unf hp h0
  rw [if_neg e1, if_neg e2] at h2
  exact ⟨n, h1, h2⟩
theorem WDH.nil (h : v 23 = 0) : WDH v a [] := ⟨h, fun j x e => by simp at e⟩
theorem gl3 {α : Type} {ls : List α} {d : α} {r : Nat} (h : ls[r]? = some d) : r < ls.length := by
  by_cases e : r < ls.length
  · exact e
  · rw [List.getElem?_eq_none (by omega)] at h; cases h
theorem WDH.push (h : WDH v a w) (hb : 1 ≤ w.length → a 22 w.length = b) (hi : i = w.length) (hi2 : i2 = w.length) (hi3 : i3 = w.length + 1) (hv : v2 23 = v 23 + 1) (hz : z = l) (hy : y = ((pp : Nat) : Int)) : WDH v2 (up2 (up2 (up2 a 20 i z) 21 i2 y) 22 i3 0) (w ++ [(l, pp, b)]) ∧ (1 ≤ (w ++ [(l, pp, b)]).length → up2 (up2 (up2 a 20 i z) 21 i2 y) 22 i3 0 22 (w ++ [(l, pp, b)]).length = 0) := by
  have e0 : (w ++ [(l, pp, b)]).length = w.length + 1 := by rw [List.length_append]; rfl
  subst hi
  subst hi2
  subst hi3
  subst hz
  subst hy
  obtain ⟨h1, h2⟩ := h
  refine ⟨⟨by omega, fun j x e => ?_⟩, fun _ => by rw [e0, up2_s]⟩
  have v20 : up2 (up2 (up2 a 20 w.length z) 21 w.length ((pp : Nat) : Int)) 22 (w.length + 1) 0 20 j = if j = w.length then z else a 20 j := by
    rw [up2_k (by decide), up2_k (by decide)]
    by_cases c : j = w.length
    · rw [c, up2_s, if_pos rfl]
    · rw [up2_j c, if_neg c]
  have v21 : up2 (up2 (up2 a 20 w.length z) 21 w.length ((pp : Nat) : Int)) 22 (w.length + 1) 0 21 j = if j = w.length then ((pp : Nat) : Int) else a 21 j := by
    rw [up2_k (by decide)]
    by_cases c : j = w.length
    · rw [c, up2_s, if_pos rfl]
    · rw [up2_j c, up2_k (by decide), if_neg c]
  have v22 : up2 (up2 (up2 a 20 w.length z) 21 w.length ((pp : Nat) : Int)) 22 (w.length + 1) 0 22 j = if j = w.length + 1 then 0 else a 22 j := by
    by_cases c : j = w.length + 1
    · rw [c, up2_s, if_pos rfl]
    · rw [up2_j c, up2_k (by decide), up2_k (by decide), if_neg c]
  rw [v20, v21, v22]
  have lt := gl3 e
  by_cases c : j < w.length
  · rw [List.getElem?_append_left c] at e
    rw [if_neg (by omega), if_neg (by omega), if_neg (by omega)]
    exact h2 j x e
  · rw [List.getElem?_append_right (by omega), show j - w.length = 0 by omega] at e
    cases e
    rw [if_pos (by omega), if_pos (by omega), if_neg (by omega)]
    refine ⟨rfl, rfl, fun q => ?_⟩
    rw [show j = w.length by omega]
    exact hb (by omega)
theorem TKW.init (h : v 23 = 0) : TKW v a T N q q := ⟨[], 0, TKI.init, WDH.nil h, fun e => absurd e (by decide)⟩
theorem TKW.ltr (h : TKW v a T N q x) (hp : 0 ≤ x ∧ x < N) (h0 : T x.toNat ≠ 10) (e1 : T x.toNat ≠ 32) (e2 : T x.toNat ≠ 126) (hi : i = (v 23).toNat) (hi2 : i2 = (v 23).toNat) (hi3 : i3 = (v 23 + 1).toNat) (hv : v2 23 = v 23 + 1) (hz : z = T x.toNat) (hy : y = x) : TKW v2 (up2 (up2 (up2 a 20 i z) 21 i2 y) 22 i3 0) T N q (x + 1) := by
  obtain ⟨w, b, h1, h2, h3⟩ := h
  have h4 := h2.1
  obtain ⟨g1, g2⟩ := h2.push (v2 := v2) (l := T x.toNat) (pp := x.toNat) (i := i) (i2 := i2) (i3 := i3) (z := z) (y := y) h3 (by omega) (by omega) (by omega) hv hz (by omega)
  exact ⟨_, 0, h1.ltr hp h0 e1 e2, g1, g2⟩
theorem NNL.zero : NNL T q q := fun j h1 h2 => absurd h1 (by omega)
theorem NNL.step (h : NNL T q p) (e : T p.toNat ≠ 10) : NNL T q (p + 1) := fun j h1 h2 => by
  by_cases c : j < p
  · exact h j h1 c
  · rw [show j = p by omega]; exact e
theorem TKP.cg {T2 : Nat → Int} {N2 : Int} (h : TKP T N q u) (h29 : T2 = T) (h30 : N2 = N) : TKP T2 N2 q u := by
  subst h29
  subst h30
  exact h
end WORDS
