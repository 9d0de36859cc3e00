def opg (h t : Int) : Int := if 0 < h ∧ 2 ≤ t then t - 1 else t
def PAGX (E : List (Option (List Int))) (h t : Int) (HD : Nat → Int) (p l i f : Int) : Prop := if ¬ (0 ≤ p ∧ p < (((E.length : Nat) : Int) + opg h t - 1) / opg h t) ∨ ¬ (0 ≤ l ∧ l < t) then f = -1 else if (0 < h ∧ 2 ≤ t) ∧ l = 0 then (if 0 ≤ i ∧ i < h then f = HD i.toNat else f = -1) else CELX E (p * opg h t + (l - (if 0 < h ∧ 2 ≤ t then 1 else 0))) i f
def PGS (v : Nat → Int) (f : Int) : Prop := f = (v 36 + opg (v 41) (v 32) - 1) / opg (v 41) (v 32)
def PGA (v : Nat → Int) (a : Nat → Nat → Int) (p l i f : Int) : Prop := ∀ E, SHA v a E → PAGX E (v 41) (v 32) (a 40) p l i f
section RPAG
variable {v v1 v2 : Nat → Int} {a a1 a2 : Nat → Nat → Int} {E : List (Option (List Int))} {h t p l i f f1 f2 g x y z o k : Int} {HD : Nat → Int}
theorem opg_of (ho : (0 < h ∧ 2 ≤ t ∧ o = t - 1) ∨ (¬ (0 < h ∧ 2 ≤ t) ∧ o = t)) : o = opg h t := by
  unfold opg
  split <;> omega
theorem PAGX.uni (h1 : PAGX E h t HD p l i f1) (h2 : PAGX E h t HD p l i f2) : f1 = f2 := by
  unfold PAGX at h1 h2
  by_cases c1 : ¬ (0 ≤ p ∧ p < (((E.length : Nat) : Int) + opg h t - 1) / opg h t) ∨ ¬ (0 ≤ l ∧ l < t)
  · rw [if_pos c1] at h1 h2
    rw [h1, h2]
  · rw [if_neg c1] at h1 h2
    by_cases c2 : (0 < h ∧ 2 ≤ t) ∧ l = 0
    · rw [if_pos c2] at h1 h2
      by_cases c3 : 0 ≤ i ∧ i < h
      · rw [if_pos c3] at h1 h2
        rw [h1, h2]
      · rw [if_neg c3] at h1 h2
        rw [h1, h2]
    · rw [if_neg c2] at h1 h2
      exact CELX.uni h1 h2
theorem PAGX.hn {pg : Int} (hg : pg = (((E.length : Nat) : Int) + opg h t - 1) / opg h t) (hp : 0 ≤ p ∧ p < pg) (hl : l = 0) (hh : 0 < h ∧ 2 ≤ t) (hi : ¬ (0 ≤ i ∧ i < h)) (hf : f = -1) : PAGX E h t HD p l i f := by
  subst hg
  unfold PAGX
  rw [if_neg (fun q => by rcases q with q | q; exact q hp; exact q ⟨by omega, by omega⟩), if_pos ⟨hh, hl⟩, if_neg hi]
  exact hf
theorem PAGX.ce {pg : Int} (hg : pg = (((E.length : Nat) : Int) + opg h t - 1) / opg h t) (hp : 0 ≤ p ∧ p < pg) (hl : 0 ≤ l ∧ l < t) (hn : ¬ ((0 < h ∧ 2 ≤ t) ∧ l = 0)) (ho : o = opg h t) (hz : z = p * o + k) (hk : (0 < h ∧ 2 ≤ t ∧ k = l - 1) ∨ (¬ (0 < h ∧ 2 ≤ t) ∧ k = l)) (hc : CELX E z i f) : PAGX E h t HD p l i f := by
  subst hg
  unfold PAGX
  rw [if_neg (fun q => by rcases q with q | q; exact q hp; exact q hl), if_neg hn]
  have e : p * opg h t + (l - (if 0 < h ∧ 2 ≤ t then 1 else 0)) = z := by
    rw [hz, ho]
    split <;> omega
  rw [e]
  exact hc
theorem PGS.mk (h : f = (v 36 + x - 1) / y) (g1 : (0 < v 41 ∧ 2 ≤ v 32 ∧ x = v 32 - 1) ∨ (¬ (0 < v 41 ∧ 2 ≤ v 32) ∧ x = v 32)) (g2 : (0 < v 41 ∧ 2 ≤ v 32 ∧ y = v 32 - 1) ∨ (¬ (0 < v 41 ∧ 2 ≤ v 32) ∧ y = v 32)) : PGS v f := by
  unfold PGS
  rw [h, opg_of g1, opg_of g2]
theorem PGS.le (hg : PGS v x) (hE : SHA v a E) : x = (((E.length : Nat) : Int) + opg (v 41) (v 32) - 1) / opg (v 41) (v 32) := by
  rw [← hE.1]
  exact hg
theorem PGA.hn (hg : PGS v x) (hp : 0 ≤ p ∧ p < x) (hl : l = 0) (hh : 0 < v 41 ∧ 2 ≤ v 32) (hi : ¬ (0 ≤ i ∧ i < v 41)) (hf : f = -1) : PGA v a p l i f := fun _ hE => PAGX.hn (hg.le hE) hp hl hh hi hf
theorem PGA.ce (hg : PGS v x) (hp : 0 ≤ p ∧ p < x) (hl : 0 ≤ l ∧ l < v 32) (hn : ¬ ((0 < v 41 ∧ 2 ≤ v 32) ∧ l = 0)) (ho : (0 < v 41 ∧ 2 ≤ v 32 ∧ o = v 32 - 1) ∨ (¬ (0 < v 41 ∧ 2 ≤ v 32) ∧ o = v 32)) (hz : z = p * o + k) (hk : (0 < v 41 ∧ 2 ≤ v 32 ∧ k = l - 1) ∨ (¬ (0 < v 41 ∧ 2 ≤ v 32) ∧ k = l)) (hc : CLA v a z i f) : PGA v a p l i f := fun _ hE => PAGX.ce (hg.le hE) hp hl hn (opg_of ho) hz hk (hc _ hE)
end RPAG
def HD4 (v : Nat → Int) (a : Nat → Nat → Int) (v1 : Nat → Int) (a1 : Nat → Nat → Int) (t : Int) : Prop := ∃ cs, SWC a (a 2) (v 3) t cs ∧ MDH v1 a1 cs
def HD5 (v : Nat → Int) (a : Nat → Nat → Int) (v1 : Nat → Int) (a1 : Nat → Nat → Int) (t k : Int) : Prop := ∃ cs, SWC a (a 2) (v 3) t cs ∧ MDH v1 a1 cs ∧ ((((cs.length : Nat) : Int) ≤ v 31 ∧ v1 41 = ((cs.length : Nat) : Int)) ∨ (v 31 < ((cs.length : Nat) : Int) ∧ v1 41 = v 31)) ∧ ∀ j : Nat, ((j : Nat) : Int) < k → a1 40 j = (cs[j]?).getD 0
def HDT (v : Nat → Int) (a : Nat → Nat → Int) (v2 : Nat → Int) (a2 : Nat → Nat → Int) (t f : Int) : Prop := (f = -1 ∧ v2 41 = v 41 ∧ a2 40 = a 40) ∨ (0 ≤ f ∧ v2 41 = f ∧ ∃ cs, SWC a (a 2) (v 3) t cs ∧ ∀ j : Nat, ((j : Nat) : Int) < f → a2 40 j = (cs[j]?).getD 0)
section HED4
variable {v v1 v2 v3 : Nat → Int} {a a1 a2 a3 : Nat → Nat → Int} {t k f n z y : Int} {i : Nat}
theorem HD4.set (hs : SWT v1 a1 v2 a2 t f) (e : f = 1) (hE : TBE a1 a) (hw : WDK (a1 20) (a 2) n) (hn : n = v 3) (h23 : v1 23 = v 3) (h12 : ∀ i, 0 ≤ a 12 i) : HD4 v a v2 a2 t := by
  subst hn
  obtain ⟨cs, g1, g2⟩ := hs.2.1 e
  rw [h23] at g1
  exact ⟨cs, SWC_w hw h12 (SWC_cg hE g1), g2⟩
theorem HD4.nil (hT : TBL v a) (ht : 0 ≤ t ∧ t < v 4) (hn : v 3 = 0) (hm : v1 25 = 0) : HD4 v a v1 a1 t := ⟨[], by rw [hn]; exact SWC.nil hT ht, hm, fun j x e => by simp at e⟩
theorem HD4.go (h : HD4 v a v1 a1 t) (hm : z = v1 25) (hz : (y = z ∧ z ≤ v 31) ∨ (y = v 31 ∧ v 31 < z)) (h41 : v2 41 = y) (h25 : v2 25 = v1 25) (h24 : a2 24 = a1 24) : HD5 v a v2 a2 t 0 := by
  obtain ⟨cs, h1, h2⟩ := h
  have e := h2.1
  refine ⟨cs, h1, h2.fr h25 h24, by omega, fun j hj => absurd hj (by omega)⟩
theorem HD5.step (h : HD5 v a v1 a1 t k) (hk : 0 ≤ k ∧ k < v1 41) : HD5 v a v1 (up2 a1 40 k.toNat (a1 24 k.toNat)) t (k + 1) := by
  obtain ⟨cs, h1, h2, h3, h4⟩ := h
  have e := h2.1
  refine ⟨cs, h1, h2.fr rfl (funext fun _ => up2_k (by decide)), h3, fun j hj => ?_⟩
  by_cases c : ((j : Nat) : Int) < k
  · rw [up2_j (by omega)]
    exact h4 j c
  · rw [show j = k.toNat by omega, up2_s]
    exact h2.g (by omega)
theorem HDT.ok (h : HD5 v a v1 a1 t k) (hk : v1 41 ≤ k) (hf : f = v1 41) (h31 : 0 ≤ v 31) (h41 : v2 41 = v1 41) (h40 : a2 40 = a1 40) : HDT v a v2 a2 t f := by
  obtain ⟨cs, h1, h2, h3, h4⟩ := h
  refine Or.inr ⟨by omega, by omega, cs, h1, fun j hj => ?_⟩
  rw [h40]
  exact h4 j (by omega)
end HED4
