def rwe (E : List (Option (List Int))) (l : Int) : Option (Option (List Int)) := if 0 ≤ l then E[l.toNat]? else none
def RWA (a : Nat → Nat → Int) (l : Nat) (x : Option (List Int)) : Prop := (x = none ∧ a 34 l < 0) ∨ ∃ xs, x = some xs ∧ a 34 l = ((xs.length : Nat) : Int) ∧ ∀ (j : Nat) (y : Int), xs[j]? = some y → a 35 (200 * l + j) = y
def SHA (v : Nat → Int) (a : Nat → Nat → Int) (E : List (Option (List Int))) : Prop := v 36 = ((E.length : Nat) : Int) ∧ ∀ (l : Nat) (x : Option (List Int)), E[l]? = some x → RWA a l x
def mpr (n : Nat) (F : Nat → Int) : List Int := (List.range n).map F
def gd0 (xs : List Int) (j : Nat) : Int := (xs[j]?).getD 0
def LOSX (E : List (Option (List Int))) (l f : Int) (E2 : List (Option (List Int))) : Prop := ((∃ x, rwe E l = some x) ∧ E2 = E.set l.toNat none ∧ f = 1) ∨ (rwe E l = none ∧ E2 = E ∧ f = -1)
def CUTX (E : List (Option (List Int))) (l n f : Int) (E2 : List (Option (List Int))) : Prop := ((0 ≤ n ∧ n ≤ 200) ∧ ∃ xs, rwe E l = some (some xs) ∧ E2 = E.set l.toNat (some (mpr n.toNat (gd0 xs))) ∧ f = n) ∨ ((¬ ((0 ≤ n ∧ n ≤ 200) ∧ ∃ xs, rwe E l = some (some xs))) ∧ E2 = E ∧ f = -1)
def cpx (xs ys : List Int) (w x n : Nat) : List Int := mpr ys.length (fun j => if x ≤ j ∧ j < x + n then gd0 xs (w + (j - x)) else gd0 ys j)
def CPK (E : List (Option (List Int))) (q w u x n : Int) (xs ys : List Int) : Prop := rwe E q = some (some xs) ∧ rwe E u = some (some ys) ∧ 0 ≤ n ∧ 0 ≤ w ∧ 0 ≤ x ∧ w + n ≤ ((xs.length : Nat) : Int) ∧ x + n ≤ ((ys.length : Nat) : Int)
def CPRX (E : List (Option (List Int))) (q w u x n f : Int) (E2 : List (Option (List Int))) : Prop := (∃ xs ys, CPK E q w u x n xs ys ∧ E2 = E.set u.toNat (some (cpx xs ys w.toNat x.toNat n.toNat)) ∧ f = n) ∨ ((¬ ∃ xs ys, CPK E q w u x n xs ys) ∧ E2 = E ∧ f = -1)
def cst (E : List (Option (List Int))) (q u : Int) (E2 : List (Option (List Int))) : Prop := ∃ xs y, rwe E q = some (some xs) ∧ rwe E u = some y ∧ E2 = E.set u.toNat (some xs)
def cpn (E : List (Option (List Int))) (q u : Int) : Nat → List (Option (List Int)) → Prop
  | 0, E2 => E2 = E
  | k + 1, E2 => ∃ E1, cpn E q u k E1 ∧ cst E1 (q + ((k : Nat) : Int)) (u + ((k : Nat) : Int)) E2
def CPLX (E : List (Option (List Int))) (q u n c f : Int) (E2 : List (Option (List Int))) (c2 : Int) : Prop := ((n < 0 ∨ 10 < n) ∧ E2 = E ∧ f = -1 ∧ c2 = c) ∨ ((0 ≤ n ∧ n ≤ 10) ∧ ((cpn E q u n.toNat E2 ∧ f = n ∧ c2 = n) ∨ ∃ k : Nat, ((k : Nat) : Int) < n ∧ cpn E q u k E2 ∧ (¬ ∃ E3, cst E2 (q + ((k : Nat) : Int)) (u + ((k : Nat) : Int)) E3) ∧ f = -1 ∧ c2 = ((k : Nat) : Int)))
section CONT
variable {v v2 : Nat → Int} {a a2 : Nat → Nat → Int} {E E1 E2 E3 : List (Option (List Int))} {l i n q u w x f f1 f2 c c1 c2 : Int} {k : Nat} {xs ys : List Int}
theorem mpr_len {n : Nat} {F : Nat → Int} : (mpr n F).length = n := by
  unfold mpr
  rw [List.length_map, List.length_range]
theorem mpr_at {n j : Nat} {F : Nat → Int} {y : Int} (h : (mpr n F)[j]? = some y) : j < n ∧ y = F j := by
  have lt := gl3 h
  rw [mpr_len] at lt
  refine ⟨lt, ?_⟩
  unfold mpr at h
  rw [List.getElem?_map, List.getElem?_range lt] at h
  exact (Option.some.inj h).symm
theorem gd0_at {j : Nat} {y : Int} (h : xs[j]? = some y) : gd0 xs j = y := by
  unfold gd0
  rw [h]
  rfl
theorem gd0_out {j : Nat} (h : xs.length ≤ j) : gd0 xs j = 0 := by
  unfold gd0
  rw [List.getElem?_eq_none h]
  rfl
theorem gd0_lt {j : Nat} (h : j < xs.length) : xs[j]? = some (gd0 xs j) := by
  rw [gd0_at (List.getElem?_eq_getElem h)]
  exact List.getElem?_eq_getElem h
theorem rwl_lt {y : Option (List Int)} (h : rwe E l = some y) : 0 ≤ l ∧ l < ((E.length : Nat) : Int) ∧ E[l.toNat]? = some y := by
  unfold rwe at h
  by_cases c0 : 0 ≤ l
  · rw [if_pos c0] at h
    have lt := gl3 h
    exact ⟨c0, by omega, h⟩
  · rw [if_neg c0] at h
    cases h
theorem rwl_in (h0 : 0 ≤ l) (h : l < ((E.length : Nat) : Int)) : ∃ y, rwe E l = some y ∧ E[l.toNat]? = some y := by
  have lt : l.toNat < E.length := by omega
  refine ⟨_, ?_, List.getElem?_eq_getElem lt⟩
  unfold rwe
  rw [if_pos h0]
  exact List.getElem?_eq_getElem lt
theorem rwl_out (h : ¬ (0 ≤ l ∧ l < ((E.length : Nat) : Int))) : rwe E l = none := by
  unfold rwe
  by_cases c0 : 0 ≤ l
  · rw [if_pos c0]
    exact List.getElem?_eq_none (by omega)
  · rw [if_neg c0]
theorem SHA.off (h : SHA v a E) (hl : ¬ (0 ≤ l ∧ l < v 36)) : rwe E l = none := rwl_out (by have e := h.1; omega)
theorem SHA.on (h : SHA v a E) (h0 : 0 ≤ l) (hl : l < v 36) : ∃ y, rwe E l = some y ∧ RWA a l.toNat y := by
  obtain ⟨y, y1, y2⟩ := rwl_in (E := E) h0 (by have e := h.1; omega)
  exact ⟨y, y1, h.2 _ y y2⟩
theorem SHA.lack (h : SHA v a E) (h0 : 0 ≤ l) (hl : l < v 36) (hn : a 34 l.toNat < 0) : rwe E l = some none := by
  obtain ⟨y, y1, y2⟩ := h.on h0 hl
  rcases y2 with ⟨e, _⟩ | ⟨xs, _, e, _⟩
  · rw [y1, e]
  · omega
theorem SHA.have_ (h : SHA v a E) (h0 : 0 ≤ l) (hl : l < v 36) (hn : 0 ≤ a 34 l.toNat) : ∃ xs, rwe E l = some (some xs) ∧ a 34 l.toNat = ((xs.length : Nat) : Int) ∧ ∀ j : Nat, j < xs.length → a 35 (200 * l.toNat + j) = gd0 xs j := by
  obtain ⟨y, y1, y2⟩ := h.on h0 hl
  rcases y2 with ⟨_, e⟩ | ⟨xs, e1, e2, e3⟩
  · omega
  · exact ⟨xs, by rw [y1, e1], e2, fun j hj => e3 j _ (gd0_lt hj)⟩
theorem LOSX.uni (h : LOSX E l f1 E1) (h2 : LOSX E l f2 E2) : f1 = f2 ∧ E1 = E2 := by
  rcases h with ⟨⟨x, e1⟩, e2, e3⟩ | ⟨e1, e2, e3⟩ <;> rcases h2 with ⟨⟨y, d1⟩, d2, d3⟩ | ⟨d1, d2, d3⟩
  · exact ⟨e3.trans d3.symm, e2.trans d2.symm⟩
  · rw [e1] at d1
    cases d1
  · rw [e1] at d1
    cases d1
  · exact ⟨e3.trans d3.symm, e2.trans d2.symm⟩
theorem CUTX.uni (h : CUTX E l n f1 E1) (h2 : CUTX E l n f2 E2) : f1 = f2 ∧ E1 = E2 := by
  rcases h with ⟨e0, xs, e1, e2, e3⟩ | ⟨e1, e2, e3⟩ <;> rcases h2 with ⟨d0, ys, d1, d2, d3⟩ | ⟨d1, d2, d3⟩
  · rw [e1] at d1
    cases d1
    exact ⟨e3.trans d3.symm, e2.trans d2.symm⟩
  · exact absurd ⟨e0, xs, e1⟩ d1
  · exact absurd ⟨d0, ys, d1⟩ e1
  · exact ⟨e3.trans d3.symm, e2.trans d2.symm⟩
theorem CPRX.uni (h : CPRX E q w u x n f1 E1) (h2 : CPRX E q w u x n f2 E2) : f1 = f2 ∧ E1 = E2 := by
  rcases h with ⟨xs, ys, e1, e2, e3⟩ | ⟨e1, e2, e3⟩ <;> rcases h2 with ⟨zs, us, d1, d2, d3⟩ | ⟨d1, d2, d3⟩
  · have i1 := e1.1.symm.trans d1.1
    have i2 := e1.2.1.symm.trans d1.2.1
    cases i1
    cases i2
    exact ⟨e3.trans d3.symm, e2.trans d2.symm⟩
  · exact absurd ⟨xs, ys, e1⟩ d1
  · exact absurd ⟨zs, us, d1⟩ e1
  · exact ⟨e3.trans d3.symm, e2.trans d2.symm⟩
theorem cst.uni (h : cst E q u E1) (h2 : cst E q u E2) : E1 = E2 := by
  obtain ⟨xs, y, e1, e2, e3⟩ := h
  obtain ⟨ys, z, d1, d2, d3⟩ := h2
  rw [e1] at d1
  cases d1
  rw [e3, d3]
theorem cpn.uni : ∀ (k : Nat) (E1 E2 : List (Option (List Int))), cpn E q u k E1 → cpn E q u k E2 → E1 = E2 := by
  intro k
  induction k with
  | zero => intro E1 E2 h h2; exact h.trans h2.symm
  | succ k ih =>
    intro E1 E2 h h2
    obtain ⟨A, a1, a2⟩ := h
    obtain ⟨B, b1, b2⟩ := h2
    have e := ih A B a1 b1
    subst e
    exact cst.uni a2 b2
theorem cpn.less {m : Nat} (hm : k < m) : ∀ E1, cpn E q u m E1 → ∃ E2 E3, cpn E q u k E2 ∧ cst E2 (q + ((k : Nat) : Int)) (u + ((k : Nat) : Int)) E3 := by
  induction m with
  | zero => omega
  | succ m ih =>
    intro E1 h
    obtain ⟨A, a1, a2⟩ := h
    by_cases c0 : k = m
    · subst c0
      exact ⟨A, E1, a1, a2⟩
    · exact ih (by omega) A a1
theorem cpn.stop {m : Nat} (h1 : cpn E q u k E1) (n1 : ¬ ∃ E3, cst E1 (q + ((k : Nat) : Int)) (u + ((k : Nat) : Int)) E3) (h2 : cpn E q u m E2) (hm : k < m) : False := by
  obtain ⟨A, B, a1, a2⟩ := cpn.less hm E2 h2
  have e := cpn.uni k A E1 a1 h1
  subst e
  exact n1 ⟨B, a2⟩
theorem CPLX.uni (h : CPLX E q u n c f1 E1 c1) (h2 : CPLX E q u n c f2 E2 c2) : f1 = f2 ∧ E1 = E2 ∧ c1 = c2 := by
  rcases h with ⟨e0, e1, e2, e3⟩ | ⟨e0, ⟨e1, e2, e3⟩ | ⟨k, e1, e2, e3, e4, e5⟩⟩ <;> rcases h2 with ⟨d0, d1, d2, d3⟩ | ⟨d0, ⟨d1, d2, d3⟩ | ⟨m, d1, d2, d3, d4, d5⟩⟩
  · exact ⟨e2.trans d2.symm, e1.trans d1.symm, e3.trans d3.symm⟩
  · omega
  · omega
  · omega
  · exact ⟨e2.trans d2.symm, cpn.uni _ _ _ e1 d1, e3.trans d3.symm⟩
  · exact (cpn.stop d2 d3 e1 (by omega)).elim
  · omega
  · exact (cpn.stop e2 e3 d1 (by omega)).elim
  · by_cases c0 : k = m
    · subst c0
      exact ⟨e4.trans d4.symm, cpn.uni _ _ _ e2 d2, e5.trans d5.symm⟩
    · by_cases c3 : k < m
      · exact (cpn.stop e2 e3 d2 c3).elim
      · exact (cpn.stop d2 d3 e2 (by omega)).elim
end CONT
