def rwx (E : List (Option (List Int))) (l : Int) : List Int := match rwe E l with
  | some (some xs) => xs
  | _ => []
def goon (hy : Int) (xs : List Int) : Prop := 0 < xs.length ∧ gd0 xs (xs.length - 1) = hy
def segl (hy : Int) (xs : List Int) : List Int := if 0 < xs.length ∧ gd0 xs (xs.length - 1) = hy then xs.take (xs.length - 1) else xs ++ [0]
def chl (E : List (Option (List Int))) (hy q : Int) : Nat → List Int
  | 0 => []
  | k + 1 => chl E hy q k ++ segl hy (rwx E (q + ((k : Nat) : Int)))
def ROK (E : List (Option (List Int))) (q k : Int) : Prop := ∀ i : Int, 0 ≤ i → i < k → ∃ xs, rwe E (q + i) = some (some xs)
def ROWL (v : Nat → Int) (a : Nat → Nat → Int) (xs : List Int) : Prop := v 50 = ((xs.length : Nat) : Int) ∧ ∀ (j : Nat) (x : Int), xs[j]? = some x → a 48 j = x
def RR0 (xs : List Int) : Nat → Int := fun j => (xs[j]?).getD 0
def RD2 (v : Nat → Int) (a : Nat → Nat → Int) (v1 : Nat → Int) (a1 : Nat → Nat → Int) (q k : Int) : Prop := ∀ E, SHA v a E → ROK E q k ∧ ROWL v1 a1 (chl E (v 33) q k.toNat)
def RD3 (v : Nat → Int) (a : Nat → Nat → Int) (v1 : Nat → Int) (a1 : Nat → Nat → Int) (q k i g : Int) : Prop := ∀ E, SHA v a E → ROK E q k ∧ ∃ xs, rwe E (q + k) = some (some xs) ∧ (g = 1 ↔ goon (v 33) xs) ∧ ROWL v1 a1 (chl E (v 33) q k.toNat ++ xs.take i.toNat)
def OKR (v : Nat → Int) (a : Nat → Nat → Int) (E : List (Option (List Int))) (t q n : Int) : Prop := WHL v a t ∧ 0 ≤ n ∧ ROK E q n
def RDR (v : Nat → Int) (a : Nat → Nat → Int) (v2 : Nat → Int) (a2 : Nat → Nat → Int) (t q n f : Int) : Prop := ∀ E, SHA v a E → (¬ OKR v a E t q n ∧ f = -1 ∧ v2 52 = v 52 ∧ a2 51 = a 51) ∨ (OKR v a E t q n ∧ (NZL a (gat0 a t) → NZL a (gat1 a t) → ∃ bs, RDA a (gat0 a t) (gat1 a t) (RR0 (chl E (v 33) q n.toNat)) f bs ∧ OUTL v2 a2 bs))
section RRD5
variable {v v1 v2 v3 : Nat → Int} {a a1 a2 a3 : Nat → Nat → Int} {E : List (Option (List Int))} {l l0 l1 xs ys bs : List Int} {R : Nat → Int} {x y g f w q k i t n z r d h : Int}
theorem ROWL.nil (h : v 50 = 0) : ROWL v a [] := ⟨h, fun j x e => by simp at e⟩
theorem ROWL.snoc (h : ROWL v a xs) (h50 : v2 50 = v 50 + 1) (h48 : a2 48 = va_up (a 48) (v 50).toNat x) : ROWL v2 a2 (xs ++ [x]) := by
  have e := h.1
  refine ⟨by rw [len1]; omega, fun j y ej => ?_⟩
  rw [h48]
  rcases ap1 ej with ⟨c, ej⟩ | ⟨c, ej⟩
  · rw [va_up_ne _ _ (by omega)]
    exact h.2 j y ej
  · rw [show j = (v 50).toNat by omega, va_up_self]
    exact ej
theorem RD2.init (h : v1 50 = 0) : RD2 v a v1 a1 q 0 := fun E _ => ⟨fun i h1 h2 => absurd h1 (by omega), ROWL.nil h⟩
theorem RD2.bad (h : RD2 v a v1 a1 q k) (hk : 0 ≤ k ∧ k < n) (hl : ¬ (0 ≤ q + k ∧ q + k < v 36) ∨ ((0 ≤ q + k ∧ q + k < v 36) ∧ a 34 (q + k).toNat < 0)) (hf : f = -1) (h52 : v2 52 = v 52 ∧ a2 51 = a 51) : RDR v a v2 a2 t q n f := fun E hE => Or.inl ⟨fun w => by
  obtain ⟨xs, e⟩ := w.2.2 k hk.1 hk.2
  exact hE.fault hl ⟨xs, e⟩, hf, h52.1, h52.2⟩
theorem RDR.nw (hw : ¬ WHL v a t ∨ n < 0) (hf : f = -1) (h52 : v2 52 = v 52 ∧ a2 51 = a 51) : RDR v a v2 a2 t q n f := fun E hE => Or.inl ⟨fun w => by
  rcases hw with hw | hw
  · exact hw w.1
  · have := w.2.1
    omega, hf, h52.1, h52.2⟩
theorem RD2.line (h : RD2 v a v1 a1 q k) (h0 : 0 ≤ q + k ∧ q + k < v 36) (h34 : 0 ≤ a 34 (q + k).toNat) (hg : (g = 1 ∧ 0 < a 34 (q + k).toNat ∧ a 35 (200 * (q + k) + a 34 (q + k).toNat - 1).toNat = v 33) ∨ (g = 0 ∧ ¬ (0 < a 34 (q + k).toNat ∧ a 35 (200 * (q + k) + a 34 (q + k).toNat - 1).toNat = v 33))) : RD3 v a v1 a1 q k 0 g := fun E hE => by
  obtain ⟨c1, c2⟩ := h E hE
  obtain ⟨xs, e1, e2, e3⟩ := hE.have_ h0.1 h0.2 h34
  refine ⟨c1, xs, e1, ?_, ?_⟩
  · unfold goon
    by_cases c : 0 < xs.length
    · have e4 := e3 (xs.length - 1) (by omega)
      rw [show 200 * (q + k).toNat + (xs.length - 1) = (200 * (q + k) + a 34 (q + k).toNat - 1).toNat by omega] at e4
      rw [← e4]
      constructor
      · intro e5
        rcases hg with ⟨_, _, g3⟩ | ⟨g1, _⟩
        · exact ⟨c, g3⟩
        · omega
      · intro e5
        rcases hg with ⟨g1, _⟩ | ⟨_, g2⟩
        · exact g1
        · exact absurd ⟨by omega, e5.2⟩ g2
    · constructor
      · intro e5
        omega
      · intro e5
        exact absurd e5.1 c
  · show ROWL v1 a1 (chl E (v 33) q k.toNat ++ [])
    rw [List.append_nil]
    exact c2
theorem rwx_of (e : rwe E y = some (some xs)) : rwx E y = xs := by
  unfold rwx
  rw [e]
theorem rwl_rng : ∀ (n : Nat) (x : Int) (j : Nat) (d : Int), 0 ≤ x → (rng n x)[j]? = some d → 0 ≤ d := by
  intro n
  induction n with
  | zero => intro x j d _ e; simp [rng] at e
  | succ n ih =>
    intro x j d hx e
    cases j with
    | zero =>
      have e2 : some x = some d := e
      cases e2
      exact hx
    | succ j => exact ih (x + 1) j d (by omega) e
theorem rwl_pos {r b : Nat → Int} : ∀ (n : Nat) (t : Int) (j : Nat) (d : Int), (rwl r b n t)[j]? = some d → 0 ≤ d := by
  intro n
  induction n with
  | zero => intro t j d e; simp [rwl] at e
  | succ n ih =>
    intro t j d e
    rw [rwl_s] at e
    by_cases c : 0 ≤ t
    · rw [if_pos c] at e
      by_cases c2 : j < (rng (r t.toNat).toNat (200 * t)).length
      · rw [List.getElem?_append_left c2] at e
        exact rwl_rng _ _ _ _ (by omega) e
      · rw [List.getElem?_append_right (by omega)] at e
        exact ih _ _ _ e
    · rw [if_neg c] at e
      simp at e
theorem indl_rol {I : Int} {j : Nat} (hI : 0 ≤ I) (e : (indl a I)[j]? = some d) : rol d = I % 4 := by
  unfold indl at e
  split at e
  · cases j with
    | zero =>
      have e2 : some (-1 - I) = some d := e
      cases e2
      unfold rol
      rw [if_neg (by omega)]
      omega
    | succ j => simp at e
  · simp at e
theorem app_or {α : Type} {A B : List α} {j : Nat} {m : α} (e : (A ++ B)[j]? = some m) : (∃ i : Nat, A[i]? = some m) ∨ ∃ i : Nat, B[i]? = some m := by
  by_cases c : j < A.length
  · rw [List.getElem?_append_left c] at e
    exact Or.inl ⟨j, e⟩
  · rw [List.getElem?_append_right (by omega)] at e
    exact Or.inr ⟨_, e⟩
theorem rws1_rol {j : Nat} (ht : 0 ≤ t) (e : (rws1 a t)[j]? = some d) : rol d = 4 ∨ rol d = 0 ∨ rol d = 1 := by
  unfold rws1 at e
  rcases app_or e with ⟨i, e⟩ | ⟨i, e⟩
  · rcases app_or e with ⟨i, e⟩ | ⟨i, e⟩
    · have := rwl_pos _ _ _ _ e
      exact Or.inl (if_pos this)
    · have := indl_rol (by omega) e
      omega
  · have := indl_rol (by omega) e
    omega
theorem gat0_rol {j : Nat} (ht : 0 ≤ t) (h8 : a 6 t.toNat = 5 → 0 ≤ a 8 t.toNat) (e : (gat0 a t)[j]? = some d) : rol d ≠ 3 := by
  unfold gat0 at e
  by_cases c : a 6 t.toNat = 5
  · rw [if_pos c] at e
    rcases app_or e with ⟨i, e⟩ | ⟨i, e⟩
    · have := rws1_rol (h8 c) e
      omega
    · have := indl_rol (by omega) e
      omega
  · rw [if_neg c] at e
    have := rws1_rol ht e
    omega
theorem gat1_rol {j : Nat} (ht : 0 ≤ t) (h9 : a 6 t.toNat = 5 → 0 ≤ a 9 t.toNat) (e : (gat1 a t)[j]? = some d) : rol d ≠ 2 := by
  unfold gat1 at e
  by_cases c : a 6 t.toNat = 5
  · rw [if_pos c] at e
    rcases app_or e with ⟨i, e⟩ | ⟨i, e⟩
    · have := rws1_rol (h9 c) e
      omega
    · have := indl_rol (by omega) e
      omega
  · rw [if_neg c] at e
    simp at e
theorem gat_cg (h6 : a1 6 = a 6) (h8 : a1 8 = a 8) (h9 : a1 9 = a 9) (h10 : a1 10 = a 10) (h16 : a1 16 = a 16) : gat0 a1 t = gat0 a t ∧ gat1 a1 t = gat1 a t := by
  have i1 : ∀ I, indl a1 I = indl a I := fun I => by unfold indl; rw [h16]
  have r1 : ∀ t, rws1 a1 t = rws1 a t := fun t => by unfold rws1 RWL; rw [i1, i1, h10, h8]
  refine ⟨?_, ?_⟩
  · unfold gat0
    rw [h6, h8, r1, r1, i1]
  · unfold gat1
    rw [h6, h9, r1, i1]
theorem RDR.fin {V A A3 : List Nat} {v4 : Nat → Int} {a4 : Nat → Nat → Int} (hT : TBL v a) (h2 : RD2 v a v1 a1 q n) (hw : WHL v a t) (hn : 0 ≤ n) (hf1 : fr V A v a v1 a1) (cA : ([6, 8, 9, 10, 12, 13, 14, 15, 16, 17] : List Nat).all (fun k => !A.contains k) = true) (hG : GAT a1 a3 t) (hf3 : fr [] A3 v1 a1 v3 a3) (c3 : ([12, 13, 14, 15, 16, 17, 48] : List Nat).all (fun k => !A3.contains k) = true) (hx : RAX v3 a3 v4 a4 z) (h5 : (z = 0 ∧ f = v4 52 ∧ v4 52 ≤ 4000 ∧ v2 52 = v4 52 ∧ a2 51 = a4 51) ∨ (z ≠ 0 ∧ f = -1 ∧ v2 52 = 0)) : RDR v a v2 a2 t q n f := fun E hE => by
  obtain ⟨ok, rl⟩ := h2 E hE
  refine Or.inr ⟨⟨hw, hn, ok⟩, fun nz0 nz1 => ?_⟩
  have k1 : ∀ j, ([6, 8, 9, 10, 12, 13, 14, 15, 16, 17] : List Nat).contains j = true → a1 j = a j := fun j hj => hf1.2 j (by
    have w := List.all_eq_true.mp cA j (List.contains_iff_mem.mp hj)
    simpa using w)
  have k3 : ∀ j, ([12, 13, 14, 15, 16, 17, 48] : List Nat).contains j = true → a3 j = a1 j := fun j hj => hf3.2 j (by
    have w := List.all_eq_true.mp c3 j (List.contains_iff_mem.mp hj)
    simpa using w)
  have e12 := (k3 12 rfl).trans (k1 12 rfl)
  have e13 := (k3 13 rfl).trans (k1 13 rfl)
  have e14 := (k3 14 rfl).trans (k1 14 rfl)
  have e15 := (k3 15 rfl).trans (k1 15 rfl)
  have e16 := (k3 16 rfl).trans (k1 16 rfl)
  have e17 := (k3 17 rfl).trans (k1 17 rfl)
  have gc := gat_cg (t := t) (k1 6 rfl) (k1 8 rfl) (k1 9 rfl) (k1 10 rfl) (k1 16 rfl)
  obtain ⟨g0, g1⟩ := hG
  rw [gc.1] at g0
  rw [gc.2] at g1
  have wt := WHL.tr hw
  have tt := hT.1 t wt.1 wt.2.1
  have nz : ∀ l, NZL a l → NZL a3 l := fun l hl j d hd => by
    rw [rlen_cg e13 e16]
    exact ⟨(hl j d hd).1, fun k c1 c2 => by rw [dcl_cg e15 e17]; exact (hl j d hd).2 k c1 c2⟩
  have v50 : v3 50 = v1 50 := hf3.1 50 rfl
  have rac : RAC v3 a3 (gat0 a t) (gat1 a t) (RR0 (chl E (v 33) q n.toNat)) := by
    refine ⟨⟨g0.cg (k3 13 rfl) (k3 16 rfl), g1.cg (k3 13 rfl) (k3 16 rfl)⟩, ⟨nz _ nz0, nz _ nz1⟩, ⟨fun j d e => gat0_rol wt.1 (fun c => by omega) e, fun j d e => gat1_rol wt.1 (fun c => by omega) e⟩, fun j => ⟨fun hj => ?_, fun hj => ?_⟩⟩
    · have e := rl.1
      have lt : j < (chl E (v 33) q n.toNat).length := by omega
      have e2 := List.getElem?_eq_getElem lt
      unfold RR0
      rw [e2, k3 48 rfl, rl.2 j _ e2]
      rfl
    · have e := rl.1
      unfold RR0
      rw [List.getElem?_eq_none (by omega)]
      rfl
  rcases hx _ _ _ rac with ⟨z0, bs, w1, w2⟩ | ⟨z0, w1⟩
  · rcases h5 with ⟨_, p2, p3, p4, p5⟩ | ⟨p1, _⟩
    · have e := w2.1
      exact ⟨bs, Or.inl ⟨RFN_cg e12 e13 e14 e15 e16 e17 w1, by omega, by omega⟩, w2.fr p4 p5⟩
    · exact absurd z0 p1
  · rcases h5 with ⟨p1, _⟩ | ⟨_, p2, p3⟩
    · exact absurd p1 z0
    · refine ⟨[], Or.inr ⟨?_, p2, rfl⟩, p3, fun j x e => by simp at e⟩
      rcases w1 with w1 | w1
      · exact Or.inl (RWG_cg e12 e13 e14 e15 e16 e17 w1)
      · exact Or.inr (ROV_cg e12 e13 e14 e15 e16 e17 w1)
end RRD5
