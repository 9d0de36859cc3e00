def inw (S : Int) : List Int → Option (List Int)
  | [] => none
  | d :: r => if d = S - 1 then (match inw S r with
    | some l => some (0 :: l)
    | none => none) else some ((d + 1) :: r)
def zrs : Nat → List Int
  | 0 => []
  | n + 1 => 0 :: zrs n
def nxw (S : Int) (N : Nat) (l : List Int) : Option (List Int) := match inw S l with
  | some l2 => some l2
  | none => if l.length < N then some (zrs (l.length + 1)) else none
def enw (S : Int) (N : Nat) : Nat → Option (List Int)
  | 0 => if 0 < S ∧ 0 < N then some (zrs 1) else none
  | n + 1 => match enw S N n with
    | some l => nxw S N l
    | none => none
def wdb (sg : List Int) : List Int → List Int
  | [] => []
  | d :: r => wdb sg r ++ [(sg[d.toNat]?).getD 0]
def sgl (h : Nat → Int) : Nat → List Int
  | 0 => []
  | n + 1 => if h n = 0 then sgl h n else sgl h n ++ [((n : Nat) : Int)]
def LCQ (a : Nat → Nat → Int) (j c : Int) : Prop := c = a 14 j.toNat ∨ ((97 ≤ a 14 j.toNat ∧ a 14 j.toNat ≤ 122) ∧ c = a 14 j.toNat - 32)
def HSC (a : Nat → Nat → Int) (l0 l1 : List Int) (c : Int) : Prop := ∃ d k : Int, (d ∈ l0 ∨ d ∈ l1) ∧ 0 ≤ d ∧ (0 ≤ k ∧ k < a 12 d.toNat) ∧ LCQ a (8 * d + k) c
def HSS (a : Nat → Nat → Int) (t : Int) (h : Nat → Int) : Prop := ∀ c : Nat, c < 256 → (h c ≠ 0 ↔ (HSC a (gat0 a t) (gat1 a t) ((c : Nat) : Int) ∨ (a 6 t.toNat = 5 ∧ (c = 60 ∨ c = 62))))
def URB (a : Nat → Nat → Int) (t : Int) (ws : List Int) : Prop := ∃ cs, SWC a (RR0 ws) ((ws.length : Nat) : Int) t cs ∧ ¬ RFN a (gat0 a t) (gat1 a t) (RR0 cs) ws
def URK (a : Nat → Nat → Int) (t : Int) (sg : List Int) (N n : Nat) : Prop := ∀ (i : Nat) (l : List Int), i < n → enw ((sg.length : Nat) : Int) N i = some l → ¬ URB a t (wdb sg l)
def URD (a : Nat → Nat → Int) (t : Int) (sg : List Int) (N M : Nat) (f : Int) (o : Option (List Int)) : Prop := (∃ n l, n < M ∧ URK a t sg N n ∧ enw ((sg.length : Nat) : Int) N n = some l ∧ URB a t (wdb sg l) ∧ f = ((l.length : Nat) : Int) ∧ o = some (wdb sg l)) ∨ (URK a t sg N M ∧ enw ((sg.length : Nat) : Int) N M ≠ none ∧ f = -1 ∧ o = none) ∨ (∃ n, n ≤ M ∧ URK a t sg N n ∧ enw ((sg.length : Nat) : Int) N n = none ∧ f = 0 ∧ o = none)
def RIX (g : Nat → Int) (l : List Int) : Prop := ∀ (j : Nat) (x : Int), l[j]? = some x → g (l.length - 1 - j) = x
section USEM
variable {a a1 : Nat → Nat → Int} {S t f f1 f2 d x c : Int} {l l2 sg ws : List Int} {n m N M i j k : Nat} {o o1 o2 : Option (List Int)} {g g2 h h2 : Nat → Int}
theorem zrs_len : ∀ n : Nat, (zrs n).length = n := by
  intro n
  induction n with
  | zero => rfl
  | succ n ih =>
    show (zrs n).length + 1 = n + 1
    rw [ih]
theorem zrs_at : ∀ (n j : Nat) (x : Int), (zrs n)[j]? = some x → x = 0 := by
  intro n
  induction n with
  | zero => intro j x e; simp [zrs] at e
  | succ n ih =>
    intro j x e
    cases j with
    | zero =>
      have e2 : some (0 : Int) = some x := e
      cases e2
      rfl
    | succ j => exact ih j x e
theorem wdb_len : ∀ l : List Int, (wdb sg l).length = l.length := by
  intro l
  induction l with
  | nil => rfl
  | cons d r ih =>
    show (wdb sg r ++ [_]).length = r.length + 1
    rw [len1, ih]
theorem wdb_at : ∀ (l : List Int) (j : Nat) (d : Int), l[j]? = some d → (wdb sg l)[l.length - 1 - j]? = some ((sg[d.toNat]?).getD 0) := by
  intro l
  induction l with
  | nil => intro j d e; simp at e
  | cons d0 r ih =>
    intro j d e
    show (wdb sg r ++ [(sg[d0.toNat]?).getD 0])[r.length + 1 - 1 - j]? = _
    cases j with
    | zero =>
      have e2 : some d0 = some d := e
      cases e2
      rw [List.getElem?_append_right (by rw [wdb_len]; omega), wdb_len, show r.length + 1 - 1 - 0 - r.length = 0 by omega]
      rfl
    | succ j =>
      have e2 : r[j]? = some d := e
      have lt := gl3 e2
      have w := ih j d e2
      rw [List.getElem?_append_left (by rw [wdb_len]; omega), show r.length + 1 - 1 - (j + 1) = r.length - 1 - j by omega]
      exact w
theorem inw_at : ∀ (l : List Int) (k : Nat) (d : Int), (∀ (j : Nat) (x : Int), j < k → l[j]? = some x → x = S - 1) → l[k]? = some d → d ≠ S - 1 → ∃ l2, inw S l = some l2 ∧ l2.length = l.length ∧ (∀ j : Nat, j < k → l2[j]? = some 0) ∧ l2[k]? = some (d + 1) ∧ ∀ j : Nat, k < j → l2[j]? = l[j]? := by
  intro l
  induction l with
  | nil => intro k d _ e; simp at e
  | cons d0 r ih =>
    intro k d hh e hd
    have un : inw S (d0 :: r) = (if d0 = S - 1 then (match inw S r with | some l => some (0 :: l) | none => none) else some ((d0 + 1) :: r)) := rfl
    cases k with
    | zero =>
      have e2 : some d0 = some d := e
      cases e2
      refine ⟨(d0 + 1) :: r, ?_, rfl, fun j hj => absurd hj (by omega), rfl, fun j hj => ?_⟩
      · rw [un, if_neg hd]
      · cases j with
        | zero => omega
        | succ j => rfl
    | succ k =>
      have e0 : d0 = S - 1 := hh 0 d0 (by omega) rfl
      obtain ⟨l3, g1, g2, g3, g4, g5⟩ := ih k d (fun j x hj q => hh (j + 1) x (by omega) q) e hd
      refine ⟨0 :: l3, ?_, ?_, fun j hj => ?_, g4, fun j hj => ?_⟩
      · rw [un, if_pos e0, g1]
      · show l3.length + 1 = r.length + 1
        rw [g2]
      · cases j with
        | zero => rfl
        | succ j => exact g3 j (by omega)
      · cases j with
        | zero => omega
        | succ j => exact g5 j (by omega)
theorem enw_s (h : enw S N n = some l) : enw S N (n + 1) = nxw S N l := by
  show (match enw S N n with | some l => nxw S N l | none => none) = _
  rw [h]
theorem enw_n (h : enw S N n = none) : enw S N (n + 1) = none := by
  show (match enw S N n with | some l => nxw S N l | none => none) = _
  rw [h]
theorem enw_nn (h : enw S N n = none) : ∀ m : Nat, enw S N (n + m) = none := by
  intro m
  induction m with
  | zero => exact h
  | succ m ih => exact enw_n ih
theorem nxw_some (h : inw S l = some l2) : nxw S N l = some l2 := by
  unfold nxw
  rw [h]
theorem URK.zero : URK a t sg N 0 := fun i l hi => absurd hi (by omega)
theorem URK.step (h : URK a t sg N n) (he : enw ((sg.length : Nat) : Int) N n = some l) (hu : ¬ URB a t (wdb sg l)) : URK a t sg N (n + 1) := fun i l2 hi e => by
  by_cases q : i < n
  · exact h i l2 q e
  · rw [show i = n by omega, he] at e
    cases e
    exact hu
theorem URD.uni (h1 : URD a t sg N M f1 o1) (h2 : URD a t sg N M f2 o2) : f1 = f2 ∧ o1 = o2 := by
  rcases h1 with ⟨n, l, p1, p2, p3, p4, p5, p6⟩ | ⟨p1, p2, p3, p4⟩ | ⟨n, p1, p2, p3, p4, p5⟩ <;> rcases h2 with ⟨m, l2, q1, q2, q3, q4, q5, q6⟩ | ⟨q1, q2, q3, q4⟩ | ⟨m, q1, q2, q3, q4, q5⟩
  · by_cases c1 : n < m
    · exact absurd p4 (q2 n l c1 p3)
    · by_cases c2 : m < n
      · exact absurd q4 (p2 m l2 c2 q3)
      · have e : n = m := by omega
        subst e
        rw [p3] at q3
        cases q3
        exact ⟨p5.trans q5.symm, p6.trans q6.symm⟩
  · exact absurd p4 (q1 n l p1 p3)
  · by_cases c1 : n < m
    · exact absurd p4 (q2 n l c1 p3)
    · have w := enw_nn q3 (n - m)
      rw [show m + (n - m) = n by omega, p3] at w
      cases w
  · exact absurd q4 (p1 m l2 q1 q3)
  · exact ⟨p3.trans q3.symm, p4.trans q4.symm⟩
  · have w := enw_nn q3 (M - m)
    rw [show m + (M - m) = M by omega] at w
    exact absurd w p2
  · by_cases c1 : m < n
    · exact absurd q4 (p2 m l2 c1 q3)
    · have w := enw_nn p3 (m - n)
      rw [show n + (m - n) = m by omega, q3] at w
      cases w
  · have w := enw_nn p3 (M - n)
    rw [show n + (M - n) = M by omega] at w
    exact absurd w q2
  · exact ⟨p4.trans q4.symm, p5.trans q5.symm⟩
theorem sgl_cg : ∀ n : Nat, (∀ c : Nat, c < n → (h c ≠ 0 ↔ h2 c ≠ 0)) → sgl h n = sgl h2 n := by
  intro n
  induction n with
  | zero => intro _; rfl
  | succ n ih =>
    intro hh
    have e := ih (fun c hc => hh c (by omega))
    have w := hh n (by omega)
    show (if h n = 0 then sgl h n else sgl h n ++ [((n : Nat) : Int)]) = (if h2 n = 0 then sgl h2 n else sgl h2 n ++ [((n : Nat) : Int)])
    rw [e]
    by_cases q : h n = 0
    · rw [if_pos q, if_pos (Decidable.of_not_not (fun q2 => (w.mpr q2) q))]
    · rw [if_neg q, if_neg (w.mp q)]
theorem sgl_s0 (e : h n = 0) : sgl h (n + 1) = sgl h n := if_pos e
theorem sgl_z : ∀ n : Nat, (∀ c : Nat, c < n → h c = 0) → sgl h n = [] := by
  intro n
  induction n with
  | zero => intro _; rfl
  | succ n ih =>
    intro hh
    rw [sgl_s0 (hh n (by omega))]
    exact ih (fun c hc => hh c (by omega))
theorem sgl_t : ∀ m : Nat, (∀ c : Nat, n ≤ c → c < n + m → h c = 0) → sgl h (n + m) = sgl h n := by
  intro m
  induction m with
  | zero => intro _; rfl
  | succ m ih =>
    intro hh
    show sgl h ((n + m) + 1) = _
    rw [sgl_s0 (hh (n + m) (by omega) (by omega))]
    exact ih (fun c h1 h3 => hh c h1 (by omega))
theorem HSS.uni (h1 : HSS a t h) (h3 : HSS a t h2) : sgl h 256 = sgl h2 256 := sgl_cg 256 (fun c hc => (h1 c hc).trans (h3 c hc).symm)
theorem RR0_at (hx : ws[j]? = some x) : RR0 ws j = x := by
  unfold RR0
  rw [hx]
  rfl
end USEM
