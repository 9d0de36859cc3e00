def ICL (a : Nat → Nat → Int) (I : Int) : List Int := (List.range (a 16 I.toNat).toNat).map (fun k => a 17 (4 * I.toNat + k))
def RCL (a : Nat → Nat → Int) (r : Int) : List Int := (List.range (a 13 r.toNat).toNat).map (fun k => a 15 (4 * r.toNat + k))
def nbl (a : Nat → Nat → Int) (W : Nat → Int) (t q x : Int) : List Int := if a 6 t.toNat = 2 ∧ isD (W x.toNat) ∧ (x = q ∨ ¬ isD (W (x - 1).toNat)) then ICL a (4 * t + 1) else []
def PC1 (a : Nat → Nat → Int) (W : Nat → Int) (t q u x l : Int) (cs : List Int) : Prop := ∃ r, (0 ≤ r ∧ l = a 12 r.toNat) ∧ ((fnd a q u x 30 W t r ∧ cs = nbl a W t q x ++ RCL a r) ∨ (fnd a q u x 30 W t (-1) ∧ (a 6 t.toNat ≤ 2 ∧ isG (W x.toNat) ∧ 0 < a 16 (4 * t + 0).toNat) ∧ fnd a q u x 30 (va_up W x.toNat (W x.toNat + 32)) t r ∧ cs = (nbl a W t q x ++ ICL a (4 * t + 0)) ++ RCL a r))
def ptp (a : Nat → Nat → Int) (W : Nat → Int) (t q u : Int) : Int → List (Int × List Int) → Int → Prop
  | x, [], y => x = y
  | x, p :: ps, y => x < u ∧ p.1 = x ∧ ∃ l, PC1 a W t q u x l p.2 ∧ ptp a W t q u (x + l) ps y
def cls (ps : List (Int × List Int)) : List Int := ps.flatMap (fun p => p.2)
def MDH (v : Nat → Int) (a : Nat → Nat → Int) (l : List Int) : Prop := v 25 = (l.length : Int) ∧ ∀ (j : Nat) (d : Int), l[j]? = some d → a 24 j = d
def MDK (v : Nat → Int) (a : Nat → Nat → Int) (l : List Int) (y : Nat → Int) (k : Int) : Prop := MDH v a l ∧ ∀ j : Nat, (j : Int) < k → a 24 (l.length + j) = y j
def SPS (a : Nat → Nat → Int) (W : Nat → Int) (t q u m : Int) (ps : List (Int × List Int)) : Prop := (∃ y, ptp a W t q u q ps y ∧ u ≤ y) ∧ m + ((cls ps).length : Int) ≤ 200
def SPT (v : Nat → Int) (a : Nat → Nat → Int) (v2 : Nat → Int) (a2 : Nat → Nat → Int) (t q u f : Int) : Prop := a2 20 = a 20 ∧ ∀ l0, MDH v a l0 → (f = 1 → ∃ ps, SPS a (a 20) t q u l0.length ps ∧ MDH v2 a2 (l0 ++ cls ps)) ∧ (f ≠ 1 → ¬ ∃ ps, SPS a (a 20) t q u l0.length ps)
def SP3 (v : Nat → Int) (a : Nat → Nat → Int) (v2 : Nat → Int) (a2 : Nat → Nat → Int) (t q u x : Int) : Prop := a2 20 = a 20 ∧ ∀ l0, MDH v a l0 → ∃ pre, ptp a (a 20) t q u q pre x ∧ MDH v2 a2 (l0 ++ cls pre)
def SP7 (v : Nat → Int) (a : Nat → Nat → Int) (v2 : Nat → Int) (a2 : Nat → Nat → Int) (t q u x : Int) : Prop := a2 20 = a 20 ∧ ∀ l0, MDH v a l0 → ∃ pre, ptp a (a 20) t q u q pre x ∧ MDH v2 a2 ((l0 ++ cls pre) ++ nbl a (a 20) t q x)
def SP15 (v : Nat → Int) (a : Nat → Nat → Int) (v2 : Nat → Int) (a2 : Nat → Nat → Int) (t q u x r : Int) : Prop := a2 20 = a 20 ∧ ∀ l0, MDH v a l0 → ∃ pre cs, ptp a (a 20) t q u q pre x ∧ MDH v2 a2 ((l0 ++ cls pre) ++ cs) ∧ (0 ≤ r → PC1 a (a 20) t q u x (a 12 r.toNat) (cs ++ RCL a r)) ∧ (r < 0 → ∀ l ds, ¬ PC1 a (a 20) t q u x l ds)
def SP20 (v : Nat → Int) (a : Nat → Nat → Int) (v2 : Nat → Int) (a2 : Nat → Nat → Int) (t q u x r k : Int) : Prop := a2 20 = a 20 ∧ ∀ l0, MDH v a l0 → ∃ pre cs, ptp a (a 20) t q u q pre x ∧ MDK v2 a2 ((l0 ++ cls pre) ++ cs) (fun k => a 15 (4 * r.toNat + k)) k ∧ PC1 a (a 20) t q u x (a 12 r.toNat) (cs ++ RCL a r)
section SETS
variable {v v1 v2 v3 : Nat → Int} {V1 A1 : List Nat} {a a1 a2 a3 : Nat → Nat → Int} {W : Nat → Int} {q u x t b r s k g f f1 f2 y z l l2 : Int} {n m : Nat} {cs ds l0 ls : List Int} {pre ps : List (Int × List Int)}
theorem RCL.len (h : 0 ≤ a 13 r.toNat) : ((RCL a r).length : Int) = a 13 r.toNat := by
  unfold RCL
  rw [List.length_map, List.length_range]; omega
theorem ICL.len (h : 0 ≤ a 16 r.toNat) : ((ICL a r).length : Int) = a 16 r.toNat := by
  unfold ICL
  rw [List.length_map, List.length_range]; omega
theorem gmap {n j : Nat} {y : Nat → Int} {d : Int} (h : ((List.range n).map y)[j]? = some d) : j < n ∧ y j = d := by
  have lt : j < n := by
    have := gl_lt h
    rw [List.length_map, List.length_range] at this
    exact this
  rw [List.getElem?_map, List.getElem?_range lt] at h
  cases h
  exact ⟨lt, rfl⟩
theorem MDH.app {n : Nat} {y : Nat → Int} (h : MDH v a l0) (hv : v2 25 = v 25 + (n : Int)) (h1 : ∀ j : Nat, j < l0.length → a2 24 j = a 24 j) (h2 : ∀ j : Nat, j < n → a2 24 (l0.length + j) = y j) : MDH v2 a2 (l0 ++ (List.range n).map y) := by
  obtain ⟨g1, g2⟩ := h
  refine ⟨?_, fun j d e => ?_⟩
  · rw [List.length_append, List.length_map, List.length_range]; omega
  · by_cases c : j < l0.length
    · rw [List.getElem?_append_left c] at e
      rw [h1 j c]; exact g2 j d e
    · rw [List.getElem?_append_right (by omega)] at e
      obtain ⟨e1, e2⟩ := gmap e
      have := h2 (j - l0.length) e1
      rw [show l0.length + (j - l0.length) = j by omega] at this
      rw [this]; exact e2
theorem MDH.fr (h : MDH v a l0) (hv : v2 25 = v 25) (ha : a2 24 = a 24) : MDH v2 a2 l0 := ⟨hv.trans h.1, fun j d e => by rw [ha]; exact h.2 j d e⟩
theorem MDK.zero {y : Nat → Int} (h : MDH v a l0) : MDK v a l0 y 0 := ⟨h, fun j hj => absurd hj (by omega)⟩
theorem MDK.step {y : Nat → Int} {i : Nat} (h : MDK v a l0 y k) (h0 : 0 ≤ k) (hi : i = (v 25 + k).toNat) (hz : z = y k.toNat) : MDK v (up2 a 24 i z) l0 y (k + 1) := by
  obtain ⟨⟨g1, g2⟩, g3⟩ := h
  have ei : i = l0.length + k.toNat := by omega
  refine ⟨⟨g1, fun j d e => ?_⟩, fun j hj => ?_⟩
  · have := gl_lt e
    rw [up2_j (by omega)]; exact g2 j d e
  · by_cases c : (j : Int) < k
    · rw [up2_j (by omega)]; exact g3 j c
    · have ej : j = k.toNat := by omega
      subst ej
      rw [← ei, up2_s]; exact hz
theorem MDK.fin {y : Nat → Int} (h : MDK v a l0 y k) (hk : k = (n : Int)) (hv : v2 25 = v 25 + (n : Int)) (ha : a2 24 = a 24) : MDH v2 a2 (l0 ++ (List.range n).map y) := h.1.app hv (fun j _ => by rw [ha]) (fun j hj => by rw [ha]; exact h.2 j (by omega))
theorem PC1.uni (hT : TBL v a) (h0 : 0 ≤ t) (h4 : t < v 4) (h : PC1 a W t q u x l cs) (h2 : PC1 a W t q u x l2 ds) : l = l2 ∧ cs = ds := by
  obtain ⟨r, ⟨p1, p2⟩, p3⟩ := h
  obtain ⟨s, ⟨q1, q2⟩, q3⟩ := h2
  rcases p3 with ⟨p4, p5⟩ | ⟨p4, p5, p6, p7⟩ <;> rcases q3 with ⟨q4, q5⟩ | ⟨q4, q5, q6, q7⟩
  · have e := fnd_uni hT _ _ _ _ _ _ h0 h4 p4 q4
    subst e
    exact ⟨p2.trans q2.symm, p5.trans q5.symm⟩
  · have e := fnd_uni hT _ _ _ _ _ _ h0 h4 p4 q4
    omega
  · have e := fnd_uni hT _ _ _ _ _ _ h0 h4 p4 q4
    omega
  · have e := fnd_uni hT _ _ _ _ _ _ h0 h4 p6 q6
    subst e
    exact ⟨p2.trans q2.symm, p7.trans q7.symm⟩
theorem ptp.snoc : ∀ (pre : List (Int × List Int)) (z : Int), ptp a W t q u z pre x → x < u → PC1 a W t q u x l cs → ptp a W t q u z (pre ++ [(x, cs)]) (x + l) := by
  intro pre
  induction pre with
  | nil => intro z h hx hp; cases h; exact ⟨hx, rfl, l, hp, rfl⟩
  | cons p ps ih =>
    intro z h hx hp
    obtain ⟨h1, h2, l3, h3, h4⟩ := h
    exact ⟨h1, h2, l3, h3, ih _ h4 hx hp⟩
theorem ptp.ext (hT : TBL v a) (h0 : 0 ≤ t) (h4 : t < v 4) : ∀ (pre ps : List (Int × List Int)) (z y : Int), ptp a W t q u z pre x → ptp a W t q u z ps y → u ≤ y → ∃ qs, ps = pre ++ qs ∧ ptp a W t q u x qs y := by
  intro pre
  induction pre with
  | nil => intro ps z y h h2 _; cases h; exact ⟨ps, rfl, h2⟩
  | cons p pre ih =>
    intro ps z y h h2 hu
    obtain ⟨h1, h3, l3, h5, h6⟩ := h
    cases ps with
    | nil => cases h2; omega
    | cons p2 ps =>
      obtain ⟨g1, g3, l4, g5, g6⟩ := h2
      have e := PC1.uni hT h0 h4 h5 g5
      have e2 : p2 = p := Prod.ext (g3.trans h3.symm) e.2.symm
      subst e2
      rw [← e.1] at g6
      obtain ⟨qs, k1, k2⟩ := ih ps _ y h6 g6 hu
      exact ⟨qs, by rw [k1]; rfl, k2⟩
theorem cls_app (ps qs : List (Int × List Int)) : cls (ps ++ qs) = cls ps ++ cls qs := List.flatMap_append ..
theorem cls_one (x : Int) (cs : List Int) : cls [(x, cs)] = cs := by
  show cs ++ [] = cs
  exact List.append_nil cs
theorem cls_cons (p : Int × List Int) (ps : List (Int × List Int)) : cls (p :: ps) = p.2 ++ cls ps := rfl
theorem SP3.init : SP3 v a v a t q u q := ⟨rfl, fun l0 h => ⟨[], rfl, by rw [show cls [] = [] from rfl, List.append_nil]; exact h⟩⟩
theorem SP3.begin (h : SP3 v a v1 a1 t q u x) (hv : v2 25 = v1 25) (h24 : a2 24 = a1 24) (h20 : a2 20 = a1 20) (hn : nbl a (a 20) t q x = []) : SP7 v a v2 a2 t q u x := ⟨h20.trans h.1, fun l0 hl => by
  obtain ⟨pre, g1, g2⟩ := h.2 l0 hl
  exact ⟨pre, g1, by rw [hn, List.append_nil]; exact g2.fr hv h24⟩⟩
theorem SP3.number (h : SP3 v a v1 a1 t q u x) (hp : ∀ l, MDH v1 a1 l → MDH v2 a2 (l ++ ICL a (4 * t + 1))) (h20 : a2 20 = a1 20) (hn : nbl a (a 20) t q x = ICL a (4 * t + 1)) : SP7 v a v2 a2 t q u x := ⟨h20.trans h.1, fun l0 hl => by
  obtain ⟨pre, g1, g2⟩ := h.2 l0 hl
  exact ⟨pre, g1, by rw [hn]; exact hp _ g2⟩⟩
theorem SP7.cap (h : SP7 v a v1 a1 t q u x) (hT : TBL v a) (h0 : 0 ≤ t) (h4 : t < v 4) (hp : ∀ l, MDH v1 a1 l → MDH v2 a2 (l ++ ICL a (4 * t + 0))) (h20 : a2 20 = a 20) (hf : fnd a q u x 30 (a 20) t s) (hs : s = -1) (hc : a 6 t.toNat ≤ 2 ∧ isG (a 20 x.toNat) ∧ 0 < a 16 (4 * t + 0).toNat) (hg : fnd a q u x 30 (va_up (a 20) x.toNat (a 20 x.toNat + 32)) t r) : SP15 v a v2 a2 t q u x r := ⟨h20, fun l0 hl => by
  obtain ⟨pre, g1, g2⟩ := h.2 l0 hl
  subst hs
  refine ⟨pre, _, g1, (by have := hp _ g2; rw [List.append_assoc] at this; exact this), fun e => ⟨r, ⟨e, rfl⟩, Or.inr ⟨hf, hc, hg, rfl⟩⟩, fun e l ds hp2 => ?_⟩
  obtain ⟨s, ⟨p1, _⟩, p3⟩ := hp2
  rcases p3 with ⟨p4, _⟩ | ⟨_, _, p6, _⟩
  · have e2 := fnd_uni hT _ _ _ _ _ _ h0 h4 hf p4
    omega
  · have e2 := fnd_uni hT _ _ _ _ _ _ h0 h4 hg p6
    omega⟩
theorem SP15.unk (h : SP15 v a v1 a1 t q u x r) (hT : TBL v a) (h0 : 0 ≤ t) (h4 : t < v 4) (hr : r < 0) (hx : x < u) (h20 : a2 20 = a1 20) : SPT v a v2 a2 t q u 0 := ⟨h20.trans h.1, fun l0 hl => ⟨fun e => absurd e (by decide), fun _ hp => by
  obtain ⟨pre, cs, g1, _, _, g4⟩ := h.2 l0 hl
  obtain ⟨ps, ⟨y, p1, p2⟩, _⟩ := hp
  obtain ⟨qs, k1, k2⟩ := ptp.ext hT h0 h4 pre ps q y g1 p1 p2
  cases qs with
  | nil => cases k2; omega
  | cons p qs =>
    obtain ⟨_, _, l3, k5, _⟩ := k2
    exact g4 hr _ _ k5⟩⟩
theorem SP15.many (h : SP15 v a v1 a1 t q u x r) (hT : TBL v a) (h0 : 0 ≤ t) (h4 : t < v 4) (hr : 0 ≤ r) (hx : x < u) (h13 : 0 ≤ a 13 r.toNat) (hm : 200 < v1 25 + a 13 r.toNat) (h20 : a2 20 = a1 20) : SPT v a v2 a2 t q u 0 := ⟨h20.trans h.1, fun l0 hl => ⟨fun e => absurd e (by decide), fun _ hp => by
  obtain ⟨pre, cs, g1, g2, g3, _⟩ := h.2 l0 hl
  obtain ⟨ps, ⟨y, p1, p2⟩, p3⟩ := hp
  obtain ⟨qs, k1, k2⟩ := ptp.ext hT h0 h4 pre ps q y g1 p1 p2
  cases qs with
  | nil => cases k2; omega
  | cons p qs =>
    obtain ⟨_, _, l3, k5, _⟩ := k2
    have e := PC1.uni hT h0 h4 (g3 hr) k5
    have w := g2.1
    have e3 := RCL.len h13
    rw [k1, cls_app, cls_cons, ← e.2] at p3
    simp only [List.length_append] at p3 w
    push_cast at p3 w
    omega⟩⟩
theorem SP15.copy (h : SP15 v a v1 a1 t q u x r) (hr : 0 ≤ r) : SP20 v a v1 a1 t q u x r 0 := ⟨h.1, fun l0 hl => by
  obtain ⟨pre, cs, g1, g2, g3, _⟩ := h.2 l0 hl
  exact ⟨pre, cs, g1, MDK.zero g2, g3 hr⟩⟩
theorem SP20.step {i : Nat} (h : SP20 v a v1 a1 t q u x r k) (h0 : 0 ≤ k) (hi : i = (v1 25 + k).toNat) (hz : z = a 15 (4 * r.toNat + k.toNat)) : SP20 v a v1 (up2 a1 24 i z) t q u x r (k + 1) := ⟨(funext fun _ => up2_k (by decide)).trans h.1, fun l0 hl => by
  obtain ⟨pre, cs, g1, g2, g3⟩ := h.2 l0 hl
  exact ⟨pre, cs, g1, g2.step h0 hi hz, g3⟩⟩
theorem SP20.next (h : SP20 v a v1 a1 t q u x r k) (hx : x < u) (h13 : 0 ≤ a 13 r.toNat) (hk : k = a 13 r.toNat) (hv : v2 25 = v1 25 + a 13 r.toNat) : SP3 v a v2 a1 t q u (x + a 12 r.toNat) := ⟨h.1, fun l0 hl => by
  obtain ⟨pre, cs, g1, g2, g3⟩ := h.2 l0 hl
  refine ⟨pre ++ [(x, cs ++ RCL a r)], ptp.snoc pre q g1 hx g3, ?_⟩
  have e := g2.fin (n := (a 13 r.toNat).toNat) (v2 := v2) (a2 := a1) (by omega) (by omega) rfl
  rw [cls_app, cls_one, ← List.append_assoc, ← List.append_assoc]
  exact e⟩
theorem SP3.done (h : SP3 v a v1 a1 t q u x) (hx : u ≤ x) (h25 : v1 25 ≤ 200) : SPT v a v1 a1 t q u 1 := ⟨h.1, fun l0 hl => ⟨fun _ => by
  obtain ⟨pre, g1, g2⟩ := h.2 l0 hl
  have w := g2.1
  rw [List.length_append] at w
  push_cast at w
  exact ⟨pre, ⟨⟨x, g1, hx⟩, by omega⟩, g2⟩, fun e => absurd rfl e⟩⟩
end SETS
def PIX (v : Nat → Int) (a : Nat → Nat → Int) (v2 : Nat → Int) (a2 : Nat → Nat → Int) (I : Int) : Prop := ∀ l, MDH v a l → MDH v2 a2 (l ++ ICL a I)
def PIK (v : Nat → Int) (a : Nat → Nat → Int) (v1 : Nat → Int) (a1 : Nat → Nat → Int) (I k : Int) : Prop := ∀ l, MDH v a l → MDK v1 a1 l (fun j => a 17 (4 * I.toNat + j)) k
section PINS
variable {v v1 v2 v3 : Nat → Int} {V1 A1 : List Nat} {a a1 a2 a3 : Nat → Nat → Int} {W : Nat → Int} {q u x t r k f I c z : Int} {n i : Nat} {l0 : List Int}
theorem PIK.zero : PIK v a v a I 0 := fun l h => MDK.zero h
theorem PIK.step (h : PIK v a v1 a1 I k) (h0 : 0 ≤ k) (hi : i = (v1 25 + k).toNat) (hz : z = a 17 (4 * I.toNat + k.toNat)) : PIK v a v1 (up2 a1 24 i z) I (k + 1) := fun l hl => (h l hl).step h0 hi hz
theorem PIK.fin (h : PIK v a v1 a1 I k) (hk : k = a 16 I.toNat) (h16 : 0 ≤ a 16 I.toNat) (hv : v2 25 = v1 25 + a 16 I.toNat) : PIX v a v2 a1 I := fun l hl => (h l hl).fin (n := (a 16 I.toNat).toNat) (by omega) (by omega) rfl
theorem ICL_cg (h16 : a1 16 = a 16) (h17 : a1 17 = a 17) : ICL a1 I = ICL a I := by unfold ICL; rw [h16, h17]
theorem fnd.wd {A1 : List Nat} (f1 : fr V1 A1 v a v1 a1) (hA : ([6, 8, 10, 11, 12, 14] : List Nat).all (fun j => !A1.contains j) = true) (hw : a1 20 = W) (h : fnd a1 q u x n (a1 20) t r) : fnd a q u x n W t r := by
  have g : ∀ j, j ∈ ([6, 8, 10, 11, 12, 14] : List Nat) → a1 j = a j := fun j hj => f1.2 j (by have := List.all_eq_true.mp hA j hj; simpa using this)
  rw [hw] at h
  exact fnd_cg (g 6 (by decide)) (g 8 (by decide)) (g 10 (by decide)) (g 11 (by decide)) (g 12 (by decide)) (g 14 (by decide)) n _ _ _ h
theorem SP3.num (h : SP3 v a v1 a1 t q u x) (s24 : a2 24 = a1 24) (hP : PIX v1 a2 v3 a3 (4 * t + 1)) (h16 : a2 16 = a 16) (h17 : a2 17 = a 17) (h20 : a3 20 = a1 20) (hn : nbl a (a 20) t q x = ICL a (4 * t + 1)) : SP7 v a v3 a3 t q u x := h.number (fun l hl => by rw [← ICL_cg h16 h17]; exact hP l (hl.fr rfl s24)) h20 hn
end PINS
