def ICL (a : Nat → Nat → Int) (I : Int) : List Int := (List.range (a 16 I.toNat).toNat).map (fun k => a 17 (4 * I.toNat + k))
def RCL (a : Nat → Nat → Int) (r : Int) : List Int := (List.range (a 13 r.toNat).toNat).map (fun k => a 15 (4 * r.toNat + k))
def nbl (a : Nat → Nat → Int) (W : Nat → Int) (t q x : Int) : List Int := if a 6 t.toNat = 2 ∧ isD (W x.toNat) ∧ (x = q ∨ ¬ isD (W (x - 1).toNat)) then ICL a (4 * t + 1) else []
def PC1 (a : Nat → Nat → Int) (W : Nat → Int) (t q u x l : Int) (cs : List Int) : Prop := ∃ r, (0 ≤ r ∧ l = a 12 r.toNat) ∧ ((fnd a q u x 30 W t r ∧ cs = nbl a W t q x ++ RCL a r) ∨ (fnd a q u x 30 W t (-1) ∧ (a 6 t.toNat ≤ 2 ∧ isG (W x.toNat) ∧ 0 < a 16 (4 * t + 0).toNat) ∧ fnd a q u x 30 (va_up W x.toNat (W x.toNat + 32)) t r ∧ cs = (nbl a W t q x ++ ICL a (4 * t + 0)) ++ RCL a r))
def ptp (a : Nat → Nat → Int) (W : Nat → Int) (t q u : Int) : Int → List (Int × List Int) → Int → Prop
  | x, [], y => x = y
  | x, p :: ps, y => x < u ∧ p.1 = x ∧ ∃ l, PC1 a W t q u x l p.2 ∧ ptp a W t q u (x + l) ps y
def cls (ps : List (Int × List Int)) : List Int := ps.flatMap (fun p => p.2)
def MDH (v : Nat → Int) (a : Nat → Nat → Int) (l : List Int) : Prop := v 25 = (l.length : Int) ∧ ∀ (j : Nat) (d : Int), l[j]? = some d → a 24 j = d
def MDK (v : Nat → Int) (a : Nat → Nat → Int) (l : List Int) (y : Nat → Int) (k : Int) : Prop := MDH v a l ∧ ∀ j : Nat, (j : Int) < k → a 24 (l.length + j) = y j
def bgn : List (Int × List Int) → Int → Nat → Int → Int
  | [], _, _, d => d
  | p :: ps, m, i, d => bgn ps (m + ((p.2.length : Nat) : Int)) i (if i = p.1.toNat then m else d)
def BGR (a a2 : Nat → Nat → Int) (m : Int) (ps : List (Int × List Int)) : Prop := ∀ i : Nat, a2 26 i = bgn ps m i (a 26 i)
def BGX (a a2 : Nat → Nat → Int) (m : Int) (ps : List (Int × List Int)) (x : Int) : Prop := ∀ i : Nat, a2 26 i = if i = x.toNat then m + (((cls ps).length : Nat) : Int) else bgn ps m i (a 26 i)
def SPS (a : Nat → Nat → Int) (W : Nat → Int) (t q u m : Int) (ps : List (Int × List Int)) : Prop := (∃ y, ptp a W t q u q ps y ∧ u ≤ y) ∧ m + ((cls ps).length : Int) ≤ 200
def SPT (v : Nat → Int) (a : Nat → Nat → Int) (v2 : Nat → Int) (a2 : Nat → Nat → Int) (t q u f : Int) : Prop := a2 20 = a 20 ∧ ∀ l0, MDH v a l0 → (f = 1 → ∃ ps, SPS a (a 20) t q u l0.length ps ∧ (MDH v2 a2 (l0 ++ cls ps) ∧ BGR a a2 l0.length ps)) ∧ (f ≠ 1 → ¬ ∃ ps, SPS a (a 20) t q u l0.length ps)
def SP3 (v : Nat → Int) (a : Nat → Nat → Int) (v2 : Nat → Int) (a2 : Nat → Nat → Int) (t q u x : Int) : Prop := a2 20 = a 20 ∧ ∀ l0, MDH v a l0 → ∃ pre, ptp a (a 20) t q u q pre x ∧ (MDH v2 a2 (l0 ++ cls pre) ∧ BGR a a2 l0.length pre)
def SP7 (v : Nat → Int) (a : Nat → Nat → Int) (v2 : Nat → Int) (a2 : Nat → Nat → Int) (t q u x : Int) : Prop := a2 20 = a 20 ∧ ∀ l0, MDH v a l0 → ∃ pre, ptp a (a 20) t q u q pre x ∧ (MDH v2 a2 ((l0 ++ cls pre) ++ nbl a (a 20) t q x) ∧ BGX a a2 l0.length pre x)
def SP15 (v : Nat → Int) (a : Nat → Nat → Int) (v2 : Nat → Int) (a2 : Nat → Nat → Int) (t q u x r : Int) : Prop := a2 20 = a 20 ∧ ∀ l0, MDH v a l0 → ∃ pre cs, ptp a (a 20) t q u q pre x ∧ (MDH v2 a2 ((l0 ++ cls pre) ++ cs) ∧ BGX a a2 l0.length pre x) ∧ (0 ≤ r → PC1 a (a 20) t q u x (a 12 r.toNat) (cs ++ RCL a r)) ∧ (r < 0 → ∀ l ds, ¬ PC1 a (a 20) t q u x l ds)
def SP20 (v : Nat → Int) (a : Nat → Nat → Int) (v2 : Nat → Int) (a2 : Nat → Nat → Int) (t q u x r k : Int) : Prop := a2 20 = a 20 ∧ ∀ l0, MDH v a l0 → ∃ pre cs, ptp a (a 20) t q u q pre x ∧ (MDK v2 a2 ((l0 ++ cls pre) ++ cs) (fun k => a 15 (4 * r.toNat + k)) k ∧ BGX a a2 l0.length pre x) ∧ PC1 a (a 20) t q u x (a 12 r.toNat) (cs ++ RCL a r)
section SETS
variable {v v1 v2 v3 : Nat → Int} {V1 A1 : List Nat} {a a1 a2 a3 : Nat → Nat → Int} {W : Nat → Int} {q u x t b r s k g f f1 f2 y z l l2 : Int} {n m : Nat} {cs ds l0 ls : List Int} {pre ps : List (Int × List Int)}
theorem RCL.len (h : 0 ≤ a 13 r.toNat) : ((RCL a r).length : Int) = a 13 r.toNat := by
  unfold RCL
  rw [List.length_map, List.length_range]; omega
theorem ICL.len (h : 0 ≤ a 16 r.toNat) : ((ICL a r).length : Int) = a 16 r.toNat := by
  unfold ICL
  rw [List.length_map, List.length_range]; omega
theorem gmap {n j : Nat} {y : Nat → Int} {d : Int} (h : ((List.range n).map y)[j]? = some d) : j < n ∧ y j = d := by
  have lt : j < n := by
    have := gl_lt h
    rw [List.length_map, List.length_range] at this
    exact this
  rw [List.getElem?_map, List.getElem?_range lt] at h
  cases h
  exact ⟨lt, rfl⟩
theorem MDH.app {n : Nat} {y : Nat → Int} (h : MDH v a l0) (hv : v2 25 = v 25 + (n : Int)) (h1 : ∀ j : Nat, j < l0.length → a2 24 j = a 24 j) (h2 : ∀ j : Nat, j < n → a2 24 (l0.length + j) = y j) : MDH v2 a2 (l0 ++ (List.range n).map y) := by
  obtain ⟨g1, g2⟩ := h
  refine ⟨?_, fun j d e => ?_⟩
  · rw [List.length_append, List.length_map, List.length_range]; omega
  · by_cases c : j < l0.length
    · rw [List.getElem?_append_left c] at e
      rw [h1 j c]; exact g2 j d e
    · rw [List.getElem?_append_right (by omega)] at e
      obtain ⟨e1, e2⟩ := gmap e
      have := h2 (j - l0.length) e1
      rw [show l0.length + (j - l0.length) = j by omega] at this
      rw [this]; exact e2
theorem MDH.fr (h : MDH v a l0) (hv : v2 25 = v 25) (ha : a2 24 = a 24) : MDH v2 a2 l0 := ⟨hv.trans h.1, fun j d e => by rw [ha]; exact h.2 j d e⟩
theorem MDK.zero {y : Nat → Int} (h : MDH v a l0) : MDK v a l0 y 0 := ⟨h, fun j hj => absurd hj (by omega)⟩
theorem MDK.step {y : Nat → Int} {i : Nat} (h : MDK v a l0 y k) (h0 : 0 ≤ k) (hi : i = (v 25 + k).toNat) (hz : z = y k.toNat) : MDK v (up2 a 24 i z) l0 y (k + 1) := by
  obtain ⟨⟨g1, g2⟩, g3⟩ := h
  have ei : i = l0.length + k.toNat := by omega
  refine ⟨⟨g1, fun j d e => ?_⟩, fun j hj => ?_⟩
  · have := gl_lt e
    rw [up2_j (by omega)]; exact g2 j d e
  · by_cases c : (j : Int) < k
    · rw [up2_j (by omega)]; exact g3 j c
    · have ej : j = k.toNat := by omega
      subst ej
      rw [← ei, up2_s]; exact hz
theorem MDK.fin {y : Nat → Int} (h : MDK v a l0 y k) (hk : k = (n : Int)) (hv : v2 25 = v 25 + (n : Int)) (ha : a2 24 = a 24) : MDH v2 a2 (l0 ++ (List.range n).map y) := h.1.app hv (fun j _ => by rw [ha]) (fun j hj => by rw [ha]; exact h.2 j (by omega))
theorem PC1.uni (hT : TBL v a) (h0 : 0 ≤ t) (h4 : t < v 4) (h : PC1 a W t q u x l cs) (h2 : PC1 a W t q u x l2 ds) : l = l2 ∧ cs = ds := by
  obtain ⟨r, ⟨p1, p2⟩, p3⟩ := h
  obtain ⟨s, ⟨q1, q2⟩, q3⟩ := h2
  rcases p3 with ⟨p4, p5⟩ | ⟨p4, p5, p6, p7⟩ <;> rcases q3 with ⟨q4, q5⟩ | ⟨q4, q5, q6, q7⟩
  · have e := fnd_uni hT _ _ _ _ _ _ h0 h4 p4 q4
    subst e
    exact ⟨p2.trans q2.symm, p5.trans q5.symm⟩
  · have e := fnd_uni hT _ _ _ _ _ _ h0 h4 p4 q4
    omega
  · have e := fnd_uni hT _ _ _ _ _ _ h0 h4 p4 q4
    omega
  · have e := fnd_uni hT _ _ _ _ _ _ h0 h4 p6 q6
    subst e
    exact ⟨p2.trans q2.symm, p7.trans q7.symm⟩
theorem ptp.snoc : ∀ (pre : List (Int × List Int)) (z : Int), ptp a W t q u z pre x → x < u → PC1 a W t q u x l cs → ptp a W t q u z (pre ++ [(x, cs)]) (x + l) := by
  intro pre
  induction pre with
  | nil => intro z h hx hp; cases h; exact ⟨hx, rfl, l, hp, rfl⟩
  | cons p ps ih =>
    intro z h hx hp
    obtain ⟨h1, h2, l3, h3, h4⟩ := h
    exact ⟨h1, h2, l3, h3, ih _ h4 hx hp⟩
theorem ptp.ext (hT : TBL v a) (h0 : 0 ≤ t) (h4 : t < v 4) : ∀ (pre ps : List (Int × List Int)) (z y : Int), ptp a W t q u z pre x → ptp a W t q u z ps y → u ≤ y → ∃ qs, ps = pre ++ qs ∧ ptp a W t q u x qs y := by
  intro pre
  induction pre with
  | nil => intro ps z y h h2 _; cases h; exact ⟨ps, rfl, h2⟩
  | cons p pre ih =>
    intro ps z y h h2 hu
    obtain ⟨h1, h3, l3, h5, h6⟩ := h
    cases ps with
    | nil => cases h2; omega
    | cons p2 ps =>
      obtain ⟨g1, g3, l4, g5, g6⟩ := h2
      have e := PC1.uni hT h0 h4 h5 g5
      have e2 : p2 = p := Prod.ext (g3.trans h3.symm) e.2.symm
      subst e2
      rw [← e.1] at g6
      obtain ⟨qs, k1, k2⟩ := ih ps _ y h6 g6 hu
      exact ⟨qs, by rw [k1]; rfl, k2⟩
theorem cls_app (ps qs : List (Int × List Int)) : cls (ps ++ qs) = cls ps ++ cls qs := List.flatMap_append ..
theorem cls_one (x : Int) (cs : List Int) : cls [(x, cs)] = cs := by
  show cs ++ [] = cs
  exact List.append_nil cs
theorem cls_cons (p : Int × List Int) (ps : List (Int × List Int)) : cls (p :: ps) = p.2 ++ cls ps := rfl
theorem bgn_snoc {i : Nat} : ∀ (pre : List (Int × List Int)) (m d : Int), bgn (pre ++ [(x, cs)]) m i d = if i = x.toNat then m + (((cls pre).length : Nat) : Int) else bgn pre m i d := by
  intro pre
  induction pre with
  | nil =>
    intro m d
    show (if i = x.toNat then m else d) = if i = x.toNat then m + ((([] : List Int).length : Nat) : Int) else d
    rw [show m + ((([] : List Int).length : Nat) : Int) = m from Int.add_zero m]
  | cons p pre ih =>
    intro m d
    show bgn (pre ++ [(x, cs)]) (m + ((p.2.length : Nat) : Int)) i (if i = p.1.toNat then m else d) = if i = x.toNat then m + (((cls (p :: pre)).length : Nat) : Int) else bgn pre (m + ((p.2.length : Nat) : Int)) i (if i = p.1.toNat then m else d)
    rw [ih, cls_cons, List.length_append]
    by_cases c : i = x.toNat
    · rw [if_pos c, if_pos c]
      push_cast
      omega
    · rw [if_neg c, if_neg c]
theorem BGR.mk1 (h : BGR a a1 ((l0.length : Nat) : Int) pre) (hm : MDH v1 a1 (l0 ++ cls pre)) (h26 : ∀ i : Nat, a2 26 i = if i = x.toNat then v1 25 else a1 26 i) : BGX a a2 ((l0.length : Nat) : Int) pre x := fun i => by
  have e := hm.1
  rw [List.length_append] at e
  rw [h26 i, h i]
  by_cases c : i = x.toNat
  · rw [if_pos c, if_pos c, e]
    push_cast
    rfl
  · rw [if_neg c, if_neg c]
theorem BGX.fr {m : Int} (h : BGX a a1 m pre x) (h26 : a2 26 = a1 26) : BGX a a2 m pre x := fun i => by
  rw [h26]
  exact h i
theorem SP3.init : SP3 v a v a t q u q := ⟨rfl, fun l0 h => ⟨[], rfl, by rw [show cls [] = [] from rfl, List.append_nil]; exact ⟨h, fun i => rfl⟩⟩⟩
theorem SP3.begin (h : SP3 v a v1 a1 t q u x) (hv : v2 25 = v1 25) (h24 : a2 24 = a1 24) (h20 : a2 20 = a1 20) (h26 : ∀ i : Nat, a2 26 i = if i = x.toNat then v1 25 else a1 26 i) (hn : nbl a (a 20) t q x = []) : SP7 v a v2 a2 t q u x := ⟨h20.trans h.1, fun l0 hl => by
  obtain ⟨pre, g1, g2⟩ := h.2 l0 hl
  exact ⟨pre, g1, by rw [hn, List.append_nil]; exact ⟨g2.1.fr hv h24, g2.2.mk1 g2.1 h26⟩⟩⟩
theorem SP3.number (h : SP3 v a v1 a1 t q u x) (hp : ∀ l, MDH v1 a1 l → MDH v2 a2 (l ++ ICL a (4 * t + 1))) (h20 : a2 20 = a1 20) (h26 : ∀ i : Nat, a2 26 i = if i = x.toNat then v1 25 else a1 26 i) (hn : nbl a (a 20) t q x = ICL a (4 * t + 1)) : SP7 v a v2 a2 t q u x := ⟨h20.trans h.1, fun l0 hl => by
  obtain ⟨pre, g1, g2⟩ := h.2 l0 hl
  exact ⟨pre, g1, by rw [hn]; exact ⟨hp _ g2.1, g2.2.mk1 g2.1 h26⟩⟩⟩
theorem SP7.found (h : SP7 v a v1 a1 t q u x) (hv : v2 25 = v1 25) (h24 : a2 24 = a1 24) (h20 : a2 20 = a1 20) (h26 : a2 26 = a1 26) (hf : fnd a q u x 30 (a 20) t r) (hr : 0 ≤ r) : SP15 v a v2 a2 t q u x r := ⟨h20.trans h.1, fun l0 hl => by
  obtain ⟨pre, g1, g2⟩ := h.2 l0 hl
  exact ⟨pre, _, g1, ⟨g2.1.fr hv h24, g2.2.fr h26⟩, fun _ => ⟨r, ⟨hr, rfl⟩, Or.inl ⟨hf, rfl⟩⟩, fun e => absurd e (by omega)⟩⟩
theorem SP7.nne (h : SP7 v a v1 a1 t q u x) (hT : TBL v a) (h0 : 0 ≤ t) (h4 : t < v 4) (hv : v2 25 = v1 25) (h24 : a2 24 = a1 24) (h20 : a2 20 = a1 20) (h26 : a2 26 = a1 26) (hf : fnd a q u x 30 (a 20) t r) (hr : r = -1) (hc : ¬ (a 6 t.toNat ≤ 2 ∧ isG (a 20 x.toNat) ∧ 0 < a 16 (4 * t + 0).toNat)) : SP15 v a v2 a2 t q u x r := ⟨h20.trans h.1, fun l0 hl => by
  obtain ⟨pre, g1, g2⟩ := h.2 l0 hl
  refine ⟨pre, _, g1, ⟨g2.1.fr hv h24, g2.2.fr h26⟩, fun e => absurd e (by omega), fun _ l ds hp => ?_⟩
  obtain ⟨s, ⟨p1, _⟩, p3⟩ := hp
  rcases p3 with ⟨p4, _⟩ | ⟨_, p5, _⟩
  · have e := fnd_uni hT _ _ _ _ _ _ h0 h4 hf p4
    omega
  · exact hc p5⟩
theorem SP7.cap (h : SP7 v a v1 a1 t q u x) (hT : TBL v a) (h0 : 0 ≤ t) (h4 : t < v 4) (hp : ∀ l, MDH v1 a1 l → MDH v2 a2 (l ++ ICL a (4 * t + 0))) (h20 : a2 20 = a 20) (h26 : a2 26 = a1 26) (hf : fnd a q u x 30 (a 20) t s) (hs : s = -1) (hc : a 6 t.toNat ≤ 2 ∧ isG (a 20 x.toNat) ∧ 0 < a 16 (4 * t + 0).toNat) (hg : fnd a q u x 30 (va_up (a 20) x.toNat (a 20 x.toNat + 32)) t r) : SP15 v a v2 a2 t q u x r := ⟨h20, fun l0 hl => by
  obtain ⟨pre, g1, g2⟩ := h.2 l0 hl
  subst hs
  refine ⟨pre, _, g1, ⟨(by have := hp _ g2.1; rw [List.append_assoc] at this; exact this), g2.2.fr h26⟩, fun e => ⟨r, ⟨e, rfl⟩, Or.inr ⟨hf, hc, hg, rfl⟩⟩, fun e l ds hp2 => ?_⟩
  obtain ⟨s, ⟨p1, _⟩, p3⟩ := hp2
  rcases p3 with ⟨p4, _⟩ | ⟨_, _, p6, _⟩
  · have e2 := fnd_uni hT _ _ _ _ _ _ h0 h4 hf p4
    omega
  · have e2 := fnd_uni hT _ _ _ _ _ _ h0 h4 hg p6
    omega⟩
theorem SP15.unk (h : SP15 v a v1 a1 t q u x r) (hT : TBL v a) (h0 : 0 ≤ t) (h4 : t < v 4) (hr : r < 0) (hx : x < u) (h20 : a2 20 = a1 20) : SPT v a v2 a2 t q u 0 := ⟨h20.trans h.1, fun l0 hl => ⟨fun e => absurd e (by decide), fun _ hp => by
  obtain ⟨pre, cs, g1, _, _, g4⟩ := h.2 l0 hl
  obtain ⟨ps, ⟨y, p1, p2⟩, _⟩ := hp
  obtain ⟨qs, k1, k2⟩ := ptp.ext hT h0 h4 pre ps q y g1 p1 p2
  cases qs with
  | nil => cases k2; omega
  | cons p qs =>
    obtain ⟨_, _, l3, k5, _⟩ := k2
    exact g4 hr _ _ k5⟩⟩
theorem SP15.many (h : SP15 v a v1 a1 t q u x r) (hT : TBL v a) (h0 : 0 ≤ t) (h4 : t < v 4) (hr : 0 ≤ r) (hx : x < u) (h13 : 0 ≤ a 13 r.toNat) (hm : 200 < v1 25 + a 13 r.toNat) (h20 : a2 20 = a1 20) : SPT v a v2 a2 t q u 0 := ⟨h20.trans h.1, fun l0 hl => ⟨fun e => absurd e (by decide), fun _ hp => by
  obtain ⟨pre, cs, g1, g2, g3, _⟩ := h.2 l0 hl
  obtain ⟨ps, ⟨y, p1, p2⟩, p3⟩ := hp
  obtain ⟨qs, k1, k2⟩ := ptp.ext hT h0 h4 pre ps q y g1 p1 p2
  cases qs with
  | nil => cases k2; omega
  | cons p qs =>
    obtain ⟨_, _, l3, k5, _⟩ := k2
    refine hv3 (PC1.uni hT h0 h4 (g3 hr) k5) (g2.1.1) (RCL.len h13) (fun e w e3 => ?_)
    rw [k1, cls_app, cls_cons, ← e.2] at p3
    simp only [List.length_append] at p3 w
    push_cast at p3 w
    omega⟩⟩
theorem SP15.copy (h : SP15 v a v1 a1 t q u x r) (hr : 0 ≤ r) : SP20 v a v1 a1 t q u x r 0 := ⟨h.1, fun l0 hl => by
  obtain ⟨pre, cs, g1, g2, g3, _⟩ := h.2 l0 hl
  exact ⟨pre, cs, g1, ⟨MDK.zero g2.1, g2.2⟩, g3 hr⟩⟩
theorem SP20.step {i : Nat} (h : SP20 v a v1 a1 t q u x r k) (h0 : 0 ≤ k) (hi : i = (v1 25 + k).toNat) (hz : z = a 15 (4 * r.toNat + k.toNat)) : SP20 v a v1 (up2 a1 24 i z) t q u x r (k + 1) := ⟨(funext fun _ => up2_k (by decide)).trans h.1, fun l0 hl => by
  obtain ⟨pre, cs, g1, g2, g3⟩ := h.2 l0 hl
  exact ⟨pre, cs, g1, ⟨g2.1.step h0 hi hz, g2.2.fr (funext fun _ => up2_k (by decide))⟩, g3⟩⟩
theorem SP20.next (h : SP20 v a v1 a1 t q u x r k) (hx : x < u) (h13 : 0 ≤ a 13 r.toNat) (hk : k = a 13 r.toNat) (hv : v2 25 = v1 25 + a 13 r.toNat) : SP3 v a v2 a1 t q u (x + a 12 r.toNat) := ⟨h.1, fun l0 hl => by
  obtain ⟨pre, cs, g1, g2, g3⟩ := h.2 l0 hl
  refine ⟨pre ++ [(x, cs ++ RCL a r)], ptp.snoc pre q g1 hx g3, ?_, fun i => by rw [bgn_snoc]; exact g2.2 i⟩
  have e := g2.1.fin (n := (a 13 r.toNat).toNat) (v2 := v2) (a2 := a1) (by omega) (by omega) rfl
  rw [cls_app, cls_one, ← List.append_assoc, ← List.append_assoc]
  exact e⟩
theorem SP3.done (h : SP3 v a v1 a1 t q u x) (hx : u ≤ x) (h25 : v1 25 ≤ 200) : SPT v a v1 a1 t q u 1 := ⟨h.1, fun l0 hl => ⟨fun _ => by
  obtain ⟨pre, g1, g2⟩ := h.2 l0 hl
  have w := g2.1.1
  rw [List.length_append] at w
  push_cast at w
  exact ⟨pre, ⟨⟨x, g1, hx⟩, by omega⟩, g2⟩, fun e => absurd rfl e⟩⟩
end SETS
def PIX (v : Nat → Int) (a : Nat → Nat → Int) (v2 : Nat → Int) (a2 : Nat → Nat → Int) (I : Int) : Prop := ∀ l, MDH v a l → MDH v2 a2 (l ++ ICL a I)
def PIK (v : Nat → Int) (a : Nat → Nat → Int) (v1 : Nat → Int) (a1 : Nat → Nat → Int) (I k : Int) : Prop := ∀ l, MDH v a l → MDK v1 a1 l (fun j => a 17 (4 * I.toNat + j)) k
section PINS
variable {v v1 v2 v3 : Nat → Int} {V1 A1 : List Nat} {a a1 a2 a3 : Nat → Nat → Int} {W : Nat → Int} {q u x t r k f I c z : Int} {n i : Nat} {l0 : List Int}
theorem PIK.zero : PIK v a v a I 0 := fun l h => MDK.zero h
theorem PIK.step (h : PIK v a v1 a1 I k) (h0 : 0 ≤ k) (hi : i = (v1 25 + k).toNat) (hz : z = a 17 (4 * I.toNat + k.toNat)) : PIK v a v1 (up2 a1 24 i z) I (k + 1) := fun l hl => (h l hl).step h0 hi hz
theorem PIK.fin (h : PIK v a v1 a1 I k) (hk : k = a 16 I.toNat) (h16 : 0 ≤ a 16 I.toNat) (hv : v2 25 = v1 25 + a 16 I.toNat) : PIX v a v2 a1 I := fun l hl => (h l hl).fin (n := (a 16 I.toNat).toNat) (by omega) (by omega) rfl
theorem ICL_cg (h16 : a1 16 = a 16) (h17 : a1 17 = a 17) : ICL a1 I = ICL a I := by unfold ICL; rw [h16, h17]
theorem fnd.wd {A1 : List Nat} (f1 : fr V1 A1 v a v1 a1) (hA : ([6, 8, 10, 11, 12, 14] : List Nat).all (fun j => !A1.contains j) = true) (hw : a1 20 = W) (h : fnd a1 q u x n (a1 20) t r) : fnd a q u x n W t r := by
  have g : ∀ j, j ∈ ([6, 8, 10, 11, 12, 14] : List Nat) → a1 j = a j := fun j hj => f1.2 j (by have := List.all_eq_true.mp hA j hj; simpa using this)
  rw [hw] at h
  exact fnd_cg (g 6 (by decide)) (g 8 (by decide)) (g 10 (by decide)) (g 11 (by decide)) (g 12 (by decide)) (g 14 (by decide)) n _ _ _ h
theorem upw (h : a1 20 = W) : up2 a1 20 i z 20 = va_up W i z := by
  rw [← h]
  funext j
  unfold up2 va_up
  rw [if_pos rfl]
theorem upb (h : a1 20 = va_up W i z) (hc : c = W i) : up2 a1 20 i c 20 = W := by
  rw [upw h]
  funext j
  unfold va_up
  by_cases e : j = i
  · subst e; rw [if_pos rfl]; exact hc
  · rw [if_neg e, if_neg e]
theorem SP3.num (h : SP3 v a v1 a1 t q u x) (s24 : a2 24 = a1 24) (hP : PIX v1 a2 v3 a3 (4 * t + 1)) (h16 : a2 16 = a 16) (h17 : a2 17 = a 17) (h20 : a3 20 = a1 20) (h26 : ∀ i : Nat, a3 26 i = if i = x.toNat then v1 25 else a1 26 i) (hn : nbl a (a 20) t q x = ICL a (4 * t + 1)) : SP7 v a v3 a3 t q u x := h.number (fun l hl => by rw [← ICL_cg h16 h17]; exact hP l (hl.fr rfl s24)) h20 h26 hn
end PINS
set_option maxHeartbeats 4000000 in
set_option maxRecDepth 100000 in
theorem E_putIndicator {l : Launch} {G : GT} {h0 : Nat} {ad ln : Nat → Nat} {v : Nat → Int} {a : Nat → Nat → Int}  {t w1 : Int} (hB : BX v a) (ht : 0 ≤ t ∧ t < 30) (hw : 0 ≤ w1 ∧ w1 ≤ 3) (h25 : v 25 ≤ 204) : Mm l G yX12_putIndicator cX12_putIndicator 5 none 0 [.int (iI t), .int (iI w1)] h0 ad ln v a 0 0 (fun r v2 a2 => r = none ∧ fr [25] [24] v a v2 a2 ∧ BX v2 a2 ∧ ((v2 25 = v 25 + a 16 (4 * t + w1).toNat) ∧ PIX v a v2 a2 (4 * t + w1))) := by
  refine Mm.mk (by decide) (Nat.le_of_ble_eq_true rfl) ?_
  intro p e s m args below meth c A C
  refine hv3 (show 0 ≤ a 16 (4 * t + w1).toNat ∧ a 16 (4 * t + w1).toNat ≤ 4 from hB.2 16 _) (show 0 ≤ v 25 ∧ v 25 ≤ 208 from hB.1 25) (show fr [25] [24] v a v a from fr.refl) (fun r16 r25 fp0 => ?_)
  refine m_iconst C dX12_putIndicator_0 ?_
  refine m_iload_n (j := 1) C dX12_putIndicator_1 rfl ?_
  refine m_imul C dX12_putIndicator_2 ?_
  refine m_iload_n (j := 2) C dX12_putIndicator_3 rfl ?_
  refine m_iadd C dX12_putIndicator_4 ?_
  refine m_istore_n (lv2 := [(3, .int (iI ((4 * t) + w1))), (0, .ref h0), (1, .int (iI t)), (2, .int (iI w1))]) C dX12_putIndicator_5 (by decide) rfl ?_
  refine m_iconst C dX12_putIndicator_6 ?_
  refine m_istore (lv2 := [(4, .int (iI 0)), (3, .int (iI ((4 * t) + w1))), (0, .ref h0), (1, .int (iI t)), (2, .int (iI w1))]) C dX12_putIndicator_7 (by decide) rfl ?_
  have Lp1 : ∀ (nn : Nat) (k : Int) (vb1 : Nat → Int) (ab1 : Nat → Nat → Int), 5 - k < (nn : Int) → BX vb1 ab1 → fr [25] [24] v a vb1 ab1 → (0 ≤ k ∧ k ≤ a 16 (4 * t + w1).toNat) → (vb1 25 = v 25) → (PIK v a vb1 ab1 (4 * t + w1) k) → mw p l e (rmq 0 0 0) s m args below meth c G A 5 (MQ below (Qm G A (fun rq Lq Eq => ∃ (vq : Nat → Int) (aq : Nat → Nat → Int), mI G h0 ad ln vq aq Lq Eq ∧ (fun r v2 a2 => r = none ∧ fr [25] [24] v a v2 a2 ∧ BX v2 a2 ∧ ((v2 25 = v 25 + a 16 (4 * t + w1).toNat) ∧ PIX v a v2 a2 (4 * t + w1))) rq vq aq)) args s 0 0 A) h0 ad ln vb1 ab1 0 0 9 [(4, .int (iI k)), (3, .int (iI ((4 * t) + w1))), (0, .ref h0), (1, .int (iI t)), (2, .int (iI w1))] [] := by
    intro nn
    induction nn with
    | zero =>
      intro k vb1 ab1 hm bxb1 fpb1 hk hv5 hM
      exact absurd hm (by omega)
    | succ nn ih1 =>
      intro k vb1 ab1 hm bxb1 fpb1 hk hv5 hM
      refine m_iload (j := 0) C dX12_putIndicator_9 rfl ?_
      refine m_aload_n (j := 2) C dX12_putIndicator_11 rfl ?_
      refine m_geta (k := 16) C dX12_putIndicator_12 w6_75 (by decide) rfl ?_
      refine m_iload_n (j := 1) C dX12_putIndicator_15 rfl ?_
      refine m_ald (k := 16) C dX12_putIndicator_16 rfl rfl (by decide) (by omega) (by show _ < ((_ : Nat) : Int); simp only [mlen]; omega) (by decide) ?_
      refine hv2 (show 0 ≤ ab1 16 ((4 * t) + w1).toNat ∧ ab1 16 ((4 * t) + w1).toNat ≤ 4 from bxb1.2 16 (((4 * t) + w1).toNat)) (show ab1 16 (((4 * t) + w1).toNat) = a 16 (((4 * t) + w1).toNat) from congrFun (fpb1.2 16 rfl) (((4 * t) + w1).toNat)) (fun ra1 ae1 => ?_)
      refine m_st (st2 := [.int (iI (a 16 ((4 * t) + w1).toNat)), .int (iI k)]) (congrArg (fun z => Value.int (iI z) :: [.int (iI k)]) (congrFun (fpb1.2 16 rfl) (((4 * t) + w1).toNat))) ?_
      refine m_icmp_ge (tgt := 49) C ⟨by omega, by omega⟩ ⟨by omega, by omega⟩ dX12_putIndicator_17 (by decide) (fun c1 => ?_) (fun c1 => ?_)
      · refine m_aload_n (j := 2) C dX12_putIndicator_49 rfl ?_
        refine m_dup C dX12_putIndicator_50 rfl ?_
        have rv1 : 0 ≤ vb1 25 ∧ vb1 25 ≤ 208 := bxb1.1 25
        refine m_get (k := 25) C dX12_putIndicator_51 w6_84 (by decide) rfl ?_
        refine m_aload_n (j := 2) C dX12_putIndicator_54 rfl ?_
        refine m_geta (k := 16) C dX12_putIndicator_55 w6_75 (by decide) rfl ?_
        refine m_iload_n (j := 1) C dX12_putIndicator_58 rfl ?_
        refine m_ald (k := 16) C dX12_putIndicator_59 rfl rfl (by decide) (by omega) (by show _ < ((_ : Nat) : Int); simp only [mlen]; omega) (by decide) ?_
        refine m_st (st2 := [.int (iI (a 16 ((4 * t) + w1).toNat)), .int (iI (vb1 25)), .ref h0]) (congrArg (fun z => Value.int (iI z) :: [.int (iI (vb1 25)), .ref h0]) (congrFun (fpb1.2 16 rfl) (((4 * t) + w1).toNat))) ?_
        refine m_iadd C dX12_putIndicator_60 ?_
        refine m_put (k := 25) (z := (vb1 25) + (a 16 ((4 * t) + w1).toNat)) C dX12_putIndicator_61 w6_84 (by decide) rfl rfl rfl ?_
        refine hv2 (show BX (va_up vb1 25 ((vb1 25) + (a 16 ((4 * t) + w1).toNat))) ab1 from bxb1.put (k := 25) (z := (vb1 25) + (a 16 ((4 * t) + w1).toNat)) (show 0 ≤ ((vb1 25) + (a 16 ((4 * t) + w1).toNat)) ∧ ((vb1 25) + (a 16 ((4 * t) + w1).toNat)) ≤ 208 by omega)) (fpb1.put (k := 25) (z := (vb1 25) + (a 16 ((4 * t) + w1).toNat)) rfl) (fun bq1 fq1 => ?_)
        exact m_vret C dX12_putIndicator_64 rfl (Nat.le_of_ble_eq_true rfl) (Nat.le_of_ble_eq_true rfl) ⟨rfl, fq1, bq1, ⟨(by show ((vb1 25) + (a 16 ((4 * t) + w1).toNat)) = v 25 + a 16 (4 * t + w1).toNat; omega), hM.fin (by omega) (by omega) (va_up_self _ _ _)⟩⟩
      · refine m_aload_n (j := 2) C dX12_putIndicator_20 rfl ?_
        refine m_geta (k := 24) C dX12_putIndicator_21 w6_83 (by decide) rfl ?_
        refine m_aload_n (j := 2) C dX12_putIndicator_24 rfl ?_
        have rv2 : 0 ≤ vb1 25 ∧ vb1 25 ≤ 208 := bxb1.1 25
        refine m_get (k := 25) C dX12_putIndicator_25 w6_84 (by decide) rfl ?_
        refine m_iload (j := 0) C dX12_putIndicator_28 rfl ?_
        refine m_iadd C dX12_putIndicator_30 ?_
        refine m_aload_n (j := 2) C dX12_putIndicator_31 rfl ?_
        refine m_geta (k := 17) C dX12_putIndicator_32 w6_76 (by decide) rfl ?_
        refine m_iconst C dX12_putIndicator_35 ?_
        refine m_iload_n (j := 1) C dX12_putIndicator_36 rfl ?_
        refine m_imul C dX12_putIndicator_37 ?_
        refine m_iload (j := 0) C dX12_putIndicator_38 rfl ?_
        refine m_iadd C dX12_putIndicator_40 ?_
        refine m_ald (k := 17) C dX12_putIndicator_41 rfl rfl (by decide) (by omega) (by show _ < ((_ : Nat) : Int); simp only [mlen]; omega) (by decide) ?_
        refine hv2 (show (-2147483648) ≤ ab1 17 ((4 * ((4 * t) + w1)) + k).toNat ∧ ab1 17 ((4 * ((4 * t) + w1)) + k).toNat ≤ 2147483647 from bxb1.2 17 (((4 * ((4 * t) + w1)) + k).toNat)) (show ab1 17 (((4 * ((4 * t) + w1)) + k).toNat) = a 17 (((4 * ((4 * t) + w1)) + k).toNat) from congrFun (fpb1.2 17 rfl) (((4 * ((4 * t) + w1)) + k).toNat)) (fun ra2 ae2 => ?_)
        refine m_st (st2 := [.int (iI (a 17 ((4 * ((4 * t) + w1)) + k).toNat)), .int (iI ((vb1 25) + k)), .ref (ad 24)]) (congrArg (fun z => Value.int (iI z) :: [.int (iI ((vb1 25) + k)), .ref (ad 24)]) (congrFun (fpb1.2 17 rfl) (((4 * ((4 * t) + w1)) + k).toNat))) ?_
        refine m_ast (k := 24) C dX12_putIndicator_42 rfl rfl (by decide) (by omega) (by show _ < ((_ : Nat) : Int); simp only [mlen]; omega) (by decide) ?_
        refine hv2 (show BX vb1 (up2 ab1 24 ((vb1 25) + k).toNat (a 17 ((4 * ((4 * t) + w1)) + k).toNat)) from bxb1.set (k := 24) (i := ((vb1 25) + k).toNat) (z := a 17 ((4 * ((4 * t) + w1)) + k).toNat) (show (-2147483648) ≤ (a 17 ((4 * ((4 * t) + w1)) + k).toNat) ∧ (a 17 ((4 * ((4 * t) + w1)) + k).toNat) ≤ 2147483647 by omega)) (fpb1.set (k := 24) (i := ((vb1 25) + k).toNat) (z := a 17 ((4 * ((4 * t) + w1)) + k).toNat) rfl) (fun bq2 fq2 => ?_)
        refine m_iinc (z := k) (j := 0) (lv2 := [(4, .int (iI (k + 1))), (3, .int (iI ((4 * t) + w1))), (0, .ref h0), (1, .int (iI t)), (2, .int (iI w1))]) C dX12_putIndicator_43 rfl (by decide) rfl ?_
        refine m_goto (tgt := 9) C dX12_putIndicator_46 (by decide) ?_
        refine m_lv (lv2 := [(4, .int (iI (k + 1))), (3, .int (iI ((4 * t) + w1))), (0, .ref h0), (1, .int (iI t)), (2, .int (iI w1))]) [0, 1, 2, 3, 4] rfl ?_
        exact ih1  (k + 1) _ _ (by omega) bq2 fq2 (by omega) (by show (vb1 25) = v 25; omega) (hM.step (by omega) rfl (congrArg (a 17) (by omega)))
  have rv3 : 0 ≤ v 25 ∧ v 25 ≤ 208 := hB.1 25
  refine m_lv (lv2 := [(4, .int (iI 0)), (3, .int (iI ((4 * t) + w1))), (0, .ref h0), (1, .int (iI t)), (2, .int (iI w1))]) [0, 1, 2, 3, 4] rfl ?_
  exact Lp1 6 0 _ _ (by omega) hB fp0 (by omega) (by show (v 25) = v 25; omega) PIK.zero
set_option maxHeartbeats 4000000 in
set_option maxRecDepth 100000 in
theorem E_setPart {l : Launch} {G : GT} {h0 : Nat} {ad ln : Nat → Nat} {v : Nat → Int} {a : Nat → Nat → Int}  {t q u : Int} (hB : BX v a) (hT : TBL v a) (ht : 0 ≤ t ∧ t < v 4) (h4 : a 6 t.toNat ≤ 4) (hx : 0 ≤ q ∧ q ≤ u ∧ u ≤ 500) (h25 : v 25 ≤ 200) : Mm l G yX12_setPart cX12_setPart 8 (some .boolean) 64 [.int (iI t), .int (iI q), .int (iI u)] h0 ad ln v a 0 0 (fun r v2 a2 => ∃ f : Int, r = some (.int (iI f)) ∧ fr [25, 28] [20, 24, 26, 27] v a v2 a2 ∧ BX v2 a2 ∧ ((f = 0 ∨ (f = 1 ∧ v2 25 ≤ 200)) ∧ SPT v a v2 a2 t q u f)) := by
  refine Mm.mk (by decide) (Nat.le_of_ble_eq_true rfl) ?_
  intro p e s m args below meth c A C
  refine hv2 (show 0 ≤ v 4 ∧ v 4 ≤ 30 from hB.1 4) (show fr [25, 28] [20, 24, 26, 27] v a v a from fr.refl) (fun h30 fp0 => ?_)
  refine m_iload_n (j := 2) C dX12_setPart_0 rfl ?_
  refine m_istore (lv2 := [(4, .int (iI q)), (0, .ref h0), (1, .int (iI t)), (2, .int (iI q)), (3, .int (iI u))]) C dX12_setPart_1 (by decide) rfl ?_
  have Lp1 : ∀ (nn : Nat) (x : Int) (vb1 : Nat → Int) (ab1 : Nat → Nat → Int), 501 - x < (nn : Int) → BX vb1 ab1 → fr [25, 28] [20, 24, 26, 27] v a vb1 ab1 → (q ≤ x ∧ x ≤ u) → (vb1 25 ≤ 200) → (SP3 v a vb1 ab1 t q u x) → mw p l e (rmq 64 0 0) s m args below meth c G A 8 (MQ below (Qm G A (fun rq Lq Eq => ∃ (vq : Nat → Int) (aq : Nat → Nat → Int), mI G h0 ad ln vq aq Lq Eq ∧ (fun r v2 a2 => ∃ f : Int, r = some (.int (iI f)) ∧ fr [25, 28] [20, 24, 26, 27] v a v2 a2 ∧ BX v2 a2 ∧ ((f = 0 ∨ (f = 1 ∧ v2 25 ≤ 200)) ∧ SPT v a v2 a2 t q u f)) rq vq aq)) args s 0 0 A) h0 ad ln vb1 ab1 0 0 3 [(4, .int (iI x)), (0, .ref h0), (1, .int (iI t)), (2, .int (iI q)), (3, .int (iI u))] [] := by
    intro nn
    induction nn with
    | zero =>
      intro x vb1 ab1 hm bxb1 fpb1 hq hb hI
      refine hv2 (congrFun hI.1 x.toNat) (congrFun hI.1 (x - 1).toNat) (fun w20_hI w21_hI => ?_)
      exact absurd hm (by omega)
    | succ nn ih1 =>
      intro x vb1 ab1 hm bxb1 fpb1 hq hb hI
      refine hv2 (congrFun hI.1 x.toNat) (congrFun hI.1 (x - 1).toNat) (fun w20_hI w21_hI => ?_)
      refine m_iload (j := 0) C dX12_setPart_3 rfl ?_
      refine m_iload_n (j := 4) C dX12_setPart_5 rfl ?_
      refine m_icmp_ge (tgt := 278) C ⟨by omega, by omega⟩ ⟨by omega, by omega⟩ dX12_setPart_6 (by decide) (fun c1 => ?_) (fun c1 => ?_)
      · refine m_iconst C dX12_setPart_278 ?_
        exact m_zret C dX12_setPart_279 rfl (Or.inr rfl) (Nat.le_of_ble_eq_true rfl) (Nat.le_of_ble_eq_true rfl) ⟨1, rfl, fpb1, bxb1, ⟨Or.inr ⟨rfl, hb⟩, hI.done (by omega) hb⟩⟩
      · refine m_aload_n (j := 1) C dX12_setPart_9 rfl ?_
        refine m_geta (k := 20) C dX12_setPart_10 w6_79 (by decide) rfl ?_
        refine m_iload (j := 0) C dX12_setPart_13 rfl ?_
        refine m_ald (k := 20) C dX12_setPart_15 rfl rfl (by decide) (by omega) (by show _ < ((_ : Nat) : Int); simp only [mlen]; omega) (by decide) ?_
        have ra1 : (-2147483648) ≤ ab1 20 x.toNat ∧ ab1 20 x.toNat ≤ 2147483647 := bxb1.2 20 (x.toNat)
        refine m_istore (lv2 := [(5, .int (iI (ab1 20 x.toNat))), (4, .int (iI x)), (0, .ref h0), (1, .int (iI t)), (2, .int (iI q)), (3, .int (iI u))]) C dX12_setPart_16 (by decide) rfl ?_
        have J1 : ∀ (r : Int) (vb2 : Nat → Int) (ab2 : Nat → Nat → Int), BX vb2 ab2 → fr [25, 28] [20, 24, 26, 27] v a vb2 ab2 → (r = -1 ∨ (0 ≤ r ∧ r < 6000 ∧ (1 ≤ a 12 r.toNat ∧ a 12 r.toNat ≤ 8) ∧ (1 ≤ a 13 r.toNat ∧ a 13 r.toNat ≤ 4) ∧ x + a 12 r.toNat ≤ u)) → (vb2 25 ≤ 208) → (SP15 v a vb2 ab2 t q u x r) → mw p l e (rmq 64 0 0) s m args below meth c G A 8 (MQ below (Qm G A (fun rq Lq Eq => ∃ (vq : Nat → Int) (aq : Nat → Nat → Int), mI G h0 ad ln vq aq Lq Eq ∧ (fun r v2 a2 => ∃ f : Int, r = some (.int (iI f)) ∧ fr [25, 28] [20, 24, 26, 27] v a v2 a2 ∧ BX v2 a2 ∧ ((f = 0 ∨ (f = 1 ∧ v2 25 ≤ 200)) ∧ SPT v a v2 a2 t q u f)) rq vq aq)) args s 0 0 A) h0 ad ln vb2 ab2 0 0 159 [(6, .int (iI r)), (5, .int (iI (ab1 20 x.toNat))), (4, .int (iI x)), (0, .ref h0), (1, .int (iI t)), (2, .int (iI q)), (3, .int (iI u))] [] := by
          intro r vb2 ab2 bxb2 fpb2 hr hb3 h15
          refine m_iload (j := 0) C dX12_setPart_159 rfl ?_
          refine m_if_ge (tgt := 177) C ⟨by omega, by omega⟩ dX12_setPart_161 (by decide) (fun c2 => ?_) (fun c2 => ?_)
          · refine m_aload_n (j := 3) C dX12_setPart_177 rfl ?_
            have rv1 : 0 ≤ vb2 25 ∧ vb2 25 ≤ 208 := bxb2.1 25
            refine m_get (k := 25) C dX12_setPart_178 w6_84 (by decide) rfl ?_
            refine m_aload_n (j := 3) C dX12_setPart_181 rfl ?_
            refine m_geta (k := 13) C dX12_setPart_182 w6_72 (by decide) rfl ?_
            refine m_iload (j := 0) C dX12_setPart_185 rfl ?_
            refine m_ald (k := 13) C dX12_setPart_187 rfl rfl (by decide) (by omega) (by show _ < ((_ : Nat) : Int); simp only [mlen]; omega) (by decide) ?_
            refine hv2 (show 0 ≤ ab2 13 r.toNat ∧ ab2 13 r.toNat ≤ 4 from bxb2.2 13 (r.toNat)) (show ab2 13 (r.toNat) = a 13 (r.toNat) from congrFun (fpb2.2 13 rfl) (r.toNat)) (fun ra2 ae1 => ?_)
            refine m_st (st2 := [.int (iI (a 13 r.toNat)), .int (iI (vb2 25))]) (congrArg (fun z => Value.int (iI z) :: [.int (iI (vb2 25))]) (congrFun (fpb2.2 13 rfl) (r.toNat))) ?_
            refine m_iadd C dX12_setPart_188 ?_
            refine m_sipush (z := 200) C dX12_setPart_189 (by decide) ?_
            refine m_icmp_le (tgt := 202) C ⟨by omega, by omega⟩ ⟨by decide, by decide⟩ dX12_setPart_192 (by decide) (fun c3 => ?_) (fun c3 => ?_)
            · refine m_iconst C dX12_setPart_202 ?_
              refine m_istore (lv2 := [(7, .int (iI 0)), (6, .int (iI r)), (5, .int (iI (ab1 20 x.toNat))), (4, .int (iI x)), (0, .ref h0), (1, .int (iI t)), (2, .int (iI q)), (3, .int (iI u))]) C dX12_setPart_203 (by decide) rfl ?_
              have Lp2 : ∀ (nn : Nat) (k : Int) (vb3 : Nat → Int) (ab3 : Nat → Nat → Int), 5 - k < (nn : Int) → BX vb3 ab3 → fr [25, 28] [20, 24, 26, 27] v a vb3 ab3 → (0 ≤ k ∧ k ≤ a 13 r.toNat) → (vb3 25 + a 13 r.toNat ≤ 200) → (SP20 v a vb3 ab3 t q u x r k) → mw p l e (rmq 64 0 0) s m args below meth c G A 8 (MQ below (Qm G A (fun rq Lq Eq => ∃ (vq : Nat → Int) (aq : Nat → Nat → Int), mI G h0 ad ln vq aq Lq Eq ∧ (fun r v2 a2 => ∃ f : Int, r = some (.int (iI f)) ∧ fr [25, 28] [20, 24, 26, 27] v a v2 a2 ∧ BX v2 a2 ∧ ((f = 0 ∨ (f = 1 ∧ v2 25 ≤ 200)) ∧ SPT v a v2 a2 t q u f)) rq vq aq)) args s 0 0 A) h0 ad ln vb3 ab3 0 0 205 [(7, .int (iI k)), (6, .int (iI r)), (5, .int (iI (ab1 20 x.toNat))), (4, .int (iI x)), (0, .ref h0), (1, .int (iI t)), (2, .int (iI q)), (3, .int (iI u))] [] := by
                intro nn
                induction nn with
                | zero =>
                  intro k vb3 ab3 hm bxb3 fpb3 hk hb4 h20k
                  exact absurd hm (by omega)
                | succ nn ih2 =>
                  intro k vb3 ab3 hm bxb3 fpb3 hk hb4 h20k
                  refine m_iload (j := 0) C dX12_setPart_205 rfl ?_
                  refine m_aload_n (j := 4) C dX12_setPart_207 rfl ?_
                  refine m_geta (k := 13) C dX12_setPart_208 w6_72 (by decide) rfl ?_
                  refine m_iload (j := 1) C dX12_setPart_211 rfl ?_
                  refine m_ald (k := 13) C dX12_setPart_213 rfl rfl (by decide) (by omega) (by show _ < ((_ : Nat) : Int); simp only [mlen]; omega) (by decide) ?_
                  refine hv2 (show 0 ≤ ab3 13 r.toNat ∧ ab3 13 r.toNat ≤ 4 from bxb3.2 13 (r.toNat)) (show ab3 13 (r.toNat) = a 13 (r.toNat) from congrFun (fpb3.2 13 rfl) (r.toNat)) (fun ra3 ae2 => ?_)
                  refine m_st (st2 := [.int (iI (a 13 r.toNat)), .int (iI k)]) (congrArg (fun z => Value.int (iI z) :: [.int (iI k)]) (congrFun (fpb3.2 13 rfl) (r.toNat))) ?_
                  refine m_icmp_ge (tgt := 247) C ⟨by omega, by omega⟩ ⟨by omega, by omega⟩ dX12_setPart_214 (by decide) (fun c4 => ?_) (fun c4 => ?_)
                  · refine m_aload_n (j := 4) C dX12_setPart_247 rfl ?_
                    refine m_dup C dX12_setPart_248 rfl ?_
                    have rv2 : 0 ≤ vb3 25 ∧ vb3 25 ≤ 208 := bxb3.1 25
                    refine m_get (k := 25) C dX12_setPart_249 w6_84 (by decide) rfl ?_
                    refine m_aload_n (j := 4) C dX12_setPart_252 rfl ?_
                    refine m_geta (k := 13) C dX12_setPart_253 w6_72 (by decide) rfl ?_
                    refine m_iload (j := 1) C dX12_setPart_256 rfl ?_
                    refine m_ald (k := 13) C dX12_setPart_258 rfl rfl (by decide) (by omega) (by show _ < ((_ : Nat) : Int); simp only [mlen]; omega) (by decide) ?_
                    refine m_st (st2 := [.int (iI (a 13 r.toNat)), .int (iI (vb3 25)), .ref h0]) (congrArg (fun z => Value.int (iI z) :: [.int (iI (vb3 25)), .ref h0]) (congrFun (fpb3.2 13 rfl) (r.toNat))) ?_
                    refine m_iadd C dX12_setPart_259 ?_
                    refine m_put (k := 25) (z := (vb3 25) + (a 13 r.toNat)) C dX12_setPart_260 w6_84 (by decide) rfl rfl rfl ?_
                    refine hv2 (show BX (va_up vb3 25 ((vb3 25) + (a 13 r.toNat))) ab3 from bxb3.put (k := 25) (z := (vb3 25) + (a 13 r.toNat)) (show 0 ≤ ((vb3 25) + (a 13 r.toNat)) ∧ ((vb3 25) + (a 13 r.toNat)) ≤ 208 by omega)) (fpb3.put (k := 25) (z := (vb3 25) + (a 13 r.toNat)) rfl) (fun bq1 fq1 => ?_)
                    refine m_iload (j := 3) C dX12_setPart_263 rfl ?_
                    refine m_aload_n (j := 4) C dX12_setPart_265 rfl ?_
                    refine m_geta (k := 12) C dX12_setPart_266 w6_71 (by decide) rfl ?_
                    refine m_iload (j := 1) C dX12_setPart_269 rfl ?_
                    refine m_ald (k := 12) C dX12_setPart_271 rfl rfl (by decide) (by omega) (by show _ < ((_ : Nat) : Int); simp only [mlen]; omega) (by decide) ?_
                    refine hv2 (show 0 ≤ ab3 12 r.toNat ∧ ab3 12 r.toNat ≤ 8 from bq1.2 12 (r.toNat)) (show ab3 12 (r.toNat) = a 12 (r.toNat) from congrFun (fpb3.2 12 rfl) (r.toNat)) (fun ra4 ae3 => ?_)
                    refine m_st (st2 := [.int (iI (a 12 r.toNat)), .int (iI x)]) (congrArg (fun z => Value.int (iI z) :: [.int (iI x)]) (congrFun (fq1.2 12 rfl) (r.toNat))) ?_
                    refine m_iadd C dX12_setPart_272 ?_
                    refine m_istore (lv2 := [(4, .int (iI (x + (a 12 r.toNat)))), (7, .int (iI k)), (6, .int (iI r)), (5, .int (iI (ab1 20 x.toNat))), (0, .ref h0), (1, .int (iI t)), (2, .int (iI q)), (3, .int (iI u))]) C dX12_setPart_273 (by decide) rfl ?_
                    refine m_goto (tgt := 3) C dX12_setPart_275 (by decide) ?_
                    refine m_lv (lv2 := [(4, .int (iI (x + (a 12 r.toNat)))), (0, .ref h0), (1, .int (iI t)), (2, .int (iI q)), (3, .int (iI u))]) [0, 4, 5, 6, 7] rfl ?_
                    exact ih1  (x + (a 12 r.toNat)) _ _ (by omega) bq1 fq1 (by omega) (by show (vb3 25) + (a 13 r.toNat) ≤ 200; omega) (h20k.next (by omega) (by omega) (by omega) (va_up_self _ _ _))
                  · refine m_aload_n (j := 4) C dX12_setPart_217 rfl ?_
                    refine m_geta (k := 24) C dX12_setPart_218 w6_83 (by decide) rfl ?_
                    refine m_aload_n (j := 4) C dX12_setPart_221 rfl ?_
                    have rv3 : 0 ≤ vb3 25 ∧ vb3 25 ≤ 208 := bxb3.1 25
                    refine m_get (k := 25) C dX12_setPart_222 w6_84 (by decide) rfl ?_
                    refine m_iload (j := 0) C dX12_setPart_225 rfl ?_
                    refine m_iadd C dX12_setPart_227 ?_
                    refine m_aload_n (j := 4) C dX12_setPart_228 rfl ?_
                    refine m_geta (k := 15) C dX12_setPart_229 w6_74 (by decide) rfl ?_
                    refine m_iconst C dX12_setPart_232 ?_
                    refine m_iload (j := 1) C dX12_setPart_233 rfl ?_
                    refine m_imul C dX12_setPart_235 ?_
                    refine m_iload (j := 0) C dX12_setPart_236 rfl ?_
                    refine m_iadd C dX12_setPart_238 ?_
                    refine m_ald (k := 15) C dX12_setPart_239 rfl rfl (by decide) (by omega) (by show _ < ((_ : Nat) : Int); simp only [mlen]; omega) (by decide) ?_
                    refine hv2 (show (-2147483648) ≤ ab3 15 ((4 * r) + k).toNat ∧ ab3 15 ((4 * r) + k).toNat ≤ 2147483647 from bxb3.2 15 (((4 * r) + k).toNat)) (show ab3 15 (((4 * r) + k).toNat) = a 15 (((4 * r) + k).toNat) from congrFun (fpb3.2 15 rfl) (((4 * r) + k).toNat)) (fun ra5 ae4 => ?_)
                    refine m_st (st2 := [.int (iI (a 15 ((4 * r) + k).toNat)), .int (iI ((vb3 25) + k)), .ref (ad 24)]) (congrArg (fun z => Value.int (iI z) :: [.int (iI ((vb3 25) + k)), .ref (ad 24)]) (congrFun (fpb3.2 15 rfl) (((4 * r) + k).toNat))) ?_
                    refine m_ast (k := 24) C dX12_setPart_240 rfl rfl (by decide) (by omega) (by show _ < ((_ : Nat) : Int); simp only [mlen]; omega) (by decide) ?_
                    refine hv2 (show BX vb3 (up2 ab3 24 ((vb3 25) + k).toNat (a 15 ((4 * r) + k).toNat)) from bxb3.set (k := 24) (i := ((vb3 25) + k).toNat) (z := a 15 ((4 * r) + k).toNat) (show (-2147483648) ≤ (a 15 ((4 * r) + k).toNat) ∧ (a 15 ((4 * r) + k).toNat) ≤ 2147483647 by omega)) (fpb3.set (k := 24) (i := ((vb3 25) + k).toNat) (z := a 15 ((4 * r) + k).toNat) rfl) (fun bq2 fq2 => ?_)
                    refine m_iinc (z := k) (j := 0) (lv2 := [(7, .int (iI (k + 1))), (6, .int (iI r)), (5, .int (iI (ab1 20 x.toNat))), (4, .int (iI x)), (0, .ref h0), (1, .int (iI t)), (2, .int (iI q)), (3, .int (iI u))]) C dX12_setPart_241 rfl (by decide) rfl ?_
                    refine m_goto (tgt := 205) C dX12_setPart_244 (by decide) ?_
                    refine m_lv (lv2 := [(7, .int (iI (k + 1))), (6, .int (iI r)), (5, .int (iI (ab1 20 x.toNat))), (4, .int (iI x)), (0, .ref h0), (1, .int (iI t)), (2, .int (iI q)), (3, .int (iI u))]) [0, 1, 2, 3, 4, 5, 6, 7] rfl ?_
                    exact ih2  (k + 1) _ _ (by omega) bq2 fq2 (by omega) (by show vb3 25 + a 13 r.toNat ≤ 200; omega) (h20k.step (by omega) rfl (congrArg (a 15) (by omega)))
              refine m_lv (lv2 := [(7, .int (iI 0)), (6, .int (iI r)), (5, .int (iI (ab1 20 x.toNat))), (4, .int (iI x)), (0, .ref h0), (1, .int (iI t)), (2, .int (iI q)), (3, .int (iI u))]) [0, 1, 2, 3, 4, 5, 6, 7] rfl ?_
              exact Lp2 6 0 _ _ (by omega) bxb2 fpb2 (by omega) (by show vb2 25 + a 13 r.toNat ≤ 200; omega) (h15.copy (by omega))
            · refine m_aload_n (j := 3) C dX12_setPart_195 rfl ?_
              refine m_iconst C dX12_setPart_196 ?_
              refine m_put (k := 28) (z := (-1)) C dX12_setPart_197 w6_87 (by decide) rfl rfl rfl ?_
              refine hv2 (show BX (va_up vb2 28 (-1)) ab2 from bxb2.put (k := 28) (z := (-1)) ⟨by decide, by decide⟩) (fpb2.put (k := 28) (z := (-1)) rfl) (fun bq3 fq3 => ?_)
              refine m_iconst C dX12_setPart_200 ?_
              exact m_zret C dX12_setPart_201 rfl (Or.inl rfl) (Nat.le_of_ble_eq_true rfl) (Nat.le_of_ble_eq_true rfl) ⟨0, rfl, fq3, bq3, ⟨Or.inl rfl, h15.many hT (by omega) (by omega) (by omega) (by omega) (by omega) (by omega) rfl⟩⟩
          · refine m_aload_n (j := 3) C dX12_setPart_164 rfl ?_
            refine m_aload_n (j := 3) C dX12_setPart_165 rfl ?_
            refine m_geta (k := 21) C dX12_setPart_166 w6_80 (by decide) rfl ?_
            refine m_iload (j := 2) C dX12_setPart_169 rfl ?_
            refine m_ald (k := 21) C dX12_setPart_171 rfl rfl (by decide) (by omega) (by show _ < ((_ : Nat) : Int); simp only [mlen]; omega) (by decide) ?_
            refine hv2 (show (-2147483648) ≤ ab2 21 x.toNat ∧ ab2 21 x.toNat ≤ 2147483647 from bxb2.2 21 (x.toNat)) (show ab2 21 (x.toNat) = a 21 (x.toNat) from congrFun (fpb2.2 21 rfl) (x.toNat)) (fun ra6 ae5 => ?_)
            refine m_st (st2 := [.int (iI (a 21 x.toNat)), .ref h0]) (congrArg (fun z => Value.int (iI z) :: [.ref h0]) (congrFun (fpb2.2 21 rfl) (x.toNat))) ?_
            refine m_put (k := 28) (z := a 21 x.toNat) C dX12_setPart_172 w6_87 (by decide) rfl rfl rfl ?_
            refine hv2 (show BX (va_up vb2 28 (a 21 x.toNat)) ab2 from bxb2.put (k := 28) (z := a 21 x.toNat) (show (-2147483648) ≤ (a 21 x.toNat) ∧ (a 21 x.toNat) ≤ 2147483647 by omega)) (fpb2.put (k := 28) (z := a 21 x.toNat) rfl) (fun bq4 fq4 => ?_)
            refine m_iconst C dX12_setPart_175 ?_
            exact m_zret C dX12_setPart_176 rfl (Or.inl rfl) (Nat.le_of_ble_eq_true rfl) (Nat.le_of_ble_eq_true rfl) ⟨0, rfl, fq4, bq4, ⟨Or.inl rfl, h15.unk hT (by omega) (by omega) (by omega) (by omega) rfl⟩⟩
        have J2 : ∀ (vb4 : Nat → Int) (ab4 : Nat → Nat → Int), BX vb4 ab4 → fr [25, 28] [20, 24, 26, 27] v a vb4 ab4 → (vb4 25 ≤ 204) → (SP7 v a vb4 ab4 t q u x) → mw p l e (rmq 64 0 0) s m args below meth c G A 8 (MQ below (Qm G A (fun rq Lq Eq => ∃ (vq : Nat → Int) (aq : Nat → Nat → Int), mI G h0 ad ln vq aq Lq Eq ∧ (fun r v2 a2 => ∃ f : Int, r = some (.int (iI f)) ∧ fr [25, 28] [20, 24, 26, 27] v a v2 a2 ∧ BX v2 a2 ∧ ((f = 0 ∨ (f = 1 ∧ v2 25 ≤ 200)) ∧ SPT v a v2 a2 t q u f)) rq vq aq)) args s 0 0 A) h0 ad ln vb4 ab4 0 0 74 [(5, .int (iI (ab1 20 x.toNat))), (4, .int (iI x)), (0, .ref h0), (1, .int (iI t)), (2, .int (iI q)), (3, .int (iI u))] [] := by
          intro  vb4 ab4 bxb4 fpb4 hb2 h7
          refine hv2 (congrFun h7.1 x.toNat) (congrFun h7.1 (x - 1).toNat) (fun w20_h7 w21_h7 => ?_)
          refine m_aload_n (j := 2) C dX12_setPart_74 rfl ?_
          refine m_iload_n (j := 3) C dX12_setPart_75 rfl ?_
          refine m_iload_n (j := 4) C dX12_setPart_76 rfl ?_
          refine m_iload_n (j := 5) C dX12_setPart_77 rfl ?_
          refine m_iload (j := 1) C dX12_setPart_78 rfl ?_
          refine hv4 (show 0 ≤ ab4 6 t.toNat ∧ ab4 6 t.toNat ≤ 5 from bxb4.2 6 (t.toNat)) (show ab4 6 (t.toNat) = a 6 (t.toNat) from congrFun (fpb4.2 6 rfl) (t.toNat)) (show 0 ≤ vb4 4 ∧ vb4 4 ≤ 30 from bxb4.1 4) (show vb4 4 = v 4 from fpb4.1 4 rfl) (fun ra7 ae6 rv4 ve1 => ?_)
          refine m_call (mc2 := 0) (ms2 := 0) (As := [.int (iI t), .int (iI q), .int (iI u), .int (iI x)]) (rest := []) C (E_find (t := t) (q := q) (u := u) (x := x) bxb4 (hT.fr fpb4 rfl rfl) (by show 0 ≤ t ∧ t < vb4 4; omega) (by show ab4 6 t.toNat ≤ 4; omega) (by omega)) dX12_setPart_80 kV_X12_218 rfl ck_13 rfl (Nat.le_of_ble_eq_true rfl) ⟨Nat.le_of_ble_eq_true rfl, Nat.le_of_ble_eq_true rfl⟩ ⟨Nat.le_of_ble_eq_true rfl, Nat.le_of_ble_eq_true rfl⟩ (fun rh1 vh1 ah1 h1 => ?_)
          obtain ⟨f1, rfl, fn1, bn1, ex1, tl1⟩ := h1
          refine hv8 (fpb4.call fn1 rfl rfl) (show f1 = -1 ∨ (0 ≤ f1 ∧ f1 < 6000 ∧ (1 ≤ ab4 12 f1.toNat ∧ ab4 12 f1.toNat ≤ 8) ∧ (1 ≤ ab4 13 f1.toNat ∧ ab4 13 f1.toNat ≤ 4) ∧ x + ab4 12 f1.toNat ≤ u) from ex1) (show 0 ≤ ah1 12 f1.toNat ∧ ah1 12 f1.toNat ≤ 8 from bn1.2 12 (f1.toNat)) (show ah1 12 (f1.toNat) = ab4 12 (f1.toNat) from congrFun (fn1.2 12 rfl) (f1.toNat)) (show ab4 12 (f1.toNat) = a 12 (f1.toNat) from congrFun (fpb4.2 12 rfl) (f1.toNat)) (show 0 ≤ ah1 13 f1.toNat ∧ ah1 13 f1.toNat ≤ 4 from bn1.2 13 (f1.toNat)) (show ah1 13 (f1.toNat) = ab4 13 (f1.toNat) from congrFun (fn1.2 13 rfl) (f1.toNat)) (show ab4 13 (f1.toNat) = a 13 (f1.toNat) from congrFun (fpb4.2 13 rfl) (f1.toNat)) (fun fq5 ef1 ra8 ae7 ae8 ra9 ae9 ae10 => ?_)
          refine m_st (st2 := [.int (iI f1)]) rfl ?_
          refine m_istore (lv2 := [(6, .int (iI f1)), (5, .int (iI (ab1 20 x.toNat))), (4, .int (iI x)), (0, .ref h0), (1, .int (iI t)), (2, .int (iI q)), (3, .int (iI u))]) C dX12_setPart_83 (by decide) rfl ?_
          refine m_iload (j := 0) C dX12_setPart_85 rfl ?_
          refine m_if_ge (tgt := 159) C ⟨by omega, by omega⟩ dX12_setPart_87 (by decide) (fun c5 => ?_) (fun c5 => ?_)
          · have rv5 : 0 ≤ vh1 25 ∧ vh1 25 ≤ 208 := bn1.1 25
            have ve2 : vh1 25 = vb4 25 := fn1.1 25 rfl
            refine m_lv (lv2 := [(6, .int (iI f1)), (5, .int (iI (ab1 20 x.toNat))), (4, .int (iI x)), (0, .ref h0), (1, .int (iI t)), (2, .int (iI q)), (3, .int (iI u))]) [0, 1, 2, 3, 4, 5, 6] rfl ?_
            exact J1  f1 _ _  bn1 fq5 (by omega) (by show vh1 25 ≤ 208; omega) (h7.found (fn1.1 25 rfl) (fn1.2 24 rfl) (fn1.2 20 rfl) (fn1.2 26 rfl) (fnd.wd fpb4 rfl h7.1 tl1) (by omega))
          · refine m_aload_n (j := 3) C dX12_setPart_90 rfl ?_
            refine m_geta (k := 6) C dX12_setPart_91 w6_65 (by decide) rfl ?_
            refine m_iload_n (j := 4) C dX12_setPart_94 rfl ?_
            refine m_ald (k := 6) C dX12_setPart_95 rfl rfl (by decide) (by omega) (by show _ < ((_ : Nat) : Int); simp only [mlen]; omega) (by decide) ?_
            refine hv2 (show 0 ≤ ah1 6 t.toNat ∧ ah1 6 t.toNat ≤ 5 from bn1.2 6 (t.toNat)) (show ah1 6 (t.toNat) = ab4 6 (t.toNat) from congrFun (fn1.2 6 rfl) (t.toNat)) (fun ra10 ae11 => ?_)
            refine m_st (st2 := [.int (iI (a 6 t.toNat))]) (congrArg (fun z => Value.int (iI z) :: []) (congrFun (fq5.2 6 rfl) (t.toNat))) ?_
            refine m_iconst C dX12_setPart_96 ?_
            refine m_icmp_gt (tgt := 159) C ⟨by omega, by omega⟩ ⟨by decide, by decide⟩ dX12_setPart_97 (by decide) (fun c6 => ?_) (fun c6 => ?_)
            · have rv6 : 0 ≤ vh1 25 ∧ vh1 25 ≤ 208 := bn1.1 25
              have ve3 : vh1 25 = vb4 25 := fn1.1 25 rfl
              refine m_lv (lv2 := [(6, .int (iI f1)), (5, .int (iI (ab1 20 x.toNat))), (4, .int (iI x)), (0, .ref h0), (1, .int (iI t)), (2, .int (iI q)), (3, .int (iI u))]) [0, 1, 2, 3, 4, 5, 6] rfl ?_
              exact J1  f1 _ _  bn1 fq5 (by omega) (by show vh1 25 ≤ 208; omega) (h7.nne hT (by omega) (by omega) (fn1.1 25 rfl) (fn1.2 24 rfl) (fn1.2 20 rfl) (fn1.2 26 rfl) (fnd.wd fpb4 rfl h7.1 tl1) (by omega) (by unfold isG; omega))
            · refine m_iload (j := 1) C dX12_setPart_100 rfl ?_
              refine m_callS (As := [.int (iI (ab1 20 x.toNat))]) (rest := []) C (fun L E => s_isGreat (iI (ab1 20 x.toNat))) dX12_setPart_102 kS_X12_205 rfl rfl (Nat.le_of_ble_eq_true rfl) ⟨Nat.le_of_ble_eq_true rfl, Nat.le_of_ble_eq_true rfl⟩ ⟨Nat.le_of_ble_eq_true rfl, Nat.le_of_ble_eq_true rfl⟩ ?_
              rcases inn_c (x := ab1 20 x.toNat) (lo := 65) (hi := 90) (r32_c (lo := (-2147483648)) (hi := 2147483647) ra1.1 ra1.2 (by decide) (by decide)) ⟨by decide, by decide⟩ ⟨by decide, by decide⟩ with ⟨h2a, h2b, h2e⟩ | ⟨h2a, h2e⟩
              · refine m_st (st2 := [.int (iI 1)]) (by rw [show inn (iI (ab1 20 x.toNat)) 65 90 = iI 1 from h2e]) ?_
                refine m_if_eq (tgt := 159) C ⟨by decide, by decide⟩ dX12_setPart_105 (by decide) (fun z => absurd z (by omega)) (fun _ => ?_)
                refine m_aload_n (j := 3) C dX12_setPart_108 rfl ?_
                refine m_geta (k := 16) C dX12_setPart_109 w6_75 (by decide) rfl ?_
                refine m_iconst C dX12_setPart_112 ?_
                refine m_iload_n (j := 4) C dX12_setPart_113 rfl ?_
                refine m_imul C dX12_setPart_114 ?_
                refine m_iconst C dX12_setPart_115 ?_
                refine m_iadd C dX12_setPart_116 ?_
                refine m_ald (k := 16) C dX12_setPart_117 rfl rfl (by decide) (by omega) (by show _ < ((_ : Nat) : Int); simp only [mlen]; omega) (by decide) ?_
                refine hv3 (show 0 ≤ ah1 16 ((4 * t) + 0).toNat ∧ ah1 16 ((4 * t) + 0).toNat ≤ 4 from bn1.2 16 (((4 * t) + 0).toNat)) (show ah1 16 (((4 * t) + 0).toNat) = ab4 16 (((4 * t) + 0).toNat) from congrFun (fn1.2 16 rfl) (((4 * t) + 0).toNat)) (show ab4 16 (((4 * t) + 0).toNat) = a 16 (((4 * t) + 0).toNat) from congrFun (fpb4.2 16 rfl) (((4 * t) + 0).toNat)) (fun ra11 ae12 ae13 => ?_)
                refine m_st (st2 := [.int (iI (a 16 ((4 * t) + 0).toNat))]) (congrArg (fun z => Value.int (iI z) :: []) (congrFun (fq5.2 16 rfl) (((4 * t) + 0).toNat))) ?_
                refine m_if_le (tgt := 159) C ⟨by omega, by omega⟩ dX12_setPart_118 (by decide) (fun c7 => ?_) (fun c7 => ?_)
                · have rv7 : 0 ≤ vh1 25 ∧ vh1 25 ≤ 208 := bn1.1 25
                  have ve4 : vh1 25 = vb4 25 := fn1.1 25 rfl
                  refine m_lv (lv2 := [(6, .int (iI f1)), (5, .int (iI (ab1 20 x.toNat))), (4, .int (iI x)), (0, .ref h0), (1, .int (iI t)), (2, .int (iI q)), (3, .int (iI u))]) [0, 1, 2, 3, 4, 5, 6] rfl ?_
                  exact J1  f1 _ _  bn1 fq5 (by omega) (by show vh1 25 ≤ 208; omega) (h7.nne hT (by omega) (by omega) (fn1.1 25 rfl) (fn1.2 24 rfl) (fn1.2 20 rfl) (fn1.2 26 rfl) (fnd.wd fpb4 rfl h7.1 tl1) (by omega) (by unfold isG; omega))
                · refine m_aload_n (j := 3) C dX12_setPart_121 rfl ?_
                  refine m_iload_n (j := 4) C dX12_setPart_122 rfl ?_
                  refine m_iconst C dX12_setPart_123 ?_
                  refine hv2 (show 0 ≤ vh1 25 ∧ vh1 25 ≤ 208 from bn1.1 25) (show vh1 25 = vb4 25 from fn1.1 25 rfl) (fun rv8 ve5 => ?_)
                  refine m_call (mc2 := 0) (ms2 := 0) (As := [.int (iI t), .int (iI 0)]) (rest := []) C (E_putIndicator (t := t) (w1 := 0) bn1 (by show 0 ≤ t ∧ t < 30; omega) (by show 0 ≤ (0 : Int) ∧ (0 : Int) ≤ 3; omega) (by show (vh1 25) ≤ 204; omega)) dX12_setPart_124 kV_X12_227 rfl ck_13 rfl (Nat.le_of_ble_eq_true rfl) ⟨Nat.le_of_ble_eq_true rfl, Nat.le_of_ble_eq_true rfl⟩ ⟨Nat.le_of_ble_eq_true rfl, Nat.le_of_ble_eq_true rfl⟩ (fun rh3 vh3 ah3 h3 => ?_)
                  obtain ⟨rfl, fn2, bn2, ex2⟩ := h3
                  have fq6 := fq5.call fn2 rfl rfl
                  obtain ⟨ex2, tl2⟩ := ex2
                  refine hv6 (show 0 ≤ vh3 25 ∧ vh3 25 ≤ 208 from bn2.1 25) (show (vh3 25) = (vh1 25) + ah1 16 (4 * t + (0 : Int)).toNat from ex2) (show 0 ≤ ah3 16 (4 * t + (0 : Int)).toNat ∧ ah3 16 (4 * t + (0 : Int)).toNat ≤ 4 from bn2.2 16 ((4 * t + (0 : Int)).toNat)) (show ah3 16 ((4 * t + (0 : Int)).toNat) = ah1 16 ((4 * t + (0 : Int)).toNat) from congrFun (fn2.2 16 rfl) ((4 * t + (0 : Int)).toNat)) (show ah1 16 ((4 * t + (0 : Int)).toNat) = ab4 16 ((4 * t + (0 : Int)).toNat) from congrFun (fn1.2 16 rfl) ((4 * t + (0 : Int)).toNat)) (show ab4 16 ((4 * t + (0 : Int)).toNat) = a 16 ((4 * t + (0 : Int)).toNat) from congrFun (fpb4.2 16 rfl) ((4 * t + (0 : Int)).toNat)) (fun rv9 gf2 ra12 ae14 ae15 ae16 => ?_)
                  refine m_st (st2 := []) rfl ?_
                  refine m_aload_n (j := 3) C dX12_setPart_127 rfl ?_
                  refine m_geta (k := 20) C dX12_setPart_128 w6_79 (by decide) rfl ?_
                  refine m_iload (j := 2) C dX12_setPart_131 rfl ?_
                  refine m_iload (j := 1) C dX12_setPart_133 rfl ?_
                  refine m_bipush (z := 32) C dX12_setPart_135 (by decide) ?_
                  refine m_iadd C dX12_setPart_137 ?_
                  refine m_ast (k := 20) C dX12_setPart_138 rfl rfl (by decide) (by omega) (by show _ < ((_ : Nat) : Int); simp only [mlen]; omega) (by decide) ?_
                  refine hv2 (show BX vh3 (up2 ah3 20 x.toNat ((ab1 20 x.toNat) + 32)) from bn2.set (k := 20) (i := x.toNat) (z := (ab1 20 x.toNat) + 32) (show (-2147483648) ≤ ((ab1 20 x.toNat) + 32) ∧ ((ab1 20 x.toNat) + 32) ≤ 2147483647 by omega)) (fq6.set (k := 20) (i := x.toNat) (z := (ab1 20 x.toNat) + 32) rfl) (fun bq5 fq7 => ?_)
                  refine m_aload_n (j := 3) C dX12_setPart_139 rfl ?_
                  refine m_iload_n (j := 4) C dX12_setPart_140 rfl ?_
                  refine m_iload_n (j := 5) C dX12_setPart_141 rfl ?_
                  refine m_iload_n (j := 6) C dX12_setPart_142 rfl ?_
                  refine m_iload (j := 2) C dX12_setPart_143 rfl ?_
                  refine hv5 (show 0 ≤ ah3 6 t.toNat ∧ ah3 6 t.toNat ≤ 5 from bq5.2 6 (t.toNat)) (show ah3 6 (t.toNat) = ah1 6 (t.toNat) from congrFun (fn2.2 6 rfl) (t.toNat)) (show 0 ≤ vh3 4 ∧ vh3 4 ≤ 30 from bq5.1 4) (show vh3 4 = vh1 4 from fn2.1 4 rfl) (show vh1 4 = vb4 4 from fn1.1 4 rfl) (fun ra13 ae17 rv10 ve6 ve7 => ?_)
                  refine m_call (mc2 := 0) (ms2 := 0) (As := [.int (iI t), .int (iI q), .int (iI u), .int (iI x)]) (rest := []) C (E_find (t := t) (q := q) (u := u) (x := x) bq5 (hT.fr fq7 rfl rfl) (by show 0 ≤ t ∧ t < vh3 4; omega) (by show ah3 6 t.toNat ≤ 4; omega) (by omega)) dX12_setPart_145 kV_X12_218 rfl ck_13 rfl (Nat.le_of_ble_eq_true rfl) ⟨Nat.le_of_ble_eq_true rfl, Nat.le_of_ble_eq_true rfl⟩ ⟨Nat.le_of_ble_eq_true rfl, Nat.le_of_ble_eq_true rfl⟩ (fun rh4 vh4 ah4 h4 => ?_)
                  obtain ⟨f3, rfl, fn3, bn3, ex3, tl3⟩ := h4
                  refine hv12 (fq7.call fn3 rfl rfl) (show f3 = -1 ∨ (0 ≤ f3 ∧ f3 < 6000 ∧ (1 ≤ ah3 12 f3.toNat ∧ ah3 12 f3.toNat ≤ 8) ∧ (1 ≤ ah3 13 f3.toNat ∧ ah3 13 f3.toNat ≤ 4) ∧ x + ah3 12 f3.toNat ≤ u) from ex3) (show 0 ≤ ah4 12 f3.toNat ∧ ah4 12 f3.toNat ≤ 8 from bn3.2 12 (f3.toNat)) (show ah4 12 (f3.toNat) = ah3 12 (f3.toNat) from congrFun (fn3.2 12 rfl) (f3.toNat)) (show ah3 12 (f3.toNat) = ah1 12 (f3.toNat) from congrFun (fn2.2 12 rfl) (f3.toNat)) (show ah1 12 (f3.toNat) = ab4 12 (f3.toNat) from congrFun (fn1.2 12 rfl) (f3.toNat)) (show ab4 12 (f3.toNat) = a 12 (f3.toNat) from congrFun (fpb4.2 12 rfl) (f3.toNat)) (show 0 ≤ ah4 13 f3.toNat ∧ ah4 13 f3.toNat ≤ 4 from bn3.2 13 (f3.toNat)) (show ah4 13 (f3.toNat) = ah3 13 (f3.toNat) from congrFun (fn3.2 13 rfl) (f3.toNat)) (show ah3 13 (f3.toNat) = ah1 13 (f3.toNat) from congrFun (fn2.2 13 rfl) (f3.toNat)) (show ah1 13 (f3.toNat) = ab4 13 (f3.toNat) from congrFun (fn1.2 13 rfl) (f3.toNat)) (show ab4 13 (f3.toNat) = a 13 (f3.toNat) from congrFun (fpb4.2 13 rfl) (f3.toNat)) (fun fq8 ef3 ra14 ae18 ae19 ae20 ae21 ra15 ae22 ae23 ae24 ae25 => ?_)
                  refine m_st (st2 := [.int (iI f3)]) rfl ?_
                  refine m_istore (lv2 := [(6, .int (iI f3)), (5, .int (iI (ab1 20 x.toNat))), (4, .int (iI x)), (0, .ref h0), (1, .int (iI t)), (2, .int (iI q)), (3, .int (iI u))]) C dX12_setPart_148 (by decide) rfl ?_
                  refine m_aload_n (j := 3) C dX12_setPart_150 rfl ?_
                  refine m_geta (k := 20) C dX12_setPart_151 w6_79 (by decide) rfl ?_
                  refine m_iload (j := 2) C dX12_setPart_154 rfl ?_
                  refine m_iload (j := 1) C dX12_setPart_156 rfl ?_
                  refine m_ast (k := 20) C dX12_setPart_158 rfl rfl (by decide) (by omega) (by show _ < ((_ : Nat) : Int); simp only [mlen]; omega) (by decide) ?_
                  refine hv3 (show BX vh4 (up2 ah4 20 x.toNat (ab1 20 x.toNat)) from bn3.set (k := 20) (i := x.toNat) (z := ab1 20 x.toNat) (show (-2147483648) ≤ (ab1 20 x.toNat) ∧ (ab1 20 x.toNat) ≤ 2147483647 by omega)) (fq8.set (k := 20) (i := x.toNat) (z := ab1 20 x.toNat) rfl) (show vh4 25 = vh3 25 from fn3.1 25 rfl) (fun bq6 fq9 ve8 => ?_)
                  have rv11 : 0 ≤ vh4 25 ∧ vh4 25 ≤ 208 := bq6.1 25
                  refine m_lv (lv2 := [(6, .int (iI f3)), (5, .int (iI (ab1 20 x.toNat))), (4, .int (iI x)), (0, .ref h0), (1, .int (iI t)), (2, .int (iI q)), (3, .int (iI u))]) [0, 1, 2, 3, 4, 5, 6] rfl ?_
                  exact J1  f3 _ _  bq6 fq9 (by omega) (by show vh4 25 ≤ 208; omega) (h7.cap hT (by omega) (by omega) (fun l hl => by have q1 := tl2 l (hl.fr (fn1.1 25 rfl) (fn1.2 24 rfl)); rw [ICL_cg (fq5.2 16 rfl) (fq5.2 17 rfl)] at q1; exact q1.fr (fn3.1 25 rfl) ((funext fun _ => up2_k (by decide)).trans ((fn3.2 24 rfl).trans (funext fun _ => up2_k (by decide))))) (upb ((fn3.2 20 rfl).trans (upw ((fn2.2 20 rfl).trans ((fn1.2 20 rfl).trans h7.1)))) (by omega)) ((funext fun _ => up2_k (by decide)).trans ((fn3.2 26 rfl).trans ((funext fun _ => up2_k (by decide)).trans ((fn2.2 26 rfl).trans (fn1.2 26 rfl))))) (fnd.wd fpb4 rfl h7.1 tl1) (by omega) ⟨by omega, (by unfold isG; omega), by omega⟩ (fnd.wd fq7 rfl ((upw ((fn2.2 20 rfl).trans ((fn1.2 20 rfl).trans h7.1))).trans (congrArg (va_up (a 20) x.toNat) (show (ab1 20 x.toNat) + 32 = a 20 x.toNat + 32 by omega))) tl3))
              · refine m_st (st2 := [.int (iI 0)]) (by rw [show inn (iI (ab1 20 x.toNat)) 65 90 = iI 0 from h2e]) ?_
                refine m_if_eq (tgt := 159) C ⟨by decide, by decide⟩ dX12_setPart_105 (by decide) (fun _ => ?_) (fun z => absurd z (by omega))
                refine hv2 (show 0 ≤ vh1 25 ∧ vh1 25 ≤ 208 from bn1.1 25) (show vh1 25 = vb4 25 from fn1.1 25 rfl) (fun rv12 ve9 => ?_)
                refine m_lv (lv2 := [(6, .int (iI f1)), (5, .int (iI (ab1 20 x.toNat))), (4, .int (iI x)), (0, .ref h0), (1, .int (iI t)), (2, .int (iI q)), (3, .int (iI u))]) [0, 1, 2, 3, 4, 5, 6] rfl ?_
                exact J1  f1 _ _  bn1 fq5 (by omega) (by show vh1 25 ≤ 208; omega) (h7.nne hT (by omega) (by omega) (fn1.1 25 rfl) (fn1.2 24 rfl) (fn1.2 20 rfl) (fn1.2 26 rfl) (fnd.wd fpb4 rfl h7.1 tl1) (by omega) (by unfold isG; omega))
        refine m_aload_n (j := 2) C dX12_setPart_18 rfl ?_
        refine m_geta (k := 26) C dX12_setPart_19 w6_85 (by decide) rfl ?_
        refine m_iload (j := 1) C dX12_setPart_22 rfl ?_
        refine m_aload_n (j := 2) C dX12_setPart_24 rfl ?_
        have rv13 : 0 ≤ vb1 25 ∧ vb1 25 ≤ 208 := bxb1.1 25
        refine m_get (k := 25) C dX12_setPart_25 w6_84 (by decide) rfl ?_
        refine m_ast (k := 26) C dX12_setPart_28 rfl rfl (by decide) (by omega) (by show _ < ((_ : Nat) : Int); simp only [mlen]; omega) (by decide) ?_
        refine hv2 (show BX vb1 (up2 ab1 26 x.toNat (vb1 25)) from bxb1.set (k := 26) (i := x.toNat) (z := vb1 25) (show (-1) ≤ (vb1 25) ∧ (vb1 25) ≤ 208 by omega)) (fpb1.set (k := 26) (i := x.toNat) (z := vb1 25) rfl) (fun bq7 fq10 => ?_)
        refine m_aload_n (j := 2) C dX12_setPart_29 rfl ?_
        refine m_geta (k := 6) C dX12_setPart_30 w6_65 (by decide) rfl ?_
        refine m_iload_n (j := 3) C dX12_setPart_33 rfl ?_
        refine m_ald (k := 6) C dX12_setPart_34 rfl rfl (by decide) (by omega) (by show _ < ((_ : Nat) : Int); simp only [mlen]; omega) (by decide) ?_
        refine hv2 (show 0 ≤ ab1 6 t.toNat ∧ ab1 6 t.toNat ≤ 5 from bq7.2 6 (t.toNat)) (show ab1 6 (t.toNat) = a 6 (t.toNat) from congrFun (fpb1.2 6 rfl) (t.toNat)) (fun ra16 ae26 => ?_)
        refine m_st (st2 := [.int (iI (a 6 t.toNat))]) (congrArg (fun z => Value.int (iI z) :: []) (congrFun (fq10.2 6 rfl) (t.toNat))) ?_
        refine m_iconst C dX12_setPart_35 ?_
        refine m_icmp_ne (tgt := 74) C ⟨by omega, by omega⟩ ⟨by decide, by decide⟩ dX12_setPart_36 (by decide) (fun c8 => ?_) (fun c8 => ?_)
        · refine m_lv (lv2 := [(5, .int (iI (ab1 20 x.toNat))), (4, .int (iI x)), (0, .ref h0), (1, .int (iI t)), (2, .int (iI q)), (3, .int (iI u))]) [0, 1, 2, 3, 4, 5] rfl ?_
          exact J2   _ _  bq7 fq10 (by show vb1 25 ≤ 204; omega) (hI.begin rfl (funext fun _ => up2_k (by decide)) (funext fun _ => up2_k (by decide)) (fun i => by unfold up2; rw [if_pos rfl]) (by unfold nbl isD; rw [if_neg (by omega)]))
        · refine m_iload (j := 0) C dX12_setPart_39 rfl ?_
          refine m_callS (As := [.int (iI (ab1 20 x.toNat))]) (rest := []) C (fun L E => s_isDigit (iI (ab1 20 x.toNat))) dX12_setPart_41 kS_X12_202 rfl rfl (Nat.le_of_ble_eq_true rfl) ⟨Nat.le_of_ble_eq_true rfl, Nat.le_of_ble_eq_true rfl⟩ ⟨Nat.le_of_ble_eq_true rfl, Nat.le_of_ble_eq_true rfl⟩ ?_
          rcases inn_c (x := ab1 20 x.toNat) (lo := 48) (hi := 57) (r32_c (lo := (-2147483648)) (hi := 2147483647) ra1.1 ra1.2 (by decide) (by decide)) ⟨by decide, by decide⟩ ⟨by decide, by decide⟩ with ⟨h5a, h5b, h5e⟩ | ⟨h5a, h5e⟩
          · refine m_st (st2 := [.int (iI 1)]) (by rw [show inn (iI (ab1 20 x.toNat)) 48 57 = iI 1 from h5e]) ?_
            refine m_if_eq (tgt := 74) C ⟨by decide, by decide⟩ dX12_setPart_44 (by decide) (fun z => absurd z (by omega)) (fun _ => ?_)
            refine m_iload (j := 1) C dX12_setPart_47 rfl ?_
            refine m_iload_n (j := 4) C dX12_setPart_49 rfl ?_
            refine m_icmp_eq (tgt := 68) C ⟨by omega, by omega⟩ ⟨by omega, by omega⟩ dX12_setPart_50 (by decide) (fun c9 => ?_) (fun c9 => ?_)
            · refine m_aload_n (j := 2) C dX12_setPart_68 rfl ?_
              refine m_iload_n (j := 3) C dX12_setPart_69 rfl ?_
              refine m_iconst C dX12_setPart_70 ?_
              refine m_call (mc2 := 0) (ms2 := 0) (As := [.int (iI t), .int (iI 1)]) (rest := []) C (E_putIndicator (t := t) (w1 := 1) bq7 (by show 0 ≤ t ∧ t < 30; omega) (by show 0 ≤ (1 : Int) ∧ (1 : Int) ≤ 3; omega) (by show (vb1 25) ≤ 204; omega)) dX12_setPart_71 kV_X12_227 rfl ck_13 rfl (Nat.le_of_ble_eq_true rfl) ⟨Nat.le_of_ble_eq_true rfl, Nat.le_of_ble_eq_true rfl⟩ ⟨Nat.le_of_ble_eq_true rfl, Nat.le_of_ble_eq_true rfl⟩ (fun rh6 vh6 ah6 h6 => ?_)
              obtain ⟨rfl, fn4, bn4, ex4⟩ := h6
              have fq11 := fq10.call fn4 rfl rfl
              obtain ⟨ex4, tl4⟩ := ex4
              refine hv5 (show 0 ≤ vh6 25 ∧ vh6 25 ≤ 208 from bn4.1 25) (show (vh6 25) = (vb1 25) + ab1 16 (4 * t + (1 : Int)).toNat from ex4) (show 0 ≤ ah6 16 (4 * t + (1 : Int)).toNat ∧ ah6 16 (4 * t + (1 : Int)).toNat ≤ 4 from bn4.2 16 ((4 * t + (1 : Int)).toNat)) (show ah6 16 ((4 * t + (1 : Int)).toNat) = ab1 16 ((4 * t + (1 : Int)).toNat) from congrFun (fn4.2 16 rfl) ((4 * t + (1 : Int)).toNat)) (show ab1 16 ((4 * t + (1 : Int)).toNat) = a 16 ((4 * t + (1 : Int)).toNat) from congrFun (fpb1.2 16 rfl) ((4 * t + (1 : Int)).toNat)) (fun rv14 gf4 ra17 ae27 ae28 => ?_)
              refine m_st (st2 := []) rfl ?_
              refine m_lv (lv2 := [(5, .int (iI (ab1 20 x.toNat))), (4, .int (iI x)), (0, .ref h0), (1, .int (iI t)), (2, .int (iI q)), (3, .int (iI u))]) [0, 1, 2, 3, 4, 5] rfl ?_
              exact J2   _ _  bn4 fq11 (by show vh6 25 ≤ 204; omega) (hI.num (funext fun _ => up2_k (by decide)) tl4 (fq10.2 16 rfl) (fq10.2 17 rfl) ((fn4.2 20 rfl).trans (funext fun _ => up2_k (by decide))) (fun i => by rw [fn4.2 26 rfl]; unfold up2; rw [if_pos rfl]) (by unfold nbl isD; rw [if_pos (by omega)]))
            · refine m_aload_n (j := 2) C dX12_setPart_53 rfl ?_
              refine m_geta (k := 20) C dX12_setPart_54 w6_79 (by decide) rfl ?_
              refine m_iload (j := 1) C dX12_setPart_57 rfl ?_
              refine m_iconst C dX12_setPart_59 ?_
              refine m_isub C dX12_setPart_60 ?_
              refine m_ald (k := 20) C dX12_setPart_61 rfl rfl (by decide) (by omega) (by show _ < ((_ : Nat) : Int); simp only [mlen]; omega) (by decide) ?_
              have ra18 : (-2147483648) ≤ ab1 20 (x - 1).toNat ∧ ab1 20 (x - 1).toNat ≤ 2147483647 := bq7.2 20 ((x - 1).toNat)
              refine m_st (st2 := [.int (iI (ab1 20 (x - 1).toNat))]) rfl ?_
              refine m_callS (As := [.int (iI (ab1 20 (x - 1).toNat))]) (rest := []) C (fun L E => s_isDigit (iI (ab1 20 (x - 1).toNat))) dX12_setPart_62 kS_X12_202 rfl rfl (Nat.le_of_ble_eq_true rfl) ⟨Nat.le_of_ble_eq_true rfl, Nat.le_of_ble_eq_true rfl⟩ ⟨Nat.le_of_ble_eq_true rfl, Nat.le_of_ble_eq_true rfl⟩ ?_
              rcases inn_c (x := ab1 20 (x - 1).toNat) (lo := 48) (hi := 57) (r32_c (lo := (-2147483648)) (hi := 2147483647) ra18.1 ra18.2 (by decide) (by decide)) ⟨by decide, by decide⟩ ⟨by decide, by decide⟩ with ⟨h8a, h8b, h8e⟩ | ⟨h8a, h8e⟩
              · refine m_st (st2 := [.int (iI 1)]) (by rw [show inn (iI (ab1 20 (x - 1).toNat)) 48 57 = iI 1 from h8e]) ?_
                refine m_if_ne (tgt := 74) C ⟨by decide, by decide⟩ dX12_setPart_65 (by decide) (fun _ => ?_) (fun z => absurd z (by omega))
                refine m_lv (lv2 := [(5, .int (iI (ab1 20 x.toNat))), (4, .int (iI x)), (0, .ref h0), (1, .int (iI t)), (2, .int (iI q)), (3, .int (iI u))]) [0, 1, 2, 3, 4, 5] rfl ?_
                exact J2   _ _  bq7 fq10 (by show vb1 25 ≤ 204; omega) (hI.begin rfl (funext fun _ => up2_k (by decide)) (funext fun _ => up2_k (by decide)) (fun i => by unfold up2; rw [if_pos rfl]) (by unfold nbl isD; rw [if_neg (by omega)]))
              · refine m_st (st2 := [.int (iI 0)]) (by rw [show inn (iI (ab1 20 (x - 1).toNat)) 48 57 = iI 0 from h8e]) ?_
                refine m_if_ne (tgt := 74) C ⟨by decide, by decide⟩ dX12_setPart_65 (by decide) (fun z => absurd z (by omega)) (fun _ => ?_)
                refine m_aload_n (j := 2) C dX12_setPart_68 rfl ?_
                refine m_iload_n (j := 3) C dX12_setPart_69 rfl ?_
                refine m_iconst C dX12_setPart_70 ?_
                refine m_call (mc2 := 0) (ms2 := 0) (As := [.int (iI t), .int (iI 1)]) (rest := []) C (E_putIndicator (t := t) (w1 := 1) bq7 (by show 0 ≤ t ∧ t < 30; omega) (by show 0 ≤ (1 : Int) ∧ (1 : Int) ≤ 3; omega) (by show (vb1 25) ≤ 204; omega)) dX12_setPart_71 kV_X12_227 rfl ck_13 rfl (Nat.le_of_ble_eq_true rfl) ⟨Nat.le_of_ble_eq_true rfl, Nat.le_of_ble_eq_true rfl⟩ ⟨Nat.le_of_ble_eq_true rfl, Nat.le_of_ble_eq_true rfl⟩ (fun rh9 vh9 ah9 h9 => ?_)
                obtain ⟨rfl, fn5, bn5, ex5⟩ := h9
                have fq12 := fq10.call fn5 rfl rfl
                obtain ⟨ex5, tl5⟩ := ex5
                refine hv5 (show 0 ≤ vh9 25 ∧ vh9 25 ≤ 208 from bn5.1 25) (show (vh9 25) = (vb1 25) + ab1 16 (4 * t + (1 : Int)).toNat from ex5) (show 0 ≤ ah9 16 (4 * t + (1 : Int)).toNat ∧ ah9 16 (4 * t + (1 : Int)).toNat ≤ 4 from bn5.2 16 ((4 * t + (1 : Int)).toNat)) (show ah9 16 ((4 * t + (1 : Int)).toNat) = ab1 16 ((4 * t + (1 : Int)).toNat) from congrFun (fn5.2 16 rfl) ((4 * t + (1 : Int)).toNat)) (show ab1 16 ((4 * t + (1 : Int)).toNat) = a 16 ((4 * t + (1 : Int)).toNat) from congrFun (fpb1.2 16 rfl) ((4 * t + (1 : Int)).toNat)) (fun rv15 gf5 ra19 ae29 ae30 => ?_)
                refine m_st (st2 := []) rfl ?_
                refine m_lv (lv2 := [(5, .int (iI (ab1 20 x.toNat))), (4, .int (iI x)), (0, .ref h0), (1, .int (iI t)), (2, .int (iI q)), (3, .int (iI u))]) [0, 1, 2, 3, 4, 5] rfl ?_
                exact J2   _ _  bn5 fq12 (by show vh9 25 ≤ 204; omega) (hI.num (funext fun _ => up2_k (by decide)) tl5 (fq10.2 16 rfl) (fq10.2 17 rfl) ((fn5.2 20 rfl).trans (funext fun _ => up2_k (by decide))) (fun i => by rw [fn5.2 26 rfl]; unfold up2; rw [if_pos rfl]) (by unfold nbl isD; rw [if_pos (by omega)]))
          · refine m_st (st2 := [.int (iI 0)]) (by rw [show inn (iI (ab1 20 x.toNat)) 48 57 = iI 0 from h5e]) ?_
            refine m_if_eq (tgt := 74) C ⟨by decide, by decide⟩ dX12_setPart_44 (by decide) (fun _ => ?_) (fun z => absurd z (by omega))
            refine m_lv (lv2 := [(5, .int (iI (ab1 20 x.toNat))), (4, .int (iI x)), (0, .ref h0), (1, .int (iI t)), (2, .int (iI q)), (3, .int (iI u))]) [0, 1, 2, 3, 4, 5] rfl ?_
            exact J2   _ _  bq7 fq10 (by show vb1 25 ≤ 204; omega) (hI.begin rfl (funext fun _ => up2_k (by decide)) (funext fun _ => up2_k (by decide)) (fun i => by unfold up2; rw [if_pos rfl]) (by unfold nbl isD; rw [if_neg (by omega)]))
  have rv16 : 0 ≤ v 25 ∧ v 25 ≤ 208 := hB.1 25
  refine m_lv (lv2 := [(4, .int (iI q)), (0, .ref h0), (1, .int (iI t)), (2, .int (iI q)), (3, .int (iI u))]) [0, 1, 2, 3, 4] rfl ?_
  exact Lp1 502 q _ _ (by omega) hB fp0 (by omega) (by show (v 25) ≤ 200; omega) SP3.init
