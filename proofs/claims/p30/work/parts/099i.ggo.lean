section
def KLQ (v : Nat → Int) (a : Nat → Nat → Int) (K : List (List Int)) : Prop := v 60 = ((K.length : Nat) : Int) ∧ ∀ (k : Nat) (w : List Int), K[k]? = some w → a 59 k = ((w.length : Nat) : Int) ∧ w.length ≤ 808 ∧ ∀ (j : Nat) (x : Int), w[j]? = some x → a 58 (808 * k + j) = x
def KPS (v : Nat → Int) (a : Nat → Nat → Int) (Z : List (List Int)) : Prop := ∃ K, KMQ (v 64).toNat Z K (v 61) ∧ KLQ v a K
def H62 (a : Nat → Nat → Int) (w : List Int) : Prop := ∀ (j : Nat) (x : Int), w[j]? = some x → a 62 j = x
def NWQ (v : Nat → Int) (a : Nat → Nat → Int) (w : List Int) : Prop := v 63 = ((w.length : Nat) : Int) ∧ H62 a w
def KEX (v : Nat → Int) (a : Nat → Nat → Int) (v1 : Nat → Int) (a1 : Nat → Nat → Int) : Prop := ∀ w Z, NWQ v a w → KPS v a Z → v 61 ≠ 1 → KPS v1 a1 (Z ++ [w])
def KCI (v : Nat → Int) (a a1 : Nat → Nat → Int) (k : Int) : Prop := (∀ j : Nat, ((j : Nat) : Int) < k → a1 58 (808 * (v 60).toNat + j) = a 62 j) ∧ ∀ i : Nat, i < 808 * (v 60).toNat → a1 58 i = a 58 i
def GFR (v : Nat → Int) (a : Nat → Nat → Int) (v1 : Nat → Int) (a1 : Nat → Nat → Int) : Prop := (v1 50 = v 50 ∧ v1 56 = v 56 ∧ v1 64 = v 64) ∧ (a1 12 = a 12 ∧ a1 14 = a 14 ∧ a1 15 = a 15 ∧ a1 17 = a 17) ∧ (a1 44 = a 44 ∧ a1 45 = a 45 ∧ a1 46 = a 46 ∧ a1 47 = a 47 ∧ a1 48 = a 48 ∧ a1 57 = a 57)
def GEX (v : Nat → Int) (a : Nat → Nat → Int) (v1 : Nat → Int) (a1 : Nat → Nat → Int) (x pt g : Int) : Prop := ∀ a0 l0 l1 C w Z, GCX a0 v a l0 l1 C → CNP a0 v a l0 l1 C (-1) → NWQ v a w → KPS v a Z → (x = v 50 → g ≠ 1) → NWQ v1 a1 w ∧ KPS v1 a1 (Z ++ pxs w (RDC a0 l0 l1 C (fsn (v 56)) (v 50) x pt g))
def GI (v : Nat → Int) (a : Nat → Nat → Int) (v1 : Nat → Int) (a1 : Nat → Nat → Int) (x pt g i : Int) : Prop := ∀ a0 l0 l1 C w Z, GCX a0 v a l0 l1 C → CNP a0 v a l0 l1 C (-1) → NWQ v a w → KPS v a Z → (x = v 50 → g ≠ 1) → NWQ v1 a1 w ∧ KPS v1 a1 (Z ++ pxs w (fmp (RCO a0 l0 l1 C (fsn (v 56)) (v 50) x pt g) ((chs l0 l1 pt).take i.toNat)))
def G131 (v : Nat → Int) (a : Nat → Nat → Int) (v1 : Nat → Int) (a1 : Nat → Nat → Int) (x pt g r k : Int) : Prop := ∀ a0 l0 l1 C w Z, GCX a0 v a l0 l1 C → CNP a0 v a l0 l1 C (-1) → NWQ v a w → KPS v a Z → (x = v 50 → g ≠ 1) → ∃ d, ((if pt = 0 then l0 else l1)[(r - 6008 * pt).toNat]? = some d ∧ rent a0 a1 r d ∧ MYR a0 C (fsn (v 56)) (v 50) d x g ∧ RDC a0 l0 l1 C (fsn (v 56)) (v 50) (x + rlen a0 d) (ngp d pt) (ngh d) ≠ []) ∧ (v1 63 = ((w.length : Nat) : Int) ∧ H62 a1 (w ++ (if 0 ≤ d then rlt a0 d g k.toNat else []))) ∧ KPS v1 a1 (Z ++ pxs w (fmp (RCO a0 l0 l1 C (fsn (v 56)) (v 50) x pt g) ((chs l0 l1 pt).take (r - 6008 * pt + 1).toNat)))
def G195 (v : Nat → Int) (a : Nat → Nat → Int) (v1 : Nat → Int) (a1 : Nat → Nat → Int) (x pt g r : Int) : Prop := ∀ a0 l0 l1 C w Z, GCX a0 v a l0 l1 C → CNP a0 v a l0 l1 C (-1) → NWQ v a w → KPS v a Z → (x = v 50 → g ≠ 1) → ∃ d, ((if pt = 0 then l0 else l1)[(r - 6008 * pt).toNat]? = some d ∧ rent a0 a1 r d ∧ MYR a0 C (fsn (v 56)) (v 50) d x g ∧ RDC a0 l0 l1 C (fsn (v 56)) (v 50) (x + rlen a0 d) (ngp d pt) (ngh d) ≠ []) ∧ (v1 63 = ((w.length : Nat) : Int) ∧ H62 a1 (w ++ (if 0 ≤ d then rout a0 d g else []))) ∧ KPS v1 a1 (Z ++ pxs w (fmp (RCO a0 l0 l1 C (fsn (v 56)) (v 50) x pt g) ((chs l0 l1 pt).take (r - 6008 * pt + 1).toNat)))
def G220 (v : Nat → Int) (a : Nat → Nat → Int) (v1 : Nat → Int) (a1 : Nat → Nat → Int) (x pt g r : Int) : Prop := ∀ a0 l0 l1 C w Z, GCX a0 v a l0 l1 C → CNP a0 v a l0 l1 C (-1) → NWQ v a w → KPS v a Z → (x = v 50 → g ≠ 1) → ∃ d, ((if pt = 0 then l0 else l1)[(r - 6008 * pt).toNat]? = some d ∧ rent a0 a1 r d ∧ MYR a0 C (fsn (v 56)) (v 50) d x g ∧ RDC a0 l0 l1 C (fsn (v 56)) (v 50) (x + rlen a0 d) (ngp d pt) (ngh d) ≠ []) ∧ NWQ v1 a1 (w ++ (if 0 ≤ d then rout a0 d g else [])) ∧ KPS v1 a1 (Z ++ pxs w (fmp (RCO a0 l0 l1 C (fsn (v 56)) (v 50) x pt g) ((chs l0 l1 pt).take (r - 6008 * pt + 1).toNat)))
def G267 (v : Nat → Int) (a : Nat → Nat → Int) (v1 : Nat → Int) (a1 : Nat → Nat → Int) (x pt g r : Int) : Prop := ∀ a0 l0 l1 C w Z, GCX a0 v a l0 l1 C → CNP a0 v a l0 l1 C (-1) → NWQ v a w → KPS v a Z → (x = v 50 → g ≠ 1) → ∃ d, ((if pt = 0 then l0 else l1)[(r - 6008 * pt).toNat]? = some d ∧ rent a0 a1 r d ∧ MYR a0 C (fsn (v 56)) (v 50) d x g ∧ RDC a0 l0 l1 C (fsn (v 56)) (v 50) (x + rlen a0 d) (ngp d pt) (ngh d) ≠ []) ∧ NWQ v1 a1 (w ++ rout a0 d g) ∧ KPS v1 a1 (Z ++ pxs w (fmp (RCO a0 l0 l1 C (fsn (v 56)) (v 50) x pt g) ((chs l0 l1 pt).take (r - 6008 * pt + 1).toNat)))
section GGOS
variable {v v1 v2 v3 v4 : Nat → Int} {a a0 a1 a2 a3 a4 : Nat → Nat → Int} {l0 l1 : List Int} {C : Nat → Int} {x y k g h f pt r d z i j nx cp : Int} {V A : List Nat} {Z K : List (List Int)} {w u : List Int}
theorem fmp_app {q : Option Int → List (List Int)} : ∀ l m : List (Option Int), fmp q (l ++ m) = fmp q l ++ fmp q m := by
  intro l m
  induction l with
  | nil => rfl
  | cons o l ih =>
    show q o ++ fmp q (l ++ m) = q o ++ fmp q l ++ fmp q m
    rw [ih, List.append_assoc]
theorem fmp_sp {q : Option Int → List (List Int)} {l : List (Option Int)} {n : Nat} : fmp q l = fmp q (l.take n) ++ fmp q (l.drop n) := by
  rw [← fmp_app, List.take_append_drop]
theorem rent.f3 (hr : rent a a1 r d) (h44 : a2 44 = a1 44) (h45 : a2 45 = a1 45) (h46 : a2 46 = a1 46) : rent a a2 r d := by
  unfold rent at hr ⊢
  rw [h44, h45, h46]
  exact hr
theorem KPS.cg (hk : KPS v a Z) (e60 : v1 60 = v 60) (e61 : v1 61 = v 61) (e64 : v1 64 = v 64) (e58 : a1 58 = a 58) (e59 : a1 59 = a 59) : KPS v1 a1 Z := by
  obtain ⟨K, k1, k2, k3⟩ := hk
  exact ⟨K, by rw [e61, e64]; exact k1, e60.trans k2, fun k w e => by rw [e58, e59]; exact k3 k w e⟩
theorem KPS.more {Y : List (List Int)} (hk : KPS v a Z) (hm : v 61 ≠ 0) : KPS v a (Z ++ Y) := by
  obtain ⟨K, k1, k2⟩ := hk
  have e : v 61 = 1 := by
    rcases k1.2 with ⟨q, _⟩ | ⟨q, _⟩
    · exact q
    · exact absurd q hm
  exact ⟨K, k1.more e, k2⟩
theorem NWQ.snoc (hn : NWQ v a w) (e63 : v1 63 = v 63 + 1) (e62 : a1 62 = va_up (a 62) (v 63).toNat x) : NWQ v1 a1 (w ++ [x]) := by
  have e := hn.1
  refine ⟨by rw [len1]; omega, fun j y ej => ?_⟩
  rw [e62]
  rcases ap1 ej with ⟨c, ej⟩ | ⟨c, ej⟩
  · rw [va_up_ne _ _ (by omega)]
    exact hn.2 j y ej
  · rw [show j = (v 63).toNat by omega, va_up_self]
    exact ej
theorem H62.pre (hh : H62 a (w ++ u)) : H62 a w := fun j y e => hh j y (by rw [List.getElem?_append_left (gl3 e)]; exact e)
theorem NWQ.cg (hn : NWQ v a w) (e63 : v1 63 = v 63) (e62 : a1 62 = a 62) : NWQ v1 a1 w := ⟨e63.trans hn.1, fun j y e => by rw [e62]; exact hn.2 j y e⟩
theorem KCI.zero : KCI v a a 0 := ⟨fun j hj => absurd hj (by omega), fun _ _ => rfl⟩
theorem KCI.step (hk : KCI v a a1 k) (h0 : 0 ≤ k) (hv : 0 ≤ v 60) (e : a2 58 = va_up (a1 58) z.toNat y) (hz : z = 808 * v 60 + k) (hy : y = a 62 k.toNat) : KCI v a a2 (k + 1) := ⟨fun j hj => by
  rw [e]
  by_cases c : ((j : Nat) : Int) < k
  · rw [va_up_ne _ _ (by omega)]
    exact hk.1 j c
  · rw [show 808 * (v 60).toNat + j = z.toNat by omega, va_up_self, hy, show j = k.toNat by omega], fun i hi => by
  rw [e, va_up_ne _ _ (by omega)]
  exact hk.2 i hi⟩
theorem KEX.full (he : v 60 = v 64) (e60 : v1 60 = v 60) (e61 : v1 61 = 1) (e64 : v1 64 = v 64) (e58 : a1 58 = a 58) (e59 : a1 59 = a 59) : KEX v a v1 a1 := fun w Z hw hk hn => by
  obtain ⟨K, k1, k2, k3⟩ := hk
  refine ⟨K, ?_, e60.trans k2, fun k w e => by rw [e58, e59]; exact k3 k w e⟩
  rw [e61, e64]
  exact k1.full hn (by omega)
theorem KEX.put (hk : KCI v a a1 k) (hk2 : v 63 ≤ k) (h808 : v 63 ≤ 808) (h60 : 0 ≤ v 60 ∧ v 60 < v 64) (e60 : v2 60 = v 60 + 1) (e61 : v2 61 = v 61) (e64 : v2 64 = v 64) (e58 : a2 58 = a1 58) (e59 : a2 59 = va_up (a 59) (v 60).toNat z) (hz : z = v 63) : KEX v a v2 a2 := fun w Z hw hq hn => by
  obtain ⟨K, k1, k2, k3⟩ := hq
  have lw := hw.1
  refine ⟨K ++ [w], ?_, by rw [List.length_append]; show v2 60 = ((K.length + 1 : Nat) : Int); omega, fun i u e => ?_⟩
  · have q := k1.push (w := w) hn (by omega)
    rw [e61, e64, show v 61 = 0 by
      rcases k1.2 with ⟨q, _⟩ | ⟨q, _⟩
      · exact absurd q hn
      · exact q]
    exact q
  · rw [e58, e59]
    by_cases c : i < K.length
    · rw [List.getElem?_append_left c] at e
      obtain ⟨g1, g2, g3⟩ := k3 i u e
      refine ⟨by rw [va_up_ne _ _ (by omega)]; exact g1, g2, fun j y ej => ?_⟩
      have lt := gl3 ej
      rw [hk.2 _ (by omega)]
      exact g3 j y ej
    · rw [List.getElem?_append_right (by omega)] at e
      have c2 : i - K.length = 0 := by
        have := gl3 e
        have l1 : ([w] : List (List Int)).length = 1 := rfl
        omega
      rw [c2] at e
      have e2 : some w = some u := e
      cases e2
      have ci : i = (v 60).toNat := by omega
      refine ⟨by rw [ci, va_up_self, hz]; exact lw, by omega, fun j y ej => ?_⟩
      have lt := gl3 ej
      rw [ci, hk.1 j (by omega)]
      exact hw.2 j y ej
theorem GFR.fr (hf : fr V A v a v1 a1) (hV : ([50, 56, 64] : List Nat).all (fun k => !V.contains k) = true) (hA : ([12, 14, 15, 17, 44, 45, 46, 47, 48, 57] : List Nat).all (fun k => !A.contains k) = true) : GFR v a v1 a1 := by
  have kv : ∀ j, ([50, 56, 64] : List Nat).contains j = true → v1 j = v j := fun j hj => hf.1 j (by
    have w := List.all_eq_true.mp hV j (List.contains_iff_mem.mp hj)
    simpa using w)
  have ka : ∀ j, ([12, 14, 15, 17, 44, 45, 46, 47, 48, 57] : List Nat).contains j = true → a1 j = a j := fun j hj => hf.2 j (by
    have w := List.all_eq_true.mp hA j (List.contains_iff_mem.mp hj)
    simpa using w)
  exact ⟨⟨kv 50 rfl, kv 56 rfl, kv 64 rfl⟩, ⟨ka 12 rfl, ka 14 rfl, ka 15 rfl, ka 17 rfl⟩, ka 44 rfl, ka 45 rfl, ka 46 rfl, ka 47 rfl, ka 48 rfl, ka 57 rfl⟩
theorem GCX.gf (hc : GCX a0 v a l0 l1 C) (hf : GFR v a v1 a1) : GCX a0 v1 a1 l0 l1 C := by
  obtain ⟨⟨f1, _, _⟩, ⟨f2, f3, f4, f5⟩, f6, f7, f8, f9, f10, _⟩ := hf
  exact hc.cg f1 f6 f7 f8 f9 f2 f3 f4 f5 f10
theorem CNP.gf (hc : CNP a0 v a l0 l1 C x) (hf : GFR v a v1 a1) : CNP a0 v1 a1 l0 l1 C x := hc.cg hf.1.1 hf.1.2.1 hf.2.2.2.2.2.2.2
theorem CNP.le (hc : CNP a0 v a l0 l1 C y) (h : y ≤ x) : CNP a0 v a l0 l1 C x := fun p g h q1 q2 q3 q4 => hc p g h (by omega) q2 q3 q4
theorem GEX.more (hm : v 61 = 1) : GEX v a v a x pt g := fun a0 l0 l1 C w Z _ _ hw hk _ => ⟨hw, hk.more (by omega)⟩
theorem GEX.keep (hx : x = v 50) (hm : v 61 ≠ 1) (hk : KEX v a v1 a1) (e63 : v1 63 = v 63) (e62 : a1 62 = a 62) : GEX v a v1 a1 x pt g := fun a0 l0 l1 C w Z _ _ hw hq hg => by
  refine ⟨hw.cg e63 e62, ?_⟩
  rw [RDC_end hx, if_neg (hg hx)]
  have e : pxs w [[]] = [w] := by
    show [w ++ []] = [w]
    rw [List.append_nil]
  rw [e]
  exact hk w Z hw hq hm
theorem GI.init : GI v a v a x pt g 0 := fun a0 l0 l1 C w Z _ _ hw hk _ => ⟨hw, by
  show KPS v a (Z ++ [])
  rw [List.append_nil]
  exact hk⟩
theorem GI.add {o : Option Int} (h0 : 0 ≤ i) (e : (chs l0 l1 pt)[i.toNat]? = some o) : fmp (RCO a0 l0 l1 C (fsn (v 56)) (v 50) x pt g) ((chs l0 l1 pt).take (i + 1).toNat) = fmp (RCO a0 l0 l1 C (fsn (v 56)) (v 50) x pt g) ((chs l0 l1 pt).take i.toNat) ++ RCO a0 l0 l1 C (fsn (v 56)) (v 50) x pt g o := by
  rw [show (i + 1).toNat = i.toNat + 1 by omega]
  exact fmp_tk _ _ e
theorem GI.nob (hI : GI v a v1 a1 x pt g 0) (hF : GFR v a v1 a1) (hm : MBY v1 a1 x g f) (hf : f = 0) (hx : 0 ≤ x ∧ x < v 50) : GI v a v1 a1 x pt g 1 := fun a0 l0 l1 C w Z hc hn hw hk hg => by
  obtain ⟨n1, k1⟩ := hI a0 l0 l1 C w Z hc hn hw hk hg
  have s := hm.sem (hc.gf hF) ((hn.gf hF).le (by omega)) ⟨hx.1, by rw [hF.1.1]; exact hx.2⟩
  rw [hF.1.1, hF.1.2.1] at s
  refine ⟨n1, ?_⟩
  have e := GI.add (a0 := a0) (l0 := l0) (l1 := l1) (C := C) (v := v) (x := x) (g := g) (pt := pt) (i := 0) (o := Option.none) (by omega) rfl
  have z : RCO a0 l0 l1 C (fsn (v 56)) (v 50) x pt g Option.none = [] := RCO_e.mpr (fun u => by
    have := s.mpr u
    omega)
  rw [z, List.append_nil] at e
  rw [show (1 : Int) = 0 + 1 from rfl, e]
  exact k1
theorem GI.bl (hI : GI v a v1 a1 x pt g 0) (hF : GFR v a v1 a1) (hm : MBY v1 a1 x g f) (hf : f = 1) (hx : 0 ≤ x ∧ x < v 50) (e63 : v2 63 = v1 63 + 1) (e62 : a2 62 = va_up (a1 62) (v1 63).toNat 32) (o60 : v2 60 = v1 60) (o61 : v2 61 = v1 61) (o64 : v2 64 = v1 64) (o58 : a2 58 = a1 58) (o59 : a2 59 = a1 59) (hF2 : GFR v a v2 a2) (hy : y = x + 1) (hG : GEX v2 a2 v3 a3 y 0 0) (e4 : v4 63 = v 63) (p60 : v4 60 = v3 60) (p61 : v4 61 = v3 61) (p64 : v4 64 = v3 64) (p58 : a4 58 = a3 58) (p59 : a4 59 = a3 59) (p62 : a4 62 = a3 62) : GI v a v4 a4 x pt g 1 := fun a0 l0 l1 C w Z hc hn hw hk hg => by
  subst hy
  obtain ⟨n1, k1⟩ := hI a0 l0 l1 C w Z hc hn hw hk hg
  have s := hm.sem (hc.gf hF) ((hn.gf hF).le (by omega)) ⟨hx.1, by rw [hF.1.1]; exact hx.2⟩
  rw [hF.1.1, hF.1.2.1] at s
  have my := (s.mp hf).1
  obtain ⟨n3, k3⟩ := hG a0 l0 l1 C (w ++ [32]) _ (hc.gf hF2) (hn.gf hF2) (n1.snoc e63 e62) (k1.cg o60 o61 o64 o58 o59) (fun _ => by decide)
  rw [hF2.1.1, hF2.1.2.1] at k3
  refine ⟨⟨e4.trans hw.1, fun j q e => by rw [p62]; exact n3.2.pre j q e⟩, ?_⟩
  refine hv2 (GI.add (a0 := a0) (l0 := l0) (l1 := l1) (C := C) (v := v) (x := x) (g := g) (pt := pt) (i := 0) (o := Option.none) (by omega) rfl) (show RCO a0 l0 l1 C (fsn (v 56)) (v 50) x pt g Option.none = pxs [32] (RDC a0 l0 l1 C (fsn (v 56)) (v 50) (x + 1) 0 0) from RCO_yes (o := Option.none) my) (fun e ro => ?_)
  rw [show (1 : Int) = 0 + 1 from rfl, e, ro, pxs_app, pxs_pxs, ← List.append_assoc]
  exact k3.cg p60 p61 p64 p58 p59
theorem GI.fin (hI : GI v a v1 a1 x pt g i) (hF : GFR v a v1 a1) (hx : x ≠ v 50) (hp : pt = 0 ∨ pt = 1) (hi : v1 61 ≠ 0 ∨ i = a 47 pt.toNat + 1) : GEX v a v1 a1 x pt g := fun a0 l0 l1 C w Z hc hn hw hk hg => by
  obtain ⟨n1, k1⟩ := hI a0 l0 l1 C w Z hc hn hw hk hg
  refine ⟨n1, ?_⟩
  rw [RDC_go hx]
  rcases hi with hm | hi
  · rw [fmp_sp (n := i.toNat), pxs_app, ← List.append_assoc]
    exact k1.more hm
  · have el : a 47 pt.toNat = (((if pt = 0 then l0 else l1).length : Nat) : Int) := by
      rcases hp with e | e
      · subst e
        exact hc.1.1.1
      · subst e
        exact hc.1.2.1
    rw [List.take_of_length_le (by rw [chs_len]; omega)] at k1
    exact k1
theorem GI.row (hI : GI v a v1 a1 x pt g i) (hi : i = r - 6008 * pt + 1) (hF : GFR v a v1 a1) (hm : MYX v1 a1 r x pt g f) (hp : pt = 0 ∨ pt = 1) (hr : 6008 * pt ≤ r ∧ r < 6008 * pt + a 47 pt.toNat) (hx : 0 ≤ x) : (f ≠ 1 → GI v a v1 a1 x pt g (i + 1)) ∧ (f = 1 → G131 v a v1 a1 x pt g r 0) := by
  subst hi
  have key : ∀ (a0 : Nat → Nat → Int) (l0 l1 : List Int) (C : Nat → Int), GCX a0 v a l0 l1 C → CNP a0 v a l0 l1 C (-1) → ∃ d, (if pt = 0 then l0 else l1)[(r - 6008 * pt).toNat]? = some d ∧ rent a0 a1 r d ∧ (f = 1 ↔ MYR a0 C (fsn (v 56)) (v 50) d x g ∧ RDC a0 l0 l1 C (fsn (v 56)) (v 50) (x + rlen a0 d) (ngp d pt) (ngh d) ≠ []) := fun a0 l0 l1 C hc hn => by
    have s := hm.sem (hc.gf hF) ((hn.gf hF).le (by omega)) hp (by rw [hF.2.2.2.2.2.1]; exact hr) hx
    rw [hF.1.1, hF.1.2.1] at s
    exact s
  refine ⟨fun h1 a0 l0 l1 C w Z hc hn hw hk hg => ?_, fun h1 a0 l0 l1 C w Z hc hn hw hk hg => ?_⟩
  · obtain ⟨n1, k1⟩ := hI a0 l0 l1 C w Z hc hn hw hk hg
    obtain ⟨d, d1, d2, d3⟩ := key a0 l0 l1 C hc hn
    have ca := chs_at d1
    rw [show (r - 6008 * pt).toNat + 1 = (r - 6008 * pt + 1).toNat by omega] at ca
    refine hv2 (GI.add (a0 := a0) (C := C) (v := v) (x := x) (g := g) (i := r - 6008 * pt + 1) (by omega) ca) (show RCO a0 l0 l1 C (fsn (v 56)) (v 50) x pt g (some d) = [] from RCO_e.mpr (fun u => h1 (d3.mpr u))) (fun e z => ?_)
    rw [z, List.append_nil] at e
    refine ⟨n1, ?_⟩
    rw [e]
    exact k1
  · obtain ⟨n1, k1⟩ := hI a0 l0 l1 C w Z hc hn hw hk hg
    obtain ⟨d, d1, d2, d3⟩ := key a0 l0 l1 C hc hn
    refine ⟨d, ⟨d1, d2, d3.mp h1⟩, ⟨n1.1, ?_⟩, k1⟩
    have e : (if 0 ≤ d then rlt a0 d g (0 : Int).toNat else []) = [] := by split <;> rfl
    rw [e, List.append_nil]
    exact n1.2
theorem G131.step (hJ : G131 v a v1 a1 x pt g r k) (h0 : 0 ≤ k) (h44 : 0 ≤ a 44 r.toNat) (e44 : a1 44 = a 44) (hk : k < a 12 (a 44 r.toNat).toNat) (e62 : a2 62 = va_up (a1 62) z.toNat y) (hz : z = v1 63 + k) (hy : y = a 14 (8 * a 44 r.toNat + k).toNat - (if g = 1 ∧ k = 0 then 32 else 0)) (o63 : v2 63 = v1 63) (o60 : v2 60 = v1 60) (o61 : v2 61 = v1 61) (o64 : v2 64 = v1 64) (o58 : a2 58 = a1 58) (o59 : a2 59 = a1 59) (q44 : a2 44 = a1 44) (q45 : a2 45 = a1 45) (q46 : a2 46 = a1 46) : G131 v a v2 a2 x pt g r (k + 1) := fun a0 l0 l1 C w Z hc hn hw hq hg => by
  obtain ⟨d, ⟨d1, d2, d3⟩, ⟨n1, n2⟩, k1⟩ := hJ a0 l0 l1 C w Z hc hn hw hq hg
  have dd : 0 ≤ d ∧ a 44 r.toNat = d := by
    rcases d2.r44 with ⟨q1, q2, _⟩ | ⟨q1, q2, q3, _⟩
    · exact ⟨q1, by rw [← e44]; exact q2⟩
    · rw [e44] at q2
      omega
  refine ⟨d, ⟨d1, d2.f3 q44 q45 q46, d3⟩, ⟨o63.trans n1, ?_⟩, k1.cg o60 o61 o64 o58 o59⟩
  rw [if_pos dd.1] at n2 ⊢
  rw [show (k + 1).toNat = k.toNat + 1 by omega]
  show H62 a2 (w ++ (rlt a0 d g k.toNat ++ [a0 14 (8 * d + ((k.toNat : Nat) : Int)).toNat - (if g = 1 ∧ k.toNat = 0 then 32 else 0)]))
  rw [← List.append_assoc]
  intro j q ej
  rw [e62]
  have ll : (w ++ rlt a0 d g k.toNat).length = w.length + k.toNat := by rw [List.length_append, rlt_len]
  rcases ap1 ej with ⟨c, ej⟩ | ⟨c, ej⟩
  · rw [va_up_ne _ _ (by omega)]
    exact n2 j q ej
  · rw [show j = z.toNat by omega, va_up_self, hy, dd.2, hc.2.2.1.2.1, ← ej, show ((k.toNat : Nat) : Int) = k by omega]
    by_cases q1 : g = 1 ∧ k = 0
    · rw [if_pos q1, if_pos ⟨q1.1, by omega⟩]
    · rw [if_neg q1, if_neg (fun q2 => q1 ⟨q2.1, by omega⟩)]
theorem G131.fin (hJ : G131 v a v1 a1 x pt g r k) (e44 : a1 44 = a 44) (hk : a 44 r.toNat < 0 ∨ k = a 12 (a 44 r.toNat).toNat) : G195 v a v1 a1 x pt g r := fun a0 l0 l1 C w Z hc hn hw hq hg => by
  obtain ⟨d, ⟨d1, d2, d3⟩, ⟨n1, n2⟩, k1⟩ := hJ a0 l0 l1 C w Z hc hn hw hq hg
  refine ⟨d, ⟨d1, d2, d3⟩, ⟨n1, ?_⟩, k1⟩
  have r4 := d2.r44
  rw [e44] at r4
  by_cases c : 0 ≤ d
  · rw [if_pos c] at n2 ⊢
    have e3 : rout a0 d g = rlt a0 d g (a0 12 d.toNat).toNat := if_pos c
    have e4 : a 44 r.toNat = d := by omega
    have e5 : k = a0 12 d.toNat := by
      rcases hk with q | q
      · omega
      · rw [q, e4, hc.2.2.1.1]
    rw [e3, ← e5]
    exact n2
  · rw [if_neg c] at n2 ⊢
    exact n2
theorem G195.up (hJ : G195 v a v1 a1 x pt g r) (e44 : a1 44 = a 44) (e63 : (a 44 r.toNat < 0 ∧ v2 63 = v1 63) ∨ (0 ≤ a 44 r.toNat ∧ v2 63 = v1 63 + a 12 (a 44 r.toNat).toNat)) (h12 : ∀ j, 0 ≤ a 12 j) (o60 : v2 60 = v1 60) (o61 : v2 61 = v1 61) (o64 : v2 64 = v1 64) : G220 v a v2 a1 x pt g r := fun a0 l0 l1 C w Z hc hn hw hq hg => by
  obtain ⟨d, ⟨d1, d2, d3⟩, ⟨n1, n2⟩, k1⟩ := hJ a0 l0 l1 C w Z hc hn hw hq hg
  refine ⟨d, ⟨d1, d2, d3⟩, ⟨?_, n2⟩, k1.cg o60 o61 o64 rfl rfl⟩
  have r4 := d2.r44
  rw [e44] at r4
  by_cases c : 0 ≤ d
  · rw [if_pos c]
    refine hv2 (show rout a0 d g = rlt a0 d g (a0 12 d.toNat).toNat from if_pos c) (h12 d.toNat) (fun e3 e5 => ?_)
    have e4 : a 44 r.toNat = d := by omega
    rw [List.length_append, e3, rlt_len, ← hc.2.2.1.1]
    rw [e4] at e63
    omega
  · rw [if_neg c, List.append_nil]
    omega
theorem G220.keep (hJ : G220 v a v1 a1 x pt g r) (e44 : a1 44 = a 44) (hn3 : a 44 r.toNat ≠ -3 ∧ a 44 r.toNat ≠ -4) : G267 v a v1 a1 x pt g r := fun a0 l0 l1 C w Z hc hn hw hq hg => by
  obtain ⟨d, ⟨d1, d2, d3⟩, n1, k1⟩ := hJ a0 l0 l1 C w Z hc hn hw hq hg
  refine ⟨d, ⟨d1, d2, d3⟩, ?_, k1⟩
  have r4 := d2.r44
  rw [e44] at r4
  by_cases c : 0 ≤ d
  · rw [if_pos c] at n1
    exact n1
  · rw [if_neg c] at n1
    have e : rout a0 d g = [] := by
      unfold rout
      rw [if_neg c, if_neg (by omega), if_neg (by omega)]
    rw [e]
    exact n1
theorem G220.turn (hJ : G220 v a v1 a1 x pt g r) (e44 : a1 44 = a 44) (hc3 : (a 44 r.toNat = -3 ∧ y = 60) ∨ (a 44 r.toNat = -4 ∧ y = 62)) (e63 : v2 63 = v1 63 + 1) (e62 : a2 62 = va_up (a1 62) (v1 63).toNat y) (o60 : v2 60 = v1 60) (o61 : v2 61 = v1 61) (o64 : v2 64 = v1 64) (o58 : a2 58 = a1 58) (o59 : a2 59 = a1 59) (q44 : a2 44 = a1 44) (q45 : a2 45 = a1 45) (q46 : a2 46 = a1 46) : G267 v a v2 a2 x pt g r := fun a0 l0 l1 C w Z hc hn hw hq hg => by
  obtain ⟨d, ⟨d1, d2, d3⟩, n1, k1⟩ := hJ a0 l0 l1 C w Z hc hn hw hq hg
  refine ⟨d, ⟨d1, d2.f3 q44 q45 q46, d3⟩, ?_, k1.cg o60 o61 o64 o58 o59⟩
  have r4 := d2.r44
  rw [e44] at r4
  have c : ¬ 0 ≤ d := by omega
  rw [if_neg c, List.append_nil] at n1
  have e : rout a0 d g = [y] := by
    unfold rout
    rw [if_neg c]
    by_cases q1 : rol d = 2
    · rw [if_pos q1, show y = 60 by omega]
    · rw [if_neg q1, if_pos (by omega), show y = 62 by omega]
  rw [e]
  exact n1.snoc e63 e62
theorem G267.go (hJ : G267 v a v1 a1 x pt g r) (hF : GFR v a v1 a1) (hp : pt = 0 ∨ pt = 1) (hr : 6008 * pt ≤ r) (hnx : NXQ (a 44 r.toNat) pt nx) (hcp : CPQ (a 44 r.toNat) cp) (hy : y = x + a 46 r.toNat) (hG : GEX v1 a1 v2 a2 y nx cp) (hi : i = r - 6008 * pt + 1) (e3 : v3 63 = v 63) (p60 : v3 60 = v2 60) (p61 : v3 61 = v2 61) (p64 : v3 64 = v2 64) (p58 : a3 58 = a2 58) (p59 : a3 59 = a2 59) (p62 : a3 62 = a2 62) : GI v a v3 a3 x pt g (i + 1) := fun a0 l0 l1 C w Z hc hn hw hq hg => by
  subst hi
  obtain ⟨d, ⟨d1, d2, d3, d4⟩, n1, k1⟩ := hJ a0 l0 l1 C w Z hc hn hw hq hg
  refine hv2 (hF.2.2.1) (d2.r44) (fun e44 r4 => ?_)
  rw [e44] at r4
  have e46 := (d2.rc1 (hF.2.1.2.2.1.trans hc.2.2.1.2.2.1) (hF.2.1.2.2.2.trans hc.2.2.1.2.2.2)).1
  rw [hF.2.2.2.2.1] at e46
  have en : nx = ngp d pt := by
    unfold NXQ at hnx
    unfold ngp
    split
    · omega
    · split <;> omega
  have ec : cp = ngh d := by
    unfold CPQ at hcp
    unfold ngh
    split <;> omega
  rw [hy, e46, en, ec] at hG
  obtain ⟨n2, k2⟩ := hG a0 l0 l1 C _ _ (hc.gf hF) (hn.gf hF) n1 k1 (fun e => by
    rw [hF.1.1] at e
    exact RDC_h d4 e)
  rw [hF.1.1, hF.1.2.1] at k2
  refine ⟨⟨e3.trans hw.1, fun j q e => by rw [p62]; exact n2.2.pre j q e⟩, ?_⟩
  have ca := chs_at d1
  rw [show (r - 6008 * pt).toNat + 1 = (r - 6008 * pt + 1).toNat by omega] at ca
  refine hv2 (GI.add (a0 := a0) (C := C) (v := v) (x := x) (g := g) (i := r - 6008 * pt + 1) (by omega) ca) (show RCO a0 l0 l1 C (fsn (v 56)) (v 50) x pt g (some d) = pxs (rout a0 d g) (RDC a0 l0 l1 C (fsn (v 56)) (v 50) (x + rlen a0 d) (ngp d pt) (ngh d)) from RCO_yes (o := some d) d3) (fun e ro => ?_)
  rw [e, ro, pxs_app, pxs_pxs, ← List.append_assoc]
  exact k2.cg p60 p61 p64 p58 p59
end GGOS
set_option maxHeartbeats 4000000 in
set_option maxRecDepth 100000 in
theorem E_keep {l : Launch} {G : GT} {h0 : Nat} {ad ln : Nat → Nat} {v : Nat → Int} {a : Nat → Nat → Int}  (hB : BX v a) (h60 : v 60 ≤ v 64) : Mm l G yX12_keep cX12_keep 2 none 0 [] h0 ad ln v a 0 0 (fun r v2 a2 => r = none ∧ fr [60, 61] [58, 59] v a v2 a2 ∧ BX v2 a2 ∧ ((v2 60 ≤ v 64) ∧ KEX v a v2 a2)) := by
  refine Mm.mk (by decide) (Nat.le_of_ble_eq_true rfl) ?_
  intro p e s m args below meth c A C
  refine hv4 (show 0 ≤ v 64 ∧ v 64 ≤ 50 from hB.1 64) (show 0 ≤ v 60 ∧ v 60 ≤ 50 from hB.1 60) (show 0 ≤ v 63 ∧ v 63 ≤ 808 from hB.1 63) (show fr [60, 61] [58, 59] v a v a from fr.refl) (fun r64 r60 r63 fp0 => ?_)
  refine m_aload_n (j := 0) C dX12_keep_0 rfl ?_
  have rv1 : 0 ≤ v 60 ∧ v 60 ≤ 50 := hB.1 60
  refine m_get (k := 60) C dX12_keep_1 w6_119 (by decide) rfl ?_
  refine m_aload_n (j := 0) C dX12_keep_4 rfl ?_
  have rv2 : 0 ≤ v 64 ∧ v 64 ≤ 50 := hB.1 64
  refine m_get (k := 64) C dX12_keep_5 w6_123 (by decide) rfl ?_
  refine m_icmp_ne (tgt := 17) C (r32_c (lo := 0) (hi := 50) rv1.1 rv1.2 (by decide) (by decide)) (r32_c (lo := 0) (hi := 50) rv2.1 rv2.2 (by decide) (by decide)) dX12_keep_8 (by decide) (fun c1 => ?_) (fun c1 => ?_)
  · refine m_iconst C dX12_keep_17 ?_
    refine m_istore_n (lv2 := [(1, .int (iI 0)), (0, .ref h0)]) C dX12_keep_18 (by decide) rfl ?_
    have Lp1 : ∀ (nn : Nat) (k : Int) (vb1 : Nat → Int) (ab1 : Nat → Nat → Int), 809 - k < (nn : Int) → BX vb1 ab1 → fr [60, 61] [58, 59] v a vb1 ab1 → (0 ≤ k ∧ k ≤ 808) → (vb1 60 = v 60) → (vb1 61 = v 61) → (ab1 59 = a 59) → (ab1 62 = a 62) → (KCI v a ab1 k) → mw p l e (rmq 0 0 0) s m args below meth c G A 2 (MQ below (Qm G A (fun rq Lq Eq => ∃ (vq : Nat → Int) (aq : Nat → Nat → Int), mI G h0 ad ln vq aq Lq Eq ∧ (fun r v2 a2 => r = none ∧ fr [60, 61] [58, 59] v a v2 a2 ∧ BX v2 a2 ∧ ((v2 60 ≤ v 64) ∧ KEX v a v2 a2)) rq vq aq)) args s 0 0 A) h0 ad ln vb1 ab1 0 0 19 [(1, .int (iI k)), (0, .ref h0)] [] := by
      intro nn
      induction nn with
      | zero =>
        intro k vb1 ab1 hm bxb1 fpb1 hk h602 h612 h59 h62 hK
        exact absurd hm (by omega)
      | succ nn ih1 =>
        intro k vb1 ab1 hm bxb1 fpb1 hk h602 h612 h59 h62 hK
        refine m_iload_n (j := 0) C dX12_keep_19 rfl ?_
        refine m_aload_n (j := 1) C dX12_keep_20 rfl ?_
        refine hv2 (show 0 ≤ vb1 63 ∧ vb1 63 ≤ 808 from bxb1.1 63) (show vb1 63 = v 63 from fpb1.1 63 rfl) (fun rv3 ve1 => ?_)
        refine m_get (k := 63) C dX12_keep_21 w6_122 (by decide) rfl ?_
        refine m_st (st2 := [.int (iI (v 63)), .int (iI k)]) (congrArg (fun z => Value.int (iI z) :: [.int (iI k)]) (fpb1.1 63 rfl)) ?_
        refine m_icmp_ge (tgt := 54) C (r32_c (lo := 0) (hi := 808) hk.1 hk.2 (by decide) (by decide)) (r32_c (lo := 0) (hi := 808) (Int.le_trans rv3.1 (Int.le_of_eq ve1)) (Int.le_trans (Int.le_of_eq ve1.symm) rv3.2) (by decide) (by decide)) dX12_keep_24 (by decide) (fun c2 => ?_) (fun c2 => ?_)
        · refine m_aload_n (j := 1) C dX12_keep_54 rfl ?_
          refine m_geta (k := 59) C dX12_keep_55 w6_118 (by decide) rfl ?_
          refine m_aload_n (j := 1) C dX12_keep_58 rfl ?_
          have rv4 : 0 ≤ vb1 60 ∧ vb1 60 ≤ 50 := bxb1.1 60
          refine m_get (k := 60) C dX12_keep_59 w6_119 (by decide) rfl ?_
          refine m_aload_n (j := 1) C dX12_keep_62 rfl ?_
          refine m_get (k := 63) C dX12_keep_63 w6_122 (by decide) rfl ?_
          refine m_st (st2 := [.int (iI (v 63)), .int (iI (vb1 60)), .ref (ad 59)]) (congrArg (fun z => Value.int (iI z) :: [.int (iI (vb1 60)), .ref (ad 59)]) (fpb1.1 63 rfl)) ?_
          refine m_ast (k := 59) C dX12_keep_66 rfl rfl (by decide) (by omega) (by show _ < ((_ : Nat) : Int); simp only [mlen]; omega) (by decide) ?_
          refine hv2 (show BX vb1 (up2 ab1 59 (vb1 60).toNat (v 63)) from bxb1.set (k := 59) (i := (vb1 60).toNat) (z := v 63) (show 0 ≤ (v 63) ∧ (v 63) ≤ 808 by omega)) (fpb1.set (k := 59) (i := (vb1 60).toNat) (z := v 63) rfl) (fun bq1 fq1 => ?_)
          refine m_aload_n (j := 1) C dX12_keep_67 rfl ?_
          refine m_dup C dX12_keep_68 rfl ?_
          refine m_get (k := 60) C dX12_keep_69 w6_119 (by decide) rfl ?_
          refine m_iconst C dX12_keep_72 ?_
          refine m_iadd C dX12_keep_73 ?_
          refine m_put (k := 60) (z := (vb1 60) + 1) C dX12_keep_74 w6_119 (by decide) rfl rfl rfl ?_
          refine hv3 (show BX (va_up vb1 60 ((vb1 60) + 1)) (up2 ab1 59 (vb1 60).toNat (v 63)) from bq1.put (k := 60) (z := (vb1 60) + 1) (show 0 ≤ ((vb1 60) + 1) ∧ ((vb1 60) + 1) ≤ 50 by omega)) (fq1.put (k := 60) (z := (vb1 60) + 1) rfl) (show vb1 64 = v 64 from fpb1.1 64 rfl) (fun bq2 fq2 ve2 => ?_)
          refine hv2 (show 0 ≤ vb1 61 ∧ vb1 61 ≤ 1 from bq2.1 61) (show 0 ≤ vb1 64 ∧ vb1 64 ≤ 50 from bq2.1 64) (fun rv5 rv6 => ?_)
          exact m_vret C dX12_keep_77 rfl (Nat.le_of_ble_eq_true rfl) (Nat.le_of_ble_eq_true rfl) ⟨rfl, fq2, bq2, ⟨(by show ((vb1 60) + 1) ≤ (v 64); omega), KEX.put (z := v 63) hK (by omega) (by omega) ⟨by omega, by omega⟩ (by show ((vb1 60) + 1) = v 60 + 1; omega) (by show (vb1 61) = v 61; omega) (by show (vb1 64) = v 64; omega) rfl (by rw [← h59, ← h602]; unfold up2; rfl) rfl⟩⟩
        · refine m_aload_n (j := 1) C dX12_keep_27 rfl ?_
          refine m_geta (k := 58) C dX12_keep_28 w6_117 (by decide) rfl ?_
          refine m_sipush (z := 808) C dX12_keep_31 (by decide) ?_
          refine m_aload_n (j := 1) C dX12_keep_34 rfl ?_
          have rv7 : 0 ≤ vb1 60 ∧ vb1 60 ≤ 50 := bxb1.1 60
          refine m_get (k := 60) C dX12_keep_35 w6_119 (by decide) rfl ?_
          refine m_imul C dX12_keep_38 ?_
          refine m_iload_n (j := 0) C dX12_keep_39 rfl ?_
          refine m_iadd C dX12_keep_40 ?_
          refine m_aload_n (j := 1) C dX12_keep_41 rfl ?_
          refine m_geta (k := 62) C dX12_keep_42 w6_121 (by decide) rfl ?_
          refine m_iload_n (j := 0) C dX12_keep_45 rfl ?_
          refine m_ald (k := 62) C dX12_keep_46 rfl rfl (by decide) hk.1 (Int.lt_of_le_of_lt hk.2 (by decide)) (by decide) ?_
          refine hv2 (show (-2147483648) ≤ ab1 62 k.toNat ∧ ab1 62 k.toNat ≤ 2147483647 from bxb1.2 62 (k.toNat)) (show ab1 62 (k.toNat) = a 62 (k.toNat) from congrFun (fpb1.2 62 rfl) (k.toNat)) (fun ra1 ae1 => ?_)
          refine m_st (st2 := [.int (iI (a 62 k.toNat)), .int (iI ((808 * (vb1 60)) + k)), .ref (ad 58)]) (congrArg (fun z => Value.int (iI z) :: [.int (iI ((808 * (vb1 60)) + k)), .ref (ad 58)]) (congrFun (fpb1.2 62 rfl) (k.toNat))) ?_
          refine m_ast (k := 58) C dX12_keep_47 rfl rfl (by decide) (by omega) (by show _ < ((_ : Nat) : Int); simp only [mlen]; omega) (by decide) ?_
          refine hv2 (show BX vb1 (up2 ab1 58 ((808 * (vb1 60)) + k).toNat (a 62 k.toNat)) from bxb1.set (k := 58) (i := ((808 * (vb1 60)) + k).toNat) (z := a 62 k.toNat) (show (-2147483648) ≤ (a 62 k.toNat) ∧ (a 62 k.toNat) ≤ 2147483647 by omega)) (fpb1.set (k := 58) (i := ((808 * (vb1 60)) + k).toNat) (z := a 62 k.toNat) rfl) (fun bq3 fq3 => ?_)
          refine m_iinc (z := k) (j := 0) (lv2 := [(1, .int (iI (k + 1))), (0, .ref h0)]) C dX12_keep_48 rfl (by decide) rfl ?_
          refine m_goto (tgt := 19) C dX12_keep_51 (by decide) ?_
          have rv8 : 0 ≤ vb1 61 ∧ vb1 61 ≤ 1 := bq3.1 61
          refine m_lv (lv2 := [(1, .int (iI (k + 1))), (0, .ref h0)]) [0, 1] rfl ?_
          exact ih1  (k + 1) _ _ (by omega) bq3 fq3 (by omega) (by show (vb1 60) = v 60; omega) (by show (vb1 61) = v 61; omega) h59 h62 (hK.step (by omega) (by omega) (by unfold up2; rfl) (by omega) rfl)
    have rv9 : 0 ≤ v 61 ∧ v 61 ≤ 1 := hB.1 61
    refine m_lv (lv2 := [(1, .int (iI 0)), (0, .ref h0)]) [0, 1] rfl ?_
    exact Lp1 810 0 _ _ (by omega) hB fp0 (by omega) (by show (v 60) = v 60; omega) (by show (v 61) = v 61; omega) rfl rfl KCI.zero
  · refine m_aload_n (j := 0) C dX12_keep_11 rfl ?_
    refine m_iconst C dX12_keep_12 ?_
    refine m_put (k := 61) (z := 1) C dX12_keep_13 w6_120 (by decide) rfl rfl rfl ?_
    refine hv2 (show BX (va_up v 61 1) a from hB.put (k := 61) (z := 1) ⟨by decide, by decide⟩) (fp0.put (k := 61) (z := 1) rfl) (fun bq4 fq4 => ?_)
    exact m_vret C dX12_keep_16 rfl (Nat.le_of_ble_eq_true rfl) (Nat.le_of_ble_eq_true rfl) ⟨rfl, fq4, bq4, ⟨(by show (v 60) ≤ (v 64); omega), KEX.full (by omega) rfl rfl rfl rfl rfl⟩⟩
def GoD (l : Launch) (G : GT) (h0 : Nat) (ad ln : Nat → Nat) (d : Nat) (x : Int) : Prop := ∀ (v : Nat → Int) (a : Nat → Nat → Int) (pt g : Int), BX v a → RWS a → v 50 ≤ 100 → (0 ≤ x ∧ x ≤ v 50) → (pt = 0 ∨ pt = 1) → (g = 0 ∨ g = 1) → v 60 ≤ v 64 → v 63 ≤ 8 * x → Mm l G yX12_go cX12_go 8 none d [.int (iI x), .int (iI pt), .int (iI g)] h0 ad ln v a 0 0 (fun r v2 a2 => r = none ∧ fr [60, 61, 63] [58, 59, 62] v a v2 a2 ∧ BX v2 a2 ∧ ((v2 60 ≤ v 64 ∧ v2 63 = v 63) ∧ GEX v a v2 a2 x pt g))
set_option maxHeartbeats 4000000 in
set_option maxRecDepth 100000 in
theorem E_go1 {l : Launch} {G : GT} {h0 : Nat} {ad ln : Nat → Nat} {v : Nat → Int} {a : Nat → Nat → Int} {d : Nat} {x pt g : Int} (hB : BX v a) (hW : RWS a) (h50 : v 50 ≤ 100) (hx : 0 ≤ x ∧ x ≤ v 50) (hp : pt = 0 ∨ pt = 1) (hg : g = 0 ∨ g = 1) (h60 : v 60 ≤ v 64) (h63 : v 63 ≤ 8 * x) (hd : 3 ≤ d) (hf : ∀ b : Int, x < b → GoD l G h0 ad ln d b) : Mm l G yX12_go cX12_go 8 none (d + 1) [.int (iI x), .int (iI pt), .int (iI g)] h0 ad ln v a 0 0 (fun r v2 a2 => r = none ∧ fr [60, 61, 63] [58, 59, 62] v a v2 a2 ∧ BX v2 a2 ∧ ((v2 60 ≤ v 64 ∧ v2 63 = v 63) ∧ GEX v a v2 a2 x pt g)) := by
  refine Mm.mk (by decide) (Nat.le_of_ble_eq_true rfl) ?_
  intro p e s m args below meth c A C
  refine hv6 (show 0 ≤ v 64 ∧ v 64 ≤ 50 from hB.1 64) (show 0 ≤ v 60 ∧ v 60 ≤ 50 from hB.1 60) (show 0 ≤ v 63 ∧ v 63 ≤ 808 from hB.1 63) ((hW 0 (Or.inl rfl)).1) ((hW 1 (Or.inr rfl)).1) (show fr [60, 61, 63] [58, 59, 62] v a v a from fr.refl) (fun r64 r60 r63 r470 r471 fp0 => ?_)
  refine m_aload_n (j := 0) C dX12_go_0 rfl ?_
  have rv1 : 0 ≤ v 61 ∧ v 61 ≤ 1 := hB.1 61
  refine m_get (k := 61) C dX12_go_1 w6_120 (by decide) rfl ?_
  refine m_iconst C dX12_go_4 ?_
  refine m_icmp_ne (tgt := 9) C (r32_c (lo := 0) (hi := 1) rv1.1 rv1.2 (by decide) (by decide)) ⟨by decide, by decide⟩ dX12_go_5 (by decide) (fun c1 => ?_) (fun c1 => ?_)
  · refine m_iload_n (j := 1) C dX12_go_9 rfl ?_
    refine m_aload_n (j := 0) C dX12_go_10 rfl ?_
    have rv2 : 0 ≤ v 50 ∧ v 50 ≤ 40200 := hB.1 50
    refine m_get (k := 50) C dX12_go_11 w6_109 (by decide) rfl ?_
    refine m_icmp_ne (tgt := 22) C ⟨by omega, by omega⟩ (r32_c (lo := 0) (hi := 40200) rv2.1 rv2.2 (by decide) (by decide)) dX12_go_14 (by decide) (fun c2 => ?_) (fun c2 => ?_)
    · refine m_aload_n (j := 0) C dX12_go_22 rfl ?_
      have rv3 : 0 ≤ v 63 ∧ v 63 ≤ 808 := hB.1 63
      refine m_get (k := 63) C dX12_go_23 w6_122 (by decide) rfl ?_
      refine m_istore (lv2 := [(4, .int (iI (v 63))), (0, .ref h0), (1, .int (iI x)), (2, .int (iI pt)), (3, .int (iI g))]) C dX12_go_26 (by decide) rfl ?_
      refine m_aload_n (j := 1) C dX12_go_28 rfl ?_
      refine m_iload_n (j := 2) C dX12_go_29 rfl ?_
      refine m_iload_n (j := 4) C dX12_go_30 rfl ?_
      refine m_call (mc2 := 0) (ms2 := 0) (As := [.int (iI x), .int (iI g)]) (rest := []) C (E_mayBlank (x := x) (g := g) hB (by show 0 ≤ x ∧ x < (v 50); omega) (by show (v 50) ≤ 100; omega) (by omega)) dX12_go_31 kV_X12_374 rfl ck_13 rfl (Nat.le_of_ble_eq_true rfl) ⟨by dsimp only [rmq]; omega, by dsimp only [rmq]; omega⟩ ⟨Nat.le_of_ble_eq_true rfl, Nat.le_of_ble_eq_true rfl⟩ (fun rh1 vh1 ah1 h1 => ?_)
      obtain ⟨f1, rfl, fn1, _, ef1, mb1⟩ := h1
      obtain ⟨rfl, rfl⟩ := fn1.eq
      have gf1 : f1 = 0 ∨ f1 = 1 := ef1
      refine m_st (st2 := [.int (iI f1)]) rfl ?_
      have J1 : ∀ (vb1 : Nat → Int) (ab1 : Nat → Nat → Int), BX vb1 ab1 → fr [60, 61, 63] [58, 59, 62] v a vb1 ab1 → (vb1 63 = v 63) → (vb1 60 ≤ v 64) → (GI v a vb1 ab1 x pt g 1) → mw p l e (rmq (d + 1) 0 0) s m args below meth c G A 8 (MQ below (Qm G A (fun rq Lq Eq => ∃ (vq : Nat → Int) (aq : Nat → Nat → Int), mI G h0 ad ln vq aq Lq Eq ∧ (fun r v2 a2 => r = none ∧ fr [60, 61, 63] [58, 59, 62] v a v2 a2 ∧ BX v2 a2 ∧ ((v2 60 ≤ v 64 ∧ v2 63 = v 63) ∧ GEX v a v2 a2 x pt g)) rq vq aq)) args s 0 0 A) h0 ad ln vb1 ab1 0 0 73 [(4, .int (iI (v 63))), (0, .ref h0), (1, .int (iI x)), (2, .int (iI pt)), (3, .int (iI g))] [] := by
        intro  vb1 ab1 bxb1 fpb1 h63a h60a hI73
        refine m_sipush (z := 6008) C dX12_go_73 (by decide) ?_
        refine m_iload_n (j := 3) C dX12_go_76 rfl ?_
        refine m_imul C dX12_go_77 ?_
        refine m_istore (lv2 := [(5, .int (iI (6008 * pt))), (4, .int (iI (v 63))), (0, .ref h0), (1, .int (iI x)), (2, .int (iI pt)), (3, .int (iI g))]) C dX12_go_78 (by decide) rfl ?_
        have Lp1 : ∀ (nn : Nat) (r : Int) (vb2 : Nat → Int) (ab2 : Nat → Nat → Int), 6008 * pt + 6009 - r < (nn : Int) → BX vb2 ab2 → fr [60, 61, 63] [58, 59, 62] v a vb2 ab2 → (6008 * pt ≤ r ∧ r ≤ 6008 * pt + a 47 pt.toNat) → (0 ≤ a 47 pt.toNat ∧ a 47 pt.toNat ≤ 6008) → (vb2 63 = v 63) → (vb2 60 ≤ v 64) → (GI v a vb2 ab2 x pt g (r - 6008 * pt + 1)) → mw p l e (rmq (d + 1) 0 0) s m args below meth c G A 8 (MQ below (Qm G A (fun rq Lq Eq => ∃ (vq : Nat → Int) (aq : Nat → Nat → Int), mI G h0 ad ln vq aq Lq Eq ∧ (fun r v2 a2 => r = none ∧ fr [60, 61, 63] [58, 59, 62] v a v2 a2 ∧ BX v2 a2 ∧ ((v2 60 ≤ v 64 ∧ v2 63 = v 63) ∧ GEX v a v2 a2 x pt g)) rq vq aq)) args s 0 0 A) h0 ad ln vb2 ab2 0 0 80 [(5, .int (iI r)), (4, .int (iI (v 63))), (0, .ref h0), (1, .int (iI x)), (2, .int (iI pt)), (3, .int (iI g))] [] := by
          intro nn
          induction nn with
          | zero =>
            intro r vb2 ab2 hm bxb2 fpb2 hr hr47 h63b h60b hI80
            exact absurd hm (by omega)
          | succ nn ih1 =>
            intro r vb2 ab2 hm bxb2 fpb2 hr hr47 h63b h60b hI80
            refine m_iload (j := 0) C dX12_go_80 rfl ?_
            refine m_sipush (z := 6008) C dX12_go_82 (by decide) ?_
            refine m_iload_n (j := 4) C dX12_go_85 rfl ?_
            refine m_imul C dX12_go_86 ?_
            refine m_aload_n (j := 2) C dX12_go_87 rfl ?_
            refine m_geta (k := 47) C dX12_go_88 w6_106 (by decide) rfl ?_
            refine m_iload_n (j := 4) C dX12_go_91 rfl ?_
            refine m_ald (k := 47) C dX12_go_92 rfl rfl (by decide) (by omega) (by show _ < ((_ : Nat) : Int); simp only [mlen]; omega) (by decide) ?_
            refine hv2 (show 0 ≤ ab2 47 pt.toNat ∧ ab2 47 pt.toNat ≤ 6008 from bxb2.2 47 (pt.toNat)) (show ab2 47 (pt.toNat) = a 47 (pt.toNat) from congrFun (fpb2.2 47 rfl) (pt.toNat)) (fun ra1 ae1 => ?_)
            refine m_st (st2 := [.int (iI (a 47 pt.toNat)), .int (iI (6008 * pt)), .int (iI r)]) (congrArg (fun z => Value.int (iI z) :: [.int (iI (6008 * pt)), .int (iI r)]) (congrFun (fpb2.2 47 rfl) (pt.toNat))) ?_
            refine m_iadd C dX12_go_93 ?_
            refine m_icmp_ge (tgt := 310) C ⟨by omega, by omega⟩ ⟨by omega, by omega⟩ dX12_go_94 (by decide) (fun c3 => ?_) (fun c3 => ?_)
            · have rv4 : 0 ≤ vb2 60 ∧ vb2 60 ≤ 50 := bxb2.1 60
              refine hv2 (show 0 ≤ vb2 63 ∧ vb2 63 ≤ 808 from bxb2.1 63) (show 0 ≤ vb2 61 ∧ vb2 61 ≤ 1 from bxb2.1 61) (fun rv5 rv6 => ?_)
              exact m_vret C dX12_go_310 rfl (Nat.le_of_ble_eq_true rfl) (Nat.le_of_ble_eq_true rfl) ⟨rfl, fpb2, bxb2, ⟨(by show (vb2 60) ≤ (v 64) ∧ (vb2 63) = (v 63); omega), GI.fin hI80 (GFR.fr fpb2 rfl rfl) (by omega) (by omega) (by show (vb2 61) ≠ 0 ∨ r - 6008 * pt + 1 = a 47 pt.toNat + 1; omega)⟩⟩
            · refine m_aload_n (j := 2) C dX12_go_97 rfl ?_
              have rv7 : 0 ≤ vb2 61 ∧ vb2 61 ≤ 1 := bxb2.1 61
              refine m_get (k := 61) C dX12_go_98 w6_120 (by decide) rfl ?_
              refine m_if_ne (tgt := 310) C (r32_c (lo := 0) (hi := 1) rv7.1 rv7.2 (by decide) (by decide)) dX12_go_101 (by decide) (fun c4 => ?_) (fun c4 => ?_)
              · have rv8 : 0 ≤ vb2 60 ∧ vb2 60 ≤ 50 := bxb2.1 60
                have rv9 : 0 ≤ vb2 63 ∧ vb2 63 ≤ 808 := bxb2.1 63
                exact m_vret C dX12_go_310 rfl (Nat.le_of_ble_eq_true rfl) (Nat.le_of_ble_eq_true rfl) ⟨rfl, fpb2, bxb2, ⟨(by show (vb2 60) ≤ (v 64) ∧ (vb2 63) = (v 63); omega), GI.fin hI80 (GFR.fr fpb2 rfl rfl) (by omega) (by omega) (by show (vb2 61) ≠ 0 ∨ r - 6008 * pt + 1 = a 47 pt.toNat + 1; omega)⟩⟩
              · refine m_aload_n (j := 2) C dX12_go_104 rfl ?_
                refine m_iload (j := 0) C dX12_go_105 rfl ?_
                refine m_iload_n (j := 3) C dX12_go_107 rfl ?_
                refine m_iload_n (j := 4) C dX12_go_108 rfl ?_
                refine m_iload_n (j := 5) C dX12_go_109 rfl ?_
                refine hv9 (show RowOK a r from (hW (pt) (by omega)).2 r (by omega) (by omega)) (show 0 ≤ vb2 50 ∧ vb2 50 ≤ 40200 from bxb2.1 50) (show vb2 50 = v 50 from fpb2.1 50 rfl) (show (-4) ≤ ab2 44 r.toNat ∧ ab2 44 r.toNat ≤ 5999 from bxb2.2 44 (r.toNat)) (show ab2 44 (r.toNat) = a 44 (r.toNat) from congrFun (fpb2.2 44 rfl) (r.toNat)) (show 0 ≤ ab2 45 r.toNat ∧ ab2 45 r.toNat ≤ 23999 from bxb2.2 45 (r.toNat)) (show ab2 45 (r.toNat) = a 45 (r.toNat) from congrFun (fpb2.2 45 rfl) (r.toNat)) (show 0 ≤ ab2 46 r.toNat ∧ ab2 46 r.toNat ≤ 4 from bxb2.2 46 (r.toNat)) (show ab2 46 (r.toNat) = a 46 (r.toNat) from congrFun (fpb2.2 46 rfl) (r.toNat)) (fun ro rv10 ve1 ra2 ae2 ra3 ae3 ra4 ae4 => ?_)
                refine hv4 (ro.1) (ro.2.1) (ro.2.2.1) (ro.2.2.2) (fun ro1 ro2 ro3 ro4 => ?_)
                refine m_call (mc2 := 0) (ms2 := 0) (As := [.int (iI r), .int (iI x), .int (iI pt), .int (iI g)]) (rest := []) C (E_may (r1 := r) (x := x) (pt := pt) (g := g) bxb2 (by omega) (by show -4 ≤ ab2 44 r.toNat ∧ ab2 44 r.toNat < 6000; omega) (by show 1 ≤ ab2 46 r.toNat ∧ ab2 46 r.toNat ≤ 4; omega) (by show 0 ≤ ab2 45 r.toNat ∧ (0 ≤ ab2 44 r.toNat → ab2 45 r.toNat + ab2 46 r.toNat ≤ 24000) ∧ (ab2 44 r.toNat < 0 → ab2 45 r.toNat + ab2 46 r.toNat ≤ 480); omega) (by omega) (by show (vb2 50) ≤ 100; omega) (by omega) (by omega)) dX12_go_110 kV_X12_378 rfl ck_13 rfl (Nat.le_of_ble_eq_true rfl) ⟨by dsimp only [rmq]; omega, by dsimp only [rmq]; omega⟩ ⟨Nat.le_of_ble_eq_true rfl, Nat.le_of_ble_eq_true rfl⟩ (fun rh2 vh2 ah2 h2 => ?_)
                obtain ⟨f2, rfl, fn2, _, ef2, my1⟩ := h2
                obtain ⟨rfl, rfl⟩ := fn2.eq
                have gf2 : f2 = 0 ∨ (f2 = 1 ∧ x + ab2 46 r.toNat ≤ (vb2 50)) := ef2
                refine m_st (st2 := [.int (iI f2)]) rfl ?_
                refine m_if_ne (tgt := 119) C (r32_0p gf2) dX12_go_113 (by decide) (fun c5 => ?_) (fun c5 => ?_)
                · replace gf2 := (gf2.resolve_left c5)
                  refine m_aload_n (j := 2) C dX12_go_119 rfl ?_
                  refine m_geta (k := 44) C dX12_go_120 w6_103 (by decide) rfl ?_
                  refine m_iload (j := 0) C dX12_go_123 rfl ?_
                  refine m_ald (k := 44) C dX12_go_125 rfl rfl (by decide) (by omega) (by show _ < ((_ : Nat) : Int); simp only [mlen]; omega) (by decide) ?_
                  refine m_st (st2 := [.int (iI (a 44 r.toNat))]) (congrArg (fun z => Value.int (iI z) :: []) (congrFun (fpb2.2 44 rfl) (r.toNat))) ?_
                  refine m_istore (lv2 := [(6, .int (iI (a 44 r.toNat))), (5, .int (iI r)), (4, .int (iI (v 63))), (0, .ref h0), (1, .int (iI x)), (2, .int (iI pt)), (3, .int (iI g))]) C dX12_go_126 (by decide) rfl ?_
                  refine m_iconst C dX12_go_128 ?_
                  refine m_istore (lv2 := [(7, .int (iI 0)), (6, .int (iI (a 44 r.toNat))), (5, .int (iI r)), (4, .int (iI (v 63))), (0, .ref h0), (1, .int (iI x)), (2, .int (iI pt)), (3, .int (iI g))]) C dX12_go_129 (by decide) rfl ?_
                  have Lp2 : ∀ (nn : Nat) (k : Int) (vb3 : Nat → Int) (ab3 : Nat → Nat → Int), 9 - k < (nn : Int) → BX vb3 ab3 → fr [60, 61, 63] [58, 59, 62] v a vb3 ab3 → (0 ≤ k ∧ k ≤ 8 ∧ (a 44 r.toNat < 0 → k = 0) ∧ (0 ≤ a 44 r.toNat → k ≤ a 12 (a 44 r.toNat).toNat)) → (vb3 63 = v 63) → (vb3 60 ≤ v 64) → (G131 v a vb3 ab3 x pt g r k) → mw p l e (rmq (d + 1) 0 0) s m args below meth c G A 8 (MQ below (Qm G A (fun rq Lq Eq => ∃ (vq : Nat → Int) (aq : Nat → Nat → Int), mI G h0 ad ln vq aq Lq Eq ∧ (fun r v2 a2 => r = none ∧ fr [60, 61, 63] [58, 59, 62] v a v2 a2 ∧ BX v2 a2 ∧ ((v2 60 ≤ v 64 ∧ v2 63 = v 63) ∧ GEX v a v2 a2 x pt g)) rq vq aq)) args s 0 0 A) h0 ad ln vb3 ab3 0 0 131 [(7, .int (iI k)), (6, .int (iI (a 44 r.toNat))), (5, .int (iI r)), (4, .int (iI (v 63))), (0, .ref h0), (1, .int (iI x)), (2, .int (iI pt)), (3, .int (iI g))] [] := by
                    intro nn
                    induction nn with
                    | zero =>
                      intro k vb3 ab3 hm bxb3 fpb3 hk h63c h60c hJ131
                      exact absurd hm (by omega)
                    | succ nn ih2 =>
                      intro k vb3 ab3 hm bxb3 fpb3 hk h63c h60c hJ131
                      have J2 : ∀ (vb4 : Nat → Int) (ab4 : Nat → Nat → Int), BX vb4 ab4 → fr [60, 61, 63] [58, 59, 62] v a vb4 ab4 → (vb4 63 = v 63) → (vb4 60 ≤ v 64) → (G195 v a vb4 ab4 x pt g r) → mw p l e (rmq (d + 1) 0 0) s m args below meth c G A 8 (MQ below (Qm G A (fun rq Lq Eq => ∃ (vq : Nat → Int) (aq : Nat → Nat → Int), mI G h0 ad ln vq aq Lq Eq ∧ (fun r v2 a2 => r = none ∧ fr [60, 61, 63] [58, 59, 62] v a v2 a2 ∧ BX v2 a2 ∧ ((v2 60 ≤ v 64 ∧ v2 63 = v 63) ∧ GEX v a v2 a2 x pt g)) rq vq aq)) args s 0 0 A) h0 ad ln vb4 ab4 0 0 195 [(6, .int (iI (a 44 r.toNat))), (5, .int (iI r)), (4, .int (iI (v 63))), (0, .ref h0), (1, .int (iI x)), (2, .int (iI pt)), (3, .int (iI g))] [] := by
                        intro  vb4 ab4 bxb4 fpb4 h63d h60d hJ195
                        have J3 : ∀ (vb5 : Nat → Int) (ab5 : Nat → Nat → Int), BX vb5 ab5 → fr [60, 61, 63] [58, 59, 62] v a vb5 ab5 → (0 ≤ vb5 63 ∧ vb5 63 ≤ 8 * x + 8 ∧ (a 44 r.toNat < 0 → vb5 63 ≤ 8 * x)) → (vb5 60 ≤ v 64) → (G220 v a vb5 ab5 x pt g r) → mw p l e (rmq (d + 1) 0 0) s m args below meth c G A 8 (MQ below (Qm G A (fun rq Lq Eq => ∃ (vq : Nat → Int) (aq : Nat → Nat → Int), mI G h0 ad ln vq aq Lq Eq ∧ (fun r v2 a2 => r = none ∧ fr [60, 61, 63] [58, 59, 62] v a v2 a2 ∧ BX v2 a2 ∧ ((v2 60 ≤ v 64 ∧ v2 63 = v 63) ∧ GEX v a v2 a2 x pt g)) rq vq aq)) args s 0 0 A) h0 ad ln vb5 ab5 0 0 220 [(6, .int (iI (a 44 r.toNat))), (5, .int (iI r)), (4, .int (iI (v 63))), (0, .ref h0), (1, .int (iI x)), (2, .int (iI pt)), (3, .int (iI g))] [] := by
                          intro  vb5 ab5 bxb5 fpb5 h63e h60e hJ220
                          have J4 : ∀ (vb6 : Nat → Int) (ab6 : Nat → Nat → Int), BX vb6 ab6 → fr [60, 61, 63] [58, 59, 62] v a vb6 ab6 → (0 ≤ vb6 63 ∧ vb6 63 ≤ 8 * x + 8) → (vb6 60 ≤ v 64) → (G267 v a vb6 ab6 x pt g r) → mw p l e (rmq (d + 1) 0 0) s m args below meth c G A 8 (MQ below (Qm G A (fun rq Lq Eq => ∃ (vq : Nat → Int) (aq : Nat → Nat → Int), mI G h0 ad ln vq aq Lq Eq ∧ (fun r v2 a2 => r = none ∧ fr [60, 61, 63] [58, 59, 62] v a v2 a2 ∧ BX v2 a2 ∧ ((v2 60 ≤ v 64 ∧ v2 63 = v 63) ∧ GEX v a v2 a2 x pt g)) rq vq aq)) args s 0 0 A) h0 ad ln vb6 ab6 0 0 267 [(6, .int (iI (a 44 r.toNat))), (5, .int (iI r)), (4, .int (iI (v 63))), (0, .ref h0), (1, .int (iI x)), (2, .int (iI pt)), (3, .int (iI g))] [] := by
                            intro  vb6 ab6 bxb6 fpb6 h63f h60f hJ267
                            refine m_aload_n (j := 3) C dX12_go_267 rfl ?_
                            refine m_iload_n (j := 4) C dX12_go_268 rfl ?_
                            refine m_aload_n (j := 3) C dX12_go_269 rfl ?_
                            refine m_geta (k := 46) C dX12_go_270 w6_105 (by decide) rfl ?_
                            refine m_iload (j := 1) C dX12_go_273 rfl ?_
                            refine m_ald (k := 46) C dX12_go_275 rfl rfl (by decide) (by omega) (by show _ < ((_ : Nat) : Int); simp only [mlen]; omega) (by decide) ?_
                            refine hv2 (show 0 ≤ ab6 46 r.toNat ∧ ab6 46 r.toNat ≤ 4 from bxb6.2 46 (r.toNat)) (show ab6 46 (r.toNat) = a 46 (r.toNat) from congrFun (fpb6.2 46 rfl) (r.toNat)) (fun ra5 ae5 => ?_)
                            refine m_st (st2 := [.int (iI (a 46 r.toNat)), .int (iI x), .ref h0]) (congrArg (fun z => Value.int (iI z) :: [.int (iI x), .ref h0]) (congrFun (fpb6.2 46 rfl) (r.toNat))) ?_
                            refine m_iadd C dX12_go_276 ?_
                            refine m_aload_n (j := 3) C dX12_go_277 rfl ?_
                            refine m_iload (j := 1) C dX12_go_278 rfl ?_
                            refine m_iload_n (j := 5) C dX12_go_280 rfl ?_
                            refine hv2 (show (-4) ≤ ab6 44 r.toNat ∧ ab6 44 r.toNat ≤ 5999 from bxb6.2 44 (r.toNat)) (show ab6 44 (r.toNat) = a 44 (r.toNat) from congrFun (fpb6.2 44 rfl) (r.toNat)) (fun ra6 ae6 => ?_)
                            refine m_call (mc2 := 0) (ms2 := 0) (As := [.int (iI r), .int (iI pt)]) (rest := [.int (iI (x + (a 46 r.toNat))), .ref h0]) C (E_next (w := r) (q := pt) bxb6 (by omega) (by omega)) dX12_go_281 kV_X12_367 rfl ck_13 rfl (Nat.le_of_ble_eq_true rfl) ⟨by dsimp only [rmq]; omega, by dsimp only [rmq]; omega⟩ ⟨Nat.le_of_ble_eq_true rfl, Nat.le_of_ble_eq_true rfl⟩ (fun rh3 vh3 ah3 h3 => ?_)
                            obtain ⟨f3, rfl, fn3, _, ef3⟩ := h3
                            obtain ⟨rfl, rfl⟩ := fn3.eq
                            have gf3 : (f3 = 0 ∨ f3 = 1) ∧ ((ab6 44 r.toNat = -3 ∧ f3 = 1) ∨ (ab6 44 r.toNat = -4 ∧ f3 = 0) ∨ ((ab6 44 r.toNat ≠ -3 ∧ ab6 44 r.toNat ≠ -4) ∧ f3 = pt)) := ef3
                            refine m_st (st2 := [.int (iI f3), .int (iI (x + (a 46 r.toNat))), .ref h0]) rfl ?_
                            refine m_iload (j := 0) C dX12_go_284 rfl ?_
                            refine m_iconst C dX12_go_286 ?_
                            refine m_icmp_ne (tgt := 294) C ⟨by omega, by omega⟩ ⟨by decide, by decide⟩ dX12_go_287 (by decide) (fun c6 => ?_) (fun c6 => ?_)
                            · refine m_iconst C dX12_go_294 ?_
                              refine hv6 (show 0 ≤ vb6 50 ∧ vb6 50 ≤ 40200 from bxb6.1 50) (show vb6 50 = v 50 from fpb6.1 50 rfl) (show 0 ≤ vb6 60 ∧ vb6 60 ≤ 50 from bxb6.1 60) (show 0 ≤ vb6 63 ∧ vb6 63 ≤ 808 from bxb6.1 63) (show 0 ≤ vb6 64 ∧ vb6 64 ≤ 50 from bxb6.1 64) (show vb6 64 = v 64 from fpb6.1 64 rfl) (fun rv11 ve2 rv12 rv13 rv14 ve3 => ?_)
                              refine m_call (mc2 := 0) (ms2 := 0) (As := [.int (iI (x + (a 46 r.toNat))), .int (iI f3), .int (iI 0)]) (rest := []) C (hf (x + (a 46 r.toNat)) (by omega) _ _ (f3) (0) bxb6 (RWS.fr hW fpb6 rfl) (by show (vb6 50) ≤ 100; omega) (by show 0 ≤ (x + (a 46 r.toNat)) ∧ (x + (a 46 r.toNat)) ≤ (vb6 50); omega) (by omega) (by omega) (by show (vb6 60) ≤ (vb6 64); omega) (by show (vb6 63) ≤ 8 * (x + (a 46 r.toNat)); omega)) dX12_go_295 kV_X12_391 rfl ck_13 rfl (Nat.le_of_ble_eq_true rfl) ⟨by dsimp only [rmq]; omega, by dsimp only [rmq]; omega⟩ ⟨Nat.le_of_ble_eq_true rfl, Nat.le_of_ble_eq_true rfl⟩ (fun rh4 vh4 ah4 h4 => ?_)
                              obtain ⟨rfl, fn4, bn1, ex1, gx1⟩ := h4
                              refine hv4 (fpb6.call fn4 rfl rfl) (show 0 ≤ vh4 60 ∧ vh4 60 ≤ 50 from bn1.1 60) (show 0 ≤ vh4 63 ∧ vh4 63 ≤ 808 from bn1.1 63) (show (vh4 60) ≤ (vb6 64) ∧ (vh4 63) = (vb6 63) from ex1) (fun fq1 rv15 rv16 gex1 => ?_)
                              refine m_st (st2 := []) rfl ?_
                              refine m_aload_n (j := 3) C dX12_go_298 rfl ?_
                              refine m_iload (j := 2) C dX12_go_299 rfl ?_
                              refine m_put (k := 63) (z := v 63) C dX12_go_301 w6_122 (by decide) rfl rfl rfl ?_
                              refine hv2 (show BX (va_up vh4 63 (v 63)) ah4 from bn1.put (k := 63) (z := v 63) (show 0 ≤ (v 63) ∧ (v 63) ≤ 808 by omega)) (fq1.put (k := 63) (z := v 63) rfl) (fun bq1 fq2 => ?_)
                              refine m_iinc (z := r) (j := 1) (lv2 := [(5, .int (iI (r + 1))), (6, .int (iI (a 44 r.toNat))), (4, .int (iI (v 63))), (0, .ref h0), (1, .int (iI x)), (2, .int (iI pt)), (3, .int (iI g))]) C dX12_go_304 rfl (by decide) rfl ?_
                              refine m_goto (tgt := 80) C dX12_go_307 (by decide) ?_
                              refine m_lv (lv2 := [(5, .int (iI (r + 1))), (4, .int (iI (v 63))), (0, .ref h0), (1, .int (iI x)), (2, .int (iI pt)), (3, .int (iI g))]) [0, 2, 3, 4, 5, 6] rfl ?_
                              exact ih1  (r + 1) _ _ (by omega) bq1 fq2 (by omega) (by omega) (by show (v 63) = v 63; omega) (by show (vh4 60) ≤ v 64; omega) (by have q := G267.go (i := r - 6008 * pt + 1) hJ267 (GFR.fr fpb6 rfl rfl) (by omega) (by omega) (nx := f3) (cp := 0) (by unfold NXQ; omega) (by unfold CPQ; omega) (by omega) gx1 rfl (v3 := (va_up vh4 63 (v 63))) (a3 := ah4) rfl rfl rfl rfl rfl rfl rfl; rw [show r - 6008 * pt + 1 + 1 = r + 1 - 6008 * pt + 1 by omega] at q; exact q)
                            · refine m_iconst C dX12_go_290 ?_
                              refine m_goto (tgt := 295) C dX12_go_291 (by decide) ?_
                              refine hv6 (show 0 ≤ vb6 50 ∧ vb6 50 ≤ 40200 from bxb6.1 50) (show vb6 50 = v 50 from fpb6.1 50 rfl) (show 0 ≤ vb6 60 ∧ vb6 60 ≤ 50 from bxb6.1 60) (show 0 ≤ vb6 63 ∧ vb6 63 ≤ 808 from bxb6.1 63) (show 0 ≤ vb6 64 ∧ vb6 64 ≤ 50 from bxb6.1 64) (show vb6 64 = v 64 from fpb6.1 64 rfl) (fun rv17 ve4 rv18 rv19 rv20 ve5 => ?_)
                              refine m_call (mc2 := 0) (ms2 := 0) (As := [.int (iI (x + (a 46 r.toNat))), .int (iI f3), .int (iI 1)]) (rest := []) C (hf (x + (a 46 r.toNat)) (by omega) _ _ (f3) (1) bxb6 (RWS.fr hW fpb6 rfl) (by show (vb6 50) ≤ 100; omega) (by show 0 ≤ (x + (a 46 r.toNat)) ∧ (x + (a 46 r.toNat)) ≤ (vb6 50); omega) (by omega) (by omega) (by show (vb6 60) ≤ (vb6 64); omega) (by show (vb6 63) ≤ 8 * (x + (a 46 r.toNat)); omega)) dX12_go_295 kV_X12_391 rfl ck_13 rfl (Nat.le_of_ble_eq_true rfl) ⟨by dsimp only [rmq]; omega, by dsimp only [rmq]; omega⟩ ⟨Nat.le_of_ble_eq_true rfl, Nat.le_of_ble_eq_true rfl⟩ (fun rh5 vh5 ah5 h5 => ?_)
                              obtain ⟨rfl, fn5, bn2, ex2, gx2⟩ := h5
                              refine hv4 (fpb6.call fn5 rfl rfl) (show 0 ≤ vh5 60 ∧ vh5 60 ≤ 50 from bn2.1 60) (show 0 ≤ vh5 63 ∧ vh5 63 ≤ 808 from bn2.1 63) (show (vh5 60) ≤ (vb6 64) ∧ (vh5 63) = (vb6 63) from ex2) (fun fq3 rv21 rv22 gex2 => ?_)
                              refine m_st (st2 := []) rfl ?_
                              refine m_aload_n (j := 3) C dX12_go_298 rfl ?_
                              refine m_iload (j := 2) C dX12_go_299 rfl ?_
                              refine m_put (k := 63) (z := v 63) C dX12_go_301 w6_122 (by decide) rfl rfl rfl ?_
                              refine hv2 (show BX (va_up vh5 63 (v 63)) ah5 from bn2.put (k := 63) (z := v 63) (show 0 ≤ (v 63) ∧ (v 63) ≤ 808 by omega)) (fq3.put (k := 63) (z := v 63) rfl) (fun bq2 fq4 => ?_)
                              refine m_iinc (z := r) (j := 1) (lv2 := [(5, .int (iI (r + 1))), (6, .int (iI (a 44 r.toNat))), (4, .int (iI (v 63))), (0, .ref h0), (1, .int (iI x)), (2, .int (iI pt)), (3, .int (iI g))]) C dX12_go_304 rfl (by decide) rfl ?_
                              refine m_goto (tgt := 80) C dX12_go_307 (by decide) ?_
                              refine m_lv (lv2 := [(5, .int (iI (r + 1))), (4, .int (iI (v 63))), (0, .ref h0), (1, .int (iI x)), (2, .int (iI pt)), (3, .int (iI g))]) [0, 2, 3, 4, 5, 6] rfl ?_
                              exact ih1  (r + 1) _ _ (by omega) bq2 fq4 (by omega) (by omega) (by show (v 63) = v 63; omega) (by show (vh5 60) ≤ v 64; omega) (by have q := G267.go (i := r - 6008 * pt + 1) hJ267 (GFR.fr fpb6 rfl rfl) (by omega) (by omega) (nx := f3) (cp := 1) (by unfold NXQ; omega) (by unfold CPQ; omega) (by omega) gx2 rfl (v3 := (va_up vh5 63 (v 63))) (a3 := ah5) rfl rfl rfl rfl rfl rfl rfl; rw [show r - 6008 * pt + 1 + 1 = r + 1 - 6008 * pt + 1 by omega] at q; exact q)
                          refine m_iload (j := 0) C dX12_go_220 rfl ?_
                          refine m_bipush (z := (-3)) C dX12_go_222 (by decide) ?_
                          refine m_icmp_eq (tgt := 234) C ⟨by omega, by omega⟩ ⟨by decide, by decide⟩ dX12_go_224 (by decide) (fun c7 => ?_) (fun c7 => ?_)
                          · refine m_aload_n (j := 3) C dX12_go_234 rfl ?_
                            refine m_geta (k := 62) C dX12_go_235 w6_121 (by decide) rfl ?_
                            refine m_aload_n (j := 3) C dX12_go_238 rfl ?_
                            have rv23 : 0 ≤ vb5 63 ∧ vb5 63 ≤ 808 := bxb5.1 63
                            refine m_get (k := 63) C dX12_go_239 w6_122 (by decide) rfl ?_
                            refine m_iload (j := 0) C dX12_go_242 rfl ?_
                            refine m_bipush (z := (-3)) C dX12_go_244 (by decide) ?_
                            refine m_icmp_ne (tgt := 254) C ⟨by omega, by omega⟩ ⟨by decide, by decide⟩ dX12_go_246 (by decide) (fun z => absurd z (by omega)) (fun _ => ?_)
                            refine m_bipush (z := 60) C dX12_go_249 (by decide) ?_
                            refine m_goto (tgt := 256) C dX12_go_251 (by decide) ?_
                            refine m_ast (k := 62) C dX12_go_256 rfl rfl (by decide) rv23.1 (Int.lt_of_le_of_lt rv23.2 (by decide)) (by decide) ?_
                            refine hv2 (show BX vb5 (up2 ab5 62 (vb5 63).toNat 60) from bxb5.set (k := 62) (i := (vb5 63).toNat) (z := 60) ⟨by decide, by decide⟩) (fpb5.set (k := 62) (i := (vb5 63).toNat) (z := 60) rfl) (fun bq3 fq5 => ?_)
                            refine m_aload_n (j := 3) C dX12_go_257 rfl ?_
                            refine m_dup C dX12_go_258 rfl ?_
                            refine m_get (k := 63) C dX12_go_259 w6_122 (by decide) rfl ?_
                            refine m_iconst C dX12_go_262 ?_
                            refine m_iadd C dX12_go_263 ?_
                            refine m_put (k := 63) (z := (vb5 63) + 1) C dX12_go_264 w6_122 (by decide) rfl rfl rfl ?_
                            refine hv2 (show BX (va_up vb5 63 ((vb5 63) + 1)) (up2 ab5 62 (vb5 63).toNat 60) from bq3.put (k := 63) (z := (vb5 63) + 1) (show 0 ≤ ((vb5 63) + 1) ∧ ((vb5 63) + 1) ≤ 808 by omega)) (fq5.put (k := 63) (z := (vb5 63) + 1) rfl) (fun bq4 fq6 => ?_)
                            have rv24 : 0 ≤ vb5 60 ∧ vb5 60 ≤ 50 := bq4.1 60
                            refine m_lv (lv2 := [(6, .int (iI (a 44 r.toNat))), (5, .int (iI r)), (4, .int (iI (v 63))), (0, .ref h0), (1, .int (iI x)), (2, .int (iI pt)), (3, .int (iI g))]) [0, 1, 2, 3, 4, 5, 6] rfl ?_
                            exact J4   _ _  bq4 fq6 (by show 0 ≤ ((vb5 63) + 1) ∧ ((vb5 63) + 1) ≤ 8 * x + 8; omega) (by show (vb5 60) ≤ v 64; omega) (hJ220.turn (y := 60) (fpb5.2 44 rfl) (by omega) rfl (by unfold up2; rfl) rfl rfl rfl rfl rfl rfl rfl rfl)
                          · refine m_iload (j := 0) C dX12_go_227 rfl ?_
                            refine m_bipush (z := (-4)) C dX12_go_229 (by decide) ?_
                            refine m_icmp_ne (tgt := 267) C ⟨by omega, by omega⟩ ⟨by decide, by decide⟩ dX12_go_231 (by decide) (fun c8 => ?_) (fun c8 => ?_)
                            · have rv25 : 0 ≤ vb5 63 ∧ vb5 63 ≤ 808 := bxb5.1 63
                              have rv26 : 0 ≤ vb5 60 ∧ vb5 60 ≤ 50 := bxb5.1 60
                              refine m_lv (lv2 := [(6, .int (iI (a 44 r.toNat))), (5, .int (iI r)), (4, .int (iI (v 63))), (0, .ref h0), (1, .int (iI x)), (2, .int (iI pt)), (3, .int (iI g))]) [0, 1, 2, 3, 4, 5, 6] rfl ?_
                              exact J4   _ _  bxb5 fpb5 (by show 0 ≤ (vb5 63) ∧ (vb5 63) ≤ 8 * x + 8; omega) (by show (vb5 60) ≤ v 64; omega) (hJ220.keep (fpb5.2 44 rfl) ⟨by omega, by omega⟩)
                            · refine m_aload_n (j := 3) C dX12_go_234 rfl ?_
                              refine m_geta (k := 62) C dX12_go_235 w6_121 (by decide) rfl ?_
                              refine m_aload_n (j := 3) C dX12_go_238 rfl ?_
                              have rv27 : 0 ≤ vb5 63 ∧ vb5 63 ≤ 808 := bxb5.1 63
                              refine m_get (k := 63) C dX12_go_239 w6_122 (by decide) rfl ?_
                              refine m_iload (j := 0) C dX12_go_242 rfl ?_
                              refine m_bipush (z := (-3)) C dX12_go_244 (by decide) ?_
                              refine m_icmp_ne (tgt := 254) C ⟨by omega, by omega⟩ ⟨by decide, by decide⟩ dX12_go_246 (by decide) (fun _ => ?_) (fun z => absurd z (by omega))
                              refine m_bipush (z := 62) C dX12_go_254 (by decide) ?_
                              refine m_ast (k := 62) C dX12_go_256 rfl rfl (by decide) rv27.1 (Int.lt_of_le_of_lt rv27.2 (by decide)) (by decide) ?_
                              refine hv2 (show BX vb5 (up2 ab5 62 (vb5 63).toNat 62) from bxb5.set (k := 62) (i := (vb5 63).toNat) (z := 62) ⟨by decide, by decide⟩) (fpb5.set (k := 62) (i := (vb5 63).toNat) (z := 62) rfl) (fun bq5 fq7 => ?_)
                              refine m_aload_n (j := 3) C dX12_go_257 rfl ?_
                              refine m_dup C dX12_go_258 rfl ?_
                              refine m_get (k := 63) C dX12_go_259 w6_122 (by decide) rfl ?_
                              refine m_iconst C dX12_go_262 ?_
                              refine m_iadd C dX12_go_263 ?_
                              refine m_put (k := 63) (z := (vb5 63) + 1) C dX12_go_264 w6_122 (by decide) rfl rfl rfl ?_
                              refine hv2 (show BX (va_up vb5 63 ((vb5 63) + 1)) (up2 ab5 62 (vb5 63).toNat 62) from bq5.put (k := 63) (z := (vb5 63) + 1) (show 0 ≤ ((vb5 63) + 1) ∧ ((vb5 63) + 1) ≤ 808 by omega)) (fq7.put (k := 63) (z := (vb5 63) + 1) rfl) (fun bq6 fq8 => ?_)
                              have rv28 : 0 ≤ vb5 60 ∧ vb5 60 ≤ 50 := bq6.1 60
                              refine m_lv (lv2 := [(6, .int (iI (a 44 r.toNat))), (5, .int (iI r)), (4, .int (iI (v 63))), (0, .ref h0), (1, .int (iI x)), (2, .int (iI pt)), (3, .int (iI g))]) [0, 1, 2, 3, 4, 5, 6] rfl ?_
                              exact J4   _ _  bq6 fq8 (by show 0 ≤ ((vb5 63) + 1) ∧ ((vb5 63) + 1) ≤ 8 * x + 8; omega) (by show (vb5 60) ≤ v 64; omega) (hJ220.turn (y := 62) (fpb5.2 44 rfl) (by omega) rfl (by unfold up2; rfl) rfl rfl rfl rfl rfl rfl rfl rfl)
                        refine m_aload_n (j := 3) C dX12_go_195 rfl ?_
                        refine m_dup C dX12_go_196 rfl ?_
                        have rv29 : 0 ≤ vb4 63 ∧ vb4 63 ≤ 808 := bxb4.1 63
                        refine m_get (k := 63) C dX12_go_197 w6_122 (by decide) rfl ?_
                        refine m_iload (j := 0) C dX12_go_200 rfl ?_
                        refine m_if_lt (tgt := 215) C ⟨by omega, by omega⟩ dX12_go_202 (by decide) (fun c9 => ?_) (fun c9 => ?_)
                        · refine m_iconst C dX12_go_215 ?_
                          refine m_iadd C dX12_go_216 ?_
                          refine m_put (k := 63) (z := (vb4 63) + 0) C dX12_go_217 w6_122 (by decide) rfl rfl rfl ?_
                          refine hv2 (show BX (va_up vb4 63 ((vb4 63) + 0)) ab4 from bxb4.put (k := 63) (z := (vb4 63) + 0) (show 0 ≤ ((vb4 63) + 0) ∧ ((vb4 63) + 0) ≤ 808 by omega)) (fpb4.put (k := 63) (z := (vb4 63) + 0) rfl) (fun bq7 fq9 => ?_)
                          have rv30 : 0 ≤ vb4 60 ∧ vb4 60 ≤ 50 := bq7.1 60
                          refine m_lv (lv2 := [(6, .int (iI (a 44 r.toNat))), (5, .int (iI r)), (4, .int (iI (v 63))), (0, .ref h0), (1, .int (iI x)), (2, .int (iI pt)), (3, .int (iI g))]) [0, 1, 2, 3, 4, 5, 6] rfl ?_
                          exact J3   _ _  bq7 fq9 (by show 0 ≤ ((vb4 63) + 0) ∧ ((vb4 63) + 0) ≤ 8 * x + 8 ∧ (a 44 r.toNat < 0 → ((vb4 63) + 0) ≤ 8 * x); omega) (by show (vb4 60) ≤ v 64; omega) (hJ195.up (fq9.2 44 rfl) (by show (a 44 r.toNat < 0 ∧ ((vb4 63) + 0) = vb4 63) ∨ (0 ≤ a 44 r.toNat ∧ ((vb4 63) + 0) = vb4 63 + a 12 (a 44 r.toNat).toNat); omega) (fun j => (hB.2 12 j).1) rfl rfl rfl)
                        · refine m_aload_n (j := 3) C dX12_go_205 rfl ?_
                          refine m_geta (k := 12) C dX12_go_206 w6_71 (by decide) rfl ?_
                          refine m_iload (j := 0) C dX12_go_209 rfl ?_
                          refine m_ald (k := 12) C dX12_go_211 rfl rfl (by decide) (by omega) (by show _ < ((_ : Nat) : Int); simp only [mlen]; omega) (by decide) ?_
                          refine hv2 (show 0 ≤ ab4 12 (a 44 r.toNat).toNat ∧ ab4 12 (a 44 r.toNat).toNat ≤ 8 from bxb4.2 12 ((a 44 r.toNat).toNat)) (show ab4 12 ((a 44 r.toNat).toNat) = a 12 ((a 44 r.toNat).toNat) from congrFun (fpb4.2 12 rfl) ((a 44 r.toNat).toNat)) (fun ra7 ae7 => ?_)
                          refine m_st (st2 := [.int (iI (a 12 (a 44 r.toNat).toNat)), .int (iI (vb4 63)), .ref h0]) (congrArg (fun z => Value.int (iI z) :: [.int (iI (vb4 63)), .ref h0]) (congrFun (fpb4.2 12 rfl) ((a 44 r.toNat).toNat))) ?_
                          refine m_goto (tgt := 216) C dX12_go_212 (by decide) ?_
                          refine m_iadd C dX12_go_216 ?_
                          refine m_put (k := 63) (z := (vb4 63) + (a 12 (a 44 r.toNat).toNat)) C dX12_go_217 w6_122 (by decide) rfl rfl rfl ?_
                          refine hv2 (show BX (va_up vb4 63 ((vb4 63) + (a 12 (a 44 r.toNat).toNat))) ab4 from bxb4.put (k := 63) (z := (vb4 63) + (a 12 (a 44 r.toNat).toNat)) (show 0 ≤ ((vb4 63) + (a 12 (a 44 r.toNat).toNat)) ∧ ((vb4 63) + (a 12 (a 44 r.toNat).toNat)) ≤ 808 by omega)) (fpb4.put (k := 63) (z := (vb4 63) + (a 12 (a 44 r.toNat).toNat)) rfl) (fun bq8 fq10 => ?_)
                          have rv31 : 0 ≤ vb4 60 ∧ vb4 60 ≤ 50 := bq8.1 60
                          refine m_lv (lv2 := [(6, .int (iI (a 44 r.toNat))), (5, .int (iI r)), (4, .int (iI (v 63))), (0, .ref h0), (1, .int (iI x)), (2, .int (iI pt)), (3, .int (iI g))]) [0, 1, 2, 3, 4, 5, 6] rfl ?_
                          exact J3   _ _  bq8 fq10 (by show 0 ≤ ((vb4 63) + (a 12 (a 44 r.toNat).toNat)) ∧ ((vb4 63) + (a 12 (a 44 r.toNat).toNat)) ≤ 8 * x + 8 ∧ (a 44 r.toNat < 0 → ((vb4 63) + (a 12 (a 44 r.toNat).toNat)) ≤ 8 * x); omega) (by show (vb4 60) ≤ v 64; omega) (hJ195.up (fq10.2 44 rfl) (by show (a 44 r.toNat < 0 ∧ ((vb4 63) + (a 12 (a 44 r.toNat).toNat)) = vb4 63) ∨ (0 ≤ a 44 r.toNat ∧ ((vb4 63) + (a 12 (a 44 r.toNat).toNat)) = vb4 63 + a 12 (a 44 r.toNat).toNat); omega) (fun j => (hB.2 12 j).1) rfl rfl rfl)
                      refine m_iload (j := 1) C dX12_go_131 rfl ?_
                      refine m_if_lt (tgt := 195) C ⟨by omega, by omega⟩ dX12_go_133 (by decide) (fun c10 => ?_) (fun c10 => ?_)
                      · have rv32 : 0 ≤ vb3 63 ∧ vb3 63 ≤ 808 := bxb3.1 63
                        have rv33 : 0 ≤ vb3 60 ∧ vb3 60 ≤ 50 := bxb3.1 60
                        refine m_lv (lv2 := [(6, .int (iI (a 44 r.toNat))), (5, .int (iI r)), (4, .int (iI (v 63))), (0, .ref h0), (1, .int (iI x)), (2, .int (iI pt)), (3, .int (iI g))]) [1, 2, 3, 4, 5, 6, 7] rfl ?_
                        exact J2   _ _  bxb3 fpb3 (by show (vb3 63) = v 63; omega) (by show (vb3 60) ≤ v 64; omega) (hJ131.fin (fpb3.2 44 rfl) (by omega))
                      · refine m_iload (j := 0) C dX12_go_136 rfl ?_
                        refine m_aload_n (j := 4) C dX12_go_138 rfl ?_
                        refine m_geta (k := 12) C dX12_go_139 w6_71 (by decide) rfl ?_
                        refine m_iload (j := 1) C dX12_go_142 rfl ?_
                        refine m_ald (k := 12) C dX12_go_144 rfl rfl (by decide) (by omega) (by show _ < ((_ : Nat) : Int); simp only [mlen]; omega) (by decide) ?_
                        refine hv2 (show 0 ≤ ab3 12 (a 44 r.toNat).toNat ∧ ab3 12 (a 44 r.toNat).toNat ≤ 8 from bxb3.2 12 ((a 44 r.toNat).toNat)) (show ab3 12 ((a 44 r.toNat).toNat) = a 12 ((a 44 r.toNat).toNat) from congrFun (fpb3.2 12 rfl) ((a 44 r.toNat).toNat)) (fun ra8 ae8 => ?_)
                        refine m_st (st2 := [.int (iI (a 12 (a 44 r.toNat).toNat)), .int (iI k)]) (congrArg (fun z => Value.int (iI z) :: [.int (iI k)]) (congrFun (fpb3.2 12 rfl) ((a 44 r.toNat).toNat))) ?_
                        refine m_icmp_ge (tgt := 195) C (r32_c (lo := 0) (hi := 8) hk.1 hk.2.1 (by decide) (by decide)) ⟨by omega, by omega⟩ dX12_go_145 (by decide) (fun c11 => ?_) (fun c11 => ?_)
                        · have rv34 : 0 ≤ vb3 63 ∧ vb3 63 ≤ 808 := bxb3.1 63
                          have rv35 : 0 ≤ vb3 60 ∧ vb3 60 ≤ 50 := bxb3.1 60
                          refine m_lv (lv2 := [(6, .int (iI (a 44 r.toNat))), (5, .int (iI r)), (4, .int (iI (v 63))), (0, .ref h0), (1, .int (iI x)), (2, .int (iI pt)), (3, .int (iI g))]) [1, 2, 3, 4, 5, 6, 7] rfl ?_
                          exact J2   _ _  bxb3 fpb3 (by show (vb3 63) = v 63; omega) (by show (vb3 60) ≤ v 64; omega) (hJ131.fin (fpb3.2 44 rfl) (by omega))
                        · refine m_aload_n (j := 4) C dX12_go_148 rfl ?_
                          refine m_geta (k := 62) C dX12_go_149 w6_121 (by decide) rfl ?_
                          refine m_aload_n (j := 4) C dX12_go_152 rfl ?_
                          have rv36 : 0 ≤ vb3 63 ∧ vb3 63 ≤ 808 := bxb3.1 63
                          refine m_get (k := 63) C dX12_go_153 w6_122 (by decide) rfl ?_
                          refine m_iload (j := 0) C dX12_go_156 rfl ?_
                          refine m_iadd C dX12_go_158 ?_
                          refine m_aload_n (j := 4) C dX12_go_159 rfl ?_
                          refine m_geta (k := 14) C dX12_go_160 w6_73 (by decide) rfl ?_
                          refine m_bipush (z := 8) C dX12_go_163 (by decide) ?_
                          refine m_iload (j := 1) C dX12_go_165 rfl ?_
                          refine m_imul C dX12_go_167 ?_
                          refine m_iload (j := 0) C dX12_go_168 rfl ?_
                          refine m_iadd C dX12_go_170 ?_
                          refine m_ald (k := 14) C dX12_go_171 rfl rfl (by decide) (by omega) (by show _ < ((_ : Nat) : Int); simp only [mlen]; omega) (by decide) ?_
                          refine hv2 (show 0 ≤ ab3 14 ((8 * (a 44 r.toNat)) + k).toNat ∧ ab3 14 ((8 * (a 44 r.toNat)) + k).toNat ≤ 125 from bxb3.2 14 (((8 * (a 44 r.toNat)) + k).toNat)) (show ab3 14 (((8 * (a 44 r.toNat)) + k).toNat) = a 14 (((8 * (a 44 r.toNat)) + k).toNat) from congrFun (fpb3.2 14 rfl) (((8 * (a 44 r.toNat)) + k).toNat)) (fun ra9 ae9 => ?_)
                          refine m_st (st2 := [.int (iI (a 14 ((8 * (a 44 r.toNat)) + k).toNat)), .int (iI ((vb3 63) + k)), .ref (ad 62)]) (congrArg (fun z => Value.int (iI z) :: [.int (iI ((vb3 63) + k)), .ref (ad 62)]) (congrFun (fpb3.2 14 rfl) (((8 * (a 44 r.toNat)) + k).toNat))) ?_
                          refine m_iload_n (j := 7) C dX12_go_172 rfl ?_
                          refine m_if_eq (tgt := 186) C ⟨by omega, by omega⟩ dX12_go_173 (by decide) (fun c12 => ?_) (fun c12 => ?_)
                          · refine m_iconst C dX12_go_186 ?_
                            refine m_isub C dX12_go_187 ?_
                            refine m_ast (k := 62) C dX12_go_188 rfl rfl (by decide) (by omega) (by show _ < ((_ : Nat) : Int); simp only [mlen]; omega) (by decide) ?_
                            refine hv2 (show BX vb3 (up2 ab3 62 ((vb3 63) + k).toNat ((a 14 ((8 * (a 44 r.toNat)) + k).toNat) - 0)) from bxb3.set (k := 62) (i := ((vb3 63) + k).toNat) (z := (a 14 ((8 * (a 44 r.toNat)) + k).toNat) - 0) (show (-2147483648) ≤ ((a 14 ((8 * (a 44 r.toNat)) + k).toNat) - 0) ∧ ((a 14 ((8 * (a 44 r.toNat)) + k).toNat) - 0) ≤ 2147483647 by omega)) (fpb3.set (k := 62) (i := ((vb3 63) + k).toNat) (z := (a 14 ((8 * (a 44 r.toNat)) + k).toNat) - 0) rfl) (fun bq9 fq11 => ?_)
                            refine m_iinc (z := k) (j := 0) (lv2 := [(7, .int (iI (k + 1))), (6, .int (iI (a 44 r.toNat))), (5, .int (iI r)), (4, .int (iI (v 63))), (0, .ref h0), (1, .int (iI x)), (2, .int (iI pt)), (3, .int (iI g))]) C dX12_go_189 rfl (by decide) rfl ?_
                            refine m_goto (tgt := 131) C dX12_go_192 (by decide) ?_
                            have rv37 : 0 ≤ vb3 60 ∧ vb3 60 ≤ 50 := bq9.1 60
                            refine m_lv (lv2 := [(7, .int (iI (k + 1))), (6, .int (iI (a 44 r.toNat))), (5, .int (iI r)), (4, .int (iI (v 63))), (0, .ref h0), (1, .int (iI x)), (2, .int (iI pt)), (3, .int (iI g))]) [0, 1, 2, 3, 4, 5, 6, 7] rfl ?_
                            exact ih2  (k + 1) _ _ (by omega) bq9 fq11 (by have q : 0 ≤ a 12 (a 44 r.toNat).toNat ∧ a 12 (a 44 r.toNat).toNat ≤ 8 := hB.2 12 _; omega) (by show (vb3 63) = v 63; omega) (by show (vb3 60) ≤ v 64; omega) (hJ131.step (by omega) (by omega) (fpb3.2 44 rfl) (by omega) (by unfold up2; rfl) (by omega) (by split <;> omega) rfl rfl rfl rfl rfl rfl rfl rfl rfl)
                          · refine m_iload (j := 0) C dX12_go_176 rfl ?_
                            refine m_if_ne (tgt := 186) C (r32_c (lo := 0) (hi := 8) hk.1 hk.2.1 (by decide) (by decide)) dX12_go_178 (by decide) (fun c13 => ?_) (fun c13 => ?_)
                            · refine m_iconst C dX12_go_186 ?_
                              refine m_isub C dX12_go_187 ?_
                              refine m_ast (k := 62) C dX12_go_188 rfl rfl (by decide) (by omega) (by show _ < ((_ : Nat) : Int); simp only [mlen]; omega) (by decide) ?_
                              refine hv2 (show BX vb3 (up2 ab3 62 ((vb3 63) + k).toNat ((a 14 ((8 * (a 44 r.toNat)) + k).toNat) - 0)) from bxb3.set (k := 62) (i := ((vb3 63) + k).toNat) (z := (a 14 ((8 * (a 44 r.toNat)) + k).toNat) - 0) (show (-2147483648) ≤ ((a 14 ((8 * (a 44 r.toNat)) + k).toNat) - 0) ∧ ((a 14 ((8 * (a 44 r.toNat)) + k).toNat) - 0) ≤ 2147483647 by omega)) (fpb3.set (k := 62) (i := ((vb3 63) + k).toNat) (z := (a 14 ((8 * (a 44 r.toNat)) + k).toNat) - 0) rfl) (fun bq10 fq12 => ?_)
                              refine m_iinc (z := k) (j := 0) (lv2 := [(7, .int (iI (k + 1))), (6, .int (iI (a 44 r.toNat))), (5, .int (iI r)), (4, .int (iI (v 63))), (0, .ref h0), (1, .int (iI x)), (2, .int (iI pt)), (3, .int (iI g))]) C dX12_go_189 rfl (by decide) rfl ?_
                              refine m_goto (tgt := 131) C dX12_go_192 (by decide) ?_
                              have rv38 : 0 ≤ vb3 60 ∧ vb3 60 ≤ 50 := bq10.1 60
                              refine m_lv (lv2 := [(7, .int (iI (k + 1))), (6, .int (iI (a 44 r.toNat))), (5, .int (iI r)), (4, .int (iI (v 63))), (0, .ref h0), (1, .int (iI x)), (2, .int (iI pt)), (3, .int (iI g))]) [0, 1, 2, 3, 4, 5, 6, 7] rfl ?_
                              exact ih2  (k + 1) _ _ (by omega) bq10 fq12 (by have q : 0 ≤ a 12 (a 44 r.toNat).toNat ∧ a 12 (a 44 r.toNat).toNat ≤ 8 := hB.2 12 _; omega) (by show (vb3 63) = v 63; omega) (by show (vb3 60) ≤ v 64; omega) (hJ131.step (by omega) (by omega) (fpb3.2 44 rfl) (by omega) (by unfold up2; rfl) (by omega) (by split <;> omega) rfl rfl rfl rfl rfl rfl rfl rfl rfl)
                            · refine m_bipush (z := 32) C dX12_go_181 (by decide) ?_
                              refine m_goto (tgt := 187) C dX12_go_183 (by decide) ?_
                              refine m_isub C dX12_go_187 ?_
                              refine m_ast (k := 62) C dX12_go_188 rfl rfl (by decide) (by omega) (by show _ < ((_ : Nat) : Int); simp only [mlen]; omega) (by decide) ?_
                              refine hv2 (show BX vb3 (up2 ab3 62 ((vb3 63) + k).toNat ((a 14 ((8 * (a 44 r.toNat)) + k).toNat) - 32)) from bxb3.set (k := 62) (i := ((vb3 63) + k).toNat) (z := (a 14 ((8 * (a 44 r.toNat)) + k).toNat) - 32) (show (-2147483648) ≤ ((a 14 ((8 * (a 44 r.toNat)) + k).toNat) - 32) ∧ ((a 14 ((8 * (a 44 r.toNat)) + k).toNat) - 32) ≤ 2147483647 by omega)) (fpb3.set (k := 62) (i := ((vb3 63) + k).toNat) (z := (a 14 ((8 * (a 44 r.toNat)) + k).toNat) - 32) rfl) (fun bq11 fq13 => ?_)
                              refine m_iinc (z := k) (j := 0) (lv2 := [(7, .int (iI (k + 1))), (6, .int (iI (a 44 r.toNat))), (5, .int (iI r)), (4, .int (iI (v 63))), (0, .ref h0), (1, .int (iI x)), (2, .int (iI pt)), (3, .int (iI g))]) C dX12_go_189 rfl (by decide) rfl ?_
                              refine m_goto (tgt := 131) C dX12_go_192 (by decide) ?_
                              have rv39 : 0 ≤ vb3 60 ∧ vb3 60 ≤ 50 := bq11.1 60
                              refine m_lv (lv2 := [(7, .int (iI (k + 1))), (6, .int (iI (a 44 r.toNat))), (5, .int (iI r)), (4, .int (iI (v 63))), (0, .ref h0), (1, .int (iI x)), (2, .int (iI pt)), (3, .int (iI g))]) [0, 1, 2, 3, 4, 5, 6, 7] rfl ?_
                              exact ih2  (k + 1) _ _ (by omega) bq11 fq13 (by have q : 0 ≤ a 12 (a 44 r.toNat).toNat ∧ a 12 (a 44 r.toNat).toNat ≤ 8 := hB.2 12 _; omega) (by show (vb3 63) = v 63; omega) (by show (vb3 60) ≤ v 64; omega) (hJ131.step (by omega) (by omega) (fpb3.2 44 rfl) (by omega) (by unfold up2; rfl) (by omega) (by split <;> omega) rfl rfl rfl rfl rfl rfl rfl rfl rfl)
                  refine hv2 (show 0 ≤ vb2 63 ∧ vb2 63 ≤ 808 from bxb2.1 63) (show 0 ≤ vb2 60 ∧ vb2 60 ≤ 50 from bxb2.1 60) (fun rv40 rv41 => ?_)
                  refine m_lv (lv2 := [(7, .int (iI 0)), (6, .int (iI (a 44 r.toNat))), (5, .int (iI r)), (4, .int (iI (v 63))), (0, .ref h0), (1, .int (iI x)), (2, .int (iI pt)), (3, .int (iI g))]) [0, 1, 2, 3, 4, 5, 6, 7] rfl ?_
                  exact Lp2 10 0 _ _ (by omega) bxb2 fpb2 (by have q : 0 ≤ a 12 (a 44 r.toNat).toNat ∧ a 12 (a 44 r.toNat).toNat ≤ 8 := hB.2 12 _; omega) (by show (vb2 63) = v 63; omega) (by show (vb2 60) ≤ v 64; omega) ((hI80.row rfl (GFR.fr fpb2 rfl rfl) my1 (by omega) ⟨by omega, by omega⟩ (by omega)).2 (by omega))
                · clear gf2
                  refine m_goto (tgt := 304) C dX12_go_116 (by decide) ?_
                  refine m_iinc (z := r) (j := 0) (lv2 := [(5, .int (iI (r + 1))), (4, .int (iI (v 63))), (0, .ref h0), (1, .int (iI x)), (2, .int (iI pt)), (3, .int (iI g))]) C dX12_go_304 rfl (by decide) rfl ?_
                  refine m_goto (tgt := 80) C dX12_go_307 (by decide) ?_
                  refine hv2 (show 0 ≤ vb2 63 ∧ vb2 63 ≤ 808 from bxb2.1 63) (show 0 ≤ vb2 60 ∧ vb2 60 ≤ 50 from bxb2.1 60) (fun rv42 rv43 => ?_)
                  refine m_lv (lv2 := [(5, .int (iI (r + 1))), (4, .int (iI (v 63))), (0, .ref h0), (1, .int (iI x)), (2, .int (iI pt)), (3, .int (iI g))]) [0, 1, 2, 3, 4, 5] rfl ?_
                  exact ih1  (r + 1) _ _ (by omega) bxb2 fpb2 (by omega) (by omega) (by show (vb2 63) = v 63; omega) (by show (vb2 60) ≤ v 64; omega) (by have q := (hI80.row rfl (GFR.fr fpb2 rfl rfl) my1 (by omega) ⟨by omega, by omega⟩ (by omega)).1 (by omega); rw [show r - 6008 * pt + 1 + 1 = r + 1 - 6008 * pt + 1 by omega] at q; exact q)
        refine hv2 (show 0 ≤ vb1 63 ∧ vb1 63 ≤ 808 from bxb1.1 63) (show 0 ≤ vb1 60 ∧ vb1 60 ≤ 50 from bxb1.1 60) (fun rv44 rv45 => ?_)
        refine m_lv (lv2 := [(5, .int (iI (6008 * pt))), (4, .int (iI (v 63))), (0, .ref h0), (1, .int (iI x)), (2, .int (iI pt)), (3, .int (iI g))]) [0, 1, 2, 3, 4, 5] rfl ?_
        exact Lp1 6010 (6008 * pt) _ _ (by omega) bxb1 fpb1 (by have q : 0 ≤ a 47 pt.toNat ∧ a 47 pt.toNat ≤ 6008 := hB.2 47 _; omega) (by have q : 0 ≤ a 47 pt.toNat ∧ a 47 pt.toNat ≤ 6008 := hB.2 47 _; omega) (by show (vb1 63) = v 63; omega) (by show (vb1 60) ≤ v 64; omega) (by have q := hI73; rw [show (1 : Int) = 6008 * pt - 6008 * pt + 1 by omega] at q; exact q)
      refine m_if_eq (tgt := 73) C (r32_01 gf1) dX12_go_34 (by decide) (fun c14 => ?_) (fun c14 => ?_)
      · clear gf1
        have rv46 : 0 ≤ v 60 ∧ v 60 ≤ 50 := hB.1 60
        refine m_lv (lv2 := [(4, .int (iI (v 63))), (0, .ref h0), (1, .int (iI x)), (2, .int (iI pt)), (3, .int (iI g))]) [0, 1, 2, 3, 4] rfl ?_
        exact J1   _ _  hB fp0 (by show (v 63) = v 63; omega) (by show (v 60) ≤ v 64; omega) (GI.nob GI.init (GFR.fr fp0 rfl rfl) mb1 (by omega) ⟨by omega, by omega⟩)
      · replace gf1 := (gf1.resolve_left c14)
        refine m_aload_n (j := 1) C dX12_go_37 rfl ?_
        refine m_geta (k := 62) C dX12_go_38 w6_121 (by decide) rfl ?_
        refine m_aload_n (j := 1) C dX12_go_41 rfl ?_
        refine m_get (k := 63) C dX12_go_42 w6_122 (by decide) rfl ?_
        refine m_bipush (z := 32) C dX12_go_45 (by decide) ?_
        refine m_ast (k := 62) C dX12_go_47 rfl rfl (by decide) rv3.1 (Int.lt_of_le_of_lt rv3.2 (by decide)) (by decide) ?_
        refine hv2 (show BX v (up2 a 62 (v 63).toNat 32) from hB.set (k := 62) (i := (v 63).toNat) (z := 32) ⟨by decide, by decide⟩) (fp0.set (k := 62) (i := (v 63).toNat) (z := 32) rfl) (fun bq12 fq14 => ?_)
        refine m_aload_n (j := 1) C dX12_go_48 rfl ?_
        refine m_dup C dX12_go_49 rfl ?_
        refine m_get (k := 63) C dX12_go_50 w6_122 (by decide) rfl ?_
        refine m_iconst C dX12_go_53 ?_
        refine m_iadd C dX12_go_54 ?_
        refine m_put (k := 63) (z := (v 63) + 1) C dX12_go_55 w6_122 (by decide) rfl rfl rfl ?_
        refine hv2 (show BX (va_up v 63 ((v 63) + 1)) (up2 a 62 (v 63).toNat 32) from bq12.put (k := 63) (z := (v 63) + 1) (show 0 ≤ ((v 63) + 1) ∧ ((v 63) + 1) ≤ 808 by omega)) (fq14.put (k := 63) (z := (v 63) + 1) rfl) (fun bq13 fq15 => ?_)
        refine m_aload_n (j := 1) C dX12_go_58 rfl ?_
        refine m_iload_n (j := 2) C dX12_go_59 rfl ?_
        refine m_iconst C dX12_go_60 ?_
        refine m_iadd C dX12_go_61 ?_
        refine m_iconst C dX12_go_62 ?_
        refine m_iconst C dX12_go_63 ?_
        refine hv2 (show 0 ≤ v 60 ∧ v 60 ≤ 50 from bq13.1 60) (show 0 ≤ v 64 ∧ v 64 ≤ 50 from bq13.1 64) (fun rv47 rv48 => ?_)
        refine m_call (mc2 := 0) (ms2 := 0) (As := [.int (iI (x + 1)), .int (iI 0), .int (iI 0)]) (rest := []) C (hf (x + 1) (by omega) _ _ (0) (0) bq13 (RWS.fr hW fq15 rfl) (by show (v 50) ≤ 100; omega) (by show 0 ≤ (x + 1) ∧ (x + 1) ≤ (v 50); omega) (by omega) (by omega) (by show (v 60) ≤ (v 64); omega) (by show ((v 63) + 1) ≤ 8 * (x + 1); omega)) dX12_go_64 kV_X12_391 rfl ck_13 rfl (Nat.le_of_ble_eq_true rfl) ⟨by dsimp only [rmq]; omega, by dsimp only [rmq]; omega⟩ ⟨Nat.le_of_ble_eq_true rfl, Nat.le_of_ble_eq_true rfl⟩ (fun rh6 vh6 ah6 h6 => ?_)
        obtain ⟨rfl, fn6, bn3, ex3, gx3⟩ := h6
        refine hv4 (fq15.call fn6 rfl rfl) (show 0 ≤ vh6 60 ∧ vh6 60 ≤ 50 from bn3.1 60) (show 0 ≤ vh6 63 ∧ vh6 63 ≤ 808 from bn3.1 63) (show (vh6 60) ≤ (v 64) ∧ (vh6 63) = ((v 63) + 1) from ex3) (fun fq16 rv49 rv50 gex3 => ?_)
        refine m_st (st2 := []) rfl ?_
        refine m_aload_n (j := 1) C dX12_go_67 rfl ?_
        refine m_iload (j := 0) C dX12_go_68 rfl ?_
        refine m_put (k := 63) (z := v 63) C dX12_go_70 w6_122 (by decide) rfl rfl rfl ?_
        refine hv2 (show BX (va_up vh6 63 (v 63)) ah6 from bn3.put (k := 63) (z := v 63) (show 0 ≤ (v 63) ∧ (v 63) ≤ 808 by omega)) (fq16.put (k := 63) (z := v 63) rfl) (fun bq14 fq17 => ?_)
        refine m_lv (lv2 := [(4, .int (iI (v 63))), (0, .ref h0), (1, .int (iI x)), (2, .int (iI pt)), (3, .int (iI g))]) [0, 1, 2, 3, 4] rfl ?_
        exact J1   _ _  bq14 fq17 (by show (v 63) = v 63; omega) (by show (vh6 60) ≤ v 64; omega) (GI.bl (v1 := v) (a1 := a) (v2 := (va_up v 63 ((v 63) + 1))) (a2 := (up2 a 62 (v 63).toNat 32)) (v4 := (va_up vh6 63 (v 63))) (a4 := ah6) GI.init (GFR.fr fp0 rfl rfl) mb1 (by omega) ⟨by omega, by omega⟩ rfl (by unfold up2; rfl) rfl rfl rfl rfl rfl (GFR.fr fq15 rfl rfl) (by omega) gx3 rfl rfl rfl rfl rfl rfl rfl)
    · refine m_aload_n (j := 0) C dX12_go_17 rfl ?_
      refine hv3 (show 0 ≤ v 60 ∧ v 60 ≤ 50 from hB.1 60) (show 0 ≤ v 63 ∧ v 63 ≤ 808 from hB.1 63) (show 0 ≤ v 64 ∧ v 64 ≤ 50 from hB.1 64) (fun rv51 rv52 rv53 => ?_)
      refine m_call (mc2 := 0) (ms2 := 0) (As := []) (rest := []) C (E_keep hB (by show (v 60) ≤ (v 64); omega)) dX12_go_18 kV_X12_385 rfl ck_13 rfl (Nat.le_of_ble_eq_true rfl) ⟨by dsimp only [rmq]; omega, by dsimp only [rmq]; omega⟩ ⟨Nat.le_of_ble_eq_true rfl, Nat.le_of_ble_eq_true rfl⟩ (fun rh7 vh7 ah7 h7 => ?_)
      obtain ⟨rfl, fn7, bn4, ex4, ke1⟩ := h7
      refine hv3 (fp0.call fn7 rfl rfl) (show 0 ≤ vh7 60 ∧ vh7 60 ≤ 50 from bn4.1 60) (show (vh7 60) ≤ (v 64) from ex4) (fun fq18 rv54 gex4 => ?_)
      refine m_st (st2 := []) rfl ?_
      refine hv2 (show 0 ≤ vh7 63 ∧ vh7 63 ≤ 808 from bn4.1 63) (show vh7 63 = v 63 from fn7.1 63 rfl) (fun rv55 ve6 => ?_)
      exact m_vret C dX12_go_21 rfl (Nat.le_of_ble_eq_true rfl) (Nat.le_of_ble_eq_true rfl) ⟨rfl, fq18, bn4, ⟨(by show (vh7 60) ≤ (v 64) ∧ (vh7 63) = (v 63); omega), GEX.keep (by omega) (by omega) ke1 (fn7.1 63 rfl) (fn7.2 62 rfl)⟩⟩
  · have rv56 : 0 ≤ v 60 ∧ v 60 ≤ 50 := hB.1 60
    have rv57 : 0 ≤ v 63 ∧ v 63 ≤ 808 := hB.1 63
    exact m_vret C dX12_go_8 rfl (Nat.le_of_ble_eq_true rfl) (Nat.le_of_ble_eq_true rfl) ⟨rfl, fp0, hB, ⟨(by show (v 60) ≤ (v 64) ∧ (v 63) = (v 63); omega), GEX.more (by omega)⟩⟩
theorem E_goN {l : Launch} {G : GT} {h0 : Nat} {ad ln : Nat → Nat} : ∀ (n : Nat) (x : Int), 100 < x + n → GoD l G h0 ad ln (n + 3) x := by
  intro n
  induction n with
  | zero => intro x h1 v a pt g hB hW h50 hx; omega
  | succ n ih =>
    intro x h1 v a pt g hB hW h50 hx hp hg h60 h63
    exact E_go1 (d := n + 3) hB hW h50 hx hp hg h60 h63 (by omega) (fun b hb => ih b (by omega))
theorem E_go {l : Launch} {G : GT} {h0 : Nat} {ad ln : Nat → Nat} {v : Nat → Int} {a : Nat → Nat → Int} {x pt g : Int} (hB : BX v a) (hW : RWS a) (h50 : v 50 ≤ 100) (hx : 0 ≤ x ∧ x ≤ v 50) (hp : pt = 0 ∨ pt = 1) (hg : g = 0 ∨ g = 1) (h60 : v 60 ≤ v 64) (h63 : v 63 ≤ 8 * x) : Mm l G yX12_go cX12_go 8 none 104 [.int (iI x), .int (iI pt), .int (iI g)] h0 ad ln v a 0 0 (fun r v2 a2 => r = none ∧ fr [60, 61, 63] [58, 59, 62] v a v2 a2 ∧ BX v2 a2 ∧ ((v2 60 ≤ v 64 ∧ v2 63 = v 63) ∧ GEX v a v2 a2 x pt g)) := E_goN 101 x (by omega) v a pt g hB hW h50 hx hp hg h60 h63
end
section
def OKG (v : Nat → Int) (a : Nat → Nat → Int) (E : List (Option (List Int))) (t l m : Int) : Prop := WHL v a t ∧ (1 ≤ m ∧ m ≤ 50) ∧ ∃ xs, rwe E l = some (some xs) ∧ xs.length ≤ 100
def RGX (v : Nat → Int) (a : Nat → Nat → Int) (v2 : Nat → Int) (a2 : Nat → Nat → Int) (t l m f : Int) : Prop := ∀ E, SHA v a E → (¬ OKG v a E t l m ∧ f = -1 ∧ v2 60 = v 60 ∧ v2 61 = v 61 ∧ a2 58 = a 58 ∧ a2 59 = a 59) ∨ (OKG v a E t l m ∧ (NZL a (gat0 a t) → NZL a (gat1 a t) → ∃ xs K mo, rwe E l = some (some xs) ∧ KMQ m.toNat (RDC a (gat0 a t) (gat1 a t) (RR0 xs) (fsn (v 56)) ((xs.length : Nat) : Int) 0 0 0) K mo ∧ f = ((K.length : Nat) : Int) ∧ KLQ v2 a2 K ∧ v2 61 = mo))
def GRW (a : Nat → Nat → Int) (v1 : Nat → Int) (a1 : Nat → Nat → Int) (l i : Int) : Prop := v1 50 = i ∧ ∀ j : Int, 0 ≤ j → j < i → a1 48 j.toNat = a 35 (200 * l + j).toNat
section GRDS
variable {v v1 v2 v3 v4 v5 v6 v7 : Nat → Int} {a a1 a2 a3 a4 a6 a7 : Nat → Nat → Int} {t l m f i z : Int} {V A A3 : List Nat}
theorem RGX.bad (hb : ∀ E, SHA v a E → ¬ OKG v a E t l m) (hf : f = -1) (e60 : v2 60 = v 60) (e61 : v2 61 = v 61) (e58 : a2 58 = a 58) (e59 : a2 59 = a 59) : RGX v a v2 a2 t l m f := fun E hE => Or.inl ⟨hb E hE, hf, e60, e61, e58, e59⟩
theorem OKG.line (hl : (¬ (0 ≤ l ∧ l < v 36) ∨ ((0 ≤ l ∧ l < v 36) ∧ a 34 l.toNat < 0)) ∨ ((0 ≤ l ∧ l < v 36) ∧ 0 ≤ a 34 l.toNat ∧ 100 < a 34 l.toNat)) : ∀ E, SHA v a E → ¬ OKG v a E t l m := fun E hE h => by
  obtain ⟨_, _, xs, x1, x2⟩ := h
  rcases hl with hl | ⟨h1, h2, h3⟩
  · exact hE.fault hl ⟨xs, x1⟩
  · obtain ⟨ys, y1, y2, _⟩ := hE.have_ h1.1 h1.2 h2
    rw [x1] at y1
    cases y1
    omega
theorem GRW.zero (h : v1 50 = 0) : GRW a v1 a1 l 0 := ⟨h, fun j h1 h2 => absurd h1 (by omega)⟩
theorem GRW.step (hr : GRW a v1 a1 l i) (hi : 0 ≤ i) (e50 : v2 50 = v1 50 + 1) (e48 : a2 48 = va_up (a1 48) (v1 50).toNat z) (hz : z = a 35 (200 * l + i).toNat) : GRW a v2 a2 l (i + 1) := by
  have e := hr.1
  refine ⟨by omega, fun j h1 h2 => ?_⟩
  rw [e48]
  by_cases c : j < i
  · rw [va_up_ne _ _ (by omega)]
    exact hr.2 j h1 c
  · rw [show j.toNat = (v1 50).toNat by omega, va_up_self, hz, show j = i by omega]
theorem RGX.fin (hw : WHL v a t) (hm : 1 ≤ m ∧ m ≤ 50) (hl : (0 ≤ l ∧ l < v 36) ∧ 0 ≤ a 34 l.toNat ∧ a 34 l.toNat ≤ 100) (hW : GRW a v1 a1 l i) (hi : i = a 34 l.toNat) (hf1 : fr V A v a v1 a1) (cV : V.contains 56 = false) (cA : ([6, 8, 9, 10, 12, 13, 14, 15, 16, 17] : List Nat).all (fun k => !A.contains k) = true) (hG : GAT a1 a3 t) (hf3 : fr [] A3 v1 a1 v3 a3) (c3 : ([12, 13, 14, 15, 16, 17, 48] : List Nat).all (fun k => !A3.contains k) = true) (hf4 : fr [] [57] v3 a3 v4 a4) (hC : FC5 v4 a4 (-1)) (e50 : v5 50 = v4 50) (e56 : v5 56 = v4 56) (z60 : v5 60 = 0) (z61 : v5 61 = 0) (z63 : v5 63 = 0) (z64 : v5 64 = m) (hgo : (a4 57 0 = 0 ∧ v6 60 = v5 60 ∧ v6 61 = v5 61) ∨ (a4 57 0 ≠ 0 ∧ GEX v5 a4 v6 a6 0 0 0 ∧ v6 64 = v5 64)) (e7 : v7 60 = v6 60 ∧ v7 61 = v6 61 ∧ a7 58 = a6 58 ∧ a7 59 = a6 59) (hf : f = v6 60) : RGX v a v7 a7 t l m f := fun E hE => by
  obtain ⟨xs, x1, x2, x3⟩ := hE.have_ hl.1.1 hl.1.2 hl.2.1
  refine Or.inr ⟨⟨hw, hm, xs, x1, by omega⟩, fun n0 n1 => ?_⟩
  have k1 : ∀ j, ([6, 8, 9, 10, 12, 13, 14, 15, 16, 17] : List Nat).contains j = true → a1 j = a j := fun j hj => hf1.2 j (by
    have w := List.all_eq_true.mp cA j (List.contains_iff_mem.mp hj)
    simpa using w)
  have k3 : ∀ j, ([12, 13, 14, 15, 16, 17, 48] : List Nat).contains j = true → a3 j = a1 j := fun j hj => hf3.2 j (by
    have w := List.all_eq_true.mp c3 j (List.contains_iff_mem.mp hj)
    simpa using w)
  have gc := gat_cg (t := t) (k1 6 rfl) (k1 8 rfl) (k1 9 rfl) (k1 10 rfl) (k1 16 rfl)
  obtain ⟨g0, g1⟩ := hG
  rw [gc.1] at g0
  rw [gc.2] at g1
  refine hv2 (show v4 50 = i from (hf4.1 50 rfl).trans ((hf3.1 50 rfl).trans hW.1)) (show v4 56 = v 56 from (hf4.1 56 rfl).trans ((hf3.1 56 rfl).trans (hf1.1 56 cV))) (fun f50 f56 => ?_)
  have gx : GCX a v4 a4 (gat0 a t) (gat1 a t) (RR0 xs) := by
    refine ⟨⟨(g0.fr (hf4.2 44 rfl) (hf4.2 45 rfl) (hf4.2 46 rfl) (by rw [hf4.2 47 rfl])).cg (k1 13 rfl).symm (k1 16 rfl).symm, (g1.fr (hf4.2 44 rfl) (hf4.2 45 rfl) (hf4.2 46 rfl) (by rw [hf4.2 47 rfl])).cg (k1 13 rfl).symm (k1 16 rfl).symm⟩, ⟨n0, n1⟩, ⟨(hf4.2 12 rfl).trans ((k3 12 rfl).trans (k1 12 rfl)), (hf4.2 14 rfl).trans ((k3 14 rfl).trans (k1 14 rfl)), (hf4.2 15 rfl).trans ((k3 15 rfl).trans (k1 15 rfl)), (hf4.2 17 rfl).trans ((k3 17 rfl).trans (k1 17 rfl))⟩, fun j j1 j2 => ?_⟩
    rw [hf4.2 48 rfl, k3 48 rfl, hW.2 j j1 (by omega)]
    have u := x3 j.toNat (by omega)
    rw [show (200 * l + j).toNat = 200 * l.toNat + j.toNat by omega, u]
    rfl
  have cn := hC _ _ _ _ gx
  have en : v4 50 = ((xs.length : Nat) : Int) := by omega
  have c0 := cn 0 0 0 (by decide) (by omega) (Or.inl rfl) (Or.inl rfl)
  rw [show (4 * (0 : Int) + 2 * 0 + 0).toNat = 0 from rfl, en, f56] at c0
  rcases hgo with ⟨q1, q2, q3⟩ | ⟨q1, q2, q3⟩
  · have e : RDC a (gat0 a t) (gat1 a t) (RR0 xs) (fsn (v 56)) ((xs.length : Nat) : Int) 0 0 0 = [] := Classical.byContradiction (fun u => (c0.mpr u) q1)
    refine ⟨xs, [], 0, x1, ?_, ?_, ⟨?_, fun k w e => by simp at e⟩, ?_⟩
    · rw [e]
      exact KMQ.init
    · rw [hf, q2, z60]
      rfl
    · rw [e7.1, q2, z60]
      rfl
    · rw [e7.2.1, q3, z61]
  · have gx5 : GCX a v5 a4 (gat0 a t) (gat1 a t) (RR0 xs) := gx.cg e50 rfl rfl rfl rfl rfl rfl rfl rfl rfl
    have cn5 : CNP a v5 a4 (gat0 a t) (gat1 a t) (RR0 xs) (-1) := cn.cg e50 e56 rfl
    have nw : NWQ v5 a4 [] := ⟨by rw [z63]; rfl, fun j x e => by simp at e⟩
    have kp : KPS v5 a4 [] := ⟨[], by rw [z61]; exact KMQ.init, by rw [z60]; rfl, fun k w e => by simp at e⟩
    obtain ⟨_, K, r1, r2, r3⟩ := q2 a _ _ _ [] [] gx5 cn5 nw kp (fun _ => by decide)
    rw [q3, z64, pxs_nil, List.nil_append, e50, e56, en, f56] at r1
    refine ⟨xs, K, v6 61, x1, r1, by omega, ⟨by omega, fun k w e => ?_⟩, e7.2.1⟩
    rw [e7.2.2.1, e7.2.2.2]
    exact r3 k w e
end GRDS
set_option maxHeartbeats 4000000 in
set_option maxRecDepth 100000 in
theorem N2_readings {l : Launch} {G : GT} {h0 : Nat} {ad ln : Nat → Nat} {v : Nat → Int} {a : Nat → Nat → Int}  {t l0 n1 : Int} (hB : BX v a) (hT : TBL v a) (hW : RWS a) (ht : -2147483648 ≤ t ∧ t ≤ 2147483647) (hl0 : -2147483648 ≤ l0 ∧ l0 ≤ 2147483647) (hn1 : -2147483648 ≤ n1 ∧ n1 ≤ 2147483647) : Mm l G yX12_readings cX12_readings 5 (some .int) 105 [.int (iI t), .int (iI l0), .int (iI n1)] h0 ad ln v a 0 0 (fun r v2 a2 => ∃ f : Int, r = some (.int (iI f)) ∧ fr [0, 1, 50, 60, 61, 63, 64] [44, 45, 46, 47, 48, 49, 57, 58, 59, 62] v a v2 a2 ∧ BX v2 a2 ∧ (RWS a2 ∧ RGX v a v2 a2 t l0 n1 f)) := by
  refine Mm.mk (by decide) (Nat.le_of_ble_eq_true rfl) ?_
  intro p e s m args below meth c A C
  refine hv2 (show 0 ≤ v 4 ∧ v 4 ≤ 30 from hB.1 4) (show fr [0, 1, 50, 60, 61, 63, 64] [44, 45, 46, 47, 48, 49, 57, 58, 59, 62] v a v a from fr.refl) (fun h30 fp0 => ?_)
  refine m_iload_n (j := 3) C dX12_readings_0 rfl ?_
  refine m_iconst C dX12_readings_1 ?_
  refine m_bipush (z := 50) C dX12_readings_2 (by decide) ?_
  refine m_callS (As := [.int (iI n1), .int (iI 1), .int (iI 50)]) (rest := []) C (fun L E => s_isIn (iI n1) (iI 1) (iI 50)) dX12_readings_4 kS_X12_174 rfl rfl (Nat.le_of_ble_eq_true rfl) ⟨Nat.le_of_ble_eq_true rfl, Nat.le_of_ble_eq_true rfl⟩ ⟨Nat.le_of_ble_eq_true rfl, Nat.le_of_ble_eq_true rfl⟩ ?_
  rcases inn_c (x := n1) (lo := 1) (hi := 50) ⟨by omega, by omega⟩ ⟨by decide, by decide⟩ ⟨by decide, by decide⟩ with ⟨h1a, h1b, h1e⟩ | ⟨h1a, h1e⟩
  · refine m_st (st2 := [.int (iI 1)]) (by rw [h1e]) ?_
    refine m_if_ne (tgt := 17) C ⟨by decide, by decide⟩ dX12_readings_7 (by decide) (fun _ => ?_) (fun z => absurd z (by omega))
    refine m_aload_n (j := 0) C dX12_readings_17 rfl ?_
    refine m_iload_n (j := 1) C dX12_readings_18 rfl ?_
    have rv1 : 0 ≤ v 4 ∧ v 4 ≤ 30 := hB.1 4
    refine m_call (mc2 := 0) (ms2 := 0) (As := [.int (iI t)]) (rest := []) C (E_isWhole (t := t) hB (hT.fr fp0 rfl rfl) (by show -2147483648 ≤ t ∧ t ≤ 2147483647; omega)) dX12_readings_19 kV_X12_171 rfl ck_13 rfl (Nat.le_of_ble_eq_true rfl) ⟨Nat.le_of_ble_eq_true rfl, Nat.le_of_ble_eq_true rfl⟩ ⟨Nat.le_of_ble_eq_true rfl, Nat.le_of_ble_eq_true rfl⟩ (fun rh2 vh2 ah2 h2 => ?_)
    obtain ⟨f1, rfl, fn1, bn1, ex1⟩ := h2
    obtain ⟨rfl, rfl⟩ := fn1.eq
    obtain ⟨ex1, tl1⟩ := ex1
    have gf1 : f1 = 0 ∨ (f1 = 1 ∧ 0 ≤ t ∧ t < (v 4)) := ex1
    refine m_st (st2 := [.int (iI f1)]) rfl ?_
    refine m_if_ne (tgt := 31) C (r32_0p gf1) dX12_readings_22 (by decide) (fun c1 => ?_) (fun c1 => ?_)
    · replace gf1 := (gf1.resolve_left c1)
      refine m_aload_n (j := 0) C dX12_readings_31 rfl ?_
      refine m_iload_n (j := 2) C dX12_readings_32 rfl ?_
      have rv2 : 0 ≤ v 36 ∧ v 36 ≤ 200 := hB.1 36
      refine m_call (mc2 := 0) (ms2 := 0) (As := [.int (iI l0)]) (rest := []) C (M_lineFault (l0 := l0) hB.rg ⟨by omega, by omega⟩ ⟨hB.1 36, hB.2 34⟩) dX12_readings_33 kV_X12_294 rfl ck_13 rfl (Nat.le_of_ble_eq_true rfl) ⟨Nat.le_of_ble_eq_true rfl, Nat.le_of_ble_eq_true rfl⟩ ⟨Nat.le_of_ble_eq_true rfl, Nat.le_of_ble_eq_true rfl⟩ (fun rh3 vh3 ah3 h3 => ?_)
      obtain ⟨f2, rfl, hf2, rfl, rfl⟩ := h3
      refine hv2 (show (f2 = 2 ∧ ¬ (0 ≤ l0 ∧ l0 < (v 36))) ∨ (f2 = 1 ∧ 0 ≤ l0 ∧ l0 < (v 36) ∧ a 34 l0.toNat < 0) ∨ (f2 = 0 ∧ 0 ≤ l0 ∧ l0 < (v 36) ∧ 0 ≤ a 34 l0.toNat) from hf2) (show (-1) ≤ a 34 l0.toNat ∧ a 34 l0.toNat ≤ 200 from hB.2 34 (l0.toNat)) (fun gf2 ra1 => ?_)
      refine m_st (st2 := [.int (iI f2)]) rfl ?_
      refine m_if_le (tgt := 49) C ⟨by omega, by omega⟩ dX12_readings_36 (by decide) (fun c2 => ?_) (fun c2 => ?_)
      · refine m_aload_n (j := 0) C dX12_readings_49 rfl ?_
        refine m_geta (k := 34) C dX12_readings_50 w6_93 (by decide) rfl ?_
        refine m_iload_n (j := 2) C dX12_readings_53 rfl ?_
        refine m_ald (k := 34) C dX12_readings_54 rfl rfl (by decide) (by omega) (by show _ < ((_ : Nat) : Int); simp only [mlen]; omega) (by decide) ?_
        refine m_bipush (z := 100) C dX12_readings_55 (by decide) ?_
        refine m_icmp_le (tgt := 67) C (r32_c (lo := (-1)) (hi := 200) ra1.1 ra1.2 (by decide) (by decide)) ⟨by decide, by decide⟩ dX12_readings_57 (by decide) (fun c3 => ?_) (fun c3 => ?_)
        · refine m_aload_n (j := 0) C dX12_readings_67 rfl ?_
          refine m_iconst C dX12_readings_68 ?_
          refine m_put (k := 50) (z := 0) C dX12_readings_69 w6_109 (by decide) rfl rfl rfl ?_
          refine hv2 (show BX (va_up v 50 0) a from hB.put (k := 50) (z := 0) ⟨by decide, by decide⟩) (fp0.put (k := 50) (z := 0) rfl) (fun bq1 fq2 => ?_)
          refine m_iconst C dX12_readings_72 ?_
          refine m_istore (lv2 := [(4, .int (iI 0)), (0, .ref h0), (1, .int (iI t)), (2, .int (iI l0)), (3, .int (iI n1))]) C dX12_readings_73 (by decide) rfl ?_
          have Lp1 : ∀ (nn : Nat) (i1 : Int) (vb1 : Nat → Int) (ab1 : Nat → Nat → Int), 201 - i1 < (nn : Int) → BX vb1 ab1 → fr [0, 1, 50, 60, 61, 63, 64] [44, 45, 46, 47, 48, 49, 57, 58, 59, 62] v a vb1 ab1 → (0 ≤ i1 ∧ i1 ≤ a 34 l0.toNat) → (vb1 50 = i1) → (RWS ab1) → (GRW a vb1 ab1 l0 i1) → mw p l e (rmq 105 0 0) s m args below meth c G A 5 (MQ below (Qm G A (fun rq Lq Eq => ∃ (vq : Nat → Int) (aq : Nat → Nat → Int), mI G h0 ad ln vq aq Lq Eq ∧ (fun r v2 a2 => ∃ f : Int, r = some (.int (iI f)) ∧ fr [0, 1, 50, 60, 61, 63, 64] [44, 45, 46, 47, 48, 49, 57, 58, 59, 62] v a v2 a2 ∧ BX v2 a2 ∧ (RWS a2 ∧ RGX v a v2 a2 t l0 n1 f)) rq vq aq)) args s 0 0 A) h0 ad ln vb1 ab1 0 0 75 [(4, .int (iI i1)), (0, .ref h0), (1, .int (iI t)), (2, .int (iI l0)), (3, .int (iI n1))] [] := by
            intro nn
            induction nn with
            | zero =>
              intro i1 vb1 ab1 hm bxb1 fpb1 hi h501 hW1 hG75
              exact absurd hm (by omega)
            | succ nn ih1 =>
              intro i1 vb1 ab1 hm bxb1 fpb1 hi h501 hW1 hG75
              refine m_iload (j := 0) C dX12_readings_75 rfl ?_
              refine m_aload_n (j := 1) C dX12_readings_77 rfl ?_
              refine m_geta (k := 34) C dX12_readings_78 w6_93 (by decide) rfl ?_
              refine m_iload_n (j := 3) C dX12_readings_81 rfl ?_
              refine m_ald (k := 34) C dX12_readings_82 rfl rfl (by decide) (by omega) (by show _ < ((_ : Nat) : Int); simp only [mlen]; omega) (by decide) ?_
              refine hv2 (show (-1) ≤ ab1 34 l0.toNat ∧ ab1 34 l0.toNat ≤ 200 from bxb1.2 34 (l0.toNat)) (show ab1 34 (l0.toNat) = a 34 (l0.toNat) from congrFun (fpb1.2 34 rfl) (l0.toNat)) (fun ra2 ae1 => ?_)
              refine m_st (st2 := [.int (iI (a 34 l0.toNat)), .int (iI i1)]) (congrArg (fun z => Value.int (iI z) :: [.int (iI i1)]) (congrFun (fpb1.2 34 rfl) (l0.toNat))) ?_
              refine m_icmp_ge (tgt := 110) C ⟨by omega, by omega⟩ (r32_c (lo := (-1)) (hi := 200) ra1.1 ra1.2 (by decide) (by decide)) dX12_readings_83 (by decide) (fun c4 => ?_) (fun c4 => ?_)
              · refine m_aload_n (j := 1) C dX12_readings_110 rfl ?_
                refine m_iload_n (j := 2) C dX12_readings_111 rfl ?_
                refine hv2 (show 0 ≤ vb1 4 ∧ vb1 4 ≤ 30 from bxb1.1 4) (show vb1 4 = v 4 from fpb1.1 4 rfl) (fun rv3 ve1 => ?_)
                refine m_call (mc2 := 0) (ms2 := 0) (As := [.int (iI t)]) (rest := []) C (E_gather (t := t) bxb1 hW1 (hT.fr fpb1 rfl rfl) (by show 0 ≤ t ∧ t < (vb1 4); omega)) dX12_readings_112 kV_X12_354 rfl ck_13 rfl (Nat.le_of_ble_eq_true rfl) ⟨Nat.le_of_ble_eq_true rfl, Nat.le_of_ble_eq_true rfl⟩ ⟨Nat.le_of_ble_eq_true rfl, Nat.le_of_ble_eq_true rfl⟩ (fun rh4 vh4 ah4 h4 => ?_)
                obtain ⟨rfl, fn2, bn2, ex2⟩ := h4
                have fq3 := fpb1.call fn2 rfl rfl
                obtain ⟨pw1, ex2⟩ := ex2
                have tl2 := ex2
                refine m_st (st2 := []) rfl ?_
                refine m_aload_n (j := 1) C dX12_readings_115 rfl ?_
                refine hv2 (show 0 ≤ vh4 50 ∧ vh4 50 ≤ 40200 from bn2.1 50) (show vh4 50 = vb1 50 from fn2.1 50 rfl) (fun rv4 ve2 => ?_)
                refine m_call (mc2 := 0) (ms2 := 0) (As := []) (rest := []) C (E_findCan bn2 pw1 (by show (vh4 50) ≤ 100; omega)) dX12_readings_116 kV_X12_401 rfl ck_13 rfl (Nat.le_of_ble_eq_true rfl) ⟨Nat.le_of_ble_eq_true rfl, Nat.le_of_ble_eq_true rfl⟩ ⟨Nat.le_of_ble_eq_true rfl, Nat.le_of_ble_eq_true rfl⟩ (fun rh5 vh5 ah5 h5 => ?_)
                obtain ⟨rfl, fn3, bn3, fc1⟩ := h5
                refine hv2 (fq3.call fn3 rfl rfl) (show RWS ah5 from RWS.fr pw1 fn3 rfl) (fun fq4 pw2 => ?_)
                refine m_st (st2 := []) rfl ?_
                refine m_aload_n (j := 1) C dX12_readings_119 rfl ?_
                refine m_iconst C dX12_readings_120 ?_
                refine m_put (k := 60) (z := 0) C dX12_readings_121 w6_119 (by decide) rfl rfl rfl ?_
                refine hv2 (show BX (va_up vh5 60 0) ah5 from bn3.put (k := 60) (z := 0) ⟨by decide, by decide⟩) (fq4.put (k := 60) (z := 0) rfl) (fun bq2 fq5 => ?_)
                refine m_aload_n (j := 1) C dX12_readings_124 rfl ?_
                refine m_iconst C dX12_readings_125 ?_
                refine m_put (k := 61) (z := 0) C dX12_readings_126 w6_120 (by decide) rfl rfl rfl ?_
                refine hv2 (show BX (va_up (va_up vh5 60 0) 61 0) ah5 from bq2.put (k := 61) (z := 0) ⟨by decide, by decide⟩) (fq5.put (k := 61) (z := 0) rfl) (fun bq3 fq6 => ?_)
                refine m_aload_n (j := 1) C dX12_readings_129 rfl ?_
                refine m_iconst C dX12_readings_130 ?_
                refine m_put (k := 63) (z := 0) C dX12_readings_131 w6_122 (by decide) rfl rfl rfl ?_
                refine hv2 (show BX (va_up (va_up (va_up vh5 60 0) 61 0) 63 0) ah5 from bq3.put (k := 63) (z := 0) ⟨by decide, by decide⟩) (fq6.put (k := 63) (z := 0) rfl) (fun bq4 fq7 => ?_)
                refine m_aload_n (j := 1) C dX12_readings_134 rfl ?_
                refine m_iload_n (j := 4) C dX12_readings_135 rfl ?_
                refine m_put (k := 64) (z := n1) C dX12_readings_136 w6_123 (by decide) rfl rfl rfl ?_
                refine hv2 (show BX (va_up (va_up (va_up (va_up vh5 60 0) 61 0) 63 0) 64 n1) ah5 from bq4.put (k := 64) (z := n1) (show 0 ≤ n1 ∧ n1 ≤ 50 by omega)) (fq7.put (k := 64) (z := n1) rfl) (fun bq5 fq8 => ?_)
                refine m_aload_n (j := 1) C dX12_readings_139 rfl ?_
                refine m_geta (k := 57) C dX12_readings_140 w6_116 (by decide) rfl ?_
                refine m_iconst C dX12_readings_143 ?_
                refine m_zald (k := 57) C dX12_readings_144 rfl rfl (by decide) (by decide) (by decide) (by decide) ?_
                have ra3 : 0 ≤ ah5 57 0 ∧ ah5 57 0 ≤ 1 := bq5.2 57 (0)
                refine m_st (st2 := [.int (iI (ah5 57 0))]) rfl ?_
                refine m_if_eq (tgt := 155) C (r32_c (lo := 0) (hi := 1) ra3.1 ra3.2 (by decide) (by decide)) dX12_readings_145 (by decide) (fun c5 => ?_) (fun c5 => ?_)
                · refine m_aload_n (j := 1) C dX12_readings_155 rfl ?_
                  refine m_aload_n (j := 1) C dX12_readings_156 rfl ?_
                  refine m_get (k := 60) C dX12_readings_157 w6_119 (by decide) rfl ?_
                  refine m_st (st2 := [.int (iI 0), .ref h0]) rfl ?_
                  refine m_call (mc2 := 0) (ms2 := 0) (As := [.int (iI 0)]) (rest := []) C (B_fine (x := 0) bq5 (by show -2147483648 ≤ (0 : Int) ∧ (0 : Int) ≤ 2147483647; omega)) dX12_readings_160 kV_X12_158 rfl ck_13 rfl (Nat.le_of_ble_eq_true rfl) ⟨Nat.le_of_ble_eq_true rfl, Nat.le_of_ble_eq_true rfl⟩ ⟨Nat.le_of_ble_eq_true rfl, Nat.le_of_ble_eq_true rfl⟩ (fun rh6 vh6 ah6 h6 => ?_)
                  obtain ⟨f4, rfl, fn4, bn4, ex3⟩ := h6
                  refine hv3 (fq8.call fn4 rfl rfl) (show RWS ah6 from RWS.fr pw2 fn4 rfl) (show f4 = (0 : Int) from ex3) (fun fq9 pw3 gf4 => ?_)
                  refine m_st (st2 := [.int (iI f4)]) rfl ?_
                  refine hv8 (show 0 ≤ vh6 60 ∧ vh6 60 ≤ 50 from bn4.1 60) (show vh6 60 = 0 from fn4.1 60 rfl) (show 0 ≤ vh6 61 ∧ vh6 61 ≤ 1 from bn4.1 61) (show vh6 61 = 0 from fn4.1 61 rfl) (show 0 ≤ vh6 63 ∧ vh6 63 ≤ 808 from bn4.1 63) (show vh6 63 = 0 from fn4.1 63 rfl) (show 0 ≤ vh6 64 ∧ vh6 64 ≤ 50 from bn4.1 64) (show vh6 64 = n1 from fn4.1 64 rfl) (fun rv5 ve3 rv6 ve4 rv7 ve5 rv8 ve6 => ?_)
                  exact m_iret C dX12_readings_163 rfl (Nat.le_of_ble_eq_true rfl) (Nat.le_of_ble_eq_true rfl) ⟨f4, rfl, fq9, bn4, ⟨pw3, RGX.fin (v5 := (va_up (va_up (va_up (va_up vh5 60 0) 61 0) 63 0) 64 n1)) (v6 := (va_up (va_up (va_up (va_up vh5 60 0) 61 0) 63 0) 64 n1)) (a6 := ah5) (tl1.mp (by omega)) ⟨by omega, by omega⟩ ⟨⟨by omega, by omega⟩, by omega, by omega⟩ hG75 (by omega) fpb1 rfl rfl tl2 fn2 rfl fn3 fc1 rfl rfl rfl rfl rfl rfl (Or.inl ⟨by omega, rfl, rfl⟩) ⟨fn4.1 60 rfl, fn4.1 61 rfl, fn4.2 58 rfl, fn4.2 59 rfl⟩ (by show f4 = (0 : Int); omega)⟩⟩
                · refine m_aload_n (j := 1) C dX12_readings_148 rfl ?_
                  refine m_iconst C dX12_readings_149 ?_
                  refine m_iconst C dX12_readings_150 ?_
                  refine m_iconst C dX12_readings_151 ?_
                  refine hv2 (show 0 ≤ vh5 50 ∧ vh5 50 ≤ 40200 from bq5.1 50) (show vh5 50 = vh4 50 from fn3.1 50 rfl) (fun rv9 ve7 => ?_)
                  refine m_call (mc2 := 0) (ms2 := 0) (As := [.int (iI 0), .int (iI 0), .int (iI 0)]) (rest := []) C (E_go (x := 0) (pt := 0) (g := 0) bq5 pw2 (by show (vh5 50) ≤ 100; omega) (by show 0 ≤ 0 ∧ 0 ≤ (vh5 50); omega) (by omega) (by omega) (by show 0 ≤ n1; omega) (by show 0 ≤ 8 * 0; omega)) dX12_readings_152 kV_X12_391 rfl ck_13 rfl (Nat.le_of_ble_eq_true rfl) ⟨Nat.le_of_ble_eq_true rfl, Nat.le_of_ble_eq_true rfl⟩ ⟨Nat.le_of_ble_eq_true rfl, Nat.le_of_ble_eq_true rfl⟩ (fun rh7 vh7 ah7 h7 => ?_)
                  obtain ⟨rfl, fn5, bn5, ex4, gx1⟩ := h7
                  refine hv5 (fq8.call fn5 rfl rfl) (show RWS ah7 from RWS.fr pw2 fn5 rfl) (show 0 ≤ vh7 60 ∧ vh7 60 ≤ 50 from bn5.1 60) (show 0 ≤ vh7 63 ∧ vh7 63 ≤ 808 from bn5.1 63) (show (vh7 60) ≤ n1 ∧ (vh7 63) = 0 from ex4) (fun fq10 pw4 rv10 rv11 gex4 => ?_)
                  refine m_st (st2 := []) rfl ?_
                  refine m_aload_n (j := 1) C dX12_readings_155 rfl ?_
                  refine m_aload_n (j := 1) C dX12_readings_156 rfl ?_
                  refine m_get (k := 60) C dX12_readings_157 w6_119 (by decide) rfl ?_
                  refine m_call (mc2 := 0) (ms2 := 0) (As := [.int (iI (vh7 60))]) (rest := []) C (B_fine (x := vh7 60) bn5 (by show -2147483648 ≤ (vh7 60) ∧ (vh7 60) ≤ 2147483647; omega)) dX12_readings_160 kV_X12_158 rfl ck_13 rfl (Nat.le_of_ble_eq_true rfl) ⟨Nat.le_of_ble_eq_true rfl, Nat.le_of_ble_eq_true rfl⟩ ⟨Nat.le_of_ble_eq_true rfl, Nat.le_of_ble_eq_true rfl⟩ (fun rh8 vh8 ah8 h8 => ?_)
                  obtain ⟨f5, rfl, fn6, bn6, ex5⟩ := h8
                  refine hv3 (fq10.call fn6 rfl rfl) (show RWS ah8 from RWS.fr pw4 fn6 rfl) (show f5 = (vh7 60) from ex5) (fun fq11 pw5 gf5 => ?_)
                  refine m_st (st2 := [.int (iI f5)]) rfl ?_
                  refine hv9 (show 0 ≤ vh8 60 ∧ vh8 60 ≤ 50 from bn6.1 60) (show vh8 60 = vh7 60 from fn6.1 60 rfl) (show 0 ≤ vh8 61 ∧ vh8 61 ≤ 1 from bn6.1 61) (show vh8 61 = vh7 61 from fn6.1 61 rfl) (show 0 ≤ vh8 63 ∧ vh8 63 ≤ 808 from bn6.1 63) (show vh8 63 = vh7 63 from fn6.1 63 rfl) (show 0 ≤ vh8 64 ∧ vh8 64 ≤ 50 from bn6.1 64) (show vh8 64 = vh7 64 from fn6.1 64 rfl) (show vh7 64 = n1 from fn5.1 64 rfl) (fun rv12 ve8 rv13 ve9 rv14 ve10 rv15 ve11 ve12 => ?_)
                  exact m_iret C dX12_readings_163 rfl (Nat.le_of_ble_eq_true rfl) (Nat.le_of_ble_eq_true rfl) ⟨f5, rfl, fq11, bn6, ⟨pw5, RGX.fin (v5 := (va_up (va_up (va_up (va_up vh5 60 0) 61 0) 63 0) 64 n1)) (tl1.mp (by omega)) ⟨by omega, by omega⟩ ⟨⟨by omega, by omega⟩, by omega, by omega⟩ hG75 (by omega) fpb1 rfl rfl tl2 fn2 rfl fn3 fc1 rfl rfl rfl rfl rfl rfl (Or.inr ⟨by omega, gx1, fn5.1 64 rfl⟩) ⟨fn6.1 60 rfl, fn6.1 61 rfl, fn6.2 58 rfl, fn6.2 59 rfl⟩ (by omega)⟩⟩
              · refine m_aload_n (j := 1) C dX12_readings_86 rfl ?_
                refine m_aload_n (j := 1) C dX12_readings_87 rfl ?_
                refine m_geta (k := 35) C dX12_readings_88 w6_94 (by decide) rfl ?_
                refine m_sipush (z := 200) C dX12_readings_91 (by decide) ?_
                refine m_iload_n (j := 3) C dX12_readings_94 rfl ?_
                refine m_imul C dX12_readings_95 ?_
                refine m_iload (j := 0) C dX12_readings_96 rfl ?_
                refine m_iadd C dX12_readings_98 ?_
                refine m_ald (k := 35) C dX12_readings_99 rfl rfl (by decide) (by omega) (by show _ < ((_ : Nat) : Int); simp only [mlen]; omega) (by decide) ?_
                refine hv2 (show (-2147483648) ≤ ab1 35 ((200 * l0) + i1).toNat ∧ ab1 35 ((200 * l0) + i1).toNat ≤ 2147483647 from bxb1.2 35 (((200 * l0) + i1).toNat)) (show ab1 35 (((200 * l0) + i1).toNat) = a 35 (((200 * l0) + i1).toNat) from congrFun (fpb1.2 35 rfl) (((200 * l0) + i1).toNat)) (fun ra4 ae2 => ?_)
                refine m_st (st2 := [.int (iI (a 35 ((200 * l0) + i1).toNat)), .ref h0]) (congrArg (fun z => Value.int (iI z) :: [.ref h0]) (congrFun (fpb1.2 35 rfl) (((200 * l0) + i1).toNat))) ?_
                refine m_iconst C dX12_readings_100 ?_
                have rv16 : 0 ≤ vb1 50 ∧ vb1 50 ≤ 40200 := bxb1.1 50
                refine m_call (mc2 := 0) (ms2 := 0) (As := [.int (iI (a 35 ((200 * l0) + i1).toNat)), .int (iI 0)]) (rest := []) C (E_putRow (x := a 35 ((200 * l0) + i1).toNat) (y := 0) bxb1 (by omega) (by omega) (by show (vb1 50) < 40200; omega)) dX12_readings_101 kV_X12_351 rfl ck_13 rfl (Nat.le_of_ble_eq_true rfl) ⟨Nat.le_of_ble_eq_true rfl, Nat.le_of_ble_eq_true rfl⟩ ⟨Nat.le_of_ble_eq_true rfl, Nat.le_of_ble_eq_true rfl⟩ (fun rh9 vh9 ah9 h9 => ?_)
                obtain ⟨rfl, fn7, bn7, ex6, pr1⟩ := h9
                refine hv3 (fpb1.call fn7 rfl rfl) (show RWS ah9 from RWS.fr hW1 fn7 rfl) (show vh9 50 = (vb1 50) + 1 from ex6) (fun fq12 pw6 gfn7 => ?_)
                refine m_st (st2 := []) rfl ?_
                refine m_iinc (z := i1) (j := 0) (lv2 := [(4, .int (iI (i1 + 1))), (0, .ref h0), (1, .int (iI t)), (2, .int (iI l0)), (3, .int (iI n1))]) C dX12_readings_104 rfl (by decide) rfl ?_
                refine m_goto (tgt := 75) C dX12_readings_107 (by decide) ?_
                have rv17 : 0 ≤ vh9 50 ∧ vh9 50 ≤ 40200 := bn7.1 50
                refine m_lv (lv2 := [(4, .int (iI (i1 + 1))), (0, .ref h0), (1, .int (iI t)), (2, .int (iI l0)), (3, .int (iI n1))]) [0, 1, 2, 3, 4] rfl ?_
                exact ih1  (i1 + 1) _ _ (by omega) bn7 fq12 (by omega) (by show (vh9 50) = (i1 + 1); omega) pw6 (hG75.step (by omega) ex6 pr1 rfl)
          refine m_lv (lv2 := [(4, .int (iI 0)), (0, .ref h0), (1, .int (iI t)), (2, .int (iI l0)), (3, .int (iI n1))]) [0, 1, 2, 3, 4] rfl ?_
          exact Lp1 202 0 _ _ (by omega) bq1 fq2 (by omega) (by show 0 = 0; omega) hW (GRW.zero (by show 0 = 0; omega))
        · refine m_aload_n (j := 0) C dX12_readings_60 rfl ?_
          refine m_bipush (z := 6) C dX12_readings_61 (by decide) ?_
          refine m_call (mc2 := 0) (ms2 := 0) (As := [.int (iI 6)]) (rest := []) C (B_bad (x := 6) hB (by show -2147483648 ≤ (6 : Int) ∧ (6 : Int) ≤ 2147483647; omega)) dX12_readings_63 kV_X12_154 rfl ck_13 rfl (Nat.le_of_ble_eq_true rfl) ⟨Nat.le_of_ble_eq_true rfl, Nat.le_of_ble_eq_true rfl⟩ ⟨Nat.le_of_ble_eq_true rfl, Nat.le_of_ble_eq_true rfl⟩ (fun rh10 vh10 ah10 h10 => ?_)
          obtain ⟨f6, rfl, fn8, bn8, ex7⟩ := h10
          refine hv3 (fp0.call fn8 rfl rfl) (show RWS ah10 from RWS.fr hW fn8 rfl) (show f6 = -1 from ex7) (fun fq13 pw7 gf6 => ?_)
          refine m_st (st2 := [.int (iI f6)]) rfl ?_
          refine hv4 (show 0 ≤ vh10 60 ∧ vh10 60 ≤ 50 from bn8.1 60) (show vh10 60 = v 60 from fn8.1 60 rfl) (show 0 ≤ vh10 61 ∧ vh10 61 ≤ 1 from bn8.1 61) (show vh10 61 = v 61 from fn8.1 61 rfl) (fun rv18 ve13 rv19 ve14 => ?_)
          exact m_iret C dX12_readings_66 rfl (Nat.le_of_ble_eq_true rfl) (Nat.le_of_ble_eq_true rfl) ⟨f6, rfl, fq13, bn8, ⟨pw7, RGX.bad (OKG.line (by omega)) (by omega) (by show (vh10 60) = v 60; omega) (by show (vh10 61) = v 61; omega) (fn8.2 58 rfl) (fn8.2 59 rfl)⟩⟩
      · refine m_aload_n (j := 0) C dX12_readings_39 rfl ?_
        refine m_aload_n (j := 0) C dX12_readings_40 rfl ?_
        refine m_iload_n (j := 2) C dX12_readings_41 rfl ?_
        refine m_call (mc2 := 0) (ms2 := 0) (As := [.int (iI l0)]) (rest := [.ref h0]) C (M_lineFault (l0 := l0) hB.rg ⟨by omega, by omega⟩ ⟨hB.1 36, hB.2 34⟩) dX12_readings_42 kV_X12_294 rfl ck_13 rfl (Nat.le_of_ble_eq_true rfl) ⟨Nat.le_of_ble_eq_true rfl, Nat.le_of_ble_eq_true rfl⟩ ⟨Nat.le_of_ble_eq_true rfl, Nat.le_of_ble_eq_true rfl⟩ (fun rh11 vh11 ah11 h11 => ?_)
        obtain ⟨f7, rfl, hf7, rfl, rfl⟩ := h11
        have gf7 : (f7 = 2 ∧ ¬ (0 ≤ l0 ∧ l0 < (v 36))) ∨ (f7 = 1 ∧ 0 ≤ l0 ∧ l0 < (v 36) ∧ a 34 l0.toNat < 0) ∨ (f7 = 0 ∧ 0 ≤ l0 ∧ l0 < (v 36) ∧ 0 ≤ a 34 l0.toNat) := hf7
        refine m_st (st2 := [.int (iI f7), .ref h0]) rfl ?_
        refine m_call (mc2 := 0) (ms2 := 0) (As := [.int (iI f7)]) (rest := []) C (B_bad (x := f7) hB (by show -2147483648 ≤ f7 ∧ f7 ≤ 2147483647; omega)) dX12_readings_45 kV_X12_154 rfl ck_13 rfl (Nat.le_of_ble_eq_true rfl) ⟨Nat.le_of_ble_eq_true rfl, Nat.le_of_ble_eq_true rfl⟩ ⟨Nat.le_of_ble_eq_true rfl, Nat.le_of_ble_eq_true rfl⟩ (fun rh12 vh12 ah12 h12 => ?_)
        obtain ⟨f8, rfl, fn9, bn9, ex8⟩ := h12
        refine hv3 (fp0.call fn9 rfl rfl) (show RWS ah12 from RWS.fr hW fn9 rfl) (show f8 = -1 from ex8) (fun fq14 pw8 gf8 => ?_)
        refine m_st (st2 := [.int (iI f8)]) rfl ?_
        refine hv4 (show 0 ≤ vh12 60 ∧ vh12 60 ≤ 50 from bn9.1 60) (show vh12 60 = v 60 from fn9.1 60 rfl) (show 0 ≤ vh12 61 ∧ vh12 61 ≤ 1 from bn9.1 61) (show vh12 61 = v 61 from fn9.1 61 rfl) (fun rv20 ve15 rv21 ve16 => ?_)
        exact m_iret C dX12_readings_48 rfl (Nat.le_of_ble_eq_true rfl) (Nat.le_of_ble_eq_true rfl) ⟨f8, rfl, fq14, bn9, ⟨pw8, RGX.bad (OKG.line (by omega)) (by omega) (by show (vh12 60) = v 60; omega) (by show (vh12 61) = v 61; omega) (fn9.2 58 rfl) (fn9.2 59 rfl)⟩⟩
    · clear gf1
      refine m_aload_n (j := 0) C dX12_readings_25 rfl ?_
      refine m_iconst C dX12_readings_26 ?_
      refine m_call (mc2 := 0) (ms2 := 0) (As := [.int (iI 3)]) (rest := []) C (B_bad (x := 3) hB (by show -2147483648 ≤ (3 : Int) ∧ (3 : Int) ≤ 2147483647; omega)) dX12_readings_27 kV_X12_154 rfl ck_13 rfl (Nat.le_of_ble_eq_true rfl) ⟨Nat.le_of_ble_eq_true rfl, Nat.le_of_ble_eq_true rfl⟩ ⟨Nat.le_of_ble_eq_true rfl, Nat.le_of_ble_eq_true rfl⟩ (fun rh13 vh13 ah13 h13 => ?_)
      obtain ⟨f9, rfl, fn10, bn10, ex9⟩ := h13
      refine hv3 (fp0.call fn10 rfl rfl) (show RWS ah13 from RWS.fr hW fn10 rfl) (show f9 = -1 from ex9) (fun fq15 pw9 gf9 => ?_)
      refine m_st (st2 := [.int (iI f9)]) rfl ?_
      refine hv4 (show 0 ≤ vh13 60 ∧ vh13 60 ≤ 50 from bn10.1 60) (show vh13 60 = v 60 from fn10.1 60 rfl) (show 0 ≤ vh13 61 ∧ vh13 61 ≤ 1 from bn10.1 61) (show vh13 61 = v 61 from fn10.1 61 rfl) (fun rv22 ve17 rv23 ve18 => ?_)
      exact m_iret C dX12_readings_30 rfl (Nat.le_of_ble_eq_true rfl) (Nat.le_of_ble_eq_true rfl) ⟨f9, rfl, fq15, bn10, ⟨pw9, RGX.bad (fun _ _ q9 => absurd (tl1.mpr q9.1) (by omega)) (by omega) (by show (vh13 60) = v 60; omega) (by show (vh13 61) = v 61; omega) (fn10.2 58 rfl) (fn10.2 59 rfl)⟩⟩
  · refine m_st (st2 := [.int (iI 0)]) (by rw [h1e]) ?_
    refine m_if_ne (tgt := 17) C ⟨by decide, by decide⟩ dX12_readings_7 (by decide) (fun z => absurd z (by omega)) (fun _ => ?_)
    refine m_aload_n (j := 0) C dX12_readings_10 rfl ?_
    refine m_bipush (z := 6) C dX12_readings_11 (by decide) ?_
    refine m_call (mc2 := 0) (ms2 := 0) (As := [.int (iI 6)]) (rest := []) C (B_bad (x := 6) hB (by show -2147483648 ≤ (6 : Int) ∧ (6 : Int) ≤ 2147483647; omega)) dX12_readings_13 kV_X12_154 rfl ck_13 rfl (Nat.le_of_ble_eq_true rfl) ⟨Nat.le_of_ble_eq_true rfl, Nat.le_of_ble_eq_true rfl⟩ ⟨Nat.le_of_ble_eq_true rfl, Nat.le_of_ble_eq_true rfl⟩ (fun rh14 vh14 ah14 h14 => ?_)
    obtain ⟨f10, rfl, fn11, bn11, ex10⟩ := h14
    refine hv3 (fp0.call fn11 rfl rfl) (show RWS ah14 from RWS.fr hW fn11 rfl) (show f10 = -1 from ex10) (fun fq16 pw10 gf10 => ?_)
    refine m_st (st2 := [.int (iI f10)]) rfl ?_
    refine hv4 (show 0 ≤ vh14 60 ∧ vh14 60 ≤ 50 from bn11.1 60) (show vh14 60 = v 60 from fn11.1 60 rfl) (show 0 ≤ vh14 61 ∧ vh14 61 ≤ 1 from bn11.1 61) (show vh14 61 = v 61 from fn11.1 61 rfl) (fun rv24 ve19 rv25 ve20 => ?_)
    exact m_iret C dX12_readings_16 rfl (Nat.le_of_ble_eq_true rfl) (Nat.le_of_ble_eq_true rfl) ⟨f10, rfl, fq16, bn11, ⟨pw10, RGX.bad (fun _ _ q9 => by have q8 := q9.2.1; omega) (by omega) (by show (vh14 60) = v 60; omega) (by show (vh14 61) = v 61; omega) (fn11.2 58 rfl) (fn11.2 59 rfl)⟩⟩
end
section
def hs (H : Heap) : Nat := (H.toList.map (fun c => c.slots.size)).sum
def mu (H : Heap) : Nat := 16 * H.size + hs H
theorem sbn_hs {s t : State} {locs : List Loc} {k n : Nat} (h : s.sameButNew t locs k n) : hs t.heap = hs s.heap + ((t.heap.toList.drop s.heap.size).map (·.slots.size)).sum := by
  obtain ⟨-, h2, -, -, -, h6⟩ := h
  have e : (t.heap.toList.take s.heap.size).map (fun c => c.slots.size) = s.heap.toList.map (fun c => c.slots.size) := by
    apply List.ext_getElem?
    intro i
    rw [List.getElem?_map, List.getElem?_map]
    by_cases hi : i < s.heap.size
    · rw [List.getElem?_take_of_lt hi]
      obtain ⟨c2, g1, -, g3, -⟩ := h6 i s.heap[i] (Array.getElem?_eq_getElem hi)
      rw [Array.getElem?_toList, Array.getElem?_toList, g1, Array.getElem?_eq_getElem hi]
      exact congrArg some g3
    · rw [List.getElem?_eq_none (by rw [List.length_take, Array.length_toList]; omega), List.getElem?_eq_none (by rw [Array.length_toList]; omega)]
  unfold hs
  rw [← e, ← List.sum_append, ← List.map_append, List.take_append_drop]
section MUS
variable {p : Program} {l : Launch} {e : Env} {R : Room} {s : State} {m : MethodId} {args : Array Value} {below : List Frame} {meth : Method} {c : Code} {T : State} {locs : List Loc} {kc ks : Nat}
theorem stand_mu (X : Stand p l e R s m args below meth c T locs kc ks) : mu T.heap ≤ mu s.heap + (16 * kc + ks) := by
  have h := X.same
  refine hv3 (show hs T.heap = hs s.heap + ((T.heap.toList.drop s.heap.size).map (·.slots.size)).sum from sbn_hs (t := T.setVm s.vm) h) (show T.heap.size ≤ s.heap.size + kc from h.2.2.1) (show ((T.heap.toList.drop s.heap.size).map (·.slots.size)).sum ≤ ks from h.2.2.2.2.1) (fun h1 h2 h3 => ?_)
  unfold mu
  rw [h1]
  omega
theorem stand_narrow (X : Stand p l e R s m args below meth c T locs kc ks) {u : Nat} (hu : mu T.heap ≤ mu s.heap + u) : ∃ kc2 ks2 : Nat, 16 * kc2 + ks2 ≤ u ∧ Stand p l e R s m args below meth c T locs kc2 ks2 := by
  have h := X.same
  refine hv2 (show hs T.heap = hs s.heap + ((T.heap.toList.drop s.heap.size).map (·.slots.size)).sum from sbn_hs (t := T.setVm s.vm) h) (show s.heap.size ≤ T.heap.size from h.2.1) (fun h1 h2 => ?_)
  refine ⟨T.heap.size - s.heap.size, ((T.heap.toList.drop s.heap.size).map (·.slots.size)).sum, ?_, { X with same := ⟨h.1, h.2.1, ?_, h.2.2.2.1, Nat.le_refl _, h.2.2.2.2.2⟩ }⟩
  · unfold mu at hu; omega
  · show T.heap.size ≤ s.heap.size + (T.heap.size - s.heap.size); omega
end MUS
abbrev PU : Type := Option Value → List Nat → (Nat → va_E) → Nat → Prop
def Qu (G : GT) (A : Nat → Prop) (Post : PU) : Array Value → State → Outcome → State → Prop := fun _ st oc t => (∃ (v : Option Value) (L2 : List Nat) (E2 : Nat → va_E) (u : Nat), oc = .returned v ∧ Post v L2 E2 u ∧ mu t.heap ≤ mu st.heap + u ∧ va_P G.1 vwCl (va_pl L2 E2) t.heap ∧ va_D A (va_pl L2 E2)) ∧ va_F A st t
abbrev rmu (d r : Nat) : Room := { frames := d, cells := r / 16, slots := r, locals := 64 * d }
def Mir (mi : Nat) (U : State) : Prop := va_Mi "[Ljava/lang/Object;" mi U ∧ va_Dc U
theorem Mir.warm {mi : Nat} {s U : State} (h : Mir mi s) (hW : s.WarmedH U.vm) : Mir mi U := ⟨va_Mi.moved hW.alike h.1, va_Dc.moved hW.alike h.2⟩
def Pcu (G : GT) (mi : Nat) (L : List Nat) (E : Nat → va_E) (sz : Nat) (U : State) : Prop := Pcq G L E sz U ∧ Mir mi U
def Mu (l : Launch) (G : GT) (mi : Nat) (y : MethodName) (cc : ByteArray) (n : Nat) (ret : Option FieldType) (d : Nat) (av : List Value) (L : List Nat) (E : Nat → va_E) (r : Nat) (Post : PU) : Prop :=
  ∀ sz : Nat, Met l y (.code y cc n ret :: lw_g) (rmu d r) (va_Pc av (Pcu G mi L E sz)) (Qu G (va_A (va_pl L E) sz) Post) (r / 16) r (va_A (va_pl L E) sz)

def wu (p : Program) (l : Launch) (e : Env) (d0 r0 : Nat) (s : State) (m : MethodId) (args : Array Value) (below : List Frame) (meth : Method) (c : Code) (G : GT) (A : Nat → Prop) (nL : Nat) (Q : State → Prop) (L : List Nat) (E : Nat → va_E) (u pc : Nat) (lv : List (Nat × Value)) (st : List Value) : Prop := ∀ kc ks : Nat, 16 * kc + ks ≤ u → wq p l e (rmu d0 r0) s m args below meth c G A nL Q L E kc ks pc lv st
theorem Pcu.blind {G : GT} {mi : Nat} {L : List Nat} {E : Nat → va_E} {sz : Nat} {av : List Value} : FrameBlind (va_Pc av (Pcu G mi L E sz)) := by
  intro a U g mk q
  have h1 := Pcq.blind (G := G) (L := L) (E := E) (sz := sz) (av := av) a U g mk ⟨q.1, q.2.1⟩
  exact ⟨h1.1, h1.2, va_Mi.moved (u := U) (U := U.calling g mk a) (Vm.Alike.refl U.vm) q.2.2.1, va_Dc.moved (u := U) (U := U.calling g mk a) (Vm.Alike.refl U.vm) q.2.2.2⟩
section UQ
variable {p : Program} {l : Launch} {e : Env} {d0 r0 : Nat} {s : State} {m : MethodId} {args : Array Value} {below : List Frame} {meth : Method} {c : Code} {cc : ByteArray} {y : MethodName} {ret : Option FieldType} {G : GT} {A : Nat → Prop} {nL mi : Nat} {Q : State → Prop} {L : List Nat} {E : Nat → va_E} {u pc : Nat} {lv : List (Nat × Value)} {st : List Value} {Post : PU}
theorem Mu.mk {n d r : Nat} {av : List Value} (hy : plainName y.cls = true) (hn : (lg_sl av).length ≤ n) (body : ∀ (p : Program) (e : Env) (s : State) (m : MethodId) (args : Array Value) (below : List Frame) (meth : Method) (c : Code) (A : Nat → Prop), Cq p s m args meth c cc y ret G A n → Mir mi s → wu p l e d r s m args below meth c G A n (MQ below (Qu G A Post) args s (r / 16) r A) L E 0 0 (lv_args 0 av) []) : Mu l G mi y cc n ret d av L E r Post := by
  intro sz
  refine Met.ofW (cc := cc) (maxL := n) (ret := ret) hy rfl ?_
  intro p e s m args below meth c s₁ B hml hv
  obtain ⟨rfl, ⟨hsz, hP, hK, hD0, hZ, hN⟩, hM⟩ := hv
  subst hsz
  refine hv2 (atoms_spec (ws := .code y cc n ret :: lw_g) B.pre) (lv_entry av (n := n) hn) (fun hts hl => ?_)
  rw [lg_entry_eq]
  have hown := findClass_of_methodNamed B.named
  exact body p e s m _ below meth c _ ⟨B.exec, B.bytes, hml, hown, fun w hw => hts w (List.mem_cons_of_mem _ hw), hK, fun q h => Or.inr h, hZ, B.returns, B.notSynchronized, (name_of_methodNamed B.named B.method).1, hN⟩ hM 0 0 (Nat.le_refl _) s.heap [] _ hP hD0.self va_S.rf hl
theorem u_after (C : Cq p s m args meth c cc y ret G A nL) {r2 kc ks : Nat} {a2 : Array Value} {st0 rest : List Value} {P2 : PU} {H : Heap} {locs : List Loc} {ls : Array Slot} (hu : 16 * kc + ks ≤ u) (hD : va_D A (va_pl L E)) (hS : va_S A s.heap H locs) (hl : lv_has ls nL lv) (hr : va_Run p l e (rmu d0 r0) s m args below meth c H locs kc ks (r2 / 16) r2 (F0 m pc ls st0) rest (Qu G (va_A (va_pl L E) H.size) P2 a2) (va_A (va_pl L E) H.size)) (kk : ∀ (v : Option Value) (L2 : List Nat) (E2 : Nat → va_E) (u2 : Nat), P2 v L2 E2 u2 → wu p l e d0 r0 s m args below meth c G A nL Q L2 E2 (u + u2) (pc + 3) lv (v.toList ++ rest)) : W p l e (rmu d0 r0) s m args below meth c H locs kc ks Q (F0 m pc ls st0) := by
  have hF := pl_free hD hS C.2.2.2.2.2.2.1
  intro T hT X
  obtain ⟨v, st₀, t, T', Lc, h0, X', hL, e1, e2, ⟨⟨v', L', E', u2, hv, hp, hm, hP', hD'⟩, hz, hk⟩, stp⟩ := hr T hT X
  cases hv
  have hmu := stand_mu X
  rw [hT] at hmu
  rw [h0] at hz hk hm
  obtain ⟨kc2, ks2, hn, X''⟩ := stand_narrow X' (u := u + u2) (by rw [e1]; omega)
  have hS1 : va_S A s.heap T'.heap (locs ++ Lc) := ⟨Nat.le_trans hS.1 (by rw [e1]; exact hz), fun q h1 h2 => by rw [e1, hk q (Nat.lt_of_lt_of_le h1 hS.1) (fun z => h2 (hF q z))]; exact hS.2.1 q h1 h2, fun q hq => by
      rcases List.mem_append.mp hq with h | h
      · exact hS.2.2 q h
      · exact hF _ (hL q h)⟩
  obtain ⟨t2, a1, b1⟩ := kk v L' E' u2 hp kc2 ks2 hn T'.heap (locs ++ Lc) ls (by rw [e1]; exact hP') (hD'.weaken (fun _ q _ h => hF q.1 h)) hS1 hl T' rfl X''
  exact ⟨t2, stp t2 a1, b1⟩
theorem u_room {kc ks u r2 r0 : Nat} (h : 16 * kc + ks ≤ u) (hr : u + r2 ≤ r0) : kc + r2 / 16 ≤ r0 / 16 ∧ ks + r2 ≤ r0 := ⟨by omega, by omega⟩
theorem u_callV (C : Cq p s m args meth c cc y ret G A nL) (hM : Mir mi s) {y2 : MethodName} {cc2 : ByteArray} {n2 d2 r2 idx k2 : Nat} {P2 : PU} {As rest : List Value} {b ci N : Nat} {ret2 : Option FieldType} {T : u_T} {ty : Nat → FieldType} {f : Nat → Value} (M : Mu l G mi y2 cc2 n2 ret2 d2 (.ref b :: As) L E r2 P2) (d : decode cc pc = .ok (.invokevirtual idx, 3)) (hw : Wv y.cls idx y2 cc2 n2 ret2 k2) (hk : As.length = k2) (hb : b ∈ L) (hE : E b = ob ci N f) (ck : Ck ci y2.cls T N ty) (hst : st = As.reverse ++ .ref b :: rest) (hcat : (rest.map fun v => v.category).sum ≤ 8) (hR : d2 + 1 ≤ d0 ∧ 8 + (n2 + 11) + 64 * d2 ≤ 64 * d0) (hf : u + r2 ≤ r0) (kk : ∀ (v : Option Value) (L2 : List Nat) (E2 : Nat → va_E) (u2 : Nat), P2 v L2 E2 u2 → wu p l e d0 r0 s m args below meth c G A nL Q L2 E2 (u + u2) (pc + 3) lv (v.toList ++ rest)) : wu p l e d0 r0 s m args below meth c G A nL Q L E u pc lv st := by
  intro kc ks hu H locs ls hP hD hS hl
  subst hst
  obtain ⟨q0, hq⟩ := pl_at (E := E) hb
  obtain ⟨⟨w1, w2, w3, w4⟩, w5, w6⟩ := hw
  have hts := C.2.2.2.2.1
  exact u_after C hu hD hS hl (va_runV (As := As) (rest := rest) (Ts := lw_g) ⟨C.1, C.2.1, C.2.2.1, C.2.2.2.1, hts⟩ (M H.size) ⟨callB_of k2 hts (lw_goodIn w3) rfl rfl rfl (hts _ w2) (hts _ w1) w4 hR, hts _ w5, hts _ w6⟩ ⟨Pcu.blind, va_recv C.2.2.2.2.2.1 hP (ci := ci) (q0 := q0) ck.1 (by rw [hq, hE]; rfl), fun U hU hW => ⟨rfl, ⟨by rw [hU], by rw [hU]; exact hP, va_K.moved hW.alike C.2.2.2.2.2.1, hD.weaken (fun _ _ _ _ => trivial), C.2.2.2.2.2.2.2.1.pass hS (pl_free hD hS C.2.2.2.2.2.2.1) hW.alike hU, C.2.2.2.2.2.2.2.2.2.2.2.warm hW⟩, hM.warm hW⟩⟩ rfl hk hl.1 rfl (lv_room hcat) d (u_room hu hf)) kk
theorem u_callI (C : Cq p s m args meth c cc y ret G A nL) (hM : Mir mi s) {y2 : MethodName} {cc2 : ByteArray} {n2 d2 r2 idx k2 : Nat} {P2 : PU} {As rest : List Value} {b : Nat} (M : Mu l G mi y2 cc2 n2 none d2 (.ref b :: As) L E r2 P2) (d : decode cc pc = .ok (.invokespecial idx, 3)) (hw : Wi y.cls idx y2 cc2 n2 k2) (hk : As.length = k2) (hst : st = As.reverse ++ .ref b :: rest) (hcat : (rest.map fun v => v.category).sum ≤ 8) (hR : d2 + 1 ≤ d0 ∧ 8 + (n2 + 11) + 64 * d2 ≤ 64 * d0) (hf : u + r2 ≤ r0) (kk : ∀ (v : Option Value) (L2 : List Nat) (E2 : Nat → va_E) (u2 : Nat), P2 v L2 E2 u2 → wu p l e d0 r0 s m args below meth c G A nL Q L2 E2 (u + u2) (pc + 3) lv (v.toList ++ rest)) : wu p l e d0 r0 s m args below meth c G A nL Q L E u pc lv st := by
  intro kc ks hu H locs ls hP hD hS hl
  subst hst
  obtain ⟨⟨w1, w2, w3, w4⟩, w5, w6⟩ := hw
  have hts := C.2.2.2.2.1
  exact u_after C hu hD hS hl (va_runI (As := As) (rest := rest) (Ts := lw_g) ⟨C.1, C.2.1, C.2.2.1, C.2.2.2.1, hts⟩ (M H.size) ⟨callB_of k2 hts (lw_goodIn w3) rfl rfl rfl (hts _ w2) (hts _ w1) w4 hR, w5, hts _ w6⟩ ⟨Pcu.blind, fun U hU hW => ⟨rfl, ⟨by rw [hU], by rw [hU]; exact hP, va_K.moved hW.alike C.2.2.2.2.2.1, hD.weaken (fun _ _ _ _ => trivial), C.2.2.2.2.2.2.2.1.pass hS (pl_free hD hS C.2.2.2.2.2.2.1) hW.alike hU, C.2.2.2.2.2.2.2.2.2.2.2.warm hW⟩, hM.warm hW⟩⟩ rfl hk hl.1 rfl (lv_room hcat) d (u_room hu hf)) kk
theorem u_callS (C : Cq p s m args meth c cc y ret G A nL) (hM : Mir mi s) {y2 : MethodName} {cc2 : ByteArray} {n2 d2 r2 idx k2 : Nat} {P2 : PU} {As rest : List Value} {ret2 : Option FieldType} (M : Mu l G mi y2 cc2 n2 ret2 d2 As L E r2 P2) (d : decode cc pc = .ok (.invokestatic idx, 3)) (hw : Ws y.cls idx y2 cc2 n2 ret2 k2) (hk : As.length = k2) (hst : st = As.reverse ++ rest) (hcat : (rest.map fun v => v.category).sum ≤ 8) (hR : d2 + 1 ≤ d0 ∧ 8 + (n2 + 11) + 64 * d2 ≤ 64 * d0) (hf : u + r2 ≤ r0) (kk : ∀ (v : Option Value) (L2 : List Nat) (E2 : Nat → va_E) (u2 : Nat), P2 v L2 E2 u2 → wu p l e d0 r0 s m args below meth c G A nL Q L2 E2 (u + u2) (pc + 3) lv (v.toList ++ rest)) : wu p l e d0 r0 s m args below meth c G A nL Q L E u pc lv st := by
  intro kc ks hu H locs ls hP hD hS hl
  subst hst
  obtain ⟨⟨w1, w2, w3, w4⟩, w5⟩ := hw
  have hts := C.2.2.2.2.1
  exact u_after C hu hD hS hl (va_runS (As := As) (rest := rest) (Ts := lw_g) ⟨C.1, C.2.1, C.2.2.1, C.2.2.2.1, hts⟩ (M H.size) ⟨callB_of k2 hts (lw_goodIn w3) rfl rfl rfl (hts _ w2) (hts _ w1) w4 hR, hts _ w5⟩ ⟨Pcu.blind, fun U hU hW => ⟨rfl, ⟨by rw [hU], by rw [hU]; exact hP, va_K.moved hW.alike C.2.2.2.2.2.1, hD.weaken (fun _ _ _ _ => trivial), C.2.2.2.2.2.2.2.1.pass hS (pl_free hD hS C.2.2.2.2.2.2.1) hW.alike hU, C.2.2.2.2.2.2.2.2.2.2.2.warm hW⟩, hM.warm hW⟩⟩ rfl hk hl.1 rfl (lv_room hcat) d (u_room hu hf)) kk
theorem u_callIN (C : Cq p s m args meth c cc y ret G A nL) (hM : Mir mi s) {y2 : MethodName} {cc2 : ByteArray} {n2 d2 r2 idx k2 : Nat} {P2 : PU} {As rest : List Value} {b : Nat} {host : String} (M : Mu l G mi y2 cc2 n2 none d2 (.ref b :: As) L E r2 P2) (d : decode cc pc = .ok (.invokespecial idx, 3)) (hw : Wn y.cls idx y2 host cc2 n2 k2) (hk : As.length = k2) (hst : st = As.reverse ++ .ref b :: rest) (hcat : (rest.map fun v => v.category).sum ≤ 8) (hR : d2 + 1 ≤ d0 ∧ 8 + (n2 + 11) + 64 * d2 ≤ 64 * d0) (hf : u + r2 ≤ r0) (kk : ∀ (v : Option Value) (L2 : List Nat) (E2 : Nat → va_E) (u2 : Nat), P2 v L2 E2 u2 → wu p l e d0 r0 s m args below meth c G A nL Q L2 E2 (u + u2) (pc + 3) lv (v.toList ++ rest)) : wu p l e d0 r0 s m args below meth c G A nL Q L E u pc lv st := by
  intro kc ks hu H locs ls hP hD hS hl
  subst hst
  obtain ⟨⟨w1, w2, w3, w4⟩, w5, w6⟩ := hw
  have hts := C.2.2.2.2.1
  exact u_after C hu hD hS hl (va_runIN (As := As) (rest := rest) (Ts := lw_g) ⟨C.1, C.2.1, C.2.2.1, C.2.2.2.1, hts⟩ (M H.size) ⟨va_cnB k2 hts (lw_goodIn w3) rfl rfl rfl (C.2.2.2.2.2.2.2.2.2.2.2.1 _ _ _ _ w1) (hts _ w2) w4 hR, w5, hts _ w6⟩ ⟨Pcu.blind, fun U hU hW => ⟨rfl, ⟨by rw [hU], by rw [hU]; exact hP, va_K.moved hW.alike C.2.2.2.2.2.1, hD.weaken (fun _ _ _ _ => trivial), C.2.2.2.2.2.2.2.1.pass hS (pl_free hD hS C.2.2.2.2.2.2.1) hW.alike hU, C.2.2.2.2.2.2.2.2.2.2.2.warm hW⟩, hM.warm hW⟩⟩ rfl hk hl.1 rfl (lv_room hcat) d (u_room hu hf)) kk
theorem u_wid {kc ks u r0 : Nat} (h : 16 * kc + ks ≤ u) (hr : u ≤ r0) : kc ≤ r0 / 16 ∧ ks ≤ r0 := ⟨by omega, by omega⟩
theorem u_iret (C : Cq p s m args meth c cc y ret G A nL) {v : Int32} (d : decode cc pc = .ok (.ireturn, 1)) (hr : ret = some .int) (hur : u ≤ r0) (hp : Post (some (.int v)) L E u) : wu p l e d0 r0 s m args below meth c G A nL (MQ below (Qu G A Post) args s (r0 / 16) r0 A) L E u pc lv [.int v] := by
  intro kc ks hu H locs ls hP hD hS hl T hT X
  have hmu := stand_mu X
  rw [hT] at hmu
  refine W.widen (u_wid hu hur).1 (u_wid hu hur).2 ?_ T hT X
  exact W.iret C.1 C.2.1 (C.2.2.2.2.2.2.2.2.1.trans hr) (fun t ht hW => ⟨⟨_, L, E, u, rfl, hp, by rw [ht]; omega, by rw [ht]; exact hP, hD⟩, hS.F ht⟩) hS.2.2 d C.2.2.2.2.2.2.2.2.2.1
theorem u_zret (C : Cq p s m args meth c cc y ret G A nL) {v : Int32} (d : decode cc pc = .ok (.ireturn, 1)) (hr : ret = some .boolean) (hn : narrow .boolean (.int v) = .int v) (hur : u ≤ r0) (hp : Post (some (.int v)) L E u) : wu p l e d0 r0 s m args below meth c G A nL (MQ below (Qu G A Post) args s (r0 / 16) r0 A) L E u pc lv [.int v] := by
  intro kc ks hu H locs ls hP hD hS hl T hT X
  have hmu := stand_mu X
  rw [hT] at hmu
  refine W.widen (u_wid hu hur).1 (u_wid hu hur).2 ?_ T hT X
  exact W.zret C.1 C.2.1 (C.2.2.2.2.2.2.2.2.1.trans hr) hn (fun t ht hW => ⟨⟨_, L, E, u, rfl, hp, by rw [ht]; omega, by rw [ht]; exact hP, hD⟩, hS.F ht⟩) hS.2.2 d C.2.2.2.2.2.2.2.2.2.1
theorem u_vret (C : Cq p s m args meth c cc y ret G A nL) (d : decode cc pc = .ok (.return_, 1)) (hr : ret = none) (hur : u ≤ r0) (hp : Post none L E u) : wu p l e d0 r0 s m args below meth c G A nL (MQ below (Qu G A Post) args s (r0 / 16) r0 A) L E u pc lv [] := by
  intro kc ks hu H locs ls hP hD hS hl T hT X
  have hmu := stand_mu X
  rw [hT] at hmu
  refine W.widen (u_wid hu hur).1 (u_wid hu hur).2 ?_ T hT X
  exact W.vret C.1 C.2.1 (C.2.2.2.2.2.2.2.2.1.trans hr) (fun t ht hW => ⟨⟨_, L, E, u, rfl, hp, by rw [ht]; omega, by rw [ht]; exact hP, hD⟩, hS.F ht⟩) hS.2.2 d C.2.2.2.2.2.2.2.2.2.1
theorem u_aret (C : Cq p s m args meth c cc y ret G A nL) {v : Value} {rt : FieldType} (d : decode cc pc = .ok (.areturn, 1)) (hr : ret = some rt) (hrt : (∃ n, rt = .object n) ∨ ∃ t, rt = .array t) (hv : v = .null ∨ ∃ a, v = .ref a) (hur : u ≤ r0) (hp : Post (some v) L E u) : wu p l e d0 r0 s m args below meth c G A nL (MQ below (Qu G A Post) args s (r0 / 16) r0 A) L E u pc lv [v] := by
  intro kc ks hu H locs ls hP hD hS hl T hT X
  have hmu := stand_mu X
  rw [hT] at hmu
  refine W.widen (u_wid hu hur).1 (u_wid hu hur).2 ?_ T hT X
  exact W.aret C.1 C.2.1 (C.2.2.2.2.2.2.2.2.1.trans hr) hrt hv (fun t ht hW => ⟨⟨_, L, E, u, rfl, hp, by rw [ht]; omega, by rw [ht]; exact hP, hD⟩, hS.F ht⟩) hS.2.2 d C.2.2.2.2.2.2.2.2.2.1
end UQ
end
section
def bt (t : Nat) : Nat := if t < 100 then (if t = 28 then 18 else if t = 69 then 67 else t) else if t < 130 then 100 else if t < 1000 then t else 1000 + t % 5
def kd (T : Nat) : Nat := match T with
  | 1 => 12
  | 2 => 2
  | 3 => 2
  | 4 => 2
  | 5 => 2
  | 6 => 2
  | 7 => 2
  | 8 => 2
  | 9 => 2
  | 10 => 2
  | 11 => 2
  | 12 => 2
  | 13 => 11
  | 14 => 9
  | 15 => 7
  | 16 => 4
  | 17 => 5
  | 18 => 8
  | 19 => 3
  | 20 => 6
  | 21 => 1
  | 22 => 0
  | 23 => 0
  | 24 => 0
  | 25 => 0
  | 26 => 0
  | 52 => 21
  | 56 => 21
  | 59 => 21
  | 67 => 22
  | 68 => 23
  | 100 => 10
  | 200 => 0
  | 201 => 1
  | 202 => 2
  | 203 => 3
  | 204 => 4
  | 205 => 5
  | 206 => 6
  | 207 => 7
  | 208 => 8
  | 209 => 9
  | 210 => 10
  | 211 => 11
  | 212 => 12
  | 213 => 22
  | 1000 => 24
  | 1001 => 24
  | 1002 => 24
  | 1003 => 24
  | 1004 => 24
  | _ => 20
def nf (ci : Nat) : Nat := match ci with
  | 0 => 3
  | 1 => 4
  | 2 => 3
  | 3 => 3
  | 4 => 8
  | 5 => 11
  | 6 => 4
  | 7 => 12
  | 8 => 3
  | 9 => 8
  | 10 => 8
  | 11 => 2
  | _ => 19
def rf (ci k : Nat) : Bool := (match ci with
  | 0 => [1]
  | 1 => [1, 2]
  | 2 => [1]
  | 3 => [0]
  | 4 => [0, 1, 2, 3, 4, 5, 6]
  | 5 => [0, 1, 2, 3, 4, 7, 8]
  | 6 => [1, 2]
  | 7 => [0, 1, 2, 3, 6, 8]
  | 8 => [0]
  | 9 => [3, 4, 6]
  | 10 => [2, 3, 4, 5, 6]
  | 11 => [0, 1]
  | _ => [0, 1, 2, 3, 4, 5, 6, 7, 8, 9, 10] : List Nat).contains k
def ofv (ci : Nat) (i : Nat → Int) (r : Nat → Option Nat) : Nat → Value := fun k => if rf ci k = true then va_rf (r k) else .int (iI (i k))
def enc (G : GT) (cl ln : Nat → Nat) (iv : Nat → Nat → Int) (rv : Nat → Nat → Option Nat) (a : Nat) : va_E := if kd (bt (cl a)) < 13 then ob (kd (bt (cl a))) (nf (kd (bt (cl a)))) (ofv (kd (bt (cl a))) (iv a) (rv a)) else if kd (bt (cl a)) = 20 then aI G (ln a) (fun j => iI (iv a j)) else if kd (bt (cl a)) = 21 then aZ G (ln a) (fun j => iI (iv a j)) else if kd (bt (cl a)) = 22 then aL G (ln a) (rv a) else if kd (bt (cl a)) = 23 then aR G (ln a) (rv a) else aO G (ln a) (rv a)
def ty (L : List Nat) (cl : Nat → Nat) (a T : Nat) : Prop := a ∈ L ∧ bt (cl a) = T
def upr (rv : Nat → Nat → Option Nat) (a k : Nat) (x : Option Nat) : Nat → Nat → Option Nat := fun b j => if b = a then (if j = k then x else rv b j) else rv b j
def up0 {α : Type} (f : Nat → Nat → α) (q : Nat) (x : α) : Nat → Nat → α := fun b j => if b = q then x else f b j
theorem upr_s {rv : Nat → Nat → Option Nat} {a k : Nat} {x : Option Nat} : upr rv a k x a k = x := by unfold upr; rw [if_pos rfl, if_pos rfl]
theorem upr_a {rv : Nat → Nat → Option Nat} {a k b : Nat} {x : Option Nat} (h : b ≠ a) : upr rv a k x b = rv b := by funext j; unfold upr; rw [if_neg h]
theorem upr_j {rv : Nat → Nat → Option Nat} {a k b j : Nat} {x : Option Nat} (h : j ≠ k) : upr rv a k x b j = rv b j := by unfold upr; simp [h]
theorem upi_a {iv : Nat → Nat → Int} {a k b : Nat} {x : Int} (h : b ≠ a) : up2 iv a k x b = iv b := by funext j; exact up2_k h
theorem up0_s {α : Type} {f : Nat → Nat → α} {q : Nat} {x : α} {j : Nat} : up0 f q x q j = x := by unfold up0; rw [if_pos rfl]
theorem up0_a {α : Type} {f : Nat → Nat → α} {q b : Nat} {x : α} (h : b ≠ q) : up0 f q x b = f b := by funext j; unfold up0; rw [if_neg h]
theorem ofv_i {ci k : Nat} {i : Nat → Int} {r : Nat → Option Nat} (h : rf ci k = false) : ofv ci i r k = .int (iI (i k)) := by unfold ofv; rw [h]; rfl
theorem ofv_r {ci k : Nat} {i : Nat → Int} {r : Nat → Option Nat} (h : rf ci k = true) : ofv ci i r k = va_rf (r k) := by unfold ofv; rw [h]; rfl
section ENC
variable {G : GT} {cl ln : Nat → Nat} {iv : Nat → Nat → Int} {rv : Nat → Nat → Option Nat} {a T ci N : Nat} {L : List Nat}
theorem enc_ob (ha : ty L cl a T) (hT : kd T = ci) (hN : nf ci = N) (h13 : ci < 13) : enc G cl ln iv rv a = ob ci N (ofv ci (iv a) (rv a)) := by unfold enc; rw [ha.2, hT, if_pos h13, hN]
theorem enc_I (ha : ty L cl a T) (hT : kd T = 20) : enc G cl ln iv rv a = aI G (ln a) (fun j => iI (iv a j)) := by unfold enc; rw [ha.2, hT]; rfl
theorem enc_Z (ha : ty L cl a T) (hT : kd T = 21) : enc G cl ln iv rv a = aZ G (ln a) (fun j => iI (iv a j)) := by unfold enc; rw [ha.2, hT]; rfl
theorem enc_L (ha : ty L cl a T) (hT : kd T = 22) : enc G cl ln iv rv a = aL G (ln a) (rv a) := by unfold enc; rw [ha.2, hT]; rfl
theorem enc_R (ha : ty L cl a T) (hT : kd T = 23) : enc G cl ln iv rv a = aR G (ln a) (rv a) := by unfold enc; rw [ha.2, hT]; rfl
theorem enc_O (ha : ty L cl a T) (hT : kd T = 24) : enc G cl ln iv rv a = aO G (ln a) (rv a) := by unfold enc; rw [ha.2, hT]; rfl
theorem enc_ext {cl2 ln2 : Nat → Nat} {iv2 : Nat → Nat → Int} {rv2 : Nat → Nat → Option Nat} (h1 : kd (bt (cl2 a)) = kd (bt (cl a))) (h2 : ln2 a = ln a) (h3 : iv2 a = iv a) (h4 : rv2 a = rv a) : enc G cl2 ln2 iv2 rv2 a = enc G cl ln iv rv a := by unfold enc; rw [h1, h2, h3, h4]
theorem enc_up {cl2 ln2 : Nat → Nat} {iv2 : Nat → Nat → Int} {rv2 : Nat → Nat → Option Nat} {x : va_E} (h : ∀ b, b ≠ a → cl2 b = cl b ∧ ln2 b = ln b ∧ iv2 b = iv b ∧ rv2 b = rv b) (hx : enc G cl2 ln2 iv2 rv2 a = x) : va_up (enc G cl ln iv rv) a x = enc G cl2 ln2 iv2 rv2 := by
  funext b
  by_cases e : b = a
  · subst e; rw [va_up_self, hx]
  · rw [va_up_ne _ _ e]
    obtain ⟨q1, q2, q3, q4⟩ := h b e
    exact (enc_ext (by rw [q1]) q2 q3 q4).symm
theorem enc_put {k : Nat} {z : Int} (ha : ty L cl a T) (hT : kd T = ci) (hN : nf ci = N) (h13 : ci < 13) (hr : rf ci k = false) : va_up (enc G cl ln iv rv) a (ob ci N (va_up (ofv ci (iv a) (rv a)) k (.int (iI z)))) = enc G cl ln (up2 iv a k z) rv := by
  refine enc_up (fun b hb => ⟨rfl, rfl, upi_a hb, rfl⟩) ?_
  rw [enc_ob ha hT hN h13]
  congr 1
  funext j
  by_cases e : j = k
  · subst e; rw [va_up_self, ofv_i hr, up2_s]
  · rw [va_up_ne _ _ e]; unfold ofv; rw [up2_j e]
theorem enc_putr {k : Nat} {x : Option Nat} (ha : ty L cl a T) (hT : kd T = ci) (hN : nf ci = N) (h13 : ci < 13) (hr : rf ci k = true) : va_up (enc G cl ln iv rv) a (ob ci N (va_up (ofv ci (iv a) (rv a)) k (va_rf x))) = enc G cl ln iv (upr rv a k x) := by
  refine enc_up (fun b hb => ⟨rfl, rfl, rfl, upr_a hb⟩) ?_
  rw [enc_ob ha hT hN h13]
  congr 1
  funext j
  by_cases e : j = k
  · subst e; rw [va_up_self, ofv_r hr, upr_s]
  · rw [va_up_ne _ _ e]; unfold ofv; rw [upr_j e]
theorem enc_ast {k : Nat} {z : Int} (ha : ty L cl a T) (hT : kd T = 20) : va_up (enc G cl ln iv rv) a (aI G (ln a) (fun j => if j = k then iI z else iI (iv a j))) = enc G cl ln (up2 iv a k z) rv := by
  refine enc_up (fun b hb => ⟨rfl, rfl, upi_a hb, rfl⟩) ?_
  rw [enc_I ha hT]
  congr 1
  funext j
  by_cases e : j = k
  · subst e; rw [if_pos rfl, up2_s]
  · rw [if_neg e, up2_j e]
theorem enc_zst {k : Nat} {z : Int} (ha : ty L cl a T) (hT : kd T = 21) : va_up (enc G cl ln iv rv) a (aZ G (ln a) (fun j => if j = k then iI z else iI (iv a j))) = enc G cl ln (up2 iv a k z) rv := by
  refine enc_up (fun b hb => ⟨rfl, rfl, upi_a hb, rfl⟩) ?_
  rw [enc_Z ha hT]
  congr 1
  funext j
  by_cases e : j = k
  · subst e; rw [if_pos rfl, up2_s]
  · rw [if_neg e, up2_j e]
theorem upr_up {k : Nat} {x : Option Nat} : upr rv a k x a = va_up (rv a) k x := by
  funext j
  by_cases e : j = k
  · subst e; rw [upr_s, va_up_self]
  · rw [upr_j e, va_up_ne _ _ e]
theorem enc_rst {k : Nat} {x : Option Nat} {mk : (Nat → Option Nat) → va_E} (hm : ∀ r2 : Nat → Nat → Option Nat, enc G cl ln iv r2 a = mk (r2 a)) : va_up (enc G cl ln iv rv) a (mk (va_up (rv a) k x)) = enc G cl ln iv (upr rv a k x) := by
  refine enc_up (fun b hb => ⟨rfl, rfl, rfl, upr_a hb⟩) ?_
  rw [hm, upr_up]
end ENC
theorem ob_ext {ci N : Nat} {f g : Nat → Value} (h : ∀ j, j < N → f j = g j) : ob ci N f = ob ci N g := by
  unfold ob
  congr 2
  exact List.map_congr_left (fun j hj => h j (List.mem_range.mp hj))
abbrev PF : Type := (Nat → Nat) → (Nat → Nat → Option Nat) → Nat
def cw (p : Program) (l : Launch) (e : Env) (d0 r0 : Nat) (s : State) (m : MethodId) (args : Array Value) (below : List Frame) (meth : Method) (c : Code) (G : GT) (A : Nat → Prop) (nL : Nat) (Q : State → Prop) (Pf : PF) (ph : Nat) (L : List Nat) (cl ln : Nat → Nat) (iv : Nat → Nat → Int) (rv : Nat → Nat → Option Nat) (K pc : Nat) (lv : List (Nat × Value)) (st : List Value) : Prop := ∀ u : Nat, u + ph ≤ Pf ln rv + K → wu p l e d0 r0 s m args below meth c G A nL Q L (enc G cl ln iv rv) u pc lv st
abbrev PC : Type := Option Value → List Nat → (Nat → Nat) → (Nat → Nat) → (Nat → Nat → Int) → (Nat → Nat → Option Nat) → Prop
def Qp (G : GT) (Pf : PF) (ph c0 : Nat) (Post : PC) : PU := fun v L2 E2 u => ∃ (cl2 ln2 : Nat → Nat) (iv2 : Nat → Nat → Int) (rv2 : Nat → Nat → Option Nat), E2 = enc G cl2 ln2 iv2 rv2 ∧ u + ph ≤ Pf ln2 rv2 + c0 ∧ Post v L2 cl2 ln2 iv2 rv2
def Mc (l : Launch) (G : GT) (mi : Nat) (Pf : PF) (pm : Nat) (y : MethodName) (cc : ByteArray) (n : Nat) (ret : Option FieldType) (d : Nat) (av : List Value) (L : List Nat) (cl ln : Nat → Nat) (iv : Nat → Nat → Int) (rv : Nat → Nat → Option Nat) (c0 : Nat) (Post : PC) : Prop := Mu l G mi y cc n ret d av L (enc G cl ln iv rv) (pm + c0 - Pf ln rv) (Qp G Pf (Pf ln rv) c0 Post)
section CQ
variable {p : Program} {l : Launch} {e : Env} {d0 r0 : Nat} {s : State} {m : MethodId} {args : Array Value} {below : List Frame} {meth : Method} {c : Code} {cc : ByteArray} {y : MethodName} {ret : Option FieldType} {G : GT} {A : Nat → Prop} {nL mi : Nat} {Q : State → Prop} {Pf : PF} {ph : Nat} {L : List Nat} {cl ln : Nat → Nat} {iv : Nat → Nat → Int} {rv : Nat → Nat → Option Nat} {K pc : Nat} {lv : List (Nat × Value)} {st : List Value}
theorem c_iconst (C : Cq p s m args meth c cc y ret G A nL) {n : Int} (d : decode cc pc = .ok (.iconst n, 1))  (k : cw p l e d0 r0 s m args below meth c G A nL Q Pf ph L cl ln iv rv K (pc + 1) lv (.int (iI n) :: st)) : cw p l e d0 r0 s m args below meth c G A nL Q Pf ph L cl ln iv rv K pc lv st := fun uu huu kc ks hkk => q_iconst C d rfl (k uu huu kc ks hkk)
theorem c_bipush (C : Cq p s m args meth c cc y ret G A nL) {n z : Int} (d : decode cc pc = .ok (.bipush n, 2)) (hz : (Int8.ofInt n).toInt32 = iI z) (k : cw p l e d0 r0 s m args below meth c G A nL Q Pf ph L cl ln iv rv K (pc + 2) lv (.int (iI z) :: st)) : cw p l e d0 r0 s m args below meth c G A nL Q Pf ph L cl ln iv rv K pc lv st := fun uu huu kc ks hkk => q_bipush C d hz (k uu huu kc ks hkk)
theorem c_sipush (C : Cq p s m args meth c cc y ret G A nL) {n z : Int} (d : decode cc pc = .ok (.sipush n, 3)) (hz : (Int16.ofInt n).toInt32 = iI z) (k : cw p l e d0 r0 s m args below meth c G A nL Q Pf ph L cl ln iv rv K (pc + 3) lv (.int (iI z) :: st)) : cw p l e d0 r0 s m args below meth c G A nL Q Pf ph L cl ln iv rv K pc lv st := fun uu huu kc ks hkk => q_sipush C d hz (k uu huu kc ks hkk)
theorem c_ldc (C : Cq p s m args meth c cc y ret G A nL) {idx : Nat} {x : Int32} {z : Int} (d : decode cc pc = .ok (.ldc idx, 2)) (hc : Cond.constant y.cls idx x ∈ lw_g) (hz : x = iI z) (k : cw p l e d0 r0 s m args below meth c G A nL Q Pf ph L cl ln iv rv K (pc + 2) lv (.int (iI z) :: st)) : cw p l e d0 r0 s m args below meth c G A nL Q Pf ph L cl ln iv rv K pc lv st := fun uu huu kc ks hkk => q_ldc C d hc (hz ▸ k uu huu kc ks hkk)
theorem c_iload_n (C : Cq p s m args meth c cc y ret G A nL) {i : Fin 4} {j : Nat} {x : Int32} (d : decode cc pc = .ok (.iload_n i, 1)) (hj : lv[j]? = some ((i : Nat), .int x)) (k : cw p l e d0 r0 s m args below meth c G A nL Q Pf ph L cl ln iv rv K (pc + 1) lv (.int x :: st)) : cw p l e d0 r0 s m args below meth c G A nL Q Pf ph L cl ln iv rv K pc lv st := fun uu huu kc ks hkk => q_iload_n C d hj (k uu huu kc ks hkk)
theorem c_iload (C : Cq p s m args meth c cc y ret G A nL) {i j : Nat} {x : Int32} (d : decode cc pc = .ok (.iload i, 2)) (hj : lv[j]? = some (i, .int x)) (k : cw p l e d0 r0 s m args below meth c G A nL Q Pf ph L cl ln iv rv K (pc + 2) lv (.int x :: st)) : cw p l e d0 r0 s m args below meth c G A nL Q Pf ph L cl ln iv rv K pc lv st := fun uu huu kc ks hkk => q_iload C d hj (k uu huu kc ks hkk)
theorem c_aload_n (C : Cq p s m args meth c cc y ret G A nL) {i : Fin 4} {j : Nat} {x : Nat} (d : decode cc pc = .ok (.aload_n i, 1)) (hj : lv[j]? = some ((i : Nat), .ref x)) (k : cw p l e d0 r0 s m args below meth c G A nL Q Pf ph L cl ln iv rv K (pc + 1) lv (.ref x :: st)) : cw p l e d0 r0 s m args below meth c G A nL Q Pf ph L cl ln iv rv K pc lv st := fun uu huu kc ks hkk => q_aload_n C d hj (k uu huu kc ks hkk)
theorem c_aload (C : Cq p s m args meth c cc y ret G A nL) {i j : Nat} {x : Nat} (d : decode cc pc = .ok (.aload i, 2)) (hj : lv[j]? = some (i, .ref x)) (k : cw p l e d0 r0 s m args below meth c G A nL Q Pf ph L cl ln iv rv K (pc + 2) lv (.ref x :: st)) : cw p l e d0 r0 s m args below meth c G A nL Q Pf ph L cl ln iv rv K pc lv st := fun uu huu kc ks hkk => q_aload C d hj (k uu huu kc ks hkk)
theorem c_istore_n (C : Cq p s m args meth c cc y ret G A nL) {i : Fin 4} {x : Int32} {lv2 : List (Nat × Value)} (d : decode cc pc = .ok (.istore_n i, 1)) (hn : (i : Nat) < nL) (hl : ((i : Nat), Value.int x) :: lv.filter (fun q => !(q.1 == (i : Nat)) && !(q.1 + 1 == (i : Nat) && q.2.category == 2)) = lv2) (k : cw p l e d0 r0 s m args below meth c G A nL Q Pf ph L cl ln iv rv K (pc + 1) lv2 st) : cw p l e d0 r0 s m args below meth c G A nL Q Pf ph L cl ln iv rv K pc lv (Value.int x :: st) := fun uu huu kc ks hkk => q_istore_n C d hn hl (k uu huu kc ks hkk)
theorem c_istore (C : Cq p s m args meth c cc y ret G A nL) {i : Nat} {x : Int32} {lv2 : List (Nat × Value)} (d : decode cc pc = .ok (.istore i, 2)) (hn : i < nL) (hl : (i, Value.int x) :: lv.filter (fun q => !(q.1 == i) && !(q.1 + 1 == i && q.2.category == 2)) = lv2) (k : cw p l e d0 r0 s m args below meth c G A nL Q Pf ph L cl ln iv rv K (pc + 2) lv2 st) : cw p l e d0 r0 s m args below meth c G A nL Q Pf ph L cl ln iv rv K pc lv (Value.int x :: st) := fun uu huu kc ks hkk => q_istore C d hn hl (k uu huu kc ks hkk)
theorem c_astore_n (C : Cq p s m args meth c cc y ret G A nL) {i : Fin 4} {x : Nat} {lv2 : List (Nat × Value)} (d : decode cc pc = .ok (.astore_n i, 1)) (hn : (i : Nat) < nL) (hl : ((i : Nat), Value.ref x) :: lv.filter (fun q => !(q.1 == (i : Nat)) && !(q.1 + 1 == (i : Nat) && q.2.category == 2)) = lv2) (k : cw p l e d0 r0 s m args below meth c G A nL Q Pf ph L cl ln iv rv K (pc + 1) lv2 st) : cw p l e d0 r0 s m args below meth c G A nL Q Pf ph L cl ln iv rv K pc lv (Value.ref x :: st) := fun uu huu kc ks hkk => q_astore_n C d hn hl (k uu huu kc ks hkk)
theorem c_astore (C : Cq p s m args meth c cc y ret G A nL) {i : Nat} {x : Nat} {lv2 : List (Nat × Value)} (d : decode cc pc = .ok (.astore i, 2)) (hn : i < nL) (hl : (i, Value.ref x) :: lv.filter (fun q => !(q.1 == i) && !(q.1 + 1 == i && q.2.category == 2)) = lv2) (k : cw p l e d0 r0 s m args below meth c G A nL Q Pf ph L cl ln iv rv K (pc + 2) lv2 st) : cw p l e d0 r0 s m args below meth c G A nL Q Pf ph L cl ln iv rv K pc lv (Value.ref x :: st) := fun uu huu kc ks hkk => q_astore C d hn hl (k uu huu kc ks hkk)
theorem c_iinc (C : Cq p s m args meth c cc y ret G A nL) {i j : Nat} {n z : Int} {lv2 : List (Nat × Value)} (d : decode cc pc = .ok (.iinc i n, 3)) (hj : lv[j]? = some (i, .int (iI z))) (hn : i < nL) (hl : (i, Value.int (iI (z + n))) :: lv.filter (fun q => !(q.1 == i) && !(q.1 + 1 == i && q.2.category == 2)) = lv2) (k : cw p l e d0 r0 s m args below meth c G A nL Q Pf ph L cl ln iv rv K (pc + 3) lv2 st) : cw p l e d0 r0 s m args below meth c G A nL Q Pf ph L cl ln iv rv K pc lv st := fun uu huu kc ks hkk => q_iinc C d hj (Int32.ofInt_add z n).symm hn hl (k uu huu kc ks hkk)
theorem c_iadd (C : Cq p s m args meth c cc y ret G A nL) {x z : Int} (d : decode cc pc = .ok (.iadd, 1))  (k : cw p l e d0 r0 s m args below meth c G A nL Q Pf ph L cl ln iv rv K (pc + 1) lv (.int (iI (x + z)) :: st)) : cw p l e d0 r0 s m args below meth c G A nL Q Pf ph L cl ln iv rv K pc lv (.int (iI z) :: .int (iI x) :: st) := fun uu huu kc ks hkk => q_iadd C d (Int32.ofInt_add x z).symm (k uu huu kc ks hkk)
theorem c_isub (C : Cq p s m args meth c cc y ret G A nL) {x z : Int} (d : decode cc pc = .ok (.isub, 1))  (k : cw p l e d0 r0 s m args below meth c G A nL Q Pf ph L cl ln iv rv K (pc + 1) lv (.int (iI (x - z)) :: st)) : cw p l e d0 r0 s m args below meth c G A nL Q Pf ph L cl ln iv rv K pc lv (.int (iI z) :: .int (iI x) :: st) := fun uu huu kc ks hkk => q_isub C d (Int32.ofInt_sub x z).symm (k uu huu kc ks hkk)
theorem c_imul (C : Cq p s m args meth c cc y ret G A nL) {x z : Int} (d : decode cc pc = .ok (.imul, 1))  (k : cw p l e d0 r0 s m args below meth c G A nL Q Pf ph L cl ln iv rv K (pc + 1) lv (.int (iI (x * z)) :: st)) : cw p l e d0 r0 s m args below meth c G A nL Q Pf ph L cl ln iv rv K pc lv (.int (iI z) :: .int (iI x) :: st) := fun uu huu kc ks hkk => q_imul C d (Int32.ofInt_mul x z).symm (k uu huu kc ks hkk)
theorem c_iand (C : Cq p s m args meth c cc y ret G A nL) {x y2 w : Int32} (d : decode cc pc = .ok (.iand, 1)) (hv : x &&& y2 = w) (k : cw p l e d0 r0 s m args below meth c G A nL Q Pf ph L cl ln iv rv K (pc + 1) lv (.int w :: st)) : cw p l e d0 r0 s m args below meth c G A nL Q Pf ph L cl ln iv rv K pc lv (.int y2 :: .int x :: st) := fun uu huu kc ks hkk => q_iand C d hv (k uu huu kc ks hkk)
theorem c_ior (C : Cq p s m args meth c cc y ret G A nL) {x y2 w : Int32} (d : decode cc pc = .ok (.ior, 1)) (hv : x ||| y2 = w) (k : cw p l e d0 r0 s m args below meth c G A nL Q Pf ph L cl ln iv rv K (pc + 1) lv (.int w :: st)) : cw p l e d0 r0 s m args below meth c G A nL Q Pf ph L cl ln iv rv K pc lv (.int y2 :: .int x :: st) := fun uu huu kc ks hkk => q_ior C d hv (k uu huu kc ks hkk)
theorem c_ixor (C : Cq p s m args meth c cc y ret G A nL) {x y2 w : Int32} (d : decode cc pc = .ok (.ixor, 1)) (hv : x ^^^ y2 = w) (k : cw p l e d0 r0 s m args below meth c G A nL Q Pf ph L cl ln iv rv K (pc + 1) lv (.int w :: st)) : cw p l e d0 r0 s m args below meth c G A nL Q Pf ph L cl ln iv rv K pc lv (.int y2 :: .int x :: st) := fun uu huu kc ks hkk => q_ixor C d hv (k uu huu kc ks hkk)
theorem c_ishl (C : Cq p s m args meth c cc y ret G A nL) {x y2 w : Int32} (d : decode cc pc = .ok (.ishl, 1)) (hv : x <<< (y2 &&& 31) = w) (k : cw p l e d0 r0 s m args below meth c G A nL Q Pf ph L cl ln iv rv K (pc + 1) lv (.int w :: st)) : cw p l e d0 r0 s m args below meth c G A nL Q Pf ph L cl ln iv rv K pc lv (.int y2 :: .int x :: st) := fun uu huu kc ks hkk => q_ishl C d hv (k uu huu kc ks hkk)
theorem c_ishr (C : Cq p s m args meth c cc y ret G A nL) {x y2 w : Int32} (d : decode cc pc = .ok (.ishr, 1)) (hv : x >>> (y2 &&& 31) = w) (k : cw p l e d0 r0 s m args below meth c G A nL Q Pf ph L cl ln iv rv K (pc + 1) lv (.int w :: st)) : cw p l e d0 r0 s m args below meth c G A nL Q Pf ph L cl ln iv rv K pc lv (.int y2 :: .int x :: st) := fun uu huu kc ks hkk => q_ishr C d hv (k uu huu kc ks hkk)
theorem c_iushr (C : Cq p s m args meth c cc y ret G A nL) {x y2 w : Int32} (d : decode cc pc = .ok (.iushr, 1)) (hv : (x.toUInt32 >>> (y2.toUInt32 &&& Int32.toUInt32 31)).toInt32 = w) (k : cw p l e d0 r0 s m args below meth c G A nL Q Pf ph L cl ln iv rv K (pc + 1) lv (.int w :: st)) : cw p l e d0 r0 s m args below meth c G A nL Q Pf ph L cl ln iv rv K pc lv (.int y2 :: .int x :: st) := fun uu huu kc ks hkk => q_iushr C d hv (k uu huu kc ks hkk)
theorem c_idiv (C : Cq p s m args meth c cc y ret G A nL) {x y2 w : Int32} (d : decode cc pc = .ok (.idiv, 1)) (hne : ¬ y2 = 0) (hv : x / y2 = w) (k : cw p l e d0 r0 s m args below meth c G A nL Q Pf ph L cl ln iv rv K (pc + 1) lv (.int w :: st)) : cw p l e d0 r0 s m args below meth c G A nL Q Pf ph L cl ln iv rv K pc lv (.int y2 :: .int x :: st) := fun uu huu kc ks hkk => q_idiv C d hne hv (k uu huu kc ks hkk)
theorem c_ineg (C : Cq p s m args meth c cc y ret G A nL) {z : Int} (d : decode cc pc = .ok (.ineg, 1))  (k : cw p l e d0 r0 s m args below meth c G A nL Q Pf ph L cl ln iv rv K (pc + 1) lv (.int (iI (-z)) :: st)) : cw p l e d0 r0 s m args below meth c G A nL Q Pf ph L cl ln iv rv K pc lv (.int (iI z) :: st) := fun uu huu kc ks hkk => q_ineg C d (Int32.ofInt_neg z).symm (k uu huu kc ks hkk)
theorem c_dup (C : Cq p s m args meth c cc y ret G A nL) {u : Value} (d : decode cc pc = .ok (.dup, 1)) (hu : u.category = 1) (k : cw p l e d0 r0 s m args below meth c G A nL Q Pf ph L cl ln iv rv K (pc + 1) lv (u :: u :: st)) : cw p l e d0 r0 s m args below meth c G A nL Q Pf ph L cl ln iv rv K pc lv (u :: st) := fun uu huu kc ks hkk => q_dup C d hu (k uu huu kc ks hkk)
theorem c_pop (C : Cq p s m args meth c cc y ret G A nL) {u : Value} (d : decode cc pc = .ok (.pop, 1)) (hu : u.category = 1) (k : cw p l e d0 r0 s m args below meth c G A nL Q Pf ph L cl ln iv rv K (pc + 1) lv st) : cw p l e d0 r0 s m args below meth c G A nL Q Pf ph L cl ln iv rv K pc lv (u :: st) := fun uu huu kc ks hkk => q_pop C d hu (k uu huu kc ks hkk)
theorem c_dup2 (C : Cq p s m args meth c cc y ret G A nL) {u w : Value} (d : decode cc pc = .ok (.dup2, 1)) (hu : u.category = 1) (hw : w.category = 1) (k : cw p l e d0 r0 s m args below meth c G A nL Q Pf ph L cl ln iv rv K (pc + 1) lv (u :: w :: u :: w :: st)) : cw p l e d0 r0 s m args below meth c G A nL Q Pf ph L cl ln iv rv K pc lv (u :: w :: st) := fun uu huu kc ks hkk => q_dup2 C d hu hw (k uu huu kc ks hkk)
theorem c_goto (C : Cq p s m args meth c cc y ret G A nL) {off : Int} {tgt : Nat} (d : decode cc pc = .ok (.goto off, 3)) (ht : (pc : Int) + off = (tgt : Int)) (k : cw p l e d0 r0 s m args below meth c G A nL Q Pf ph L cl ln iv rv K tgt lv st) : cw p l e d0 r0 s m args below meth c G A nL Q Pf ph L cl ln iv rv K pc lv st := fun uu huu kc ks hkk => q_goto C d ht (k uu huu kc ks hkk)
theorem c_icmp_eq (C : Cq p s m args meth c cc y ret G A nL) {x z off : Int} {tgt : Nat} (hx : R32 x) (hz : R32 z) (d : decode cc pc = .ok (.if_icmp .eq off, 3)) (ht : (pc : Int) + off = (tgt : Int)) (kt : x = z → cw p l e d0 r0 s m args below meth c G A nL Q Pf ph L cl ln iv rv K tgt lv st) (kf : ¬ x = z → cw p l e d0 r0 s m args below meth c G A nL Q Pf ph L cl ln iv rv K (pc + 3) lv st) : cw p l e d0 r0 s m args below meth c G A nL Q Pf ph L cl ln iv rv K pc lv (.int (iI z) :: .int (iI x) :: st) := fun uu huu kc ks hkk => q_icmp_eq C d ht (fun q => kt ((iI_eq hx hz).mp q) uu huu kc ks hkk) (fun q => kf (fun r => q ((iI_eq hx hz).mpr r)) uu huu kc ks hkk)
theorem c_if_eq (C : Cq p s m args meth c cc y ret G A nL) {x off : Int} {tgt : Nat} (hx : R32 x) (d : decode cc pc = .ok (.ifCond .eq off, 3)) (ht : (pc : Int) + off = (tgt : Int)) (kt : x = 0 → cw p l e d0 r0 s m args below meth c G A nL Q Pf ph L cl ln iv rv K tgt lv st) (kf : ¬ x = 0 → cw p l e d0 r0 s m args below meth c G A nL Q Pf ph L cl ln iv rv K (pc + 3) lv st) : cw p l e d0 r0 s m args below meth c G A nL Q Pf ph L cl ln iv rv K pc lv (.int (iI x) :: st) := fun uu huu kc ks hkk => q_if_eq C d ht (fun q => kt ((iI_eq hx R32_0).mp q) uu huu kc ks hkk) (fun q => kf (fun r => q ((iI_eq hx R32_0).mpr r)) uu huu kc ks hkk)
theorem c_icmp_ne (C : Cq p s m args meth c cc y ret G A nL) {x z off : Int} {tgt : Nat} (hx : R32 x) (hz : R32 z) (d : decode cc pc = .ok (.if_icmp .ne off, 3)) (ht : (pc : Int) + off = (tgt : Int)) (kt : ¬ x = z → cw p l e d0 r0 s m args below meth c G A nL Q Pf ph L cl ln iv rv K tgt lv st) (kf : x = z → cw p l e d0 r0 s m args below meth c G A nL Q Pf ph L cl ln iv rv K (pc + 3) lv st) : cw p l e d0 r0 s m args below meth c G A nL Q Pf ph L cl ln iv rv K pc lv (.int (iI z) :: .int (iI x) :: st) := fun uu huu kc ks hkk => q_icmp_ne C d ht (fun q => kt (fun r => q ((iI_eq hx hz).mpr r)) uu huu kc ks hkk) (fun q => kf ((iI_eq hx hz).mp q) uu huu kc ks hkk)
theorem c_if_ne (C : Cq p s m args meth c cc y ret G A nL) {x off : Int} {tgt : Nat} (hx : R32 x) (d : decode cc pc = .ok (.ifCond .ne off, 3)) (ht : (pc : Int) + off = (tgt : Int)) (kt : ¬ x = 0 → cw p l e d0 r0 s m args below meth c G A nL Q Pf ph L cl ln iv rv K tgt lv st) (kf : x = 0 → cw p l e d0 r0 s m args below meth c G A nL Q Pf ph L cl ln iv rv K (pc + 3) lv st) : cw p l e d0 r0 s m args below meth c G A nL Q Pf ph L cl ln iv rv K pc lv (.int (iI x) :: st) := fun uu huu kc ks hkk => q_if_ne C d ht (fun q => kt (fun r => q ((iI_eq hx R32_0).mpr r)) uu huu kc ks hkk) (fun q => kf ((iI_eq hx R32_0).mp q) uu huu kc ks hkk)
theorem c_icmp_lt (C : Cq p s m args meth c cc y ret G A nL) {x z off : Int} {tgt : Nat} (hx : R32 x) (hz : R32 z) (d : decode cc pc = .ok (.if_icmp .lt off, 3)) (ht : (pc : Int) + off = (tgt : Int)) (kt : x < z → cw p l e d0 r0 s m args below meth c G A nL Q Pf ph L cl ln iv rv K tgt lv st) (kf : ¬ x < z → cw p l e d0 r0 s m args below meth c G A nL Q Pf ph L cl ln iv rv K (pc + 3) lv st) : cw p l e d0 r0 s m args below meth c G A nL Q Pf ph L cl ln iv rv K pc lv (.int (iI z) :: .int (iI x) :: st) := fun uu huu kc ks hkk => q_icmp_lt C d ht (fun q => kt ((iI_lt hx hz).mp q) uu huu kc ks hkk) (fun q => kf (fun r => q ((iI_lt hx hz).mpr r)) uu huu kc ks hkk)
theorem c_if_lt (C : Cq p s m args meth c cc y ret G A nL) {x off : Int} {tgt : Nat} (hx : R32 x) (d : decode cc pc = .ok (.ifCond .lt off, 3)) (ht : (pc : Int) + off = (tgt : Int)) (kt : x < 0 → cw p l e d0 r0 s m args below meth c G A nL Q Pf ph L cl ln iv rv K tgt lv st) (kf : ¬ x < 0 → cw p l e d0 r0 s m args below meth c G A nL Q Pf ph L cl ln iv rv K (pc + 3) lv st) : cw p l e d0 r0 s m args below meth c G A nL Q Pf ph L cl ln iv rv K pc lv (.int (iI x) :: st) := fun uu huu kc ks hkk => q_if_lt C d ht (fun q => kt ((iI_lt hx R32_0).mp q) uu huu kc ks hkk) (fun q => kf (fun r => q ((iI_lt hx R32_0).mpr r)) uu huu kc ks hkk)
theorem c_icmp_ge (C : Cq p s m args meth c cc y ret G A nL) {x z off : Int} {tgt : Nat} (hx : R32 x) (hz : R32 z) (d : decode cc pc = .ok (.if_icmp .ge off, 3)) (ht : (pc : Int) + off = (tgt : Int)) (kt : z ≤ x → cw p l e d0 r0 s m args below meth c G A nL Q Pf ph L cl ln iv rv K tgt lv st) (kf : ¬ z ≤ x → cw p l e d0 r0 s m args below meth c G A nL Q Pf ph L cl ln iv rv K (pc + 3) lv st) : cw p l e d0 r0 s m args below meth c G A nL Q Pf ph L cl ln iv rv K pc lv (.int (iI z) :: .int (iI x) :: st) := fun uu huu kc ks hkk => q_icmp_ge C d ht (fun q => kt ((iI_le hz hx).mp q) uu huu kc ks hkk) (fun q => kf (fun r => q ((iI_le hz hx).mpr r)) uu huu kc ks hkk)
theorem c_if_ge (C : Cq p s m args meth c cc y ret G A nL) {x off : Int} {tgt : Nat} (hx : R32 x) (d : decode cc pc = .ok (.ifCond .ge off, 3)) (ht : (pc : Int) + off = (tgt : Int)) (kt : 0 ≤ x → cw p l e d0 r0 s m args below meth c G A nL Q Pf ph L cl ln iv rv K tgt lv st) (kf : ¬ 0 ≤ x → cw p l e d0 r0 s m args below meth c G A nL Q Pf ph L cl ln iv rv K (pc + 3) lv st) : cw p l e d0 r0 s m args below meth c G A nL Q Pf ph L cl ln iv rv K pc lv (.int (iI x) :: st) := fun uu huu kc ks hkk => q_if_ge C d ht (fun q => kt ((iI_le R32_0 hx).mp q) uu huu kc ks hkk) (fun q => kf (fun r => q ((iI_le R32_0 hx).mpr r)) uu huu kc ks hkk)
theorem c_icmp_gt (C : Cq p s m args meth c cc y ret G A nL) {x z off : Int} {tgt : Nat} (hx : R32 x) (hz : R32 z) (d : decode cc pc = .ok (.if_icmp .gt off, 3)) (ht : (pc : Int) + off = (tgt : Int)) (kt : z < x → cw p l e d0 r0 s m args below meth c G A nL Q Pf ph L cl ln iv rv K tgt lv st) (kf : ¬ z < x → cw p l e d0 r0 s m args below meth c G A nL Q Pf ph L cl ln iv rv K (pc + 3) lv st) : cw p l e d0 r0 s m args below meth c G A nL Q Pf ph L cl ln iv rv K pc lv (.int (iI z) :: .int (iI x) :: st) := fun uu huu kc ks hkk => q_icmp_gt C d ht (fun q => kt ((iI_lt hz hx).mp q) uu huu kc ks hkk) (fun q => kf (fun r => q ((iI_lt hz hx).mpr r)) uu huu kc ks hkk)
theorem c_if_gt (C : Cq p s m args meth c cc y ret G A nL) {x off : Int} {tgt : Nat} (hx : R32 x) (d : decode cc pc = .ok (.ifCond .gt off, 3)) (ht : (pc : Int) + off = (tgt : Int)) (kt : 0 < x → cw p l e d0 r0 s m args below meth c G A nL Q Pf ph L cl ln iv rv K tgt lv st) (kf : ¬ 0 < x → cw p l e d0 r0 s m args below meth c G A nL Q Pf ph L cl ln iv rv K (pc + 3) lv st) : cw p l e d0 r0 s m args below meth c G A nL Q Pf ph L cl ln iv rv K pc lv (.int (iI x) :: st) := fun uu huu kc ks hkk => q_if_gt C d ht (fun q => kt ((iI_lt R32_0 hx).mp q) uu huu kc ks hkk) (fun q => kf (fun r => q ((iI_lt R32_0 hx).mpr r)) uu huu kc ks hkk)
theorem c_icmp_le (C : Cq p s m args meth c cc y ret G A nL) {x z off : Int} {tgt : Nat} (hx : R32 x) (hz : R32 z) (d : decode cc pc = .ok (.if_icmp .le off, 3)) (ht : (pc : Int) + off = (tgt : Int)) (kt : x ≤ z → cw p l e d0 r0 s m args below meth c G A nL Q Pf ph L cl ln iv rv K tgt lv st) (kf : ¬ x ≤ z → cw p l e d0 r0 s m args below meth c G A nL Q Pf ph L cl ln iv rv K (pc + 3) lv st) : cw p l e d0 r0 s m args below meth c G A nL Q Pf ph L cl ln iv rv K pc lv (.int (iI z) :: .int (iI x) :: st) := fun uu huu kc ks hkk => q_icmp_le C d ht (fun q => kt ((iI_le hx hz).mp q) uu huu kc ks hkk) (fun q => kf (fun r => q ((iI_le hx hz).mpr r)) uu huu kc ks hkk)
theorem c_if_le (C : Cq p s m args meth c cc y ret G A nL) {x off : Int} {tgt : Nat} (hx : R32 x) (d : decode cc pc = .ok (.ifCond .le off, 3)) (ht : (pc : Int) + off = (tgt : Int)) (kt : x ≤ 0 → cw p l e d0 r0 s m args below meth c G A nL Q Pf ph L cl ln iv rv K tgt lv st) (kf : ¬ x ≤ 0 → cw p l e d0 r0 s m args below meth c G A nL Q Pf ph L cl ln iv rv K (pc + 3) lv st) : cw p l e d0 r0 s m args below meth c G A nL Q Pf ph L cl ln iv rv K pc lv (.int (iI x) :: st) := fun uu huu kc ks hkk => q_if_le C d ht (fun q => kt ((iI_le hx R32_0).mp q) uu huu kc ks hkk) (fun q => kf (fun r => q ((iI_le hx R32_0).mpr r)) uu huu kc ks hkk)
theorem c_st {st2 : List Value} (h : st = st2) (k : cw p l e d0 r0 s m args below meth c G A nL Q Pf ph L cl ln iv rv K pc lv st2) : cw p l e d0 r0 s m args below meth c G A nL Q Pf ph L cl ln iv rv K pc lv st := by subst h; exact k
theorem c_lv {lv2 : List (Nat × Value)} (ps : List Nat) (hl : lv_pick lv ps = lv2) (k : cw p l e d0 r0 s m args below meth c G A nL Q Pf ph L cl ln iv rv K pc lv2 st) : cw p l e d0 r0 s m args below meth c G A nL Q Pf ph L cl ln iv rv K pc lv st := fun u hu kc ks hk H locs ls hP hD hS hv => k u hu kc ks hk H locs ls hP hD hS (lv_sub hv ps hl)
theorem c_K {K2 : Nat} (h : K ≤ K2) (k : cw p l e d0 r0 s m args below meth c G A nL Q Pf ph L cl ln iv rv K2 pc lv st) : cw p l e d0 r0 s m args below meth c G A nL Q Pf ph L cl ln iv rv K pc lv st := fun u hu => k u (by omega)
theorem c_g0 (C : Cq p s m args meth c cc y ret G A nL) (k : (∀ b ∈ L, b ≠ g0 G) → cw p l e d0 r0 s m args below meth c G A nL Q Pf ph L cl ln iv rv K pc lv st) : cw p l e d0 r0 s m args below meth c G A nL Q Pf ph L cl ln iv rv K pc lv st := by
  intro u hu kc ks hk H locs ls hP hD hS hl
  refine k ?_ u hu kc ks hk H locs ls hP hD hS hl
  intro b hb e
  obtain ⟨q0, hq⟩ := pl_at (E := enc G cl ln iv rv) hb
  obtain ⟨_, _, _, _, _, _, _, hn⟩ := C.2.2.2.2.2.2.2.1.2
  exact hn (e ▸ hD.2 q0 _ hq)
theorem c_null (C : Cq p s m args meth c cc y ret G A nL) (d : decode cc pc = .ok (.aconst_null, 1)) (k : cw p l e d0 r0 s m args below meth c G A nL Q Pf ph L cl ln iv rv K (pc + 1) lv (.null :: st)) : cw p l e d0 r0 s m args below meth c G A nL Q Pf ph L cl ln iv rv K pc lv st := fun u hu kc ks hk => q_null C d (k u hu kc ks hk)
theorem c_aloadr_n (C : Cq p s m args meth c cc y ret G A nL) {i : Fin 4} {j : Nat} {r : Option Nat} (d : decode cc pc = .ok (.aload_n i, 1)) (hj : lv[j]? = some ((i : Nat), va_rf r)) (k : cw p l e d0 r0 s m args below meth c G A nL Q Pf ph L cl ln iv rv K (pc + 1) lv (va_rf r :: st)) : cw p l e d0 r0 s m args below meth c G A nL Q Pf ph L cl ln iv rv K pc lv st := by
  cases r with
  | none => exact fun u hu kc ks hk => q_aload_nN C d hj (k u hu kc ks hk)
  | some x => exact fun u hu kc ks hk => q_aload_n C d hj (k u hu kc ks hk)
theorem c_aloadr (C : Cq p s m args meth c cc y ret G A nL) {i j : Nat} {r : Option Nat} (d : decode cc pc = .ok (.aload i, 2)) (hj : lv[j]? = some (i, va_rf r)) (k : cw p l e d0 r0 s m args below meth c G A nL Q Pf ph L cl ln iv rv K (pc + 2) lv (va_rf r :: st)) : cw p l e d0 r0 s m args below meth c G A nL Q Pf ph L cl ln iv rv K pc lv st := by
  cases r with
  | none => exact fun u hu kc ks hk => q_aloadN C d hj (k u hu kc ks hk)
  | some x => exact fun u hu kc ks hk => q_aload C d hj (k u hu kc ks hk)
theorem c_astorer_n (C : Cq p s m args meth c cc y ret G A nL) {i : Fin 4} {r : Option Nat} {lv2 : List (Nat × Value)} (d : decode cc pc = .ok (.astore_n i, 1)) (hn : (i : Nat) < nL) (hl : ((i : Nat), va_rf r) :: lv.filter (fun q => !(q.1 == (i : Nat)) && !(q.1 + 1 == (i : Nat) && q.2.category == 2)) = lv2) (k : cw p l e d0 r0 s m args below meth c G A nL Q Pf ph L cl ln iv rv K (pc + 1) lv2 st) : cw p l e d0 r0 s m args below meth c G A nL Q Pf ph L cl ln iv rv K pc lv (va_rf r :: st) := by
  cases r with
  | none => exact fun u hu kc ks hk => q_astore_nN C d hn hl (k u hu kc ks hk)
  | some x => exact fun u hu kc ks hk => q_astore_n C d hn hl (k u hu kc ks hk)
theorem c_astorer (C : Cq p s m args meth c cc y ret G A nL) {i : Nat} {r : Option Nat} {lv2 : List (Nat × Value)} (d : decode cc pc = .ok (.astore i, 2)) (hn : i < nL) (hl : (i, va_rf r) :: lv.filter (fun q => !(q.1 == i) && !(q.1 + 1 == i && q.2.category == 2)) = lv2) (k : cw p l e d0 r0 s m args below meth c G A nL Q Pf ph L cl ln iv rv K (pc + 2) lv2 st) : cw p l e d0 r0 s m args below meth c G A nL Q Pf ph L cl ln iv rv K pc lv (va_rf r :: st) := by
  cases r with
  | none => exact fun u hu kc ks hk => q_astoreN C d hn hl (k u hu kc ks hk)
  | some x => exact fun u hu kc ks hk => q_astore C d hn hl (k u hu kc ks hk)
theorem c_get (C : Cq p s m args meth c cc y ret G A nL) {a k idx ci N T : Nat} {Cn : String} {TT : u_T} {tyy : Nat → FieldType} (ck : Ck ci Cn TT N tyy) (d : decode cc pc = .ok (.getfield idx, 3)) (lk : Cond.fieldLink y.cls idx (TT k).1 (TT k).2.1 (TT k).2.2.1 ∈ lw_g) (hk : k < N) (ha : ty L cl a T) (hT : kd T = ci) (hN : nf ci = N) (h13 : ci < 13) (hr : rf ci k = false) (kk : cw p l e d0 r0 s m args below meth c G A nL Q Pf ph L cl ln iv rv K (pc + 3) lv (.int (iI (iv a k)) :: st)) : cw p l e d0 r0 s m args below meth c G A nL Q Pf ph L cl ln iv rv K pc lv (.ref a :: st) := fun u hu kc ks hh => q_get (k := k) C ck d lk hk ha.1 (enc_ob ha hT hN h13) (ofv_i hr) (kk u hu kc ks hh)
theorem c_getr (C : Cq p s m args meth c cc y ret G A nL) {a k idx ci N T : Nat} {Cn : String} {TT : u_T} {tyy : Nat → FieldType} {x : Option Nat} (ck : Ck ci Cn TT N tyy) (d : decode cc pc = .ok (.getfield idx, 3)) (lk : Cond.fieldLink y.cls idx (TT k).1 (TT k).2.1 (TT k).2.2.1 ∈ lw_g) (hk : k < N) (ha : ty L cl a T) (hT : kd T = ci) (hN : nf ci = N) (h13 : ci < 13) (hr : rf ci k = true) (hx : rv a k = x) (kk : cw p l e d0 r0 s m args below meth c G A nL Q Pf ph L cl ln iv rv K (pc + 3) lv (va_rf x :: st)) : cw p l e d0 r0 s m args below meth c G A nL Q Pf ph L cl ln iv rv K pc lv (.ref a :: st) := fun u hu kc ks hh => q_get (k := k) C ck d lk hk ha.1 (enc_ob ha hT hN h13) (by rw [ofv_r hr, hx]) (kk u hu kc ks hh)
theorem c_put (C : Cq p s m args meth c cc y ret G A nL) {a k idx ci N T : Nat} {Cn : String} {TT : u_T} {tyy : Nat → FieldType} {z : Int} (ck : Ck ci Cn TT N tyy) (d : decode cc pc = .ok (.putfield idx, 3)) (lk : Cond.fieldLink y.cls idx (TT k).1 (TT k).2.1 (TT k).2.2.1 ∈ lw_g) (hk : k < N) (hfin : (TT k).2.2.2 = false) (ha : ty L cl a T) (hT : kd T = ci) (hN : nf ci = N) (h13 : ci < 13) (hr : rf ci k = false) (hn : narrow (tyy k) (.int (iI z)) = .int (iI z)) (hfit : fits (tyy k) (.int (iI z)) = true) (kk : ∀ iv2, iv2 = up2 iv a k z → cw p l e d0 r0 s m args below meth c G A nL Q Pf ph L cl ln iv2 rv K (pc + 3) lv st) : cw p l e d0 r0 s m args below meth c G A nL Q Pf ph L cl ln iv rv K pc lv (.int (iI z) :: .ref a :: st) := fun u hu kc ks hh => q_put (k := k) C ck d lk hk hfin ha.1 (enc_ob ha hT hN h13) hn hfit (by rw [enc_put ha hT hN h13 hr]; exact kk _ rfl u hu kc ks hh)
theorem c_putF (C : Cq p s m args meth c cc y ret G A nL) {a k idx ci N T : Nat} {Cn : String} {TT : u_T} {tyy : Nat → FieldType} {z : Int} (ck : Ck ci Cn TT N tyy) (d : decode cc pc = .ok (.putfield idx, 3)) (lk : Cond.fieldLink y.cls idx (TT k).1 (TT k).2.1 (TT k).2.2.1 ∈ lw_g) (hk : k < N) (hfin : (TT k).2.2.2 = true) (hi : y.name = "<init>") (hd : (TT k).1 = y.cls) (ha : ty L cl a T) (hT : kd T = ci) (hN : nf ci = N) (h13 : ci < 13) (hr : rf ci k = false) (hn : narrow (tyy k) (.int (iI z)) = .int (iI z)) (hfit : fits (tyy k) (.int (iI z)) = true) (kk : ∀ iv2, iv2 = up2 iv a k z → cw p l e d0 r0 s m args below meth c G A nL Q Pf ph L cl ln iv2 rv K (pc + 3) lv st) : cw p l e d0 r0 s m args below meth c G A nL Q Pf ph L cl ln iv rv K pc lv (.int (iI z) :: .ref a :: st) := fun u hu kc ks hh => q_putF (k := k) C ck d lk hk hfin hi hd ha.1 (enc_ob ha hT hN h13) hn hfit (by rw [enc_put ha hT hN h13 hr]; exact kk _ rfl u hu kc ks hh)
theorem c_putrF (C : Cq p s m args meth c cc y ret G A nL) {a k idx ci N T : Nat} {Cn : String} {TT : u_T} {tyy : Nat → FieldType} {x : Option Nat} (ck : Ck ci Cn TT N tyy) (d : decode cc pc = .ok (.putfield idx, 3)) (lk : Cond.fieldLink y.cls idx (TT k).1 (TT k).2.1 (TT k).2.2.1 ∈ lw_g) (hk : k < N) (hfin : (TT k).2.2.2 = true) (hi : y.name = "<init>") (hd : (TT k).1 = y.cls) (ha : ty L cl a T) (hT : kd T = ci) (hN : nf ci = N) (h13 : ci < 13) (hr : rf ci k = true) (hn : narrow (tyy k) (va_rf x) = va_rf x) (hfit : fits (tyy k) (va_rf x) = true) (kk : ∀ rv2, rv2 = upr rv a k x → ∃ K2 : Nat, Pf ln rv + K ≤ Pf ln rv2 + K2 ∧ cw p l e d0 r0 s m args below meth c G A nL Q Pf ph L cl ln iv rv2 K2 (pc + 3) lv st) : cw p l e d0 r0 s m args below meth c G A nL Q Pf ph L cl ln iv rv K pc lv (va_rf x :: .ref a :: st) := fun u hu kc ks hh => q_putF (k := k) C ck d lk hk hfin hi hd ha.1 (enc_ob ha hT hN h13) hn hfit (by rw [enc_putr ha hT hN h13 hr]; obtain ⟨K2, h1, h2⟩ := kk _ rfl; exact h2 u (by omega) kc ks hh)
theorem c_putr (C : Cq p s m args meth c cc y ret G A nL) {a k idx ci N T : Nat} {Cn : String} {TT : u_T} {tyy : Nat → FieldType} {x : Option Nat} (ck : Ck ci Cn TT N tyy) (d : decode cc pc = .ok (.putfield idx, 3)) (lk : Cond.fieldLink y.cls idx (TT k).1 (TT k).2.1 (TT k).2.2.1 ∈ lw_g) (hk : k < N) (hfin : (TT k).2.2.2 = false) (ha : ty L cl a T) (hT : kd T = ci) (hN : nf ci = N) (h13 : ci < 13) (hr : rf ci k = true) (hn : narrow (tyy k) (va_rf x) = va_rf x) (hfit : fits (tyy k) (va_rf x) = true) (kk : ∀ rv2, rv2 = upr rv a k x → ∃ K2 : Nat, Pf ln rv + K ≤ Pf ln rv2 + K2 ∧ cw p l e d0 r0 s m args below meth c G A nL Q Pf ph L cl ln iv rv2 K2 (pc + 3) lv st) : cw p l e d0 r0 s m args below meth c G A nL Q Pf ph L cl ln iv rv K pc lv (va_rf x :: .ref a :: st) := fun u hu kc ks hh => q_put (k := k) C ck d lk hk hfin ha.1 (enc_ob ha hT hN h13) hn hfit (by rw [enc_putr ha hT hN h13 hr]; obtain ⟨K2, h1, h2⟩ := kk _ rfl; exact h2 u (by omega) kc ks hh)
theorem c_iald (C : Cq p s m args meth c cc y ret G A nL) {a T : Nat} {z : Int} (d : decode cc pc = .ok (.iaload, 1)) (ha : ty L cl a T) (hT : kd T = 20) (h1 : 0 ≤ z) (h2 : z < (ln a : Nat)) (hm : ln a ≤ 1000000) (kk : cw p l e d0 r0 s m args below meth c G A nL Q Pf ph L cl ln iv rv K (pc + 1) lv (.int (iI (iv a z.toNat)) :: st)) : cw p l e d0 r0 s m args below meth c G A nL Q Pf ph L cl ln iv rv K pc lv (.int (iI z) :: .ref a :: st) := fun u hu kc ks hh => q_iald C d ha.1 (enc_I ha hT) (iI_in ⟨by omega, by omega⟩ h1 h2) (by rw [iI_cl ⟨by omega, by omega⟩]) (kk u hu kc ks hh)
theorem c_zald (C : Cq p s m args meth c cc y ret G A nL) {a T : Nat} {z : Int} (d : decode cc pc = .ok (.baload, 1)) (ha : ty L cl a T) (hT : kd T = 21) (h1 : 0 ≤ z) (h2 : z < (ln a : Nat)) (hm : ln a ≤ 1000000) (kk : cw p l e d0 r0 s m args below meth c G A nL Q Pf ph L cl ln iv rv K (pc + 1) lv (.int (iI (iv a z.toNat)) :: st)) : cw p l e d0 r0 s m args below meth c G A nL Q Pf ph L cl ln iv rv K pc lv (.int (iI z) :: .ref a :: st) := fun u hu kc ks hh => q_zald C d ha.1 (enc_Z ha hT) (iI_in ⟨by omega, by omega⟩ h1 h2) (by rw [iI_cl ⟨by omega, by omega⟩]) (kk u hu kc ks hh)
theorem c_iast (C : Cq p s m args meth c cc y ret G A nL) {a T : Nat} {z x : Int} (d : decode cc pc = .ok (.iastore, 1)) (ha : ty L cl a T) (hT : kd T = 20) (h1 : 0 ≤ z) (h2 : z < (ln a : Nat)) (hm : ln a ≤ 1000000) (kk : ∀ iv2, iv2 = up2 iv a z.toNat x → cw p l e d0 r0 s m args below meth c G A nL Q Pf ph L cl ln iv2 rv K (pc + 1) lv st) : cw p l e d0 r0 s m args below meth c G A nL Q Pf ph L cl ln iv rv K pc lv (.int (iI x) :: .int (iI z) :: .ref a :: st) := by
  intro u hu kc ks hh
  refine q_iast C d ha.1 (enc_I ha hT) (iI_in ⟨by omega, by omega⟩ h1 h2) ?_
  rw [iI_cl ⟨by omega, by omega⟩]
  have e : upd (fun j => iI (iv a j)) z.toNat (iI x) = fun j => if j = z.toNat then iI x else iI (iv a j) := by funext j; unfold upd; rfl
  rw [e, enc_ast ha hT]
  exact kk _ rfl u hu kc ks hh
theorem c_zast (C : Cq p s m args meth c cc y ret G A nL) {a T : Nat} {z x : Int} (d : decode cc pc = .ok (.bastore, 1)) (ha : ty L cl a T) (hT : kd T = 21) (h1 : 0 ≤ z) (h2 : z < (ln a : Nat)) (hm : ln a ≤ 1000000) (hx : x = 0 ∨ x = 1) (kk : ∀ iv2, iv2 = up2 iv a z.toNat x → cw p l e d0 r0 s m args below meth c G A nL Q Pf ph L cl ln iv2 rv K (pc + 1) lv st) : cw p l e d0 r0 s m args below meth c G A nL Q Pf ph L cl ln iv rv K pc lv (.int (iI x) :: .int (iI z) :: .ref a :: st) := by
  intro u hu kc ks hh
  refine q_zast2 C d ha.1 (enc_Z ha hT) (iI_in ⟨by omega, by omega⟩ h1 h2) ?_
  rw [iI_cl ⟨by omega, by omega⟩, nar_b hx]
  have e : upd (fun j => iI (iv a j)) z.toNat (iI x) = fun j => if j = z.toNat then iI x else iI (iv a j) := by funext j; unfold upd; rfl
  rw [e, enc_zst ha hT]
  exact kk _ rfl u hu kc ks hh
theorem c_alenI (C : Cq p s m args meth c cc y ret G A nL) {a T : Nat} (d : decode cc pc = .ok (.arraylength, 1)) (ha : ty L cl a T) (hT : kd T = 20) (kk : cw p l e d0 r0 s m args below meth c G A nL Q Pf ph L cl ln iv rv K (pc + 1) lv (.int (iI ((ln a : Nat) : Int)) :: st)) : cw p l e d0 r0 s m args below meth c G A nL Q Pf ph L cl ln iv rv K pc lv (.ref a :: st) := fun u hu kc ks hh => q_alenI C d ha.1 (enc_I ha hT) Int32.ofInt_eq_ofNat.symm (kk u hu kc ks hh)
theorem c_alenO (C : Cq p s m args meth c cc y ret G A nL) {a T : Nat} (d : decode cc pc = .ok (.arraylength, 1)) (ha : ty L cl a T) (hT : kd T = 24) (kk : cw p l e d0 r0 s m args below meth c G A nL Q Pf ph L cl ln iv rv K (pc + 1) lv (.int (iI ((ln a : Nat) : Int)) :: st)) : cw p l e d0 r0 s m args below meth c G A nL Q Pf ph L cl ln iv rv K pc lv (.ref a :: st) := fun u hu kc ks hh => q_alenO C d ha.1 (enc_O ha hT) Int32.ofInt_eq_ofNat.symm (kk u hu kc ks hh)
theorem c_aaldL (C : Cq p s m args meth c cc y ret G A nL) {a T : Nat} {z : Int} {x : Option Nat} (d : decode cc pc = .ok (.aaload, 1)) (ha : ty L cl a T) (hT : kd T = 22) (h1 : 0 ≤ z) (h2 : z < (ln a : Nat)) (hm : ln a ≤ 1000000) (hx : rv a z.toNat = x) (kk : cw p l e d0 r0 s m args below meth c G A nL Q Pf ph L cl ln iv rv K (pc + 1) lv (va_rf x :: st)) : cw p l e d0 r0 s m args below meth c G A nL Q Pf ph L cl ln iv rv K pc lv (.int (iI z) :: .ref a :: st) := fun u hu kc ks hh => q_aaldL C d ha.1 (enc_L ha hT) (iI_in ⟨by omega, by omega⟩ h1 h2) (by rw [iI_cl ⟨by omega, by omega⟩, hx]) (kk u hu kc ks hh)
theorem c_aaldR (C : Cq p s m args meth c cc y ret G A nL) {a T : Nat} {z : Int} {x : Option Nat} (d : decode cc pc = .ok (.aaload, 1)) (ha : ty L cl a T) (hT : kd T = 23) (h1 : 0 ≤ z) (h2 : z < (ln a : Nat)) (hm : ln a ≤ 1000000) (hx : rv a z.toNat = x) (kk : cw p l e d0 r0 s m args below meth c G A nL Q Pf ph L cl ln iv rv K (pc + 1) lv (va_rf x :: st)) : cw p l e d0 r0 s m args below meth c G A nL Q Pf ph L cl ln iv rv K pc lv (.int (iI z) :: .ref a :: st) := fun u hu kc ks hh => q_aaldR C d ha.1 (enc_R ha hT) (iI_in ⟨by omega, by omega⟩ h1 h2) (by rw [iI_cl ⟨by omega, by omega⟩, hx]) (kk u hu kc ks hh)
theorem c_aaldO (C : Cq p s m args meth c cc y ret G A nL) {a T : Nat} {z : Int} {x : Option Nat} (d : decode cc pc = .ok (.aaload, 1)) (ha : ty L cl a T) (hT : kd T = 24) (h1 : 0 ≤ z) (h2 : z < (ln a : Nat)) (hm : ln a ≤ 1000000) (hx : rv a z.toNat = x) (kk : cw p l e d0 r0 s m args below meth c G A nL Q Pf ph L cl ln iv rv K (pc + 1) lv (va_rf x :: st)) : cw p l e d0 r0 s m args below meth c G A nL Q Pf ph L cl ln iv rv K pc lv (.int (iI z) :: .ref a :: st) := fun u hu kc ks hh => q_aaldO C d ha.1 (enc_O ha hT) (iI_in ⟨by omega, by omega⟩ h1 h2) (by rw [iI_cl ⟨by omega, by omega⟩, hx]) (kk u hu kc ks hh)
end CQ
section CQ2
variable {p : Program} {l : Launch} {e : Env} {s : State} {m : MethodId} {args : Array Value} {below : List Frame} {meth : Method} {c : Code} {cc : ByteArray} {y : MethodName} {ret : Option FieldType} {G : GT} {A : Nat → Prop} {nL mi : Nat} {Q : State → Prop} {L : List Nat} {E : Nat → va_E} {R : Room} {kc ks pc : Nat} {lv : List (Nat × Value)} {st : List Value}
theorem q_aastN (C : Cq p s m args meth c cc y ret G A nL) {a n t0 : Nat} {Cn : String} {cA : ClassId} {f : Nat → Option Nat} {i : Int32} (d : decode cc pc = .ok (.aastore, 1)) (ha : a ∈ L) (ht : (gT G)[t0]? = some (cA, .object Cn)) (hE : E a = .inl (cA, n, .inr (.inr (.inr (.inr f))))) (hin : vp_in i n) (kk : wq p l e R s m args below meth c G A nL Q L (va_up E a (.inl (cA, n, .inr (.inr (.inr (.inr (va_up f i.toNatClampNeg none))))))) kc ks (pc + 1) lv st) : wq p l e R s m args below meth c G A nL Q L E kc ks pc lv (.null :: .int i :: .ref a :: st) := by
  intro H locs ls hP hD hS hl
  obtain ⟨q0, hq⟩ := pl_at (E := E) ha
  refine va_astqN C.1 C.2.1 C.2.2.2.2.2.1 hP hD hS q0 t0 (by rw [hq, hE]) ht hin d (fun H1 locs1 hP1 hD1 hS1 => ?_)
  rw [pl_set hD ha hq] at hP1 hD1
  exact kk H1 locs1 ls hP1 hD1 hS1 hl
theorem q_aastC (C : Cq p s m args meth c cc y ret G A nL) {a b n t0 ci N : Nat} {cA : ClassId} {Cn : String} {TT : u_T} {tyy : Nat → FieldType} {f : Nat → Option Nat} {g : Nat → Value} {i : Int32} (ck : Ck ci Cn TT N tyy) (d : decode cc pc = .ok (.aastore, 1)) (ha : a ∈ L) (ht : (gT G)[t0]? = some (cA, .object Cn)) (hE : E a = .inl (cA, n, .inr (.inr (.inr (.inr f))))) (hb : b ∈ L) (hEb : E b = ob ci N g) (hin : vp_in i n) (kk : wq p l e R s m args below meth c G A nL Q L (va_up E a (.inl (cA, n, .inr (.inr (.inr (.inr (va_up f i.toNatClampNeg (some b)))))))) kc ks (pc + 1) lv st) : wq p l e R s m args below meth c G A nL Q L E kc ks pc lv (.ref b :: .int i :: .ref a :: st) := by
  intro H locs ls hP hD hS hl
  obtain ⟨q0, hq⟩ := pl_at (E := E) ha
  obtain ⟨q1, hq1⟩ := pl_at (E := E) hb
  refine va_astq C.1 C.2.1 C.2.2.2.2.2.1 hP hD hS q0 t0 q1 ci (r := (Cn, TT, N)) (by rw [hq, hE]) ht (by rw [hq1, hEb]; rfl) ck.1 hin d (fun H1 locs1 hP1 hD1 hS1 => ?_)
  rw [pl_set hD ha hq] at hP1 hD1
  exact kk H1 locs1 ls hP1 hD1 hS1 hl
end CQ2
section CQ3
variable {p : Program} {l : Launch} {e : Env} {d0 r0 : Nat} {s : State} {m : MethodId} {args : Array Value} {below : List Frame} {meth : Method} {c : Code} {cc : ByteArray} {y : MethodName} {ret : Option FieldType} {G : GT} {A : Nat → Prop} {nL mi : Nat} {Q : State → Prop} {Pf : PF} {ph : Nat} {L : List Nat} {cl ln : Nat → Nat} {iv : Nat → Nat → Int} {rv : Nat → Nat → Option Nat} {K pc : Nat} {lv : List (Nat × Value)} {st : List Value}
theorem c_aastL (C : Cq p s m args meth c cc y ret G A nL) {a b T T2 ci N : Nat} {z : Int} {TT : u_T} {tyy : Nat → FieldType} (ck : Ck ci RX2 TT N tyy) (d : decode cc pc = .ok (.aastore, 1)) (ha : ty L cl a T) (hT : kd T = 22) (hb : ty L cl b T2) (hT2 : kd T2 = ci) (hN : nf ci = N) (h13 : ci < 13) (h1 : 0 ≤ z) (h2 : z < (ln a : Nat)) (hm : ln a ≤ 1000000) (kk : ∀ rv2, rv2 = upr rv a z.toNat (some b) → ∃ K2 : Nat, Pf ln rv + K ≤ Pf ln rv2 + K2 ∧ cw p l e d0 r0 s m args below meth c G A nL Q Pf ph L cl ln iv rv2 K2 (pc + 1) lv st) : cw p l e d0 r0 s m args below meth c G A nL Q Pf ph L cl ln iv rv K pc lv (.ref b :: .int (iI z) :: .ref a :: st) := by
  intro u hu kc ks hh
  refine q_aastC (t0 := 2) (cA := G.2.2.2.1) C ck d ha.1 rfl (enc_L ha hT) hb.1 (enc_ob hb hT2 hN h13) (iI_in ⟨by omega, by omega⟩ h1 h2) ?_
  rw [iI_cl ⟨by omega, by omega⟩]
  obtain ⟨K2, g1, g2⟩ := kk _ rfl
  refine hv2 (enc_rst (G := G) (cl := cl) (ln := ln) (iv := iv) (rv := rv) (k := z.toNat) (x := some b) (mk := fun f => aL G (ln a) f) (fun r2 => enc_L (rv := r2) ha hT)) (show aL G (ln a) (va_up (rv a) z.toNat (some b)) = Sum.inl (G.2.2.2.1, ln a, .inr (.inr (.inr (.inr (va_up (rv a) z.toNat (some b)))))) from rfl) (fun e e2 => ?_)
  rw [← e2, e]
  exact g2 u (by omega) kc ks hh
theorem c_aastR (C : Cq p s m args meth c cc y ret G A nL) {a b T T2 ci N : Nat} {z : Int} {TT : u_T} {tyy : Nat → FieldType} (ck : Ck ci RX5 TT N tyy) (d : decode cc pc = .ok (.aastore, 1)) (ha : ty L cl a T) (hT : kd T = 23) (hb : ty L cl b T2) (hT2 : kd T2 = ci) (hN : nf ci = N) (h13 : ci < 13) (h1 : 0 ≤ z) (h2 : z < (ln a : Nat)) (hm : ln a ≤ 1000000) (kk : ∀ rv2, rv2 = upr rv a z.toNat (some b) → ∃ K2 : Nat, Pf ln rv + K ≤ Pf ln rv2 + K2 ∧ cw p l e d0 r0 s m args below meth c G A nL Q Pf ph L cl ln iv rv2 K2 (pc + 1) lv st) : cw p l e d0 r0 s m args below meth c G A nL Q Pf ph L cl ln iv rv K pc lv (.ref b :: .int (iI z) :: .ref a :: st) := by
  intro u hu kc ks hh
  refine q_aastC (t0 := 3) (cA := G.2.2.2.2.1) C ck d ha.1 rfl (enc_R ha hT) hb.1 (enc_ob hb hT2 hN h13) (iI_in ⟨by omega, by omega⟩ h1 h2) ?_
  rw [iI_cl ⟨by omega, by omega⟩]
  obtain ⟨K2, g1, g2⟩ := kk _ rfl
  refine hv2 (enc_rst (G := G) (cl := cl) (ln := ln) (iv := iv) (rv := rv) (k := z.toNat) (x := some b) (mk := fun f => aR G (ln a) f) (fun r2 => enc_R (rv := r2) ha hT)) (show aR G (ln a) (va_up (rv a) z.toNat (some b)) = Sum.inl (G.2.2.2.2.1, ln a, .inr (.inr (.inr (.inr (va_up (rv a) z.toNat (some b)))))) from rfl) (fun e e2 => ?_)
  rw [← e2, e]
  exact g2 u (by omega) kc ks hh
theorem c_aastNR (C : Cq p s m args meth c cc y ret G A nL) {a T : Nat} {z : Int} (d : decode cc pc = .ok (.aastore, 1)) (ha : ty L cl a T) (hT : kd T = 23) (h1 : 0 ≤ z) (h2 : z < (ln a : Nat)) (hm : ln a ≤ 1000000) (kk : ∀ rv2, rv2 = upr rv a z.toNat none → ∃ K2 : Nat, Pf ln rv + K ≤ Pf ln rv2 + K2 ∧ cw p l e d0 r0 s m args below meth c G A nL Q Pf ph L cl ln iv rv2 K2 (pc + 1) lv st) : cw p l e d0 r0 s m args below meth c G A nL Q Pf ph L cl ln iv rv K pc lv (.null :: .int (iI z) :: .ref a :: st) := by
  intro u hu kc ks hh
  refine q_aastN (t0 := 3) (cA := G.2.2.2.2.1) (Cn := RX5) C d ha.1 rfl (enc_R ha hT) (iI_in ⟨by omega, by omega⟩ h1 h2) ?_
  rw [iI_cl ⟨by omega, by omega⟩]
  obtain ⟨K2, g1, g2⟩ := kk _ rfl
  refine hv2 (enc_rst (G := G) (cl := cl) (ln := ln) (iv := iv) (rv := rv) (k := z.toNat) (x := none) (mk := fun f => aR G (ln a) f) (fun r2 => enc_R (rv := r2) ha hT)) (show aR G (ln a) (va_up (rv a) z.toNat none) = Sum.inl (G.2.2.2.2.1, ln a, .inr (.inr (.inr (.inr (va_up (rv a) z.toNat none))))) from rfl) (fun e e2 => ?_)
  rw [← e2, e]
  exact g2 u (by omega) kc ks hh
theorem c_aastO (C : Cq p s m args meth c cc y ret G A nL) {a b T T2 ci N : Nat} {z : Int} {Cn : String} {TT : u_T} {tyy : Nat → FieldType} (ck : Ck ci Cn TT N tyy) (hc : Cond.castable Cn "java/lang/Object" ∈ lw_tbl) (d : decode cc pc = .ok (.aastore, 1)) (ha : ty L cl a T) (hT : kd T = 24) (hb : ty L cl b T2) (hT2 : kd T2 = ci) (hN : nf ci = N) (h13 : ci < 13) (h1 : 0 ≤ z) (h2 : z < (ln a : Nat)) (hm : ln a ≤ 1000000) (kk : ∀ rv2, rv2 = upr rv a z.toNat (some b) → ∃ K2 : Nat, Pf ln rv + K ≤ Pf ln rv2 + K2 ∧ cw p l e d0 r0 s m args below meth c G A nL Q Pf ph L cl ln iv rv2 K2 (pc + 1) lv st) : cw p l e d0 r0 s m args below meth c G A nL Q Pf ph L cl ln iv rv K pc lv (.ref b :: .int (iI z) :: .ref a :: st) := by
  intro u hu kc ks hh
  refine q_aastO C ck d hc ha.1 (enc_O ha hT) hb.1 (enc_ob hb hT2 hN h13) (iI_in ⟨by omega, by omega⟩ h1 h2) ?_
  rw [iI_cl ⟨by omega, by omega⟩]
  obtain ⟨K2, g1, g2⟩ := kk _ rfl
  rw [enc_rst (G := G) (cl := cl) (ln := ln) (iv := iv) (rv := rv) (k := z.toNat) (x := some b) (mk := fun f => aO G (ln a) f) (fun r2 => enc_O (rv := r2) ha hT)]
  exact g2 u (by omega) kc ks hh
theorem c_aastNO (C : Cq p s m args meth c cc y ret G A nL) {a T : Nat} {z : Int} (d : decode cc pc = .ok (.aastore, 1)) (ha : ty L cl a T) (hT : kd T = 24) (h1 : 0 ≤ z) (h2 : z < (ln a : Nat)) (hm : ln a ≤ 1000000) (kk : ∀ rv2, rv2 = upr rv a z.toNat none → ∃ K2 : Nat, Pf ln rv + K ≤ Pf ln rv2 + K2 ∧ cw p l e d0 r0 s m args below meth c G A nL Q Pf ph L cl ln iv rv2 K2 (pc + 1) lv st) : cw p l e d0 r0 s m args below meth c G A nL Q Pf ph L cl ln iv rv K pc lv (.null :: .int (iI z) :: .ref a :: st) := by
  intro u hu kc ks hh
  refine q_aastN (t0 := 4) (cA := G.2.2.2.2.2.1) (Cn := "java/lang/Object") C d ha.1 rfl (enc_O ha hT) (iI_in ⟨by omega, by omega⟩ h1 h2) ?_
  rw [iI_cl ⟨by omega, by omega⟩]
  obtain ⟨K2, g1, g2⟩ := kk _ rfl
  refine hv2 (enc_rst (G := G) (cl := cl) (ln := ln) (iv := iv) (rv := rv) (k := z.toNat) (x := none) (mk := fun f => aO G (ln a) f) (fun r2 => enc_O (rv := r2) ha hT)) (show aO G (ln a) (va_up (rv a) z.toNat none) = Sum.inl (G.2.2.2.2.2.1, ln a, .inr (.inr (.inr (.inr (va_up (rv a) z.toNat none))))) from rfl) (fun e e2 => ?_)
  rw [← e2, e]
  exact g2 u (by omega) kc ks hh
theorem c_cast (C : Cq p s m args meth c cc y ret G A nL) {a T ci N idx : Nat} {Cn nm : String} {TT : u_T} {tyy : Nat → FieldType} (ck : Ck ci Cn TT N tyy) (d : decode cc pc = .ok (.checkcast idx, 3)) (lk : Cond.classLink y.cls idx nm ∈ lw_g) (hc : Cond.castable Cn nm ∈ lw_tbl) (ha : ty L cl a T) (hT : kd T = ci) (hN : nf ci = N) (h13 : ci < 13) (kk : cw p l e d0 r0 s m args below meth c G A nL Q Pf ph L cl ln iv rv K (pc + 3) lv (.ref a :: st)) : cw p l e d0 r0 s m args below meth c G A nL Q Pf ph L cl ln iv rv K pc lv (.ref a :: st) := by
  intro u hu kc ks hh H locs ls hP hD hS hl
  obtain ⟨q0, hq⟩ := pl_at (E := enc G cl ln iv rv) ha.1
  exact va_castY C.1 C.2.1 C.2.2.2.1 (C.2.2.2.2.1 _ lk) (C.2.2.2.2.2.2.2.2.2.2.2.2.1 _ _ hc) (va_recv C.2.2.2.2.2.1 hP (ci := ci) (q0 := q0) ck.1 (by rw [hq, enc_ob ha hT hN h13]; rfl)) d (kk u hu kc ks hh H locs ls hP hD hS hl)
theorem c_tabIn (C : Cq p s m args meth c cc y ret G A nL) {dflt lo hi z off : Int} {offs : Array Int} {len tgt : Nat} (hz : R32 z) (d : decode cc pc = .ok (.tableswitch dflt lo hi offs, len)) (h1 : ¬ z < lo) (h2 : ¬ hi < z) (ho : offs[(z - lo).toNat]? = some off) (ht : (pc : Int) + off = (tgt : Int)) (k : cw p l e d0 r0 s m args below meth c G A nL Q Pf ph L cl ln iv rv K tgt lv st) : cw p l e d0 r0 s m args below meth c G A nL Q Pf ph L cl ln iv rv K pc lv (.int (iI z) :: st) := fun uu huu kc ks hkk H locs ls hP hD hS hl => lv_tableIn C.1 C.2.1 d (by rw [iI_int hz]; exact h1) (by rw [iI_int hz]; exact h2) (by rw [iI_int hz]; exact ho) ht (k uu huu kc ks hkk H locs ls hP hD hS hl)
theorem c_tabOut (C : Cq p s m args meth c cc y ret G A nL) {dflt lo hi z : Int} {offs : Array Int} {len tgt : Nat} (hz : R32 z) (d : decode cc pc = .ok (.tableswitch dflt lo hi offs, len)) (h1 : z < lo ∨ hi < z) (ht : (pc : Int) + dflt = (tgt : Int)) (k : cw p l e d0 r0 s m args below meth c G A nL Q Pf ph L cl ln iv rv K tgt lv st) : cw p l e d0 r0 s m args below meth c G A nL Q Pf ph L cl ln iv rv K pc lv (.int (iI z) :: st) := fun uu huu kc ks hkk H locs ls hP hD hS hl => lv_tableOut C.1 C.2.1 d (by rw [iI_int hz]; exact h1) ht (k uu huu kc ks hkk H locs ls hP hD hS hl)
theorem c_dup_x1 (C : Cq p s m args meth c cc y ret G A nL) {v w : Value} (d : decode cc pc = .ok (.dup_x1, 1)) (hv : v.category = 1) (hw : w.category = 1) (k : cw p l e d0 r0 s m args below meth c G A nL Q Pf ph L cl ln iv rv K (pc + 1) lv (v :: w :: v :: st)) : cw p l e d0 r0 s m args below meth c G A nL Q Pf ph L cl ln iv rv K pc lv (v :: w :: st) := fun u hu kc ks hk => q_dup_x1 C d hv hw (k u hu kc ks hk)
theorem c_acmp_eq (C : Cq p s m args meth c cc y ret G A nL) {rx ry : Option Nat} {off : Int} {tgt : Nat} (d : decode cc pc = .ok (.if_acmp .eq off, 3)) (ht : (pc : Int) + off = (tgt : Int)) (kt : rx = ry → cw p l e d0 r0 s m args below meth c G A nL Q Pf ph L cl ln iv rv K tgt lv st) (kf : ¬ rx = ry → cw p l e d0 r0 s m args below meth c G A nL Q Pf ph L cl ln iv rv K (pc + 3) lv st) : cw p l e d0 r0 s m args below meth c G A nL Q Pf ph L cl ln iv rv K pc lv (va_rf ry :: va_rf rx :: st) := fun u hu kc ks hk => q_acmp_eq C d ht (fun h => kt h u hu kc ks hk) (fun h => kf h u hu kc ks hk)
theorem c_acmp_ne (C : Cq p s m args meth c cc y ret G A nL) {rx ry : Option Nat} {off : Int} {tgt : Nat} (d : decode cc pc = .ok (.if_acmp .ne off, 3)) (ht : (pc : Int) + off = (tgt : Int)) (kt : ¬ rx = ry → cw p l e d0 r0 s m args below meth c G A nL Q Pf ph L cl ln iv rv K tgt lv st) (kf : rx = ry → cw p l e d0 r0 s m args below meth c G A nL Q Pf ph L cl ln iv rv K (pc + 3) lv st) : cw p l e d0 r0 s m args below meth c G A nL Q Pf ph L cl ln iv rv K pc lv (va_rf ry :: va_rf rx :: st) := fun u hu kc ks hk => q_acmp_ne C d ht (fun h => kt h u hu kc ks hk) (fun h => kf h u hu kc ks hk)
theorem c_ifnull (C : Cq p s m args meth c cc y ret G A nL) {r : Option Nat} {off : Int} {tgt : Nat} (d : decode cc pc = .ok (.ifnull off, 3)) (ht : (pc : Int) + off = (tgt : Int)) (kt : r = none → cw p l e d0 r0 s m args below meth c G A nL Q Pf ph L cl ln iv rv K tgt lv st) (kf : ∀ b, r = some b → cw p l e d0 r0 s m args below meth c G A nL Q Pf ph L cl ln iv rv K (pc + 3) lv st) : cw p l e d0 r0 s m args below meth c G A nL Q Pf ph L cl ln iv rv K pc lv (va_rf r :: st) := by
  cases r with
  | none => exact fun u hu kc ks hk => q_ifnullN C d ht (kt rfl u hu kc ks hk)
  | some x => exact fun u hu kc ks hk => q_ifnull C d (kf x rfl u hu kc ks hk)
theorem c_ifnonnull (C : Cq p s m args meth c cc y ret G A nL) {r : Option Nat} {off : Int} {tgt : Nat} (d : decode cc pc = .ok (.ifnonnull off, 3)) (ht : (pc : Int) + off = (tgt : Int)) (kt : ∀ b, r = some b → cw p l e d0 r0 s m args below meth c G A nL Q Pf ph L cl ln iv rv K tgt lv st) (kf : r = none → cw p l e d0 r0 s m args below meth c G A nL Q Pf ph L cl ln iv rv K (pc + 3) lv st) : cw p l e d0 r0 s m args below meth c G A nL Q Pf ph L cl ln iv rv K pc lv (va_rf r :: st) := by
  cases r with
  | none => exact fun u hu kc ks hk => q_ifnonnullN C d (kf rfl u hu kc ks hk)
  | some x => exact fun u hu kc ks hk => q_ifnonnull C d ht (kt x rfl u hu kc ks hk)
theorem c_gets (C : Cq p s m args meth c cc y ret G A nL) {idx : Nat} (d : decode cc pc = .ok (.getstatic idx, 3)) (lk : Cond.fieldLink y.cls idx "java/util/ArrayList" "DEFAULTCAPACITY_EMPTY_ELEMENTDATA" "[Ljava/lang/Object;" ∈ lw_g) (k : cw p l e d0 r0 s m args below meth c G A nL Q Pf ph L cl ln iv rv K (pc + 3) lv (.ref (g0 G) :: st)) : cw p l e d0 r0 s m args below meth c G A nL Q Pf ph L cl ln iv rv K pc lv st := fun u hu kc ks hk => q_gets C d lk (k u hu kc ks hk)
theorem c_tlen (C : Cq p s m args meth c cc y ret G A nL) (d : decode cc pc = .ok (.arraylength, 1)) (k : cw p l e d0 r0 s m args below meth c G A nL Q Pf ph L cl ln iv rv K (pc + 1) lv (.int (iI 0) :: st)) : cw p l e d0 r0 s m args below meth c G A nL Q Pf ph L cl ln iv rv K pc lv (.ref (g0 G) :: st) := fun u hu kc ks hk => q_tlen C d (k u hu kc ks hk)
theorem c_mmax (C : Cq p s m args meth c cc y ret G A nL) {idx : Nat} {x y2 w : Int32} (d : decode cc pc = .ok (.invokestatic idx, 3)) (lk : Cond.methodLink y.cls idx Lib.Math.max.name ∈ lw_g) (h1 : Cond.static Lib.Math.max.name ∈ lw_g) (h2 : Cond.initialized "java/lang/Math" ∈ lw_g) (h3 : Cond.code Lib.Math.max.name Lib.Math.max.code 2 (some .int) ∈ lw_g) (hd : 1 ≤ d0) (hro : Pf ln rv + K ≤ r0 + ph) (hst : (st.map fun v => v.category).sum ≤ 8) (hv : (if x < y2 then y2 else x) = w) (kk : cw p l e d0 r0 s m args below meth c G A nL Q Pf ph L cl ln iv rv K (pc + 3) lv (.int w :: st)) : cw p l e d0 r0 s m args below meth c G A nL Q Pf ph L cl ln iv rv K pc lv (.int y2 :: .int x :: st) := fun u hu kc ks hk => q_mmax C d lk h1 h2 h3 ⟨hd, by show 21 ≤ 64 * d0; omega⟩ (u_wid hk (by omega)) hst hv (kk u hu kc ks hk)
theorem c_mmin (C : Cq p s m args meth c cc y ret G A nL) {idx : Nat} {x y2 w : Int32} (d : decode cc pc = .ok (.invokestatic idx, 3)) (lk : Cond.methodLink y.cls idx Lib.Math.min.name ∈ lw_g) (h1 : Cond.static Lib.Math.min.name ∈ lw_g) (h2 : Cond.initialized "java/lang/Math" ∈ lw_g) (h3 : Cond.code Lib.Math.min.name Lib.Math.min.code 2 (some .int) ∈ lw_g) (hd : 1 ≤ d0) (hro : Pf ln rv + K ≤ r0 + ph) (hst : (st.map fun v => v.category).sum ≤ 8) (hv : (if y2 < x then y2 else x) = w) (kk : cw p l e d0 r0 s m args below meth c G A nL Q Pf ph L cl ln iv rv K (pc + 3) lv (.int w :: st)) : cw p l e d0 r0 s m args below meth c G A nL Q Pf ph L cl ln iv rv K pc lv (.int y2 :: .int x :: st) := fun u hu kc ks hk => q_mmin C d lk h1 h2 h3 ⟨hd, by show 21 ≤ 64 * d0; omega⟩ (u_wid hk (by omega)) hst hv (kk u hu kc ks hk)
theorem c_callS0 (C : Cq p s m args meth c cc y ret G A nL) {y2 : MethodName} {cc2 : ByteArray} {n2 d2 idx k2 : Nat} {ret2 : Option FieldType} {r2 : Value} {As rest : List Value} (M : ∀ (L : List Nat) (E : Nat → va_E), Mq l G y2 cc2 n2 ret2 d2 As L E 0 0 (fun r L2 E2 => r = some r2 ∧ L2 = L ∧ E2 = E)) (d : decode cc pc = .ok (.invokestatic idx, 3)) (hw : Ws y.cls idx y2 cc2 n2 ret2 k2) (hk : As.length = k2) (hst : st = As.reverse ++ rest) (hcat : (rest.map fun v => v.category).sum ≤ 8) (hR : d2 + 1 ≤ d0 ∧ 8 + (n2 + 11) + 64 * d2 ≤ 64 * d0) (hro : Pf ln rv + K ≤ r0 + ph) (kk : cw p l e d0 r0 s m args below meth c G A nL Q Pf ph L cl ln iv rv K (pc + 3) lv (r2 :: rest)) : cw p l e d0 r0 s m args below meth c G A nL Q Pf ph L cl ln iv rv K pc lv st := fun u hu kc ks hh => q_callS C (M L _) d hw hk hst hcat hR (u_wid hh (by omega)) (fun r L2 E2 ⟨h1, h2, h3⟩ => by subst h1; subst h2; subst h3; exact kk u hu kc ks hh)
theorem c_callSN0 (C : Cq p s m args meth c cc y ret G A nL) {y2 : MethodName} {host : String} {cc2 : ByteArray} {n2 d2 idx k2 : Nat} {ret2 : Option FieldType} {r2 : Value} {As rest : List Value} (M : ∀ (L : List Nat) (E : Nat → va_E), Mq l G y2 cc2 n2 ret2 d2 As L E 0 0 (fun r L2 E2 => r = some r2 ∧ L2 = L ∧ E2 = E)) (d : decode cc pc = .ok (.invokestatic idx, 3)) (hw : Wns y.cls idx y2 host cc2 n2 ret2 k2) (hk : As.length = k2) (hst : st = As.reverse ++ rest) (hcat : (rest.map fun v => v.category).sum ≤ 8) (hR : d2 + 1 ≤ d0 ∧ 8 + (n2 + 11) + 64 * d2 ≤ 64 * d0) (hro : Pf ln rv + K ≤ r0 + ph) (kk : cw p l e d0 r0 s m args below meth c G A nL Q Pf ph L cl ln iv rv K (pc + 3) lv (r2 :: rest)) : cw p l e d0 r0 s m args below meth c G A nL Q Pf ph L cl ln iv rv K pc lv st := fun u hu kc ks hh => q_callSN C (M L _) d hw hk hst hcat hR (u_wid hh (by omega)) (fun r L2 E2 ⟨h1, h2, h3⟩ => by subst h1; subst h2; subst h3; exact kk u hu kc ks hh)
theorem c_objInit (C : Cq p s m args meth c cc y ret G A nL) {idx a : Nat} (d : decode cc pc = .ok (.invokespecial idx, 3)) (lk : Cond.methodLink y.cls idx Lib.objectInit ∈ lw_g) (hi : Cond.instanceMethod Lib.objectInit ∈ lw_g) (hc : Cond.code Lib.objectInit ⟨#[0xb1]⟩ 1 none ∈ lw_g) (hd : 1 ≤ d0) (hst : (st.map fun v => v.category).sum ≤ 8) (kk : cw p l e d0 r0 s m args below meth c G A nL Q Pf ph L cl ln iv rv K (pc + 3) lv st) : cw p l e d0 r0 s m args below meth c G A nL Q Pf ph L cl ln iv rv K pc lv (.ref a :: st) := fun u hu kc ks hk => q_objInit C d lk hi hc ⟨hd, by show 20 ≤ 64 * d0; omega⟩ hst (kk u hu kc ks hk)
theorem c_new (C : Cq p s m args meth c cc y ret G A nL) {ci N idx : Nat} {Cn : String} {TT : u_T} {tyy : Nat → FieldType} (ck : Ck ci Cn TT N tyy) (hv : ∀ j, j < N → defaultValue (tyy j) = ofv ci (fun _ => 0) (fun _ => none) j) (hT : kd (200 + ci) = ci ∧ bt (200 + ci) = 200 + ci) (hN : nf ci = N) (h13 : ci < 13) (d : decode cc pc = .ok (.new idx, 3)) (lk : Cond.classLink y.cls idx Cn ∈ lw_g) (hi : Cond.instantiable Cn N ∈ lw_g) (hn : Cond.initialized Cn ∈ lw_g) (hro : Pf ln rv + K + (16 + N) ≤ r0 + ph) (kk : ∀ (q : Nat) (cl2 ln2 : Nat → Nat) (iv2 : Nat → Nat → Int) (rv2 : Nat → Nat → Option Nat), q ∉ L → cl2 = va_up cl q (200 + ci) → ln2 = ln → iv2 = up0 iv q 0 → rv2 = up0 rv q none → ∃ K2 : Nat, Pf ln rv + K + (16 + N) ≤ Pf ln2 rv2 + K2 ∧ cw p l e d0 r0 s m args below meth c G A nL Q Pf ph (L ++ [q]) cl2 ln2 iv2 rv2 K2 (pc + 3) lv (.ref q :: st)) : cw p l e d0 r0 s m args below meth c G A nL Q Pf ph L cl ln iv rv K pc lv st := by
  intro u hu kc ks hh
  refine q_new C ck d lk hi hn ⟨by show kc + 1 ≤ r0 / 16; omega, by show ks + N ≤ r0; omega⟩ (fun q hq => ?_)
  obtain ⟨K2, g1, g2⟩ := kk q _ _ _ _ hq rfl rfl rfl rfl
  have e : va_up (enc G cl ln iv rv) q (ob ci N (fun j => defaultValue (tyy j))) = enc G (va_up cl q (200 + ci)) ln (up0 iv q 0) (up0 rv q none) := by
    refine enc_up (fun b hb => ⟨va_up_ne _ _ hb, rfl, up0_a hb, up0_a hb⟩) ?_
    have h2 : ty (L ++ [q]) (va_up cl q (200 + ci)) q (200 + ci) := ⟨List.mem_append_right _ List.mem_cons_self, by rw [va_up_self]; exact hT.2⟩
    rw [enc_ob h2 hT.1 hN h13]
    refine ob_ext (fun j hj => ?_)
    rw [hv j hj]
    unfold ofv
    rw [up0_s, up0_s]
  rw [e]
  exact g2 (u + (16 + N)) (by omega) _ _ (by omega)
theorem c_newaI (C : Cq p s m args meth c cc y ret G A nL) {z : Int} {N : Nat} (t : Nat)  (d : decode cc pc = .ok (.newarray .int, 2)) (lk : Cond.arrayClass .int ∈ lw_g) (hT : kd (bt t) = 20) (hz : z = (N : Int)) (hb : N ≤ 100000) (hro : Pf ln rv + K + (16 + N) ≤ r0 + ph) (kk : ∀ (q : Nat) (cl2 ln2 : Nat → Nat) (iv2 : Nat → Nat → Int) (rv2 : Nat → Nat → Option Nat), q ∉ L → cl2 = va_up cl q t → ln2 = va_up ln q N → iv2 = up0 iv q 0 → rv2 = up0 rv q none → ∃ K2 : Nat, Pf ln rv + K + (16 + N) ≤ Pf ln2 rv2 + K2 ∧ cw p l e d0 r0 s m args below meth c G A nL Q Pf ph (L ++ [q]) cl2 ln2 iv2 rv2 K2 (pc + 2) lv (.ref q :: st)) : cw p l e d0 r0 s m args below meth c G A nL Q Pf ph L cl ln iv rv K pc lv (.int (iI z) :: st) := by
  intro u hu kc ks hh
  subst hz
  have hr : R32 (N : Int) := ⟨by omega, by omega⟩
  refine q_newaI (N := N) C d lk (by rw [show (0 : Int32) = iI 0 from rfl, iI_lt hr R32_0]; omega) (by rw [iI_cl hr]; omega) hb ⟨by show kc + 1 ≤ r0 / 16; omega, by show ks + N ≤ r0; omega⟩ (fun q hq => ?_)
  obtain ⟨K2, g1, g2⟩ := kk q _ _ _ _ hq rfl rfl rfl rfl
  have e : va_up (enc G cl ln iv rv) q (aI G N (fun _ => 0)) = enc G (va_up cl q t) (va_up ln q N) (up0 iv q 0) (up0 rv q none) := by
    refine enc_up (fun b hb => ⟨va_up_ne _ _ hb, va_up_ne _ _ hb, up0_a hb, up0_a hb⟩) ?_
    have h2 : ty (L ++ [q]) (va_up cl q t) q (bt t) := ⟨List.mem_append_right _ List.mem_cons_self, by rw [va_up_self]⟩
    rw [enc_I h2 hT, va_up_self]
    congr 1
    funext j
    rw [up0_s]; rfl
  rw [e]
  exact g2 (u + (16 + N)) (by omega) _ _ (by omega)
theorem c_newaZ (C : Cq p s m args meth c cc y ret G A nL) {z : Int} {N : Nat} (t : Nat)  (d : decode cc pc = .ok (.newarray .boolean, 2)) (lk : Cond.arrayClass .boolean ∈ lw_g) (hT : kd (bt t) = 21) (hz : z = (N : Int)) (hb : N ≤ 100000) (hro : Pf ln rv + K + (16 + N) ≤ r0 + ph) (kk : ∀ (q : Nat) (cl2 ln2 : Nat → Nat) (iv2 : Nat → Nat → Int) (rv2 : Nat → Nat → Option Nat), q ∉ L → cl2 = va_up cl q t → ln2 = va_up ln q N → iv2 = up0 iv q 0 → rv2 = up0 rv q none → ∃ K2 : Nat, Pf ln rv + K + (16 + N) ≤ Pf ln2 rv2 + K2 ∧ cw p l e d0 r0 s m args below meth c G A nL Q Pf ph (L ++ [q]) cl2 ln2 iv2 rv2 K2 (pc + 2) lv (.ref q :: st)) : cw p l e d0 r0 s m args below meth c G A nL Q Pf ph L cl ln iv rv K pc lv (.int (iI z) :: st) := by
  intro u hu kc ks hh
  subst hz
  have hr : R32 (N : Int) := ⟨by omega, by omega⟩
  refine q_newaZ (N := N) C d lk (by rw [show (0 : Int32) = iI 0 from rfl, iI_lt hr R32_0]; omega) (by rw [iI_cl hr]; omega) hb ⟨by show kc + 1 ≤ r0 / 16; omega, by show ks + N ≤ r0; omega⟩ (fun q hq => ?_)
  obtain ⟨K2, g1, g2⟩ := kk q _ _ _ _ hq rfl rfl rfl rfl
  have e : va_up (enc G cl ln iv rv) q (aZ G N (fun _ => 0)) = enc G (va_up cl q t) (va_up ln q N) (up0 iv q 0) (up0 rv q none) := by
    refine enc_up (fun b hb => ⟨va_up_ne _ _ hb, va_up_ne _ _ hb, up0_a hb, up0_a hb⟩) ?_
    have h2 : ty (L ++ [q]) (va_up cl q t) q (bt t) := ⟨List.mem_append_right _ List.mem_cons_self, by rw [va_up_self]⟩
    rw [enc_Z h2 hT, va_up_self]
    congr 1
    funext j
    rw [up0_s]; rfl
  rw [e]
  exact g2 (u + (16 + N)) (by omega) _ _ (by omega)
theorem c_newaL (C : Cq p s m args meth c cc y ret G A nL) {z : Int} {N : Nat} (t : Nat) {idx : Nat} (d : decode cc pc = .ok (.anewarray idx, 3)) (lk : Cond.classLink y.cls idx RX2 ∈ lw_g) (lo : Cond.arrayOver (.object RX2) ∈ lw_tbl) (hT : kd (bt t) = 22) (hz : z = (N : Int)) (hb : N ≤ 100000) (hro : Pf ln rv + K + (16 + N) ≤ r0 + ph) (kk : ∀ (q : Nat) (cl2 ln2 : Nat → Nat) (iv2 : Nat → Nat → Int) (rv2 : Nat → Nat → Option Nat), q ∉ L → cl2 = va_up cl q t → ln2 = va_up ln q N → iv2 = up0 iv q 0 → rv2 = up0 rv q none → ∃ K2 : Nat, Pf ln rv + K + (16 + N) ≤ Pf ln2 rv2 + K2 ∧ cw p l e d0 r0 s m args below meth c G A nL Q Pf ph (L ++ [q]) cl2 ln2 iv2 rv2 K2 (pc + 3) lv (.ref q :: st)) : cw p l e d0 r0 s m args below meth c G A nL Q Pf ph L cl ln iv rv K pc lv (.int (iI z) :: st) := by
  intro u hu kc ks hh
  subst hz
  have hr : R32 (N : Int) := ⟨by omega, by omega⟩
  refine q_newqL (N := N) C d lk lo (by rw [show (0 : Int32) = iI 0 from rfl, iI_lt hr R32_0]; omega) (by rw [iI_cl hr]; omega) hb ⟨by show kc + 1 ≤ r0 / 16; omega, by show ks + N ≤ r0; omega⟩ (fun q hq => ?_)
  obtain ⟨K2, g1, g2⟩ := kk q _ _ _ _ hq rfl rfl rfl rfl
  have e : va_up (enc G cl ln iv rv) q (aL G N (fun _ => none)) = enc G (va_up cl q t) (va_up ln q N) (up0 iv q 0) (up0 rv q none) := by
    refine enc_up (fun b hb => ⟨va_up_ne _ _ hb, va_up_ne _ _ hb, up0_a hb, up0_a hb⟩) ?_
    have h2 : ty (L ++ [q]) (va_up cl q t) q (bt t) := ⟨List.mem_append_right _ List.mem_cons_self, by rw [va_up_self]⟩
    rw [enc_L h2 hT, va_up_self]
    congr 1
    funext j
    rw [up0_s]
  rw [e]
  exact g2 (u + (16 + N)) (by omega) _ _ (by omega)
theorem c_newaR (C : Cq p s m args meth c cc y ret G A nL) {z : Int} {N : Nat} (t : Nat) {idx : Nat} (d : decode cc pc = .ok (.anewarray idx, 3)) (lk : Cond.classLink y.cls idx RX5 ∈ lw_g) (lo : Cond.arrayOver (.object RX5) ∈ lw_tbl) (hT : kd (bt t) = 23) (hz : z = (N : Int)) (hb : N ≤ 100000) (hro : Pf ln rv + K + (16 + N) ≤ r0 + ph) (kk : ∀ (q : Nat) (cl2 ln2 : Nat → Nat) (iv2 : Nat → Nat → Int) (rv2 : Nat → Nat → Option Nat), q ∉ L → cl2 = va_up cl q t → ln2 = va_up ln q N → iv2 = up0 iv q 0 → rv2 = up0 rv q none → ∃ K2 : Nat, Pf ln rv + K + (16 + N) ≤ Pf ln2 rv2 + K2 ∧ cw p l e d0 r0 s m args below meth c G A nL Q Pf ph (L ++ [q]) cl2 ln2 iv2 rv2 K2 (pc + 3) lv (.ref q :: st)) : cw p l e d0 r0 s m args below meth c G A nL Q Pf ph L cl ln iv rv K pc lv (.int (iI z) :: st) := by
  intro u hu kc ks hh
  subst hz
  have hr : R32 (N : Int) := ⟨by omega, by omega⟩
  refine q_newqR (N := N) C d lk lo (by rw [show (0 : Int32) = iI 0 from rfl, iI_lt hr R32_0]; omega) (by rw [iI_cl hr]; omega) hb ⟨by show kc + 1 ≤ r0 / 16; omega, by show ks + N ≤ r0; omega⟩ (fun q hq => ?_)
  obtain ⟨K2, g1, g2⟩ := kk q _ _ _ _ hq rfl rfl rfl rfl
  have e : va_up (enc G cl ln iv rv) q (aR G N (fun _ => none)) = enc G (va_up cl q t) (va_up ln q N) (up0 iv q 0) (up0 rv q none) := by
    refine enc_up (fun b hb => ⟨va_up_ne _ _ hb, va_up_ne _ _ hb, up0_a hb, up0_a hb⟩) ?_
    have h2 : ty (L ++ [q]) (va_up cl q t) q (bt t) := ⟨List.mem_append_right _ List.mem_cons_self, by rw [va_up_self]⟩
    rw [enc_R h2 hT, va_up_self]
    congr 1
    funext j
    rw [up0_s]
  rw [e]
  exact g2 (u + (16 + N)) (by omega) _ _ (by omega)
theorem c_newaO (C : Cq p s m args meth c cc y ret G A nL) {z : Int} {N : Nat} (t : Nat) {idx : Nat} (d : decode cc pc = .ok (.anewarray idx, 3)) (lk : Cond.classLink y.cls idx "java/lang/Object" ∈ lw_g) (lo : Cond.arrayOver (.object "java/lang/Object") ∈ lw_tbl) (hT : kd (bt t) = 24) (hz : z = (N : Int)) (hb : N ≤ 100000) (hro : Pf ln rv + K + (16 + N) ≤ r0 + ph) (kk : ∀ (q : Nat) (cl2 ln2 : Nat → Nat) (iv2 : Nat → Nat → Int) (rv2 : Nat → Nat → Option Nat), q ∉ L → cl2 = va_up cl q t → ln2 = va_up ln q N → iv2 = up0 iv q 0 → rv2 = up0 rv q none → ∃ K2 : Nat, Pf ln rv + K + (16 + N) ≤ Pf ln2 rv2 + K2 ∧ cw p l e d0 r0 s m args below meth c G A nL Q Pf ph (L ++ [q]) cl2 ln2 iv2 rv2 K2 (pc + 3) lv (.ref q :: st)) : cw p l e d0 r0 s m args below meth c G A nL Q Pf ph L cl ln iv rv K pc lv (.int (iI z) :: st) := by
  intro u hu kc ks hh
  subst hz
  have hr : R32 (N : Int) := ⟨by omega, by omega⟩
  refine q_newqO (N := N) C d lk lo (by rw [show (0 : Int32) = iI 0 from rfl, iI_lt hr R32_0]; omega) (by rw [iI_cl hr]; omega) hb ⟨by show kc + 1 ≤ r0 / 16; omega, by show ks + N ≤ r0; omega⟩ (fun q hq => ?_)
  obtain ⟨K2, g1, g2⟩ := kk q _ _ _ _ hq rfl rfl rfl rfl
  have e : va_up (enc G cl ln iv rv) q (aO G N (fun _ => none)) = enc G (va_up cl q t) (va_up ln q N) (up0 iv q 0) (up0 rv q none) := by
    refine enc_up (fun b hb => ⟨va_up_ne _ _ hb, va_up_ne _ _ hb, up0_a hb, up0_a hb⟩) ?_
    have h2 : ty (L ++ [q]) (va_up cl q t) q (bt t) := ⟨List.mem_append_right _ List.mem_cons_self, by rw [va_up_self]⟩
    rw [enc_O h2 hT, va_up_self]
    congr 1
    funext j
    rw [up0_s]
  rw [e]
  exact g2 (u + (16 + N)) (by omega) _ _ (by omega)
theorem c_callV (C : Cq p s m args meth c cc y ret G A nL) (hM : Mir mi s) {y2 : MethodName} {cc2 : ByteArray} {n2 d2 c2 pm2 idx k2 : Nat} {P2 : PC} {As rest : List Value} {Pf2 : PF} {b ci N T : Nat} {ret2 : Option FieldType} {TT : u_T} {tyy : Nat → FieldType} (M : Mc l G mi Pf2 pm2 y2 cc2 n2 ret2 d2 (.ref b :: As) L cl ln iv rv c2 P2) (d : decode cc pc = .ok (.invokevirtual idx, 3)) (hw : Wv y.cls idx y2 cc2 n2 ret2 k2) (hk : As.length = k2) (hb : ty L cl b T) (hT : kd T = ci) (hN : nf ci = N) (h13 : ci < 13) (ck : Ck ci y2.cls TT N tyy) (hst : st = As.reverse ++ .ref b :: rest) (hcat : (rest.map fun v => v.category).sum ≤ 8) (hR : d2 + 1 ≤ d0 ∧ 8 + (n2 + 11) + 64 * d2 ≤ 64 * d0) (hro : Pf ln rv + K + (pm2 + c2 - Pf2 ln rv) ≤ r0 + ph) (kk : ∀ (v : Option Value) (L2 : List Nat) (cl2 ln2 : Nat → Nat) (iv2 : Nat → Nat → Int) (rv2 : Nat → Nat → Option Nat), P2 v L2 cl2 ln2 iv2 rv2 → ∃ K2 : Nat, (∀ u2 : Nat, u2 + Pf2 ln rv ≤ Pf2 ln2 rv2 + c2 → u2 + Pf ln rv + K ≤ Pf ln2 rv2 + K2) ∧ cw p l e d0 r0 s m args below meth c G A nL Q Pf ph L2 cl2 ln2 iv2 rv2 K2 (pc + 3) lv (v.toList ++ rest)) : cw p l e d0 r0 s m args below meth c G A nL Q Pf ph L cl ln iv rv K pc lv st := fun u hu kc ks hh => u_callV C hM M d hw hk hb.1 (enc_ob hb hT hN h13) ck hst hcat hR (by omega) (fun v L2 E2 u2 ⟨cl2, ln2, iv2, rv2, h1, h2, h3⟩ => by subst h1; obtain ⟨K2, g1, g2⟩ := kk v L2 cl2 ln2 iv2 rv2 h3; have g3 := g1 u2 h2; exact g2 (u + u2) (by omega)) kc ks hh
theorem c_callI (C : Cq p s m args meth c cc y ret G A nL) (hM : Mir mi s) {y2 : MethodName} {cc2 : ByteArray} {n2 d2 c2 pm2 idx k2 : Nat} {P2 : PC} {As rest : List Value} {Pf2 : PF} {b : Nat} (M : Mc l G mi Pf2 pm2 y2 cc2 n2 none d2 (.ref b :: As) L cl ln iv rv c2 P2) (d : decode cc pc = .ok (.invokespecial idx, 3)) (hw : Wi y.cls idx y2 cc2 n2 k2) (hk : As.length = k2) (hst : st = As.reverse ++ .ref b :: rest) (hcat : (rest.map fun v => v.category).sum ≤ 8) (hR : d2 + 1 ≤ d0 ∧ 8 + (n2 + 11) + 64 * d2 ≤ 64 * d0) (hro : Pf ln rv + K + (pm2 + c2 - Pf2 ln rv) ≤ r0 + ph) (kk : ∀ (v : Option Value) (L2 : List Nat) (cl2 ln2 : Nat → Nat) (iv2 : Nat → Nat → Int) (rv2 : Nat → Nat → Option Nat), P2 v L2 cl2 ln2 iv2 rv2 → ∃ K2 : Nat, (∀ u2 : Nat, u2 + Pf2 ln rv ≤ Pf2 ln2 rv2 + c2 → u2 + Pf ln rv + K ≤ Pf ln2 rv2 + K2) ∧ cw p l e d0 r0 s m args below meth c G A nL Q Pf ph L2 cl2 ln2 iv2 rv2 K2 (pc + 3) lv (v.toList ++ rest)) : cw p l e d0 r0 s m args below meth c G A nL Q Pf ph L cl ln iv rv K pc lv st := fun u hu kc ks hh => u_callI C hM M d hw hk hst hcat hR (by omega) (fun v L2 E2 u2 ⟨cl2, ln2, iv2, rv2, h1, h2, h3⟩ => by subst h1; obtain ⟨K2, g1, g2⟩ := kk v L2 cl2 ln2 iv2 rv2 h3; have g3 := g1 u2 h2; exact g2 (u + u2) (by omega)) kc ks hh
theorem c_callIN (C : Cq p s m args meth c cc y ret G A nL) (hM : Mir mi s) {y2 : MethodName} {cc2 : ByteArray} {n2 d2 c2 pm2 idx k2 : Nat} {P2 : PC} {As rest : List Value} {Pf2 : PF} {b : Nat} {host : String} (M : Mc l G mi Pf2 pm2 y2 cc2 n2 none d2 (.ref b :: As) L cl ln iv rv c2 P2) (d : decode cc pc = .ok (.invokespecial idx, 3)) (hw : Wn y.cls idx y2 host cc2 n2 k2) (hk : As.length = k2) (hst : st = As.reverse ++ .ref b :: rest) (hcat : (rest.map fun v => v.category).sum ≤ 8) (hR : d2 + 1 ≤ d0 ∧ 8 + (n2 + 11) + 64 * d2 ≤ 64 * d0) (hro : Pf ln rv + K + (pm2 + c2 - Pf2 ln rv) ≤ r0 + ph) (kk : ∀ (v : Option Value) (L2 : List Nat) (cl2 ln2 : Nat → Nat) (iv2 : Nat → Nat → Int) (rv2 : Nat → Nat → Option Nat), P2 v L2 cl2 ln2 iv2 rv2 → ∃ K2 : Nat, (∀ u2 : Nat, u2 + Pf2 ln rv ≤ Pf2 ln2 rv2 + c2 → u2 + Pf ln rv + K ≤ Pf ln2 rv2 + K2) ∧ cw p l e d0 r0 s m args below meth c G A nL Q Pf ph L2 cl2 ln2 iv2 rv2 K2 (pc + 3) lv (v.toList ++ rest)) : cw p l e d0 r0 s m args below meth c G A nL Q Pf ph L cl ln iv rv K pc lv st := fun u hu kc ks hh => u_callIN C hM M d hw hk hst hcat hR (by omega) (fun v L2 E2 u2 ⟨cl2, ln2, iv2, rv2, h1, h2, h3⟩ => by subst h1; obtain ⟨K2, g1, g2⟩ := kk v L2 cl2 ln2 iv2 rv2 h3; have g3 := g1 u2 h2; exact g2 (u + u2) (by omega)) kc ks hh
theorem c_callS (C : Cq p s m args meth c cc y ret G A nL) (hM : Mir mi s) {y2 : MethodName} {cc2 : ByteArray} {n2 d2 c2 pm2 idx k2 : Nat} {P2 : PC} {As rest : List Value} {Pf2 : PF} {ret2 : Option FieldType} (M : Mc l G mi Pf2 pm2 y2 cc2 n2 ret2 d2 As L cl ln iv rv c2 P2) (d : decode cc pc = .ok (.invokestatic idx, 3)) (hw : Ws y.cls idx y2 cc2 n2 ret2 k2) (hk : As.length = k2) (hst : st = As.reverse ++ rest) (hcat : (rest.map fun v => v.category).sum ≤ 8) (hR : d2 + 1 ≤ d0 ∧ 8 + (n2 + 11) + 64 * d2 ≤ 64 * d0) (hro : Pf ln rv + K + (pm2 + c2 - Pf2 ln rv) ≤ r0 + ph) (kk : ∀ (v : Option Value) (L2 : List Nat) (cl2 ln2 : Nat → Nat) (iv2 : Nat → Nat → Int) (rv2 : Nat → Nat → Option Nat), P2 v L2 cl2 ln2 iv2 rv2 → ∃ K2 : Nat, (∀ u2 : Nat, u2 + Pf2 ln rv ≤ Pf2 ln2 rv2 + c2 → u2 + Pf ln rv + K ≤ Pf ln2 rv2 + K2) ∧ cw p l e d0 r0 s m args below meth c G A nL Q Pf ph L2 cl2 ln2 iv2 rv2 K2 (pc + 3) lv (v.toList ++ rest)) : cw p l e d0 r0 s m args below meth c G A nL Q Pf ph L cl ln iv rv K pc lv st := fun u hu kc ks hh => u_callS C hM M d hw hk hst hcat hR (by omega) (fun v L2 E2 u2 ⟨cl2, ln2, iv2, rv2, h1, h2, h3⟩ => by subst h1; obtain ⟨K2, g1, g2⟩ := kk v L2 cl2 ln2 iv2 rv2 h3; have g3 := g1 u2 h2; exact g2 (u + u2) (by omega)) kc ks hh
theorem c_iret (C : Cq p s m args meth c cc y ret G A nL) {Post : PC} {c0 : Nat} {z : Int} (d : decode cc pc = .ok (.ireturn, 1)) (hr : ret = some .int) (hKc : K ≤ c0) (hro : Pf ln rv + K ≤ r0 + ph) (hp : Post (some (.int (iI z))) L cl ln iv rv) : cw p l e d0 r0 s m args below meth c G A nL (MQ below (Qu G A (Qp G Pf ph c0 Post)) args s (r0 / 16) r0 A) Pf ph L cl ln iv rv K pc lv [.int (iI z)] := fun u hu kc ks hh => u_iret C d hr (by omega) ⟨cl, ln, iv, rv, rfl, by omega, hp⟩ kc ks hh
theorem c_zret (C : Cq p s m args meth c cc y ret G A nL) {Post : PC} {c0 : Nat} {z : Int} (d : decode cc pc = .ok (.ireturn, 1)) (hr : ret = some .boolean) (hz : z = 0 ∨ z = 1) (hKc : K ≤ c0) (hro : Pf ln rv + K ≤ r0 + ph) (hp : Post (some (.int (iI z))) L cl ln iv rv) : cw p l e d0 r0 s m args below meth c G A nL (MQ below (Qu G A (Qp G Pf ph c0 Post)) args s (r0 / 16) r0 A) Pf ph L cl ln iv rv K pc lv [.int (iI z)] := fun u hu kc ks hh => u_zret C d hr (by rcases hz with rfl | rfl <;> decide) (by omega) ⟨cl, ln, iv, rv, rfl, by omega, hp⟩ kc ks hh
theorem c_vret (C : Cq p s m args meth c cc y ret G A nL) {Post : PC} {c0 : Nat} (d : decode cc pc = .ok (.return_, 1)) (hr : ret = none) (hKc : K ≤ c0) (hro : Pf ln rv + K ≤ r0 + ph) (hp : Post none L cl ln iv rv) : cw p l e d0 r0 s m args below meth c G A nL (MQ below (Qu G A (Qp G Pf ph c0 Post)) args s (r0 / 16) r0 A) Pf ph L cl ln iv rv K pc lv [] := fun u hu kc ks hh => u_vret C d hr (by omega) ⟨cl, ln, iv, rv, rfl, by omega, hp⟩ kc ks hh
theorem c_aret (C : Cq p s m args meth c cc y ret G A nL) {Post : PC} {c0 : Nat} {x : Option Nat} {rt : FieldType} (d : decode cc pc = .ok (.areturn, 1)) (hr : ret = some rt) (hrt : (∃ n, rt = .object n) ∨ ∃ t, rt = .array t) (hKc : K ≤ c0) (hro : Pf ln rv + K ≤ r0 + ph) (hp : Post (some (va_rf x)) L cl ln iv rv) : cw p l e d0 r0 s m args below meth c G A nL (MQ below (Qu G A (Qp G Pf ph c0 Post)) args s (r0 / 16) r0 A) Pf ph L cl ln iv rv K pc lv [va_rf x] := fun u hu kc ks hh => u_aret C d hr hrt (by cases x with | none => exact Or.inl rfl | some w => exact Or.inr ⟨w, rfl⟩) (by omega) ⟨cl, ln, iv, rv, rfl, by omega, hp⟩ kc ks hh
theorem Mc.mk {n d c0 pm : Nat} {av : List Value} {Post : PC} (hy : plainName y.cls = true) (hn : (lg_sl av).length ≤ n) (body : ∀ (p : Program) (e : Env) (s : State) (m : MethodId) (args : Array Value) (below : List Frame) (meth : Method) (c : Code) (A : Nat → Prop), Cq p s m args meth c cc y ret G A n → Mir mi s → cw p l e d (pm + c0 - Pf ln rv) s m args below meth c G A n (MQ below (Qu G A (Qp G Pf (Pf ln rv) c0 Post)) args s ((pm + c0 - Pf ln rv) / 16) (pm + c0 - Pf ln rv) A) Pf (Pf ln rv) L cl ln iv rv 0 0 (lv_args 0 av) []) : Mc l G mi Pf pm y cc n ret d av L cl ln iv rv c0 Post := Mu.mk hy hn (fun p e s m args below meth c A C hM => body p e s m args below meth c A C hM 0 (by omega))
theorem c_copyi (C : Cq p s m args meth c cc y ret G A nL) {a b T T2 idx : Nat} {sp dp n : Int} (d : decode cc pc = .ok (.invokestatic idx, 3)) (lk : Cond.methodLink y.cls idx arraycopyName ∈ lw_g) (hn : Cond.native arraycopyName ∈ lw_g) (hs : Cond.static arraycopyName ∈ lw_g) (hi : Cond.initialized "java/lang/System" ∈ lw_g) (ha : ty L cl a T) (hT : kd T = 20) (hb : ty L cl b T2) (hT2 : kd T2 = 20) (h1 : 0 ≤ sp) (h2 : 0 ≤ dp) (h3 : 0 ≤ n) (h4 : sp + n ≤ (ln a : Nat)) (h5 : dp + n ≤ (ln b : Nat)) (hla : ln a ≤ 1000000) (hlb : ln b ≤ 1000000) (hd : 1 ≤ d0) (hst : (st.map fun v => v.category).sum ≤ 8) (kk : ∀ iv2, iv2 = (fun w j => if w = b then (if dp.toNat ≤ j ∧ j < dp.toNat + n.toNat then iv a (sp.toNat + (j - dp.toNat)) else iv b j) else iv w j) → cw p l e d0 r0 s m args below meth c G A nL Q Pf ph L cl ln iv2 rv K (pc + 3) lv st) : cw p l e d0 r0 s m args below meth c G A nL Q Pf ph L cl ln iv rv K pc lv (.int (iI n) :: .int (iI dp) :: .ref b :: .int (iI sp) :: .ref a :: st) := by
  intro u hu kc ks hh
  have r1 : R32 sp := ⟨by omega, by omega⟩
  have r2 : R32 dp := ⟨by omega, by omega⟩
  have r3 : R32 n := ⟨by omega, by omega⟩
  refine q_copyi C d lk hn hs hi ha.1 (enc_I ha hT) hb.1 (enc_I hb hT2) (by rw [show (0 : Int32) = iI 0 from rfl, iI_lt r1 R32_0]; omega) (by rw [show (0 : Int32) = iI 0 from rfl, iI_lt r2 R32_0]; omega) (by rw [show (0 : Int32) = iI 0 from rfl, iI_lt r3 R32_0]; omega) (by rw [iI_cl r1, iI_cl r3]; omega) (by rw [iI_cl r2, iI_cl r3]; omega) ⟨hd, by show 64 ≤ 64 * d0; omega⟩ hst ?_
  rw [iI_cl r1, iI_cl r2, iI_cl r3]
  have e : va_up (enc G cl ln iv rv) b (aI G (ln b) (va_cpy (fun j => iI (iv a j)) (fun j => iI (iv b j)) sp.toNat dp.toNat n.toNat)) = enc G cl ln (fun w j => if w = b then (if dp.toNat ≤ j ∧ j < dp.toNat + n.toNat then iv a (sp.toNat + (j - dp.toNat)) else iv b j) else iv w j) rv := by
    refine enc_up (fun w hw => ⟨rfl, rfl, by funext j; rw [if_neg hw], rfl⟩) ?_
    rw [enc_I hb hT2]
    congr 1
    funext j
    rw [if_pos rfl]
    unfold va_cpy
    split <;> rfl
  rw [e]
  exact kk _ rfl u hu kc ks hh
end CQ3
end
section
def ilo (T k : Nat) : Int := match T with
  | 1 => (match k with | 11 => 1 | 12 => 1 | _ => (-2147483648))
  | 2 => (match k with | 0 => 3000 | 2 => 0 | _ => (-2147483648))
  | 3 => (match k with | 0 => 500 | 2 => 0 | _ => (-2147483648))
  | 4 => (match k with | 0 => 4000 | 2 => 0 | _ => (-2147483648))
  | 5 => (match k with | 0 => 200 | 2 => 0 | _ => (-2147483648))
  | 6 => (match k with | 0 => 6003 | 2 => 0 | _ => (-2147483648))
  | 7 => (match k with | 0 => 6003 | 2 => 0 | _ => (-2147483648))
  | 8 => (match k with | 0 => 40200 | 2 => 0 | _ => (-2147483648))
  | 9 => (match k with | 0 => 40200 | 2 => 0 | _ => (-2147483648))
  | 10 => (match k with | 0 => 4001 | 2 => 0 | _ => (-2147483648))
  | 11 => (match k with | 0 => 40000 | 2 => 0 | _ => (-2147483648))
  | 12 => (match k with | 0 => 200 | 2 => 0 | _ => (-2147483648))
  | 14 => (match k with | 1 => 0 | 2 => 0 | 5 => 0 | 7 => 0 | _ => (-2147483648))
  | 15 => (match k with | 4 => 0 | 5 => 0 | 7 => 0 | 10 => 0 | 11 => 0 | _ => (-2147483648))
  | 17 => (match k with | 5 => 0 | 6 => 0 | 9 => 0 | _ => (-2147483648))
  | 18 => (match k with | 1 => 0 | _ => (-2147483648))
  | 19 => (match k with | 1 => 0 | 2 => 0 | _ => (-2147483648))
  | 20 => (match k with | 3 => 0 | _ => (-2147483648))
  | 21 => (match k with | 3 => 0 | _ => (-2147483648))
  | 22 => (match k with | 2 => 0 | _ => (-2147483648))
  | 23 => (match k with | 2 => 0 | _ => (-2147483648))
  | 24 => (match k with | 2 => 0 | _ => (-2147483648))
  | 25 => (match k with | 2 => 0 | _ => (-2147483648))
  | 26 => (match k with | 2 => 0 | _ => (-2147483648))
  | 52 => 0
  | 56 => 0
  | 58 => 0
  | 59 => 0
  | 100 => (match k with | 7 => 0 | _ => (-2147483648))
  | _ => (-2147483648)
def ihi (T k : Nat) : Int := match T with
  | 1 => (match k with | 11 => 100 | 12 => 50 | _ => 2147483647)
  | 2 => (match k with | 0 => 3000 | 2 => 3000 | _ => 2147483647)
  | 3 => (match k with | 0 => 500 | 2 => 500 | _ => 2147483647)
  | 4 => (match k with | 0 => 4000 | 2 => 4000 | _ => 2147483647)
  | 5 => (match k with | 0 => 200 | 2 => 200 | _ => 2147483647)
  | 6 => (match k with | 0 => 6003 | 2 => 6003 | _ => 2147483647)
  | 7 => (match k with | 0 => 6003 | 2 => 6003 | _ => 2147483647)
  | 8 => (match k with | 0 => 40200 | 2 => 40200 | _ => 2147483647)
  | 9 => (match k with | 0 => 40200 | 2 => 40200 | _ => 2147483647)
  | 10 => (match k with | 0 => 4001 | 2 => 4001 | _ => 2147483647)
  | 11 => (match k with | 0 => 40000 | 2 => 40000 | _ => 2147483647)
  | 12 => (match k with | 0 => 200 | 2 => 200 | _ => 2147483647)
  | 14 => (match k with | 1 => 1 | 2 => 1 | 5 => 126 | 7 => 6 | _ => 2147483647)
  | 15 => (match k with | 4 => 500 | 5 => 1 | 7 => 100000 | 10 => 500 | 11 => 500 | _ => 2147483647)
  | 17 => (match k with | 5 => 50 | 6 => 1 | 9 => 100 | _ => 2147483647)
  | 18 => (match k with | 1 => 200 | _ => 2147483647)
  | 19 => (match k with | 1 => 200 | 2 => 1 | _ => 2147483647)
  | 20 => (match k with | 3 => 5 | _ => 2147483647)
  | 21 => (match k with | 3 => 5 | _ => 2147483647)
  | 22 => (match k with | 2 => 30 | _ => 2147483647)
  | 23 => (match k with | 2 => 512 | _ => 2147483647)
  | 24 => (match k with | 2 => 6003 | _ => 2147483647)
  | 25 => (match k with | 2 => 6003 | _ => 2147483647)
  | 26 => (match k with | 2 => 200 | _ => 2147483647)
  | 52 => 1
  | 56 => 1
  | 58 => 125
  | 59 => 1
  | 100 => (match k with | 7 => 1 | _ => 2147483647)
  | _ => 2147483647
def tgt (T k : Nat) : Nat := match T with
  | 1 => (match k with | 0 => 2 | 1 => 3 | 2 => 4 | 3 => 5 | 4 => 13 | 5 => 14 | 6 => 15 | 7 => 16 | 8 => 17 | 9 => 18 | 10 => 18 | _ => 0)
  | 2 => (match k with | 1 => 32 | _ => 0)
  | 3 => (match k with | 1 => 33 | _ => 0)
  | 4 => (match k with | 1 => 34 | _ => 0)
  | 5 => (match k with | 1 => 35 | _ => 0)
  | 6 => (match k with | 1 => 36 | _ => 0)
  | 7 => (match k with | 1 => 37 | _ => 0)
  | 8 => (match k with | 1 => 38 | _ => 0)
  | 9 => (match k with | 1 => 39 | _ => 0)
  | 10 => (match k with | 1 => 40 | _ => 0)
  | 11 => (match k with | 1 => 41 | _ => 0)
  | 12 => (match k with | 1 => 42 | _ => 0)
  | 13 => (match k with | 0 => 22 | 1 => 23 | _ => 0)
  | 14 => (match k with | 3 => 56 | 4 => 57 | 6 => 58 | _ => 0)
  | 15 => (match k with | 0 => 50 | 1 => 51 | 2 => 52 | 3 => 53 | 6 => 54 | 8 => 55 | _ => 0)
  | 16 => (match k with | 0 => 24 | 1 => 25 | 2 => 6 | 3 => 7 | 4 => 8 | 5 => 9 | 6 => 10 | _ => 0)
  | 17 => (match k with | 0 => 59 | 1 => 60 | 2 => 61 | 3 => 62 | 4 => 11 | 7 => 16 | 8 => 63 | _ => 0)
  | 18 => (match k with | 0 => 67 | _ => 0)
  | 19 => (match k with | 0 => 64 | _ => 0)
  | 20 => (match k with | 1 => 65 | 2 => 66 | _ => 0)
  | 21 => (match k with | 1 => 100 | 2 => 20 | _ => 0)
  | 22 => (match k with | 1 => 1000 | _ => 0)
  | 23 => (match k with | 1 => 1001 | _ => 0)
  | 24 => (match k with | 1 => 1002 | _ => 0)
  | 25 => (match k with | 1 => 1003 | _ => 0)
  | 26 => (match k with | 1 => 1004 | _ => 0)
  | 67 => 19
  | 68 => 20
  | 100 => (match k with | 2 => 100 | 3 => 100 | 4 => 26 | 5 => 12 | 6 => 68 | _ => 0)
  | 1000 => 100
  | 1001 => 21
  | 1002 => 20
  | 1003 => 20
  | 1004 => 20
  | _ => 0
def nul (T k : Nat) : Bool := match T with
  | 1 => !([0, 1, 2, 3, 4, 5, 6, 7, 8, 9, 10] : List Nat).contains k
  | 2 => !([1] : List Nat).contains k
  | 3 => !([1] : List Nat).contains k
  | 4 => !([1] : List Nat).contains k
  | 5 => !([1] : List Nat).contains k
  | 6 => !([1] : List Nat).contains k
  | 7 => !([1] : List Nat).contains k
  | 8 => !([1] : List Nat).contains k
  | 9 => !([1] : List Nat).contains k
  | 10 => !([1] : List Nat).contains k
  | 11 => !([1] : List Nat).contains k
  | 12 => !([1] : List Nat).contains k
  | 13 => !([0, 1] : List Nat).contains k
  | 14 => !([3, 4, 6] : List Nat).contains k
  | 15 => !([0, 1, 2, 3, 6, 8] : List Nat).contains k
  | 16 => !([0, 1, 2, 3, 4, 5, 6] : List Nat).contains k
  | 17 => !([0, 1, 2, 3, 4, 7, 8] : List Nat).contains k
  | 18 => !([0] : List Nat).contains k
  | 19 => !([0] : List Nat).contains k
  | 20 => !([1, 2] : List Nat).contains k
  | 21 => !([1] : List Nat).contains k
  | 22 => !([1] : List Nat).contains k
  | 23 => !([1] : List Nat).contains k
  | 24 => !([1] : List Nat).contains k
  | 25 => !([1] : List Nat).contains k
  | 26 => !([1] : List Nat).contains k
  | 100 => !([4, 5, 6] : List Nat).contains k
  | _ => true
def llo (T : Nat) : Nat := match T with
  | 32 => 16
  | 33 => 16
  | 34 => 16
  | 35 => 16
  | 36 => 16
  | 37 => 16
  | 38 => 16
  | 39 => 16
  | 40 => 16
  | 41 => 16
  | 42 => 16
  | 50 => 500
  | 51 => 500
  | 52 => 500
  | 53 => 500
  | 54 => 200
  | 55 => 5
  | 56 => 126
  | 57 => 126
  | 58 => 6
  | 59 => 404
  | 60 => 101
  | 61 => 101
  | 62 => 50
  | 63 => 100
  | 64 => 200
  | 65 => 0
  | 66 => 1
  | 67 => 200
  | 68 => 4
  | 1000 => 10
  | 1001 => 10
  | 1002 => 10
  | 1003 => 10
  | 1004 => 10
  | _ => 0
def lhi (T : Nat) : Nat := match T with
  | 32 => 6000
  | 33 => 1000
  | 34 => 8000
  | 35 => 400
  | 36 => 12006
  | 37 => 12006
  | 38 => 80400
  | 39 => 80400
  | 40 => 8002
  | 41 => 80000
  | 42 => 400
  | 50 => 500
  | 51 => 500
  | 52 => 500
  | 53 => 500
  | 54 => 200
  | 55 => 5
  | 56 => 126
  | 57 => 126
  | 58 => 6
  | 59 => 404
  | 60 => 101
  | 61 => 101
  | 62 => 50
  | 63 => 100
  | 64 => 200
  | 65 => 8
  | 66 => 4
  | 67 => 200
  | 68 => 4
  | 1000 => 60
  | 1001 => 1200
  | 1002 => 9100
  | 1003 => 9100
  | 1004 => 400
  | _ => 0
def raw (T : Nat) : Bool := decide (200 ≤ T) && decide (T < 1000)
def lst (T : Nat) : Bool := decide (22 ≤ T) && decide (T ≤ 26)
def szd (T : Nat) : Bool := (decide (2 ≤ T) && decide (T ≤ 12)) || lst T
def arr (T : Nat) : Bool := (decide (30 ≤ T) && decide (T < 100)) || decide (1000 ≤ T)
def uq (t : Nat) : Bool := ([1, 2, 3, 4, 5, 6, 7, 8, 9, 10, 11, 13, 14, 15, 16, 17, 18, 28, 22, 23, 24, 25, 67, 69] : List Nat).contains t
def pot (T : Nat) : Bool := ([2, 3, 4, 5, 6, 7, 8, 9, 10, 11, 24, 25, 67] : List Nat).contains T
theorem lst_szd {T : Nat} (h : lst T = true) : szd T = true := by unfold szd; rw [h]; simp
theorem bt_list {a r : Nat} (h : r < 5) : bt (1000 + 5 * a + r) = 1000 + r := by unfold bt; rw [if_neg (by omega), if_neg (by omega), if_neg (by omega)]; omega
theorem tgt_list {T : Nat} (h : lst T = true) : tgt T 1 = 1000 + (T - 22) := by
  unfold lst at h
  simp only [Bool.and_eq_true, decide_eq_true_eq] at h
  have : T = 22 ∨ T = 23 ∨ T = 24 ∨ T = 25 ∨ T = 26 := by omega
  rcases this with rfl | rfl | rfl | rfl | rfl <;> rfl
def rkx (cl : Nat → Nat) (a k b : Nat) : Prop := (bt (cl a) = 100 → k < 4 → cl b < cl a) ∧ (lst (bt (cl a)) = true → k = 1 → cl b = 1000 + 5 * a + (bt (cl a) - 22))
def rok (L : List Nat) (cl : Nat → Nat) (g a k : Nat) (r : Option Nat) : Prop := raw (bt (cl a)) = false → (r = none → nul (bt (cl a)) k = true) ∧ ∀ b, r = some b → (b ∈ L ∧ bt (cl b) = tgt (bt (cl a)) k ∧ rkx cl a k b) ∨ (b = g ∧ lst (bt (cl a)) = true ∧ k = 1)
def WT (g : Nat) (sk : Nat → Nat) (L : List Nat) (cl ln : Nat → Nat) (iv : Nat → Nat → Int) (rv : Nat → Nat → Option Nat) : Prop :=
  (∀ a ∈ L, ∀ k, ilo (bt (cl a)) k ≤ iv a k ∧ iv a k ≤ ihi (bt (cl a)) k) ∧
  (∀ a ∈ L, ∀ k, rok L cl g a k (rv a k)) ∧
  (∀ a ∈ L, arr (bt (cl a)) = true → llo (bt (cl a)) ≤ ln a ∧ ln a ≤ lhi (bt (cl a))) ∧
  (∀ a ∈ L, szd (bt (cl a)) = true → ∀ b, rv a 1 = some b → (b = g ∧ iv a 2 = 0) ∨ (b ∈ L ∧ iv a 2 ≤ ((ln b : Nat) : Int))) ∧
  (∀ a ∈ L, lst (bt (cl a)) = true → ∀ b, rv a 1 = some b → ∀ i : Nat, (i : Int) < iv a 2 → rv b i ≠ none) ∧
  (∀ a ∈ L, uq (cl a) = true → a = sk (cl a)) ∧ g ∉ L
def SKL (sk : Nat → Nat) (L : List Nat) (cl : Nat → Nat) : Prop := ∀ t, uq t = true → sk t ∈ L ∧ cl (sk t) = t
section WTS
variable {g : Nat} {sk : Nat → Nat} {L : List Nat} {cl ln : Nat → Nat} {iv : Nat → Nat → Int} {rv : Nat → Nat → Option Nat} {a b T k : Nat} {z : Int}
theorem WT.int (h : WT g sk L cl ln iv rv) (ha : ty L cl a T) (k : Nat) : ilo T k ≤ iv a k ∧ iv a k ≤ ihi T k := by have q := h.1 a ha.1 k; rw [ha.2] at q; exact q
theorem bx_lo {x v lo : Int} (e : x = v) (h : lo ≤ v) : lo ≤ x := e ▸ h
theorem bx_hi {x v hi : Int} (e : x = v) (h : v ≤ hi) : x ≤ hi := e ▸ h
theorem opt_n {o : Option Nat} {P : Prop} {Q : Nat → Prop} (h : (o = none ∧ P) ∨ ∃ b, o = some b ∧ Q b) : ∃ o2, o = o2 ∧ ∀ b, o2 = some b → Q b := ⟨o, rfl, fun b e => by
  rcases h with ⟨e1, _⟩ | ⟨b2, e1, q⟩
  · rw [e1] at e
    cases e
  · rw [e1] at e
    cases e
    exact q⟩
theorem WT.opt (h : WT g sk L cl ln iv rv) (ha : ty L cl a T) (k : Nat) (hr : raw T = false) (hl : (lst T && k == 1) = false) : (rv a k = none ∧ nul T k = true) ∨ ∃ b, rv a k = some b ∧ ty L cl b (tgt T k) := by
  have q := h.2.1 a ha.1 k (by rw [ha.2]; exact hr)
  rw [ha.2] at q
  cases e : rv a k with
  | none => exact Or.inl ⟨rfl, q.1 e⟩
  | some b =>
    rcases q.2 b e with w | w
    · exact Or.inr ⟨b, rfl, w.1, w.2.1⟩
    · rw [w.2.1, w.2.2] at hl; cases hl
theorem WT.ref (h : WT g sk L cl ln iv rv) (ha : ty L cl a T) (k : Nat) (hr : raw T = false) (hl : (lst T && k == 1) = false) (hn : nul T k = false) : ∃ b, rv a k = some b ∧ ty L cl b (tgt T k) := by
  rcases h.opt ha k hr hl with w | w
  · rw [hn] at w; cases w.2
  · exact w
theorem WT.rank (h : WT g sk L cl ln iv rv) (ha : ty L cl a 100) (hk : k < 4) (hb : rv a k = some b) : cl b < cl a := by
  rcases (h.2.1 a ha.1 k (by rw [ha.2]; rfl)).2 b hb with w | w
  · exact w.2.2.1 ha.2 hk
  · rw [ha.2] at w; cases w.2.1
theorem WT.len (h : WT g sk L cl ln iv rv) (ha : ty L cl a T) (hA : arr T = true) : llo T ≤ ln a ∧ ln a ≤ lhi T := by have q := h.2.2.1 a ha.1 (by rw [ha.2]; exact hA); rw [ha.2] at q; exact q
theorem WT.isz (h : WT g sk L cl ln iv rv) (ha : ty L cl a T) (hs : szd T = true) (hl : lst T = false) (hb : rv a 1 = some b) : iv a 2 ≤ ((ln b : Nat) : Int) := by
  rcases h.2.2.2.1 a ha.1 (by rw [ha.2]; exact hs) b hb with w | w
  · rcases (h.2.1 a ha.1 1 (by rw [ha.2]; unfold szd at hs; rw [hl] at hs; unfold raw; simp at hs ⊢; omega)).2 b hb with q | q
    · exact absurd q.1 (by rw [w.1]; exact h.2.2.2.2.2.2)
    · rw [ha.2, hl] at q; cases q.2.1
  · exact w.2
theorem ne_ty {T2 : Nat} (ha : ty L cl a T) (hb : ty L cl b T2) (h : T ≠ T2) : a ≠ b := fun e => h (by rw [← ha.2, ← hb.2, e])
theorem WT.puti {iv2 : Nat → Nat → Int} (h : WT g sk L cl ln iv rv) (he : iv2 = up2 iv a k z) (ha : ty L cl a T) (hz : ilo T k ≤ z ∧ z ≤ ihi T k) (hx : (szd T && k == 2) = false) : WT g sk L cl ln iv2 rv := by
  subst he
  obtain ⟨h1, h2, h3, h4, h5, h6⟩ := h
  have key : ∀ w, szd (bt (cl w)) = true → up2 iv a k z w 2 = iv w 2 := by
    intro w hw
    by_cases e : w = a
    · subst e
      rw [ha.2] at hw
      rw [hw] at hx
      refine up2_j (fun q => ?_)
      subst q; cases hx
    · exact up2_k e
  refine ⟨fun w hw j => ?_, h2, h3, fun w hw hs => ?_, fun w hw hs => ?_, h6⟩
  · by_cases e : w = a
    · subst e
      by_cases ej : j = k
      · subst ej; rw [up2_s, ha.2]; exact hz
      · rw [up2_j ej]; exact h1 w hw j
    · rw [up2_k e]; exact h1 w hw j
  · rw [key w hs]; exact h4 w hw hs
  · rw [key w (lst_szd hs)]; exact h5 w hw hs
theorem WT.putsz {iv2 : Nat → Nat → Int} (h : WT g sk L cl ln iv rv) (he : iv2 = up2 iv a 2 z) (ha : ty L cl a T) (hz : ilo T 2 ≤ z ∧ z ≤ ihi T 2) (hs : ∀ b, rv a 1 = some b → (b = g ∧ z = 0) ∨ (b ∈ L ∧ z ≤ ((ln b : Nat) : Int))) (hn : lst T = true → ∀ b, rv a 1 = some b → ∀ i : Nat, (i : Int) < z → rv b i ≠ none) : WT g sk L cl ln iv2 rv := by
  subst he
  obtain ⟨h1, h2, h3, h4, h5, h6⟩ := h
  refine ⟨fun w hw j => ?_, h2, h3, fun w hw hq => ?_, fun w hw hq => ?_, h6⟩
  · by_cases e : w = a
    · subst e
      by_cases ej : j = 2
      · subst ej; rw [up2_s, ha.2]; exact hz
      · rw [up2_j ej]; exact h1 w hw j
    · rw [up2_k e]; exact h1 w hw j
  · by_cases e : w = a
    · subst e; rw [up2_s]; exact hs
    · rw [up2_k e]; exact h4 w hw hq
  · by_cases e : w = a
    · subst e; rw [up2_s]; rw [ha.2] at hq; exact hn hq
    · rw [up2_k e]; exact h5 w hw hq
theorem WT.isz_put {iv2 : Nat → Nat → Int} (h : WT g sk L cl ln iv rv) (he : iv2 = up2 iv a 2 z) (ha : ty L cl a T) (hz : ilo T 2 ≤ z ∧ z ≤ ihi T 2) (hl : lst T = false) (hr : raw T = false) (hb : rv a 1 = some b) (hs : z ≤ ((ln b : Nat) : Int)) : WT g sk L cl ln iv2 rv := by
  refine h.putsz he ha hz (fun b2 hb2 => ?_) (fun q => by rw [hl] at q; cases q)
  rw [hb] at hb2; cases hb2
  rcases (h.2.1 a ha.1 1 (by rw [ha.2]; exact hr)).2 b hb with q | q
  · exact Or.inr ⟨q.1, hs⟩
  · rw [ha.2, hl] at q; cases q.2.1
theorem WT.putr {rv2 : Nat → Nat → Option Nat} {x : Option Nat} (h : WT g sk L cl ln iv rv) (he : rv2 = upr rv a k x) (ha : ty L cl a T) (hr : rok L cl g a k x) (hx : (szd T && k == 1) = false) (hT : T < 1000) : WT g sk L cl ln iv rv2 := by
  subst he
  obtain ⟨h1, h2, h3, h4, h5, h6⟩ := h
  have key : ∀ w, szd (bt (cl w)) = true → upr rv a k x w 1 = rv w 1 := by
    intro w hw
    by_cases e : w = a
    · subst e
      rw [ha.2] at hw
      rw [hw] at hx
      refine upr_j (fun q => ?_)
      subst q; cases hx
    · rw [upr_a e]
  refine ⟨h1, fun w hw j => ?_, h3, fun w hw hs => ?_, fun w hw hs b hb i hi => ?_, h6⟩
  · by_cases e : w = a
    · subst e
      by_cases ej : j = k
      · subst ej; rw [upr_s]; exact hr
      · rw [upr_j ej]; exact h2 w hw j
    · rw [upr_a e]; exact h2 w hw j
  · rw [key w hs]; exact h4 w hw hs
  · rw [key w (lst_szd hs)] at hb
    have hba : b ≠ a := by
      intro e
      subst e
      rcases (h2 w hw 1 (by unfold raw; unfold lst at hs; simp at hs ⊢; omega)).2 b hb with q | q
      · rw [ha.2, tgt_list hs] at q; omega
      · exact h6.2 (q.1 ▸ ha.1)
    rw [upr_a hba]
    exact h5 w hw hs b hb i hi
end WTS
def XT (L : List Nat) (cl ln : Nat → Nat) (L2 : List Nat) (cl2 ln2 : Nat → Nat) : Prop := ∀ a ∈ L, a ∈ L2 ∧ cl2 a = cl a ∧ ln2 a = ln a
def fT (ls : List Nat) (L : List Nat) (cl : Nat → Nat) (iv : Nat → Nat → Int) (rv : Nat → Nat → Option Nat) (iv2 : Nat → Nat → Int) (rv2 : Nat → Nat → Option Nat) : Prop := ∀ b ∈ L, ls.contains (bt (cl b)) = false → iv2 b = iv b ∧ rv2 b = rv b
section XTS
variable {ls : List Nat} {g : Nat} {sk : Nat → Nat} {L L2 L3 : List Nat} {cl ln cl2 ln2 cl3 ln3 : Nat → Nat} {iv iv2 iv3 : Nat → Nat → Int} {rv rv2 rv3 : Nat → Nat → Option Nat} {a b T k : Nat} {z : Int}
theorem XT.refl : XT L cl ln L cl ln := fun _ h => ⟨h, rfl, rfl⟩
theorem XT.trans (h1 : XT L cl ln L2 cl2 ln2) (h2 : XT L2 cl2 ln2 L3 cl3 ln3) : XT L cl ln L3 cl3 ln3 := fun a h => ⟨(h2 a (h1 a h).1).1, (h2 a (h1 a h).1).2.1.trans (h1 a h).2.1, (h2 a (h1 a h).1).2.2.trans (h1 a h).2.2⟩
theorem XT.ty (h : XT L cl ln L2 cl2 ln2) (ha : ty L cl a T) : ty L2 cl2 a T := ⟨(h a ha.1).1, by rw [(h a ha.1).2.1]; exact ha.2⟩
theorem XT.skl (h : XT L cl ln L2 cl2 ln2) (hs : SKL sk L cl) : SKL sk L2 cl2 := fun t ht => ⟨(h _ (hs t ht).1).1, ((h _ (hs t ht).1).2.1).trans (hs t ht).2⟩
theorem fT.refl : fT ls L cl iv rv iv rv := fun _ _ _ => ⟨rfl, rfl⟩
theorem fT.puti (h : fT ls L cl iv rv iv2 rv2) (hX : XT L cl ln L2 cl2 ln2) (he : iv3 = up2 iv2 a k z) (ha : ty L2 cl2 a T) (hc : ls.contains T = true) : fT ls L cl iv rv iv3 rv2 := by
  intro b hb hq
  refine ⟨?_, (h b hb hq).2⟩
  rw [he, upi_a (fun e => ?_)]
  · exact (h b hb hq).1
  · subst e; rw [← (hX b hb).2.1, ha.2, hc] at hq; cases hq
theorem fT.putr {x : Option Nat} (h : fT ls L cl iv rv iv2 rv2) (hX : XT L cl ln L2 cl2 ln2) (he : rv3 = upr rv2 a k x) (ha : ty L2 cl2 a T) (hc : ls.contains T = true) : fT ls L cl iv rv iv2 rv3 := by
  intro b hb hq
  refine ⟨(h b hb hq).1, ?_⟩
  rw [he, upr_a (fun e => ?_)]
  · exact (h b hb hq).2
  · subst e; rw [← (hX b hb).2.1, ha.2, hc] at hq; cases hq
theorem fT.call {ls2 : List Nat} (h : fT ls L cl iv rv iv2 rv2) (hX : XT L cl ln L2 cl2 ln2) (h2 : fT ls2 L2 cl2 iv2 rv2 iv3 rv3) (hs : ls2.all (fun j => ls.contains j) = true) : fT ls L cl iv rv iv3 rv3 := by
  intro b hb hq
  have q2 := h2 b (hX b hb).1 (by rw [(hX b hb).2.1]; exact con_sub hs hq)
  exact ⟨q2.1.trans (h b hb hq).1, q2.2.trans (h b hb hq).2⟩
theorem fT.i (h : fT ls L cl iv rv iv2 rv2) (ha : ty L cl a T) (hc : ls.contains T = false) (k : Nat) : iv2 a k = iv a k := congrFun (h a ha.1 (by rw [ha.2]; exact hc)).1 k
theorem fT.r (h : fT ls L cl iv rv iv2 rv2) (ha : ty L cl a T) (hc : ls.contains T = false) (k : Nat) : rv2 a k = rv a k := congrFun (h a ha.1 (by rw [ha.2]; exact hc)).2 k
end XTS
def cap (g : Nat) (ln : Nat → Nat) (rv : Nat → Nat → Option Nat) (a : Nat) : Nat := match rv a 1 with
  | some b => if b = g then 0 else ln b
  | none => 0
def nn (f : Nat → Option Nat) : Nat → Nat
  | 0 => 0
  | n + 1 => nn f n + (if (f n).isSome = true then 1 else 0)
def Phi (g : Nat) (sk : Nat → Nat) : PF := fun ln rv => 3 * (cap g ln rv (sk 2) + cap g ln rv (sk 3) + cap g ln rv (sk 4) + cap g ln rv (sk 5) + cap g ln rv (sk 6) + cap g ln rv (sk 7) + cap g ln rv (sk 8) + cap g ln rv (sk 9) + cap g ln rv (sk 10) + cap g ln rv (sk 11)) + 8 * (cap g ln rv (sk 24) + cap g ln rv (sk 25)) + 240 * (nn (rv (sk 67)) 200 + nn (rv (sk 69)) 200)
abbrev PHM : Nat := 1110000
theorem nn_le (f : Nat → Option Nat) : ∀ n, nn f n ≤ n := by
  intro n
  induction n with
  | zero => exact Nat.le_refl _
  | succ n ih => unfold nn; split <;> omega
theorem cap_le {g : Nat} {sk : Nat → Nat} {L : List Nat} {cl ln : Nat → Nat} {iv : Nat → Nat → Int} {rv : Nat → Nat → Option Nat} {t m : Nat} (h : WT g sk L cl ln iv rv) (hS : SKL sk L cl) (hu : uq t = true) (hb : bt t = t) (hr : raw t = false) (ha : arr (tgt t 1) = true) (hl : lhi (tgt t 1) = m) : cap g ln rv (sk t) ≤ m := by
  obtain ⟨q1, q2⟩ := hS t hu
  unfold cap
  split
  · rename_i b e
    split
    · exact Nat.zero_le _
    · rename_i hg
      have w := (h.2.1 _ q1 1 (by rw [q2, hb]; exact hr)).2 b e
      rw [q2, hb] at w
      rcases w with w | w
      · have l2 := (h.len (T := tgt t 1) ⟨w.1, w.2.1⟩ ha).2
        rw [hl] at l2; exact l2
      · exact absurd w.1 hg
  · exact Nat.zero_le _
theorem Phi.le {g : Nat} {sk : Nat → Nat} {L : List Nat} {cl ln : Nat → Nat} {iv : Nat → Nat → Int} {rv : Nat → Nat → Option Nat} (h : WT g sk L cl ln iv rv) (hS : SKL sk L cl) : Phi g sk ln rv ≤ PHM := by
  refine hv14 (cap_le (t := 2) (m := 6000) h hS rfl rfl rfl rfl rfl) (cap_le (t := 3) (m := 1000) h hS rfl rfl rfl rfl rfl) (cap_le (t := 4) (m := 8000) h hS rfl rfl rfl rfl rfl) (cap_le (t := 5) (m := 400) h hS rfl rfl rfl rfl rfl) (cap_le (t := 6) (m := 12006) h hS rfl rfl rfl rfl rfl) (cap_le (t := 7) (m := 12006) h hS rfl rfl rfl rfl rfl) (cap_le (t := 8) (m := 80400) h hS rfl rfl rfl rfl rfl) (cap_le (t := 9) (m := 80400) h hS rfl rfl rfl rfl rfl) (cap_le (t := 10) (m := 8002) h hS rfl rfl rfl rfl rfl) (cap_le (t := 11) (m := 80000) h hS rfl rfl rfl rfl rfl) (cap_le (t := 24) (m := 9100) h hS rfl rfl rfl rfl rfl) (cap_le (t := 25) (m := 9100) h hS rfl rfl rfl rfl rfl) (nn_le (rv (sk 67)) 200) (nn_le (rv (sk 69)) 200) (fun c2 c3 c4 c5 c6 c7 c8 c9 c10 c11 c24 c25 n1 n2 => ?_)
  unfold Phi
  show _ ≤ 1110000
  omega
theorem Phi.congr {g : Nat} {sk : Nat → Nat} {ln ln2 : Nat → Nat} {rv rv2 : Nat → Nat → Option Nat} (h : ∀ t, uq t = true → pot (bt t) = true → rv2 (sk t) = rv (sk t)) (hl : ∀ t b, uq t = true → pot (bt t) = true → szd t = true → rv (sk t) 1 = some b → b ≠ g → ln2 b = ln b) : Phi g sk ln2 rv2 = Phi g sk ln rv := by
  have hc : ∀ t, uq t = true → pot (bt t) = true → szd t = true → cap g ln2 rv2 (sk t) = cap g ln rv (sk t) := by
    intro t ht hp hs
    unfold cap
    rw [h t ht hp]
    split
    · rename_i b e
      split
      · rfl
      · rename_i hg; exact hl t b ht hp hs e hg
    · rfl
  unfold Phi
  rw [hc 2 rfl rfl rfl, hc 3 rfl rfl rfl, hc 4 rfl rfl rfl, hc 5 rfl rfl rfl, hc 6 rfl rfl rfl, hc 7 rfl rfl rfl, hc 8 rfl rfl rfl, hc 9 rfl rfl rfl, hc 10 rfl rfl rfl, hc 11 rfl rfl rfl, hc 24 rfl rfl rfl, hc 25 rfl rfl rfl, h 67 rfl rfl, h 69 rfl rfl]
theorem Phi.putr {g : Nat} {sk : Nat → Nat} {L : List Nat} {cl ln : Nat → Nat} {rv rv2 : Nat → Nat → Option Nat} {a k T : Nat} {x : Option Nat} (hS : SKL sk L cl) (he : rv2 = upr rv a k x) (ha : ty L cl a T) (hp : pot T = false) : Phi g sk ln rv2 = Phi g sk ln rv := by
  refine Phi.congr (fun t ht hq => ?_) (fun _ _ _ _ _ _ _ => rfl)
  rw [he, upr_a (fun e => ?_)]
  rw [← ha.2, ← e, (hS t ht).2, hq] at hp; cases hp
end
