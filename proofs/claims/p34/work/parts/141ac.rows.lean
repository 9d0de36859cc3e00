def SEC (v : Nat → Int) (a : Nat → Nat → Int) : Prop := ∀ i : Nat, (i : Int) < v 4 → a 6 i ≠ 5 → a 9 i = -1
def TRL (sk ln : Nat → Nat) (iv : Nat → Nat → Int) (rv : Nat → Nat → Option Nat) (v : Nat → Int) (a : Nat → Nat → Int) : Prop := TABR sk iv rv v a ∧ (∃ o, RP2 o sk ln iv rv v a) ∧ TBL v a ∧ SEC v a
def RWD (ln : Nat → Nat) (iv : Nat → Nat → Int) (rv : Nat → Nat → Option Nat) (a : Nat → Nat → Int) (w : Nat) (d : Int) : Prop := (0 ≤ d → ROWR ln iv rv a w d.toNat) ∧ (d < 0 → (iv w 0 = (-1 - d) % 4 ∧ ∃ lb, rv w 1 = some lb ∧ ln lb = 0) ∧ ∃ c, rv w 2 = some c ∧ ((ln c : Nat) : Int) = a 16 (-1 - d).toNat ∧ ∀ k : Nat, k < ln c → iv c k = a 17 (4 * (-1 - d).toNat + k))
def HL (L : List Nat) (cl ln : Nat → Nat) (iv : Nat → Nat → Int) (rv : Nat → Nat → Option Nat) (a : Nat → Nat → Int) (q : Nat) (l : List Int) : Prop := iv q 2 = (l.length : Int) ∧ ∀ (r : Nat) (d : Int), l[r]? = some d → ∃ w, el rv q r = some w ∧ ty L cl w 20 ∧ RWD ln iv rv a w d
def QT (g : Nat) (sk : Nat → Nat) (L : List Nat) (cl ln : Nat → Nat) (iv : Nat → Nat → Int) (rv : Nat → Nat → Option Nat) (L1 : List Nat) (cl1 ln1 : Nat → Nat) (iv1 : Nat → Nat → Int) (rv1 : Nat → Nat → Option Nat) : Prop := WT g sk L cl ln iv rv ∧ SKL sk L cl ∧ XT L cl ln L1 cl1 ln1 ∧ PSAME sk iv rv iv1 rv1 ∧ KP L cl (fun _ => False) (fun _ => False) (fun _ => False) (fun _ => False) (fun _ _ => False) iv rv iv1 rv1
def UPX (sk ln : Nat → Nat) (iv : Nat → Nat → Int) (rv : Nat → Nat → Option Nat) (r : Option Nat) (f : Int) : Prop := ∀ v a, TRL sk ln iv rv v a → ∀ t : Int, BASR sk rv (v 4).toNat r t → (f = 1 ↔ UPC a t)
def UPI (sk ln : Nat → Nat) (iv : Nat → Nat → Int) (rv : Nat → Nat → Option Nat) (r x : Option Nat) : Prop := ∀ v a, TRL sk ln iv rv v a → ∀ t : Int, BASR sk rv (v 4).toNat r t → ∃ t2 : Int, BASR sk rv (v 4).toNat x t2 ∧ (UPC a t ↔ UPC a t2)
def TWX (sk ln : Nat → Nat) (iv : Nat → Nat → Int) (rv : Nat → Nat → Option Nat) (b : Nat) (f : Int) : Prop := ∀ v a, TRL sk ln iv rv v a → ∀ i : Nat, (i : Int) < v 4 → el rv (sk 22) i = some b → (f = 1 ↔ WHL v a i)
def WOX (sk ln : Nat → Nat) (iv : Nat → Nat → Int) (rv : Nat → Nat → Option Nat) (i : Int) (f : Option Nat) : Prop := ∀ v a, TRL sk ln iv rv v a → (f = none ∧ ¬ WHL v a i) ∨ (∃ b, f = some b ∧ (0 ≤ i ∧ i < v 4) ∧ el rv (sk 22) i.toNat = some b ∧ WHL v a i)
def LAD (q : Nat) (r : Option Nat) (iv : Nat → Nat → Int) (rv : Nat → Nat → Option Nat) (iv2 : Nat → Nat → Int) (rv2 : Nat → Nat → Option Nat) : Prop := (r = none ∧ iv2 q 2 = iv q 2 ∧ ∀ j : Nat, (j : Int) < iv q 2 → el rv2 q j = el rv q j) ∨ ∃ x, r = some x ∧ iv2 q 2 = iv q 2 + 1 ∧ el rv2 q (iv q 2).toNat = some x ∧ ∀ j : Nat, (j : Int) < iv q 2 → el rv2 q j = el rv q j
def GLQ (sk ln : Nat → Nat) (iv : Nat → Nat → Int) (rv : Nat → Nat → Option Nat) (b : Nat) (L1 : List Nat) (cl1 ln1 : Nat → Nat) (iv1 : Nat → Nat → Int) (rv1 : Nat → Nat → Option Nat) (q : Nat) (P : (Nat → Nat → Int) → Int → List Int) : Prop := ∀ v a, TRL sk ln iv rv v a → ∀ i : Nat, (i : Int) < v 4 → el rv (sk 22) i = some b → HL L1 cl1 ln1 iv1 rv1 a q (P a i)
def GP7 (sk ln : Nat → Nat) (iv : Nat → Nat → Int) (rv : Nat → Nat → Option Nat) (b : Nat) (L1 : List Nat) (cl1 ln1 : Nat → Nat) (iv1 : Nat → Nat → Int) (rv1 : Nat → Nat → Option Nat) (q : Nat) (x : Option Nat) : Prop := ∀ v a, TRL sk ln iv rv v a → ∀ i : Nat, (i : Int) < v 4 → el rv (sk 22) i = some b → ∃ (t : Int) (l : List Int), BASR sk rv1 (v 4).toNat x t ∧ HL L1 cl1 ln1 iv1 rv1 a q l ∧ l ++ RWL a t = RWL a i
def GP13 (sk ln : Nat → Nat) (iv : Nat → Nat → Int) (rv : Nat → Nat → Option Nat) (b : Nat) (L1 : List Nat) (cl1 ln1 : Nat → Nat) (iv1 : Nat → Nat → Int) (rv1 : Nat → Nat → Option Nat) (q tr : Nat) (k : Int) : Prop := ∀ v a, TRL sk ln iv rv v a → ∀ i : Nat, (i : Int) < v 4 → el rv (sk 22) i = some b → ∃ (j : Nat) (l : List Int), ((j : Int) < v 4 ∧ 0 ≤ k) ∧ el rv1 (sk 22) j = some tr ∧ HL L1 cl1 ln1 iv1 rv1 a q l ∧ l ++ (rng (200 * (j : Int) + a 10 j - (200 * (j : Int) + k)).toNat (200 * (j : Int) + k) ++ RWL a (a 8 j)) = RWL a i
def ALP (ln : Nat → Nat) (iv : Nat → Nat → Int) (rv : Nat → Nat → Option Nat) (w u : Nat) (f : Int) : Prop := ∀ c d, rv w 2 = some c → rv u 2 = some d → (0 ≤ f ∧ f ≤ ((ln c : Nat) : Int) ∧ f ≤ ((ln d : Nat) : Int)) ∧ (∀ k : Nat, (k : Int) < f → iv c k = iv d k) ∧ (f < ((ln c : Nat) : Int) → f < ((ln d : Nat) : Int) → iv c f.toNat ≠ iv d f.toNat)
def ALI (iv : Nat → Nat → Int) (rv : Nat → Nat → Option Nat) (w u : Nat) (k : Int) : Prop := ∀ c d, rv w 2 = some c → rv u 2 = some d → ∀ j : Nat, (j : Int) < k → iv c j = iv d j
def PTX (sk ln : Nat → Nat) (iv : Nat → Nat → Int) (rv : Nat → Nat → Option Nat) (i j k f : Int) : Prop := ∀ v a, TRL sk ln iv rv v a → PRT v a i j k f
section ROWS
variable {g : Nat} {sk : Nat → Nat} {L L1 L2 L3 : List Nat} {cl ln cl1 ln1 cl2 ln2 cl3 ln3 : Nat → Nat} {iv iv1 iv2 iv3 : Nat → Nat → Int} {rv rv1 rv2 rv3 : Nat → Nat → Option Nat} {v : Nat → Int} {a : Nat → Nat → Int} {ls : List Nat} {t b q n w u c0 tr : Nat} {d f f1 f2 i0 j0 k0 : Int} {r x y : Option Nat} {l : List Int}
theorem QT.of (hW : WT g sk L cl ln iv rv) (hS : SKL sk L cl) (hX : XT L cl ln L1 cl1 ln1) (hF : fT ls L cl iv rv iv1 rv1) (h1 : kpl ls = true) (a1 : ls.contains 22 = false) (a2 : ls.contains 1000 = false) (a3 : ls.contains 23 = false) (a4 : ls.contains 1001 = false) : QT g sk L cl ln iv rv L1 cl1 ln1 iv1 rv1 :=
  have k := kpl_no h1
  ⟨hW, hS, hX, PSAME.fr hW hS hF a1 a2 a3 a4 k.1 k.2.2.2.2.2.2.1 k.2.2.1, KP.fr hW hF h1⟩
theorem TSAME.rf : TSAME v a v a := ⟨rfl, rfl, rfl, rfl, rfl, rfl, rfl, rfl, rfl, rfl, rfl, rfl, rfl, rfl, rfl, rfl⟩
theorem TRL.qq (h : TRL sk ln iv rv v a) (q : QT g sk L cl ln iv rv L1 cl1 ln1 iv1 rv1) : TRL sk ln1 iv1 rv1 v a := by
  obtain ⟨hW, hS, hX, hp, hk⟩ := q
  obtain ⟨h1, ⟨o, h2⟩, h3, h4⟩ := h
  exact ⟨tab_same h1 hp TSAME.rf, ⟨o, rp_same h2 h1 hW hS hX hk hp TSAME.rf⟩, h3, h4⟩
theorem QT.el (q : QT g sk L cl ln iv rv L1 cl1 ln1 iv1 rv1) (h : TRL sk ln iv rv v a) {i : Nat} (hi : (i : Int) < v 4) : el rv1 (sk 22) i = el rv (sk 22) i := by
  obtain ⟨hW, hS, hX, hp, hk⟩ := q
  exact hp.2.2.1.1 i (by rw [h.1.1]; exact hi)
theorem TRL.tab (h : TRL sk ln iv rv v a) {i : Nat} (hi : (i : Int) < v 4) (ht : el rv (sk 22) i = some t) : (iv t 0 = a 6 i ∧ iv t 7 + a 5 i = 1 ∧ (a 5 i = 0 ∨ a 5 i = 1) ∧ 0 ≤ a 10 i ∧ a 10 i ≤ 200) ∧ (BASR sk rv i (rv t 2) (a 8 i) ∧ BASR sk rv i (rv t 3) (a 9 i)) ∧ ∃ q n, (rv t 4 = some q ∧ rv t 6 = some n ∧ iv q 2 = a 10 i) ∧ (∀ r : Nat, (r : Int) < a 10 i → ∃ w, el rv q r = some w ∧ ROWR ln iv rv a w (200 * i + r)) ∧ (∀ w : Nat, w < 4 → INDR ln iv rv (rv n w) (w : Int) (a 16 (4 * i + w)) (fun k => a 17 (4 * (4 * i + w) + k))) := by
  obtain ⟨h1, ⟨o, h2⟩, _, _⟩ := h
  obtain ⟨t1, q1, b1, b2, b3, b4, b5, b6, b7, b8, b9⟩ := h1.2.1 i hi
  rw [ht] at b1; cases b1
  obtain ⟨t1, c1, c2⟩ := h2.1 i hi
  rw [ht] at c1; cases c1
  obtain ⟨q2, s, x, n, ⟨e1, e2, e3, e4⟩, _, e5, ⟨_, e6⟩, e7, _, e8⟩ := c2
  rw [b2] at e1; cases e1
  refine ⟨⟨b3, b5, b8, b9⟩, e5, q1, n, ⟨b2, e4, b6⟩, fun r hr => ?_, e8⟩
  obtain ⟨w, g1, _, g2⟩ := e7 r hr
  exact ⟨w, g1, g2⟩
theorem TRL.smt (h : TRL sk ln iv rv v a) {i : Nat} (hi : (i : Int) < v 4) : ∃ t, el rv (sk 22) i = some t := by
  obtain ⟨t, q, b1, _⟩ := h.1.2.1 i hi
  exact ⟨t, b1⟩
theorem BASR.up {i m : Nat} {z : Int} (h : BASR sk rv i r z) (hm : i ≤ m) : BASR sk rv m r z := by
  rcases h with h | ⟨h1, h2, h3⟩
  · exact Or.inl h
  · exact Or.inr ⟨h1, by omega, h3⟩
theorem BASR.tb {z : Int} (h : TRL sk ln iv rv v a) (hb : BASR sk rv (v 4).toNat (some b) z) : 0 ≤ z ∧ z < v 4 ∧ el rv (sk 22) z.toNat = some b := by
  have h4 := h.1.2.2.2.2.2.1.1
  rcases hb with ⟨_, e⟩ | ⟨h1, h2, h3⟩
  · cases e
  · exact ⟨h1, by omega, h3.symm⟩
theorem BASR.no {z : Int} (h : TRL sk ln iv rv v a) (hb : BASR sk rv (v 4).toNat none z) : z < 0 := by
  have h4 := h.1.2.2.2.2.2.1.1
  rcases hb with ⟨e, _⟩ | ⟨h1, h2, h3⟩
  · omega
  · obtain ⟨t, ht⟩ := h.smt (i := z.toNat) (by omega)
    rw [ht] at h3; cases h3
theorem TRL.v30 (h : TRL sk ln iv rv v a) : v 4 ≤ 30 := h.1.2.2.2.2.2.1.2
theorem TRL.b0 (h : TRL sk ln iv rv v a) : 0 ≤ v 4 := h.1.2.2.2.2.2.1.1
theorem TRL.s (h : TRL sk ln iv rv v a) {z : Int} (h0 : 0 ≤ z) (h4 : z < v 4) : UPC a z ↔ (a 5 z.toNat = 1 ∧ UPC a (a 8 z.toNat)) := UPC.s h.2.2.1 h.v30 h0 h4
theorem TRL.both (h : TRL sk ln iv rv v a) {i : Nat} (hi : (i : Int) < v 4) : WHL v a i ↔ (UPC a i ∧ UPC a (a 9 i)) := by
  by_cases e : a 6 i = 5
  · exact WHL.j h.2.2.1 h.v30 (by omega) hi e
  · have e9 := h.2.2.2 i hi e
    rw [WHL.p h.2.2.1 h.v30 (t := (i : Int)) (by omega) hi e]
    exact ⟨fun g => ⟨g, UPC.neg0 (by omega)⟩, fun g => g.1⟩
theorem UPI.refl : UPI sk ln iv rv r r := fun v a _ t hb => ⟨t, hb, Iff.rfl⟩
theorem UPI.no (h : UPI sk ln iv rv r (some b)) (h7 : iv b 7 ≠ 0) : UPX sk ln iv rv r 0 := by
  intro v a hR t hb
  obtain ⟨t2, g1, g2⟩ := h v a hR t hb
  obtain ⟨p1, p2, p3⟩ := g1.tb hR
  have p4 := (hR.tab (i := t2.toNat) (by omega) p3).1
  refine ⟨fun e => absurd e (by decide), fun e => ?_⟩
  have p5 := ((hR.s p1 p2).mp (g2.mp e)).1
  omega
theorem UPI.yes (h : UPI sk ln iv rv r none) : UPX sk ln iv rv r 1 := by
  intro v a hR t hb
  obtain ⟨t2, g1, g2⟩ := h v a hR t hb
  exact ⟨fun _ => g2.mpr (UPC.neg0 (g1.no hR)), fun _ => rfl⟩
theorem UPI.next (h : UPI sk ln iv rv r (some b)) (h7 : iv b 7 = 0) (h2 : rv b 2 = x) : UPI sk ln iv rv r x := by
  intro v a hR t hb
  obtain ⟨t2, g1, g2⟩ := h v a hR t hb
  obtain ⟨p1, p2, p3⟩ := g1.tb hR
  obtain ⟨⟨_, p4, _⟩, ⟨p5, _⟩, _⟩ := hR.tab (i := t2.toNat) (by omega) p3
  rw [h2] at p5
  refine ⟨_, p5.up (by omega), g2.trans ?_⟩
  rw [hR.s p1 p2]
  exact ⟨fun g => g.2, fun g => ⟨by omega, g⟩⟩
theorem el_bas {i m : Nat} (h : el rv (sk 22) i = some b) (hi : i < m) : BASR sk rv m (some b) (i : Int) := Or.inr ⟨by omega, by omega, by rw [Int.toNat_natCast]; exact h.symm⟩
theorem TWX.yes (h1 : UPX sk ln iv rv (some b) f1) (h2 : UPX sk ln iv rv x f2) (hx : rv b 3 = x) (e1 : f1 = 1) (e2 : f2 = 1) : TWX sk ln iv rv b 1 := by
  intro v a hR i hi ht
  have h4 := hR.b0
  obtain ⟨_, ⟨_, p6⟩, _⟩ := hR.tab hi ht
  rw [hx] at p6
  exact ⟨fun _ => (hR.both hi).mpr ⟨(h1 v a hR i (el_bas ht (by omega))).mp e1, (h2 v a hR _ (p6.up (by omega))).mp e2⟩, fun _ => rfl⟩
theorem TWX.no1 (h1 : UPX sk ln iv rv (some b) f1) (e1 : f1 ≠ 1) : TWX sk ln iv rv b 0 := by
  intro v a hR i hi ht
  exact ⟨fun e => absurd e (by decide), fun e => absurd ((h1 v a hR i (el_bas ht (by omega))).mpr ((hR.both hi).mp e).1) e1⟩
theorem TWX.no2 (h2 : UPX sk ln iv rv x f2) (hx : rv b 3 = x) (e2 : f2 ≠ 1) : TWX sk ln iv rv b 0 := by
  intro v a hR i hi ht
  obtain ⟨_, ⟨_, p6⟩, _⟩ := hR.tab hi ht
  rw [hx] at p6
  exact ⟨fun e => absurd e (by decide), fun e => absurd ((h2 v a hR _ (p6.up (by omega))).mpr ((hR.both hi).mp e).2) e2⟩
theorem WOX.n1 (h : ∀ b, ¬ ALV sk iv rv i0 b) : WOX sk ln iv rv i0 none := fun v a hR => Or.inl ⟨rfl, fun hw => by
  obtain ⟨w1, w2, w3⟩ := WHL.tr hw
  obtain ⟨t, ht⟩ := hR.1.la w1 w2 w3
  exact h t ht⟩
theorem ALV.i (hA : ALV sk iv rv i0 b) (hR : TRL sk ln iv rv v a) : 0 ≤ i0 ∧ i0 < v 4 ∧ ((i0.toNat : Nat) : Int) = i0 := ⟨hA.1, by have := hA.2.1; rw [hR.1.1] at this; exact this, Int.toNat_of_nonneg hA.1⟩
theorem WOX.n2 (hA : ALV sk iv rv i0 b) (hw : TWX sk ln iv rv b f2) (e : f2 ≠ 1) : WOX sk ln iv rv i0 none := fun v a hR => Or.inl ⟨rfl, fun g => by
  obtain ⟨p1, p2, p3⟩ := hA.i hR
  exact e ((hw v a hR i0.toNat (by omega) hA.2.2.1).mpr (by rw [p3]; exact g))⟩
theorem WOX.ys (hA : ALV sk iv rv i0 b) (hw : TWX sk ln iv rv b f2) (e : f2 = 1) : WOX sk ln iv rv i0 (some b) := fun v a hR => by
  obtain ⟨p1, p2, p3⟩ := hA.i hR
  have g := (hw v a hR i0.toNat (by omega) hA.2.2.1).mp e
  rw [p3] at g
  exact Or.inr ⟨b, rfl, ⟨p1, p2⟩, hA.2.2.1, g⟩
theorem RWD.keep (h : RWD ln iv rv a w d) (tw : ty L cl w 20) (hW : WT g sk L cl ln iv rv) (hX : XT L cl ln L1 cl1 ln1) (hk : KP L cl (fun _ => False) (fun _ => False) (fun _ => False) (fun _ => False) (fun _ _ => False) iv rv iv1 rv1) : RWD ln1 iv1 rv1 a w d := by
  refine ⟨fun e => ?_, fun e => ?_⟩
  · have g := h.1 e
    exact g.keep tw hW hX hk (by rw [hk.rwc w tw (fun e => e)]; exact g.1) ⟨rfl, rfl, fun _ _ => rfl, fun _ _ => rfl⟩
  · obtain ⟨g1, c, g2, g3, g4⟩ := h.2 e
    obtain ⟨c', w2, tc⟩ := hW.ref tw 2 rfl rfl rfl
    rw [g2] at w2; cases w2
    have q := hk.rw0 w tw
    have n2 := (hX c tc.1).2.2
    obtain ⟨g1, lb, g7, g8⟩ := g1
    obtain ⟨l', w3, tl⟩ := hW.ref tw 1 rfl rfl rfl
    rw [g7] at w3; cases w3
    refine ⟨⟨q.1.trans g1, lb, q.2.1.trans g7, by rw [(hX lb tl.1).2.2]; exact g8⟩, c, q.2.2.trans g2, by rw [n2]; exact g3, fun k hk2 => ?_⟩
    rw [n2] at hk2
    rw [hk.ce c tc k]; exact g4 k hk2
theorem HL.nil (h : iv q 2 = 0) : HL L cl ln iv rv a q [] := ⟨h, fun r d e => by simp at e⟩
theorem HL.mv (h : HL L cl ln iv rv a q l) (hq : QT g sk L cl ln iv rv L1 cl1 ln1 iv1 rv1) (hz : iv1 q 2 = iv q 2) (he : ∀ j : Nat, (j : Int) < iv q 2 → el rv1 q j = el rv q j) : HL L1 cl1 ln1 iv1 rv1 a q l := by
  obtain ⟨hW, hS, hX, hp, hk⟩ := hq
  obtain ⟨h1, h2⟩ := h
  refine ⟨hz.trans h1, fun r d e => ?_⟩
  obtain ⟨w, g1, g2, g3⟩ := h2 r d e
  exact ⟨w, (he r (by rw [h1]; have := gl_lt e; omega)).trans g1, hX.ty g2, g3.keep g2 hW hX hk⟩
theorem HL.snoc (h : HL L cl ln iv rv a q l) (hq : QT g sk L cl ln iv rv L1 cl1 ln1 iv1 rv1) (hz : iv1 q 2 = iv q 2 + 1) (hw : el rv1 q (iv q 2).toNat = some w) (he : ∀ j : Nat, (j : Int) < iv q 2 → el rv1 q j = el rv q j) (tw : ty L cl w 20) (hd : RWD ln iv rv a w d) : HL L1 cl1 ln1 iv1 rv1 a q (l ++ [d]) := by
  obtain ⟨hW, hS, hX, hp, hk⟩ := hq
  obtain ⟨h1, h2⟩ := h
  refine ⟨by rw [hz, h1, List.length_append]; rfl, fun r e he2 => ?_⟩
  have lt := gl_lt he2
  rw [List.length_append] at lt
  have lt2 : r < l.length + 1 := lt
  by_cases e1 : r < l.length
  · rw [List.getElem?_append_left e1] at he2
    obtain ⟨w, g1, g2, g3⟩ := h2 r e he2
    exact ⟨w, (he r (by omega)).trans g1, hX.ty g2, g3.keep g2 hW hX hk⟩
  · rw [List.getElem?_append_right (by omega), show r - l.length = 0 by omega] at he2
    cases he2
    exact ⟨w, by rw [show r = (iv q 2).toNat by omega]; exact hw, hX.ty tw, hd.keep tw hW hX hk⟩
theorem HL.ind {i j : Nat} (h : HL L cl ln iv rv a q l) (hq : QT g sk L cl ln iv rv L1 cl1 ln1 iv1 rv1) (hL : LAD q r iv rv iv1 rv1) (tr : ∀ b, r = some b → ty L cl b 20) (hI : INDR ln iv rv r (j : Int) (a 16 (4 * i + j)) (fun k => a 17 (4 * (4 * i + j) + k))) (hj : j < 4) : HL L1 cl1 ln1 iv1 rv1 a q (l ++ indl a (4 * (i : Int) + (j : Int))) := by
  have en : (4 * (i : Int) + (j : Int)).toNat = 4 * i + j := by omega
  unfold indl
  rw [en]
  rcases hL with ⟨g1, g2, g3⟩ | ⟨x, g1, g2, g3, g4⟩
  · rcases hI with ⟨_, p2⟩ | ⟨b, c, p1, _⟩
    · rw [p2, if_neg (by decide), List.append_nil]; exact h.mv hq g2 g3
    · rw [g1] at p1; cases p1
  · rcases hI with ⟨p1, _⟩ | ⟨b, c, p1, p2, p3, p4, p5, p6⟩
    · rw [g1] at p1; cases p1
    · rw [g1] at p1; cases p1
      rw [if_pos p5]
      refine h.snoc hq g2 g3 g4 (tr x g1) ⟨fun e => absurd e (by omega), fun _ => ⟨⟨by rw [p2.1]; omega, p2.2⟩, c, p3, ?_, fun k hk => ?_⟩⟩
      · rw [p4]; exact congrArg (a 16) (by omega)
      · have e9 : (-1 - (-1 - (4 * (i : Int) + (j : Int)))).toNat = 4 * i + j := by omega
        rw [e9]; exact (p6 k hk).1
theorem GLQ.nil (h : iv1 q 2 = 0) : GLQ sk ln iv rv b L1 cl1 ln1 iv1 rv1 q (fun _ _ => []) := fun _ _ _ _ _ _ => HL.nil h
theorem GLQ.mv {P : (Nat → Nat → Int) → Int → List Int} (h : GLQ sk ln iv rv b L1 cl1 ln1 iv1 rv1 q P) (hq : QT g sk L1 cl1 ln1 iv1 rv1 L2 cl2 ln2 iv2 rv2) (hz : iv2 q 2 = iv1 q 2) (he : ∀ j : Nat, (j : Int) < iv1 q 2 → el rv2 q j = el rv1 q j) : GLQ sk ln iv rv b L2 cl2 ln2 iv2 rv2 q P := fun v a hR i hi ht => (h v a hR i hi ht).mv hq hz he
theorem GLQ.ind {P : (Nat → Nat → Int) → Int → List Int} {j : Nat} (h : GLQ sk ln iv rv b L1 cl1 ln1 iv1 rv1 q P) (h0 : QT g sk L cl ln iv rv L1 cl1 ln1 iv1 rv1) (hq : QT g sk L1 cl1 ln1 iv1 rv1 L2 cl2 ln2 iv2 rv2) (tn : ty L1 cl1 n 68) (e6 : rv1 b 6 = some n) (er : rv1 n j = r) (hL : LAD q r iv1 rv1 iv2 rv2) (hj : j < 4) : GLQ sk ln iv rv b L2 cl2 ln2 iv2 rv2 q (fun a i => P a i ++ indl a (4 * i + (j : Int))) := by
  intro v a hR i hi ht
  have hR1 := hR.qq h0
  obtain ⟨_, _, q1, n1, ⟨_, p2, _⟩, _, p5⟩ := hR1.tab hi ((h0.el hR hi).trans ht)
  rw [e6] at p2; cases p2
  have p6 := p5 j hj
  rw [er] at p6
  refine (h v a hR i hi ht).ind hq hL (fun x hx => ?_) p6 hj
  obtain ⟨hW, _⟩ := hq
  rcases hW.opt tn j rfl rfl with e | ⟨c, e1, e2⟩
  · rw [er, hx] at e; exact absurd e.1 (by simp)
  · rw [er, hx] at e1; cases e1; exact e2
theorem GP7.init (h : iv q 2 = 0) : GP7 sk ln iv rv b L cl ln iv rv q (some b) := fun v a hR i hi ht => ⟨i, [], el_bas ht (by have := hR.b0; omega), HL.nil h, rfl⟩
theorem GP7.start (h : GP7 sk ln iv rv b L1 cl1 ln1 iv1 rv1 q (some tr)) (h0 : QT g sk L cl ln iv rv L1 cl1 ln1 iv1 rv1) : GP13 sk ln iv rv b L1 cl1 ln1 iv1 rv1 q tr 0 := by
  intro v a hR i hi ht
  obtain ⟨t, l, g1, g2, g3⟩ := h v a hR i hi ht
  have hR1 := hR.qq h0
  obtain ⟨p1, p2, p3⟩ := g1.tb hR1
  have e : ((t.toNat : Nat) : Int) = t := Int.toNat_of_nonneg p1
  refine ⟨t.toNat, l, ⟨by omega, Int.le_refl _⟩, p3, g2, ?_⟩
  rw [RWL.s hR.2.2.1 hR.v30 p1 p2] at g3
  rw [e, show 200 * t + a 10 t.toNat - (200 * t + 0) = a 10 t.toNat by omega, Int.add_zero]
  exact g3
theorem ty26 (hW : WT g sk L cl ln iv rv) (tt : ty L cl t 100) (h4 : rv t 4 = some q) : ty L cl q 26 := ty4 hW tt h4
theorem GP13.step {k : Int} {q4 : Nat} (h : GP13 sk ln iv rv b L1 cl1 ln1 iv1 rv1 q tr k) (h0 : QT g sk L cl ln iv rv L1 cl1 ln1 iv1 rv1) (hq : QT g sk L1 cl1 ln1 iv1 rv1 L2 cl2 ln2 iv2 rv2) (tt : ty L1 cl1 tr 100) (e4 : rv1 tr 4 = some q4) (hk : k < iv1 q4 2) (hw : el rv1 q4 k.toNat = some w) (hA : iv2 q 2 = iv1 q 2 + 1 ∧ el rv2 q (iv1 q 2).toNat = some w ∧ ∀ j : Nat, (j : Int) < iv1 q 2 → el rv2 q j = el rv1 q j) : GP13 sk ln iv rv b L2 cl2 ln2 iv2 rv2 q tr (k + 1) := by
  intro v a hR i hi ht
  obtain ⟨j, l, ⟨p1, p2⟩, p3, p4, p5⟩ := h v a hR i hi ht
  have hR1 := hR.qq h0
  obtain ⟨_, _, q1, n1, ⟨c1, _, c3⟩, c4, _⟩ := hR1.tab p1 p3
  rw [e4] at c1; cases c1
  have hk2 : k < a 10 j := by omega
  obtain ⟨w', d1, d2⟩ := c4 k.toNat (by omega)
  rw [hw] at d1; cases d1
  have tw := el26 hq.1 (ty4 hq.1 tt e4) (by omega) hw
  have e : (200 * (j : Int) + k).toNat = 200 * j + k.toNat := by omega
  refine ⟨j, l ++ [200 * (j : Int) + k], ⟨p1, by omega⟩, (hq.el hR1 p1).trans p3, p4.snoc hq hA.1 hA.2.1 hA.2.2 tw ⟨fun _ => by rw [e]; exact d2, fun e2 => absurd e2 (by omega)⟩, ?_⟩
  rw [rng_c (by omega)] at p5
  rw [List.append_assoc, ← Int.add_assoc]
  exact p5
theorem GP13.fin {k : Int} {q4 : Nat} (h : GP13 sk ln iv rv b L1 cl1 ln1 iv1 rv1 q tr k) (h0 : QT g sk L cl ln iv rv L1 cl1 ln1 iv1 rv1) (e4 : rv1 tr 4 = some q4) (hk : iv1 q4 2 ≤ k) (e2 : rv1 tr 2 = x) : GP7 sk ln iv rv b L1 cl1 ln1 iv1 rv1 q x := by
  intro v a hR i hi ht
  obtain ⟨j, l, ⟨p1, p2⟩, p3, p4, p5⟩ := h v a hR i hi ht
  have hR1 := hR.qq h0
  obtain ⟨_, ⟨c0, _⟩, q1, n1, ⟨c1, _, c3⟩, _, _⟩ := hR1.tab p1 p3
  rw [e4] at c1; cases c1
  rw [e2] at c0
  refine ⟨a 8 j, l, c0.up (by have := hR.b0; omega), p4, ?_⟩
  rw [rng_z (by omega)] at p5
  exact p5
theorem GP7.done (h : GP7 sk ln iv rv b L1 cl1 ln1 iv1 rv1 q none) (h0 : QT g sk L cl ln iv rv L1 cl1 ln1 iv1 rv1) : GLQ sk ln iv rv b L1 cl1 ln1 iv1 rv1 q (fun a i => RWL a i) := by
  intro v a hR i hi ht
  obtain ⟨t, l, g1, g2, g3⟩ := h v a hR i hi ht
  rw [RWL.neg0 (g1.no (hR.qq h0)), List.append_nil] at g3
  show HL L1 cl1 ln1 iv1 rv1 a q (RWL a (i : Int))
  rw [← g3]; exact g2
theorem GLQ.rws (h : GLQ sk ln iv rv b L1 cl1 ln1 iv1 rv1 q (fun a i => (RWL a i ++ indl a (4 * i + ((0 : Nat) : Int))) ++ indl a (4 * i + ((1 : Nat) : Int)))) : GLQ sk ln iv rv b L1 cl1 ln1 iv1 rv1 q rws1 := h
theorem GLQ.sub (h : GLQ sk ln1 iv1 rv1 t L2 cl2 ln2 iv2 rv2 q rws1) (h0 : QT g sk L cl ln iv rv L1 cl1 ln1 iv1 rv1) (e2 : rv1 b 2 = some t) : GLQ sk ln iv rv b L2 cl2 ln2 iv2 rv2 q (fun a i => rws1 a (a 8 i.toNat)) := by
  intro v a hR i hi ht
  have hR1 := hR.qq h0
  obtain ⟨_, ⟨c0, _⟩, _⟩ := hR1.tab hi ((h0.el hR hi).trans ht)
  rw [e2] at c0
  obtain ⟨p1, p2, p3⟩ := (c0.up (m := (v 4).toNat) (by omega)).tb hR1
  have g := h v a hR1 (a 8 i).toNat (by omega) p3
  rw [Int.toNat_of_nonneg p1] at g
  exact g
theorem GLQ.sub3 (h : GLQ sk ln1 iv1 rv1 t L2 cl2 ln2 iv2 rv2 q rws1) (h0 : QT g sk L cl ln iv rv L1 cl1 ln1 iv1 rv1) (e3 : rv1 b 3 = some t) : GLQ sk ln iv rv b L2 cl2 ln2 iv2 rv2 q (fun a i => rws1 a (a 9 i.toNat)) := by
  intro v a hR i hi ht
  have hR1 := hR.qq h0
  obtain ⟨_, ⟨_, c0⟩, _⟩ := hR1.tab hi ((h0.el hR hi).trans ht)
  rw [e3] at c0
  obtain ⟨p1, p2, p3⟩ := (c0.up (m := (v 4).toNat) (by omega)).tb hR1
  have g := h v a hR1 (a 9 i).toNat (by omega) p3
  rw [Int.toNat_of_nonneg p1] at g
  exact g
theorem GLQ.no2 {P : (Nat → Nat → Int) → Int → List Int} (h0 : QT g sk L cl ln iv rv L1 cl1 ln1 iv1 rv1) (e0 : iv1 b 0 = 5) (e2 : rv1 b 2 = none) : GLQ sk ln iv rv b L2 cl2 ln2 iv2 rv2 q P := by
  intro v a hR i hi ht
  have hR1 := hR.qq h0
  obtain ⟨⟨c1, _⟩, ⟨c0, _⟩, _⟩ := hR1.tab hi ((h0.el hR hi).trans ht)
  rw [e2] at c0
  have g := (c0.up (m := (v 4).toNat) (by omega)).no hR1
  have g2 := hR.2.2.1.1 i (by omega) hi
  rw [Int.toNat_natCast] at g2
  omega
theorem GLQ.no3 {P : (Nat → Nat → Int) → Int → List Int} (h0 : QT g sk L cl ln iv rv L1 cl1 ln1 iv1 rv1) (e0 : iv1 b 0 = 5) (e3 : rv1 b 3 = none) : GLQ sk ln iv rv b L2 cl2 ln2 iv2 rv2 q P := by
  intro v a hR i hi ht
  have hR1 := hR.qq h0
  obtain ⟨⟨c1, _⟩, ⟨_, c0⟩, _⟩ := hR1.tab hi ((h0.el hR hi).trans ht)
  rw [e3] at c0
  have g := (c0.up (m := (v 4).toNat) (by omega)).no hR1
  have g2 := hR.2.2.1.1 i (by omega) hi
  rw [Int.toNat_natCast] at g2
  omega
theorem GLQ.slf (h : GLQ sk ln1 iv1 rv1 b L2 cl2 ln2 iv2 rv2 q rws1) (h0 : QT g sk L cl ln iv rv L1 cl1 ln1 iv1 rv1) : GLQ sk ln iv rv b L2 cl2 ln2 iv2 rv2 q rws1 := fun v a hR i hi ht => h v a (hR.qq h0) i hi ((h0.el hR hi).trans ht)
theorem GLQ.g0 (h : GLQ sk ln iv rv b L1 cl1 ln1 iv1 rv1 q (fun a i => rws1 a (a 8 i.toNat) ++ indl a (4 * i + ((2 : Nat) : Int)))) (e0 : iv b 0 = 5) : GLQ sk ln iv rv b L1 cl1 ln1 iv1 rv1 q gat0 := by
  intro v a hR i hi ht
  have c := (hR.tab hi ht).1.1
  have g := h v a hR i hi ht
  unfold gat0
  rw [if_pos (show a 6 (i : Int).toNat = 5 by rw [Int.toNat_natCast]; omega)]
  exact g
theorem GLQ.g1 (h : GLQ sk ln iv rv b L1 cl1 ln1 iv1 rv1 q (fun a i => rws1 a (a 9 i.toNat) ++ indl a (4 * i + ((3 : Nat) : Int)))) (e0 : iv b 0 = 5) : GLQ sk ln iv rv b L1 cl1 ln1 iv1 rv1 q gat1 := by
  intro v a hR i hi ht
  have c := (hR.tab hi ht).1.1
  have g := h v a hR i hi ht
  unfold gat1
  rw [if_pos (show a 6 (i : Int).toNat = 5 by rw [Int.toNat_natCast]; omega)]
  exact g
theorem GLQ.n0 (h : GLQ sk ln iv rv b L1 cl1 ln1 iv1 rv1 q rws1) (e0 : iv b 0 ≠ 5) : GLQ sk ln iv rv b L1 cl1 ln1 iv1 rv1 q gat0 := by
  intro v a hR i hi ht
  have c := (hR.tab hi ht).1.1
  have g := h v a hR i hi ht
  unfold gat0
  rw [if_neg (show ¬ a 6 (i : Int).toNat = 5 by rw [Int.toNat_natCast]; omega)]
  exact g
theorem GLQ.n1 (h : GLQ sk ln iv rv b L1 cl1 ln1 iv1 rv1 q (fun _ _ => [])) (e0 : iv b 0 ≠ 5) : GLQ sk ln iv rv b L1 cl1 ln1 iv1 rv1 q gat1 := by
  intro v a hR i hi ht
  have c := (hR.tab hi ht).1.1
  have g := h v a hR i hi ht
  unfold gat1
  rw [if_neg (show ¬ a 6 (i : Int).toNat = 5 by rw [Int.toNat_natCast]; omega)]
  exact g
theorem RWD.c (h : RWD ln iv rv a w d) : ∃ c, rv w 2 = some c ∧ ((ln c : Nat) : Int) = rlen a d ∧ ∀ k : Nat, k < ln c → iv c k = dcl a d k := by
  unfold rlen dcl
  by_cases e : 0 ≤ d
  · obtain ⟨_, _, l, c, _, g2, _, g4, _, g6⟩ := h.1 e
    refine ⟨c, g2, by rw [if_pos e]; exact g4, fun k hk => ?_⟩
    rw [if_pos e, (g6 k hk).1]; exact congrArg (a 15) (by omega)
  · obtain ⟨_, c, g2, g3, g4⟩ := h.2 (by omega)
    refine ⟨c, g2, by rw [if_neg e]; exact g3, fun k hk => ?_⟩
    rw [if_neg e, g4 k hk]; exact congrArg (a 17) (by omega)
theorem ALP.als {e : Int} (h : ALP ln iv rv w u f) (hw : RWD ln iv rv a w d) (hu : RWD ln iv rv a u e) : ALS a d e f := by
  obtain ⟨c, c1, c2, c3⟩ := hw.c
  obtain ⟨c', d1, d2, d3⟩ := hu.c
  obtain ⟨⟨h1, h2, h3⟩, h4, h5⟩ := h c c' c1 d1
  refine ⟨⟨h1, by omega, by omega⟩, fun k k0 k1 => ?_, fun e1 e2 => ?_⟩
  · have g := h4 k.toNat (by omega)
    rw [c3 k.toNat (by omega), d3 k.toNat (by omega), Int.toNat_of_nonneg k0] at g
    exact g
  · have g := h5 (by omega) (by omega)
    rw [c3 f.toNat (by omega), d3 f.toNat (by omega), Int.toNat_of_nonneg h1] at g
    exact g
theorem HL.att (h : HL L cl ln iv rv a q l) (h0 : 0 ≤ j0) (h1 : j0 < iv q 2) (hw : el rv q j0.toNat = some w) : ∃ d, l[j0.toNat]? = some d ∧ RWD ln iv rv a w d := by
  obtain ⟨g1, g2⟩ := h
  have lt : j0.toNat < l.length := by omega
  obtain ⟨w', p1, _, p3⟩ := g2 j0.toNat _ (List.getElem?_eq_getElem lt)
  rw [hw] at p1; cases p1
  exact ⟨_, List.getElem?_eq_getElem lt, p3⟩
theorem PTX.n1 (h : WOX sk ln iv rv i0 none) (hf : f = -1) : PTX sk ln iv rv i0 j0 k0 f := fun v a hR => by
  rcases h v a hR with ⟨_, g⟩ | ⟨b, e, _⟩
  · exact Or.inl ⟨g, hf⟩
  · cases e
theorem WOX.smt (h : WOX sk ln iv rv i0 (some b)) (hR : TRL sk ln iv rv v a) : (0 ≤ i0 ∧ i0 < v 4) ∧ el rv (sk 22) i0.toNat = some b ∧ WHL v a i0 := by
  rcases h v a hR with ⟨e, _⟩ | ⟨b', e, g⟩
  · cases e
  · cases e; exact g
theorem PTX.n2 (h : WOX sk ln iv rv i0 (some b)) (hg : GLQ sk ln iv rv b L1 cl1 ln1 iv1 rv1 q gat0) (hr : ¬ (0 ≤ j0 ∧ j0 < iv1 q 2 ∧ 0 ≤ k0 ∧ k0 < iv1 q 2)) (hf : f = -1) : PTX sk ln iv rv i0 j0 k0 f := fun v a hR => by
  obtain ⟨p1, p2, p3⟩ := h.smt hR
  have g := hg v a hR i0.toNat (by omega) p2
  rw [Int.toNat_of_nonneg p1.1] at g
  rw [g.1] at hr
  exact Or.inr ⟨p3, Or.inl ⟨hr, hf⟩⟩
theorem PTX.ok {k : Int} {c d' : Nat} (h : WOX sk ln iv rv i0 (some b)) (hg : GLQ sk ln iv rv b L1 cl1 ln1 iv1 rv1 q gat0) (hj : 0 ≤ j0 ∧ j0 < iv1 q 2) (hk : 0 ≤ k0 ∧ k0 < iv1 q 2) (hw : el rv1 q j0.toNat = some w) (hu : el rv1 q k0.toNat = some u) (hA : ALP ln1 iv1 rv1 w u k) (hc : rv1 w 2 = some c) (hd : rv1 u 2 = some d') (hf : ((k = ((ln1 c : Nat) : Int) ∨ k = ((ln1 d' : Nat) : Int)) ∧ f = -1 - k) ∨ ((k ≠ ((ln1 c : Nat) : Int) ∧ k ≠ ((ln1 d' : Nat) : Int)) ∧ f = k)) : PTX sk ln iv rv i0 j0 k0 f := fun v a hR => by
  obtain ⟨p1, p2, p3⟩ := h.smt hR
  have g := hg v a hR i0.toNat (by omega) p2
  rw [Int.toNat_of_nonneg p1.1] at g
  obtain ⟨d, d1, d2⟩ := g.att hj.1 hj.2 hw
  obtain ⟨e, e1, e2⟩ := g.att hk.1 hk.2 hu
  obtain ⟨c', c1, c2, _⟩ := d2.c
  rw [hc] at c1; cases c1
  obtain ⟨c', c3, c4, _⟩ := e2.c
  rw [hd] at c3; cases c3
  refine Or.inr ⟨p3, Or.inr ⟨⟨hj.1, hk.1⟩, d, e, k, d1, e1, hA.als d2 e2, ?_⟩⟩
  rw [← c2, ← c4]; exact hf
theorem ALI.zero : ALI iv rv w u 0 := fun _ _ _ _ j hj => absurd hj (by omega)
theorem ALI.step {k : Int} {c e : Nat} (h : ALI iv rv w u k) (h0 : 0 ≤ k) (hc : rv w 2 = some c) (hd : rv u 2 = some e) (he : iv c k.toNat = iv e k.toNat) : ALI iv rv w u (k + 1) := fun c' d' h1 h2 j hj => by
  by_cases g : (j : Int) < k
  · exact h c' d' h1 h2 j g
  · rw [hc] at h1; cases h1
    rw [hd] at h2; cases h2
    rw [show j = k.toNat by omega]; exact he
theorem ALP.mk {k : Int} {c e : Nat} (h : ALI iv rv w u k) (h0 : 0 ≤ k ∧ k ≤ ((ln c : Nat) : Int) ∧ k ≤ ((ln e : Nat) : Int)) (hc : rv w 2 = some c) (hd : rv u 2 = some e) (he : k < ((ln c : Nat) : Int) → k < ((ln e : Nat) : Int) → iv c k.toNat ≠ iv e k.toNat) : ALP ln iv rv w u k := fun c' d' h1 h2 => by
  have h3 := h c' d' h1 h2
  rw [hc] at h1; cases h1
  rw [hd] at h2; cases h2
  exact ⟨h0, h3, he⟩
end ROWS
theorem el24.fr {g : Nat} {sk : Nat → Nat} {L : List Nat} {cl ln : Nat → Nat} {iv iv2 : Nat → Nat → Int} {rv rv2 : Nat → Nat → Option Nat} {ls : List Nat} (h : WT g sk L cl ln iv rv) (hS : SKL sk L cl) (hF : fT ls L cl iv rv iv2 rv2) (a1 : ls.contains 24 = false) (a2 : ls.contains 1002 = false) : iv2 (sk 24) 2 = iv (sk 24) 2 ∧ ∀ j : Nat, (j : Int) < iv (sk 24) 2 → el rv2 (sk 24) j = el rv (sk 24) j := by
  have tq : ty L cl (sk 24) 24 := ⟨(hS 24 rfl).1, by rw [(hS 24 rfl).2]; rfl⟩
  refine ⟨hF.i tq a1 2, fun j hj => ?_⟩
  obtain ⟨b, q1, q2, q3, q4⟩ := h.ed2 tq rfl rfl (by omega)
  rw [el_of ((hF.r tq a1 1).trans q1), el_of q1]
  exact hF.r q2 a2 j
theorem el25.fr {g : Nat} {sk : Nat → Nat} {L : List Nat} {cl ln : Nat → Nat} {iv iv2 : Nat → Nat → Int} {rv rv2 : Nat → Nat → Option Nat} {ls : List Nat} (h : WT g sk L cl ln iv rv) (hS : SKL sk L cl) (hF : fT ls L cl iv rv iv2 rv2) (a1 : ls.contains 25 = false) (a2 : ls.contains 1003 = false) : iv2 (sk 25) 2 = iv (sk 25) 2 ∧ ∀ j : Nat, (j : Int) < iv (sk 25) 2 → el rv2 (sk 25) j = el rv (sk 25) j := by
  have tq : ty L cl (sk 25) 25 := ⟨(hS 25 rfl).1, by rw [(hS 25 rfl).2]; rfl⟩
  refine ⟨hF.i tq a1 2, fun j hj => ?_⟩
  obtain ⟨b, q1, q2, q3, q4⟩ := h.ed2 tq rfl rfl (by omega)
  rw [el_of ((hF.r tq a1 1).trans q1), el_of q1]
  exact hF.r q2 a2 j
