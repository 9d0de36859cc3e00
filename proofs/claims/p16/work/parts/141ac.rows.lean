def SEC (v : Nat → Int) (a : Nat → Nat → Int) : Prop := ∀ i : Nat, (i : Int) < v 4 → a 6 i ≠ 5 → a 9 i = -1
def TRL (sk ln : Nat → Nat) (iv : Nat → Nat → Int) (rv : Nat → Nat → Option Nat) (v : Nat → Int) (a : Nat → Nat → Int) : Prop := TABR sk iv rv v a ∧ (∃ o, RP2 o sk ln iv rv v a) ∧ TBL v a ∧ SEC v a
def QT (g : Nat) (sk : Nat → Nat) (L : List Nat) (cl ln : Nat → Nat) (iv : Nat → Nat → Int) (rv : Nat → Nat → Option Nat) (L1 : List Nat) (cl1 ln1 : Nat → Nat) (iv1 : Nat → Nat → Int) (rv1 : Nat → Nat → Option Nat) : Prop := WT g sk L cl ln iv rv ∧ SKL sk L cl ∧ XT L cl ln L1 cl1 ln1 ∧ PSAME sk iv rv iv1 rv1 ∧ KP L cl (fun _ => False) (fun _ => False) (fun _ => False) (fun _ => False) (fun _ _ => False) iv rv iv1 rv1
def UPX (sk ln : Nat → Nat) (iv : Nat → Nat → Int) (rv : Nat → Nat → Option Nat) (r : Option Nat) (f : Int) : Prop := ∀ v a, TRL sk ln iv rv v a → ∀ t : Int, BASR sk rv (v 4).toNat r t → (f = 1 ↔ UPC a t)
def UPI (sk ln : Nat → Nat) (iv : Nat → Nat → Int) (rv : Nat → Nat → Option Nat) (r x : Option Nat) : Prop := ∀ v a, TRL sk ln iv rv v a → ∀ t : Int, BASR sk rv (v 4).toNat r t → ∃ t2 : Int, BASR sk rv (v 4).toNat x t2 ∧ (UPC a t ↔ UPC a t2)
def TWX (sk ln : Nat → Nat) (iv : Nat → Nat → Int) (rv : Nat → Nat → Option Nat) (b : Nat) (f : Int) : Prop := ∀ v a, TRL sk ln iv rv v a → ∀ i : Nat, (i : Int) < v 4 → el rv (sk 22) i = some b → (f = 1 ↔ WHL v a i)
def WOX (sk ln : Nat → Nat) (iv : Nat → Nat → Int) (rv : Nat → Nat → Option Nat) (i : Int) (f : Option Nat) : Prop := ∀ v a, TRL sk ln iv rv v a → (f = none ∧ ¬ WHL v a i) ∨ (∃ b, f = some b ∧ (0 ≤ i ∧ i < v 4) ∧ el rv (sk 22) i.toNat = some b ∧ WHL v a i)
section ROWS
variable {g : Nat} {sk : Nat → Nat} {L L1 L2 L3 : List Nat} {cl ln cl1 ln1 cl2 ln2 cl3 ln3 : Nat → Nat} {iv iv1 iv2 iv3 : Nat → Nat → Int} {rv rv1 rv2 rv3 : Nat → Nat → Option Nat} {v : Nat → Int} {a : Nat → Nat → Int} {ls : List Nat} {t b q n w u c0 tr : Nat} {d f f1 f2 i0 j0 k0 : Int} {r x y : Option Nat} {l : List Int}
theorem QT.of (hW : WT g sk L cl ln iv rv) (hS : SKL sk L cl) (hX : XT L cl ln L1 cl1 ln1) (hF : fT ls L cl iv rv iv1 rv1) (h1 : kpl ls = true) (a1 : ls.contains 22 = false) (a2 : ls.contains 1000 = false) (a3 : ls.contains 23 = false) (a4 : ls.contains 1001 = false) : QT g sk L cl ln iv rv L1 cl1 ln1 iv1 rv1 :=
  have k := kpl_no h1
  ⟨hW, hS, hX, PSAME.fr hW hS hF a1 a2 a3 a4 k.1 k.2.2.2.2.2.2.1 k.2.2.1, KP.fr hW hF h1⟩
theorem TSAME.rf : TSAME v a v a := ⟨rfl, rfl, rfl, rfl, rfl, rfl, rfl, rfl, rfl, rfl, rfl, rfl, rfl, rfl, rfl, rfl⟩
theorem TRL.qq (h : TRL sk ln iv rv v a) (q : QT g sk L cl ln iv rv L1 cl1 ln1 iv1 rv1) : TRL sk ln1 iv1 rv1 v a := by
  obtain ⟨hW, hS, hX, hp, hk⟩ := q
  obtain ⟨h1, ⟨o, h2⟩, h3, h4⟩ := h
  exact ⟨tab_same h1 hp TSAME.rf, ⟨o, rp_same h2 h1 hW hS hX hk hp TSAME.rf⟩, h3, h4⟩
theorem TRL.tab (h : TRL sk ln iv rv v a) {i : Nat} (hi : (i : Int) < v 4) (ht : el rv (sk 22) i = some t) : (iv t 0 = a 6 i ∧ iv t 7 + a 5 i = 1 ∧ (a 5 i = 0 ∨ a 5 i = 1) ∧ 0 ≤ a 10 i ∧ a 10 i ≤ 200) ∧ (BASR sk rv i (rv t 2) (a 8 i) ∧ BASR sk rv i (rv t 3) (a 9 i)) ∧ ∃ q n, (rv t 4 = some q ∧ rv t 6 = some n ∧ iv q 2 = a 10 i) ∧ (∀ r : Nat, (r : Int) < a 10 i → ∃ w, el rv q r = some w ∧ ROWR ln iv rv a w (200 * i + r)) ∧ (∀ w : Nat, w < 4 → INDR ln iv rv (rv n w) (w : Int) (a 16 (4 * i + w)) (fun k => a 17 (4 * (4 * i + w) + k))) := by
  obtain ⟨h1, ⟨o, h2⟩, _, _⟩ := h
  obtain ⟨t1, q1, b1, b2, b3, b4, b5, b6, b7, b8, b9⟩ := h1.2.1 i hi
  rw [ht] at b1; cases b1
  obtain ⟨t1, c1, c2⟩ := h2.1 i hi
  rw [ht] at c1; cases c1
  obtain ⟨q2, s, x, n, ⟨e1, e2, e3, e4⟩, _, e5, ⟨_, e6⟩, e7, _, e8⟩ := c2
  rw [b2] at e1; cases e1
  refine ⟨⟨b3, b5, b8, b9⟩, e5, q1, n, ⟨b2, e4, b6⟩, fun r hr => ?_, e8⟩
  obtain ⟨w, g1, _, g2⟩ := e7 r hr
  exact ⟨w, g1, g2⟩
theorem TRL.smt (h : TRL sk ln iv rv v a) {i : Nat} (hi : (i : Int) < v 4) : ∃ t, el rv (sk 22) i = some t := by
  obtain ⟨t, q, b1, _⟩ := h.1.2.1 i hi
  exact ⟨t, b1⟩
theorem BASR.up {i m : Nat} {z : Int} (h : BASR sk rv i r z) (hm : i ≤ m) : BASR sk rv m r z := by
  rcases h with h | ⟨h1, h2, h3⟩
  · exact Or.inl h
  · exact Or.inr ⟨h1, by omega, h3⟩
theorem BASR.tb {z : Int} (h : TRL sk ln iv rv v a) (hb : BASR sk rv (v 4).toNat (some b) z) : 0 ≤ z ∧ z < v 4 ∧ el rv (sk 22) z.toNat = some b := by
  have h4 := h.1.2.2.2.2.2.1.1
  rcases hb with ⟨_, e⟩ | ⟨h1, h2, h3⟩
  · cases e
  · exact ⟨h1, by omega, h3.symm⟩
theorem BASR.no {z : Int} (h : TRL sk ln iv rv v a) (hb : BASR sk rv (v 4).toNat none z) : z < 0 := by
  have h4 := h.1.2.2.2.2.2.1.1
  rcases hb with ⟨e, _⟩ | ⟨h1, h2, h3⟩
  · omega
  · obtain ⟨t, ht⟩ := h.smt (i := z.toNat) (by omega)
    rw [ht] at h3; cases h3
theorem TRL.v30 (h : TRL sk ln iv rv v a) : v 4 ≤ 30 := h.1.2.2.2.2.2.1.2
theorem TRL.b0 (h : TRL sk ln iv rv v a) : 0 ≤ v 4 := h.1.2.2.2.2.2.1.1
theorem TRL.s (h : TRL sk ln iv rv v a) {z : Int} (h0 : 0 ≤ z) (h4 : z < v 4) : UPC a z ↔ (a 5 z.toNat = 1 ∧ UPC a (a 8 z.toNat)) := UPC.s h.2.2.1 h.v30 h0 h4
theorem TRL.both (h : TRL sk ln iv rv v a) {i : Nat} (hi : (i : Int) < v 4) : WHL v a i ↔ (UPC a i ∧ UPC a (a 9 i)) := by
  by_cases e : a 6 i = 5
  · exact WHL.j h.2.2.1 h.v30 (by omega) hi e
  · have e9 := h.2.2.2 i hi e
    rw [WHL.p h.2.2.1 h.v30 (t := (i : Int)) (by omega) hi e]
    exact ⟨fun g => ⟨g, UPC.neg0 (by omega)⟩, fun g => g.1⟩
theorem UPI.refl : UPI sk ln iv rv r r := fun v a _ t hb => ⟨t, hb, Iff.rfl⟩
theorem UPI.no (h : UPI sk ln iv rv r (some b)) (h7 : iv b 7 ≠ 0) : UPX sk ln iv rv r 0 := by
  intro v a hR t hb
  obtain ⟨t2, g1, g2⟩ := h v a hR t hb
  obtain ⟨p1, p2, p3⟩ := g1.tb hR
  have p4 := (hR.tab (i := t2.toNat) (by omega) p3).1
  refine ⟨fun e => absurd e (by decide), fun e => ?_⟩
  have p5 := ((hR.s p1 p2).mp (g2.mp e)).1
  omega
theorem UPI.yes (h : UPI sk ln iv rv r none) : UPX sk ln iv rv r 1 := by
  intro v a hR t hb
  obtain ⟨t2, g1, g2⟩ := h v a hR t hb
  exact ⟨fun _ => g2.mpr (UPC.neg0 (g1.no hR)), fun _ => rfl⟩
theorem UPI.next (h : UPI sk ln iv rv r (some b)) (h7 : iv b 7 = 0) (h2 : rv b 2 = x) : UPI sk ln iv rv r x := by
  intro v a hR t hb
  obtain ⟨t2, g1, g2⟩ := h v a hR t hb
  obtain ⟨p1, p2, p3⟩ := g1.tb hR
  obtain ⟨⟨_, p4, _⟩, ⟨p5, _⟩, _⟩ := hR.tab (i := t2.toNat) (by omega) p3
  rw [h2] at p5
  refine ⟨_, p5.up (by omega), g2.trans ?_⟩
  rw [hR.s p1 p2]
  exact ⟨fun g => g.2, fun g => ⟨by omega, g⟩⟩
theorem el_bas {i m : Nat} (h : el rv (sk 22) i = some b) (hi : i < m) : BASR sk rv m (some b) (i : Int) := Or.inr ⟨by omega, by omega, by rw [Int.toNat_natCast]; exact h.symm⟩
theorem TWX.yes (h1 : UPX sk ln iv rv (some b) f1) (h2 : UPX sk ln iv rv x f2) (hx : rv b 3 = x) (e1 : f1 = 1) (e2 : f2 = 1) : TWX sk ln iv rv b 1 := by
  intro v a hR i hi ht
  have h4 := hR.b0
  obtain ⟨_, ⟨_, p6⟩, _⟩ := hR.tab hi ht
  rw [hx] at p6
  exact ⟨fun _ => (hR.both hi).mpr ⟨(h1 v a hR i (el_bas ht (by omega))).mp e1, (h2 v a hR _ (p6.up (by omega))).mp e2⟩, fun _ => rfl⟩
theorem TWX.no1 (h1 : UPX sk ln iv rv (some b) f1) (e1 : f1 ≠ 1) : TWX sk ln iv rv b 0 := by
  intro v a hR i hi ht
  exact ⟨fun e => absurd e (by decide), fun e => absurd ((h1 v a hR i (el_bas ht (by omega))).mpr ((hR.both hi).mp e).1) e1⟩
theorem TWX.no2 (h2 : UPX sk ln iv rv x f2) (hx : rv b 3 = x) (e2 : f2 ≠ 1) : TWX sk ln iv rv b 0 := by
  intro v a hR i hi ht
  obtain ⟨_, ⟨_, p6⟩, _⟩ := hR.tab hi ht
  rw [hx] at p6
  exact ⟨fun e => absurd e (by decide), fun e => absurd ((h2 v a hR _ (p6.up (by omega))).mpr ((hR.both hi).mp e).2) e2⟩
theorem WOX.n1 (h : ∀ b, ¬ ALV sk iv rv i0 b) : WOX sk ln iv rv i0 none := fun v a hR => Or.inl ⟨rfl, fun hw => by
  obtain ⟨w1, w2, w3⟩ := WHL.tr hw
  obtain ⟨t, ht⟩ := hR.1.la w1 w2 w3
  exact h t ht⟩
theorem ALV.i (hA : ALV sk iv rv i0 b) (hR : TRL sk ln iv rv v a) : 0 ≤ i0 ∧ i0 < v 4 ∧ ((i0.toNat : Nat) : Int) = i0 := ⟨hA.1, by have := hA.2.1; rw [hR.1.1] at this; exact this, Int.toNat_of_nonneg hA.1⟩
theorem WOX.n2 (hA : ALV sk iv rv i0 b) (hw : TWX sk ln iv rv b f2) (e : f2 ≠ 1) : WOX sk ln iv rv i0 none := fun v a hR => Or.inl ⟨rfl, fun g => by
  obtain ⟨p1, p2, p3⟩ := hA.i hR
  exact e ((hw v a hR i0.toNat (by omega) hA.2.2.1).mpr (by rw [p3]; exact g))⟩
theorem WOX.ys (hA : ALV sk iv rv i0 b) (hw : TWX sk ln iv rv b f2) (e : f2 = 1) : WOX sk ln iv rv i0 (some b) := fun v a hR => by
  obtain ⟨p1, p2, p3⟩ := hA.i hR
  have g := (hw v a hR i0.toNat (by omega) hA.2.2.1).mp e
  rw [p3] at g
  exact Or.inr ⟨b, rfl, ⟨p1, p2⟩, hA.2.2.1, g⟩
theorem ty26 (hW : WT g sk L cl ln iv rv) (tt : ty L cl t 100) (h4 : rv t 4 = some q) : ty L cl q 26 := ty4 hW tt h4
theorem WOX.smt (h : WOX sk ln iv rv i0 (some b)) (hR : TRL sk ln iv rv v a) : (0 ≤ i0 ∧ i0 < v 4) ∧ el rv (sk 22) i0.toNat = some b ∧ WHL v a i0 := by
  rcases h v a hR with ⟨e, _⟩ | ⟨b', e, g⟩
  · cases e
  · cases e; exact g
end ROWS
theorem el24.fr {g : Nat} {sk : Nat → Nat} {L : List Nat} {cl ln : Nat → Nat} {iv iv2 : Nat → Nat → Int} {rv rv2 : Nat → Nat → Option Nat} {ls : List Nat} (h : WT g sk L cl ln iv rv) (hS : SKL sk L cl) (hF : fT ls L cl iv rv iv2 rv2) (a1 : ls.contains 24 = false) (a2 : ls.contains 1002 = false) : iv2 (sk 24) 2 = iv (sk 24) 2 ∧ ∀ j : Nat, (j : Int) < iv (sk 24) 2 → el rv2 (sk 24) j = el rv (sk 24) j := by
  have tq : ty L cl (sk 24) 24 := ⟨(hS 24 rfl).1, by rw [(hS 24 rfl).2]; rfl⟩
  refine ⟨hF.i tq a1 2, fun j hj => ?_⟩
  obtain ⟨b, q1, q2, q3, q4⟩ := h.ed2 tq rfl rfl (by omega)
  rw [el_of ((hF.r tq a1 1).trans q1), el_of q1]
  exact hF.r q2 a2 j
theorem el25.fr {g : Nat} {sk : Nat → Nat} {L : List Nat} {cl ln : Nat → Nat} {iv iv2 : Nat → Nat → Int} {rv rv2 : Nat → Nat → Option Nat} {ls : List Nat} (h : WT g sk L cl ln iv rv) (hS : SKL sk L cl) (hF : fT ls L cl iv rv iv2 rv2) (a1 : ls.contains 25 = false) (a2 : ls.contains 1003 = false) : iv2 (sk 25) 2 = iv (sk 25) 2 ∧ ∀ j : Nat, (j : Int) < iv (sk 25) 2 → el rv2 (sk 25) j = el rv (sk 25) j := by
  have tq : ty L cl (sk 25) 25 := ⟨(hS 25 rfl).1, by rw [(hS 25 rfl).2]; rfl⟩
  refine ⟨hF.i tq a1 2, fun j hj => ?_⟩
  obtain ⟨b, q1, q2, q3, q4⟩ := h.ed2 tq rfl rfl (by omega)
  rw [el_of ((hF.r tq a1 1).trans q1), el_of q1]
  exact hF.r q2 a2 j
