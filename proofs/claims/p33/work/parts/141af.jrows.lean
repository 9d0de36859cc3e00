def OSX (sk ln : Nat → Nat) (iv : Nat → Nat → Int) (rv : Nat → Nat → Option Nat) (r : Option Nat) (f : Int) : Prop := ∀ v a, TRL sk ln iv rv v a → ∀ t : Int, BASR sk rv (v 4).toNat r t → (f = 1 ↔ SHC a t)
def OSI (sk ln : Nat → Nat) (iv : Nat → Nat → Int) (rv : Nat → Nat → Option Nat) (r x : Option Nat) : Prop := ∀ v a, TRL sk ln iv rv v a → ∀ t : Int, BASR sk rv (v 4).toNat r t → ∃ t2 : Int, BASR sk rv (v 4).toNat x t2 ∧ (SHC a t ↔ SHC a t2)
def HSX (sk ln : Nat → Nat) (iv : Nat → Nat → Int) (rv : Nat → Nat → Option Nat) (b : Nat) (f : Int) : Prop := ∀ v a, TRL sk ln iv rv v a → ∀ i : Nat, (i : Int) < v 4 → el rv (sk 22) i = some b → (f = 1 ↔ (SHC a i ∨ (a 6 i = 5 ∧ SHC a (a 9 i))))
def EWP (ln : Nat → Nat) (iv : Nat → Nat → Int) (rv : Nat → Nat → Option Nat) (w : Nat) (x f : Int) : Prop := ∀ c, rv w 2 = some c → (f = 1 ↔ (0 < ln c ∧ iv c (((ln c : Nat) : Int) - 1).toNat = x))
def ABP (ln : Nat → Nat) (iv : Nat → Nat → Int) (rv : Nat → Nat → Option Nat) (w u : Nat) (f : Int) : Prop := ∀ c, rv w 2 = some c → ∃ n, ALP ln iv rv w u n ∧ (f = 1 ↔ n = ((ln c : Nat) : Int))
def RDX (L : List Nat) (cl ln : Nat → Nat) (iv : Nat → Nat → Int) (rv : Nat → Nat → Option Nat) (q : Nat) (x f : Int) : Prop := ∀ a l, HL L cl ln iv rv a q l → (f = 1 ↔ RDL a l x)
def RDPO (L : List Nat) (cl ln : Nat → Nat) (iv : Nat → Nat → Int) (rv : Nat → Nat → Option Nat) (q : Nat) (x k : Int) : Prop := ∀ a l, HL L cl ln iv rv a q l → ∀ (i : Nat) (d : Int), (i : Int) < k → l[i]? = some d → dcl a d (rlen a d - 1) ≠ x ∧ ∀ (j : Nat) (e : Int), j ≠ i → l[j]? = some e → ¬ PFX a d e
def RDPI (L : List Nat) (cl ln : Nat → Nat) (iv : Nat → Nat → Int) (rv : Nat → Nat → Option Nat) (q : Nat) (k k2 : Int) : Prop := ∀ a l, HL L cl ln iv rv a q l → ∀ d, l[k.toNat]? = some d → ∀ (j : Nat) (e : Int), (j : Int) < k2 → j ≠ k.toNat → l[j]? = some e → ¬ PFX a d e
def RDPH (L : List Nat) (cl ln : Nat → Nat) (iv : Nat → Nat → Int) (rv : Nat → Nat → Option Nat) (q : Nat) (x k : Int) : Prop := ∀ a l, HL L cl ln iv rv a q l → ∀ d, l[k.toNat]? = some d → dcl a d (rlen a d - 1) ≠ x
def JTX (sk ln : Nat → Nat) (iv : Nat → Nat → Int) (rv : Nat → Nat → Option Nat) (h i f : Int) : Prop := ∀ v a, TRL sk ln iv rv v a → h = v 33 → JDG v a i f
section JROW
variable {g : Nat} {sk : Nat → Nat} {L L1 L2 L3 : List Nat} {cl ln cl1 ln1 cl2 ln2 cl3 ln3 : Nat → Nat} {iv iv1 iv2 iv3 : Nat → Nat → Int} {rv rv1 rv2 rv3 : Nat → Nat → Option Nat} {v : Nat → Int} {a : Nat → Nat → Int} {t b b2 q n w u c0 tr : Nat} {d e f f1 f2 i0 j0 k0 h k k2 z : Int} {r x y : Option Nat} {l : List Int}
theorem OSI.refl : OSI sk ln iv rv r r := fun v a _ t hb => ⟨t, hb, Iff.rfl⟩
theorem OSI.yes (hI : OSI sk ln iv rv r (some b)) (h0 : iv b 0 = 3) : OSX sk ln iv rv r 1 := by
  intro v a hR t hb
  obtain ⟨t2, g1, g2⟩ := hI v a hR t hb
  obtain ⟨p1, p2, p3⟩ := g1.tb hR
  have p4 := (hR.tab (i := t2.toNat) (by omega) p3).1.1
  exact ⟨fun _ => g2.mpr ((SHC.s hR.2.2.1 hR.v30 p1 p2).mpr (Or.inl (by omega))), fun _ => rfl⟩
theorem OSI.no (hI : OSI sk ln iv rv r none) : OSX sk ln iv rv r 0 := by
  intro v a hR t hb
  obtain ⟨t2, g1, g2⟩ := hI v a hR t hb
  exact ⟨fun e => absurd e (by decide), fun e => absurd (g2.mp e) (SHC.no0 (g1.no hR))⟩
theorem OSI.next (hI : OSI sk ln iv rv r (some b)) (h0 : iv b 0 ≠ 3) (h2 : rv b 2 = x) : OSI sk ln iv rv r x := by
  intro v a hR t hb
  obtain ⟨t2, g1, g2⟩ := hI v a hR t hb
  obtain ⟨p1, p2, p3⟩ := g1.tb hR
  obtain ⟨⟨p4, _⟩, ⟨p5, _⟩, _⟩ := hR.tab (i := t2.toNat) (by omega) p3
  rw [h2] at p5
  refine ⟨_, p5.up (by omega), g2.trans ?_⟩
  rw [SHC.s hR.2.2.1 hR.v30 p1 p2]
  exact ⟨fun g => g.resolve_left (by omega), fun g => Or.inr g⟩
theorem TRL.sh (hR : TRL sk ln iv rv v a) {i : Nat} (hi : (i : Int) < v 4) : (SHC a i ∨ (a 6 i = 5 ∧ SHC a (a 9 i))) ↔ (SHC a i ∨ SHC a (a 9 i)) := by
  by_cases e : a 6 i = 5
  · exact ⟨fun g => g.imp id (fun q => q.2), fun g => g.imp id (fun q => ⟨e, q⟩)⟩
  · have e9 := hR.2.2.2 i hi e
    exact ⟨fun g => g.imp id (fun q => q.2), fun g => g.imp id (fun q => absurd q (SHC.no0 (by omega)))⟩
theorem HSX.y1 (h1 : OSX sk ln iv rv (some b) f1) (e1 : f1 = 1) : HSX sk ln iv rv b 1 := by
  intro v a hR i hi ht
  exact ⟨fun _ => Or.inl ((h1 v a hR i (el_bas ht (by omega))).mp e1), fun _ => rfl⟩
theorem HSX.y2 (h2 : OSX sk ln iv rv x f2) (hx : rv b 3 = x) (e2 : f2 = 1) : HSX sk ln iv rv b 1 := by
  intro v a hR i hi ht
  obtain ⟨_, ⟨_, p6⟩, _⟩ := hR.tab hi ht
  rw [hx] at p6
  exact ⟨fun _ => (hR.sh hi).mpr (Or.inr ((h2 v a hR _ (p6.up (by omega))).mp e2)), fun _ => rfl⟩
theorem HSX.no (h1 : OSX sk ln iv rv (some b) f1) (h2 : OSX sk ln iv rv x f2) (hx : rv b 3 = x) (e1 : f1 ≠ 1) (e2 : f2 ≠ 1) : HSX sk ln iv rv b 0 := by
  intro v a hR i hi ht
  obtain ⟨_, ⟨_, p6⟩, _⟩ := hR.tab hi ht
  rw [hx] at p6
  refine ⟨fun e => absurd e (by decide), fun e => ?_⟩
  rcases (hR.sh hi).mp e with g | g
  · exact absurd ((h1 v a hR i (el_bas ht (by omega))).mpr g) e1
  · exact absurd ((h2 v a hR _ (p6.up (by omega))).mpr g) e2
theorem ABP.mk {c : Nat} (hA : ALP ln iv rv w u k) (hc : rv w 2 = some c) (hf : f = 1 ↔ k = ((ln c : Nat) : Int)) : ABP ln iv rv w u f := fun c' h1 => by
  rw [hc] at h1; cases h1
  exact ⟨k, hA, hf⟩
theorem ABP.pf (hA : ABP ln iv rv w u f) (hw : RWD ln iv rv a w d) (hu : RWD ln iv rv a u e) : f = 1 ↔ PFX a d e := by
  obtain ⟨c, c1, c2, c3⟩ := hw.c
  obtain ⟨n, h1, h2⟩ := hA c c1
  obtain ⟨⟨p1, p2, p3⟩, p4, p5⟩ := h1.als hw hu
  rw [h2, c2]
  refine ⟨fun g => ⟨by omega, fun k k0 k1 => p4 k k0 (by omega)⟩, fun g => ?_⟩
  by_cases e0 : n = rlen a d
  · exact e0
  · have g1 := g.1
    exact absurd (g.2 n p1 (by omega)) (p5 (by omega) (by omega))
theorem EWP.lt (hE : EWP ln iv rv w z f) (hw : RWD ln iv rv a w d) (tw : ty L cl w 20) (hW : WT g sk L cl ln iv rv) : f = 1 ↔ dcl a d (rlen a d - 1) = z := by
  obtain ⟨c, c1, c2, c3⟩ := hw.c
  obtain ⟨c', w2, tc⟩ := hW.ref tw 2 rfl rfl rfl
  rw [c1] at w2; cases w2
  have b1 : 1 ≤ ln c := (hW.len tc rfl).1
  have g := c3 (((ln c : Nat) : Int) - 1).toNat (by omega)
  rw [show (((((ln c : Nat) : Int) - 1).toNat : Nat) : Int) = rlen a d - 1 by omega] at g
  rw [hE c c1, g]
  exact ⟨fun q => q.2, fun q => ⟨by omega, q⟩⟩
theorem HL.lt (hH : HL L cl ln iv rv a q l) {i : Nat} (h : l[i]? = some d) : (i : Int) < iv q 2 := by
  rw [hH.1]; have := gl_lt h; omega
theorem HL.of (hH : HL L cl ln iv rv a q l) {i : Nat} (h : l[i]? = some d) (hw : el rv q i = some w) : ty L cl w 20 ∧ RWD ln iv rv a w d := by
  obtain ⟨w', p1, p2, p3⟩ := hH.2 i d h
  rw [hw] at p1; cases p1
  exact ⟨p2, p3⟩
theorem RDPH.mk (hE : EWP ln iv rv w z f) (hw : el rv q k.toNat = some w) (e0 : f ≠ 1) (hW : WT g sk L cl ln iv rv) : RDPH L cl ln iv rv q z k := fun a l hH d hd => by
  obtain ⟨tw, rd⟩ := hH.of hd hw
  exact fun g => e0 ((hE.lt rd tw hW).mpr g)
theorem RDPI.zero : RDPI L cl ln iv rv q k 0 := fun _ _ _ _ _ j _ hj => absurd hj (by omega)
theorem RDPI.step (hI : RDPI L cl ln iv rv q k k2) (h0 : 0 ≤ k2) (hA : k2 = k ∨ ∃ w u f, el rv q k.toNat = some w ∧ el rv q k2.toNat = some u ∧ ABP ln iv rv w u f ∧ f ≠ 1) : RDPI L cl ln iv rv q k (k2 + 1) := fun a l hH d hd j e hj hne he => by
  by_cases g0 : (j : Int) < k2
  · exact hI a l hH d hd j e g0 hne he
  · have ej : j = k2.toNat := by omega
    subst ej
    rcases hA with hA | ⟨w, u, f, p1, p2, p3, p4⟩
    · exact absurd (congrArg Int.toNat hA) hne
    · exact fun g1 => p4 ((p3.pf (hH.of hd p1).2 (hH.of he p2).2).mpr g1)
theorem RDPO.zero : RDPO L cl ln iv rv q z 0 := fun _ _ _ i _ hi => absurd hi (by omega)
theorem RDPO.step (hO : RDPO L cl ln iv rv q z k) (h0 : 0 ≤ k) (hh : RDPH L cl ln iv rv q z k) (hI : RDPI L cl ln iv rv q k k2) (hk : iv q 2 ≤ k2) : RDPO L cl ln iv rv q z (k + 1) := fun a l hH i d hi hd => by
  by_cases g0 : (i : Int) < k
  · exact hO a l hH i d g0 hd
  · have ei : i = k.toNat := by omega
    subst ei
    exact ⟨hh a l hH d hd, fun j e hj he => hI a l hH d hd j e (by have := hH.lt he; omega) hj he⟩
theorem RDX.yes (hO : RDPO L cl ln iv rv q z k) (hk : iv q 2 ≤ k) : RDX L cl ln iv rv q z 1 := fun a l hH => ⟨fun _ i d hd => by
  obtain ⟨p1, p2⟩ := hO a l hH i d (by have := hH.lt hd; omega) hd
  refine ⟨p1, fun j e hj he => ⟨p2 j e (by omega) he, ?_⟩⟩
  exact (hO a l hH j e (by have := hH.lt he; omega) he).2 i d (by omega) hd, fun _ => rfl⟩
theorem RDX.no1 (hE : EWP ln iv rv w z f) (hw : el rv q k.toNat = some w) (e0 : f = 1) (hW : WT g sk L cl ln iv rv) (hk : 0 ≤ k ∧ k < iv q 2) : RDX L cl ln iv rv q z 0 := fun a l hH => ⟨fun e => absurd e (by decide), fun g => by
  obtain ⟨d, d1, d2⟩ := hH.att hk.1 hk.2 hw
  have tw := (hH.of d1 hw).1
  exact absurd ((hE.lt d2 tw hW).mp e0) (g _ d d1).1⟩
theorem RDX.no2 (hA : ABP ln iv rv w u f) (hw : el rv q k.toNat = some w) (hu : el rv q k2.toNat = some u) (e0 : f = 1) (hk : 0 ≤ k ∧ k < iv q 2) (hk2 : 0 ≤ k2 ∧ k2 < iv q 2) (hne : k2 ≠ k) : RDX L cl ln iv rv q z 0 := fun a l hH => ⟨fun e => absurd e (by decide), fun g => by
  obtain ⟨d, d1, d2⟩ := hH.att hk.1 hk.2 hw
  obtain ⟨e, e1, e2⟩ := hH.att hk2.1 hk2.2 hu
  have p := (hA.pf d2 e2).mp e0
  by_cases c : k2 < k
  · exact absurd p ((g _ d d1).2 _ e (by omega) e1).1
  · exact absurd p ((g _ e e1).2 _ d (by omega) d1).2⟩
theorem JTX.n1 (hA : ∀ b, ¬ ALV sk iv rv i0 b) (hf : f = -1) : JTX sk ln iv rv h i0 f := fun v a hR _ => JDG.no (fun w => by
  obtain ⟨w1, w2, w3⟩ := WHL.tr w.1
  obtain ⟨t, ht⟩ := hR.1.la w1 w2 w3
  exact hA t ht) hf
theorem JTX.n2 (hA : ALV sk iv rv i0 b) (h0 : iv b 0 = 4) (hf : f = -1) : JTX sk ln iv rv h i0 f := fun v a hR _ => JDG.no (fun w => w.2 (by
  have := (hR.1.al hA).2.1
  omega)) hf
theorem JTX.n3 (hw : WOX sk ln iv rv i0 none) (hf : f = -1) : JTX sk ln iv rv h i0 f := fun v a hR _ => JDG.no (fun w => by
  rcases hw v a hR with ⟨_, g⟩ | ⟨b, e, _⟩
  · exact g w.1
  · cases e) hf
theorem JTX.wh (hA : ALV sk iv rv i0 b) (h0 : iv b 0 ≠ 4) (hw : WOX sk ln iv rv i0 (some b2)) (hR : TRL sk ln iv rv v a) : (WHL v a i0 ∧ a 6 i0.toNat ≠ 4) ∧ (0 ≤ i0 ∧ i0 < v 4 ∧ ((i0.toNat : Nat) : Int) = i0) ∧ el rv (sk 22) i0.toNat = some b := by
  obtain ⟨p1, p2, p3⟩ := hw.smt hR
  have := (hR.1.al hA).2.1
  exact ⟨⟨p3, by omega⟩, hA.i hR, hA.2.2.1⟩
theorem JTX.sh (hA : ALV sk iv rv i0 b) (h0 : iv b 0 ≠ 4) (hw : WOX sk ln iv rv i0 (some b2)) (hs : HSX sk ln iv rv b f1) (e1 : f1 = 1) (hf : f = 0) : JTX sk ln iv rv h i0 f := fun v a hR _ => by
  obtain ⟨p1, ⟨p2, p3, p4⟩, p5⟩ := JTX.wh hA h0 hw hR
  have g := (hs v a hR i0.toNat (by omega) p5).mp e1
  rw [p4] at g
  exact JDG.sh p1 g hf
theorem JTX.rd {x0 : Int} (hA : ALV sk iv rv i0 b) (h0 : iv b 0 ≠ 4) (hw : WOX sk ln iv rv i0 (some b2)) (hs : HSX sk ln iv rv b f1) (e1 : f1 ≠ 1) (hg : GLQ sk ln iv rv b L1 cl1 ln1 iv1 rv1 q gat0 ∧ GLQ sk ln iv rv b L1 cl1 ln1 iv1 rv1 n gat1) (hx : x0 = h) (hr : (∃ f0, RDX L1 cl1 ln1 iv1 rv1 q x0 f0 ∧ f0 ≠ 1 ∧ f = 0) ∨ (∃ f0 f3, RDX L1 cl1 ln1 iv1 rv1 q x0 f0 ∧ f0 = 1 ∧ RDX L1 cl1 ln1 iv1 rv1 n x0 f3 ∧ ((f3 ≠ 1 ∧ f = 0) ∨ (f3 = 1 ∧ f = 1)))) : JTX sk ln iv rv h i0 f := fun v a hR h33 => by
  obtain ⟨p1, ⟨p2, p3, p4⟩, p5⟩ := JTX.wh hA h0 hw hR
  have g0 := hg.1 v a hR i0.toNat (by omega) p5
  have g1 := hg.2 v a hR i0.toNat (by omega) p5
  rw [p4] at g0 g1
  have ns : ¬ (SHC a i0 ∨ (a 6 i0.toNat = 5 ∧ SHC a (a 9 i0.toNat))) := fun w => e1 ((hs v a hR i0.toNat (by omega) p5).mpr (by rw [p4]; exact w))
  refine Or.inr ⟨p1, ?_⟩
  rcases hr with ⟨f0, r1, r2, r3⟩ | ⟨f0, f3, r1, r2, r3, r4⟩
  · exact Or.inr ⟨fun w => r2 ((r1 a _ g0).mpr (by rw [hx, h33]; exact w.2.1)), r3⟩
  · rcases r4 with ⟨r4, r5⟩ | ⟨r4, r5⟩
    · exact Or.inr ⟨fun w => r4 ((r3 a _ g1).mpr (by rw [hx, h33]; exact w.2.2)), r5⟩
    · refine Or.inl ⟨⟨ns, ?_, ?_⟩, r5⟩
      · have q1 := (r1 a _ g0).mp r2
        rw [hx, h33] at q1; exact q1
      · have q1 := (r3 a _ g1).mp r4
        rw [hx, h33] at q1; exact q1
end JROW
