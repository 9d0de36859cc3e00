def SVX (sk ln : Nat → Nat) (iv : Nat → Nat → Int) (rv : Nat → Nat → Option Nat) (i j f : Int) : Prop := ∀ v a, TRL sk ln iv rv v a → iv (sk 3) 2 = v 30 → CT iv rv (sk 3) (a 29) → SVD v a i j f
def PVS (iv1 : Nat → Nat → Int) (rv : Nat → Nat → Option Nat) (s c : Nat) (T : Nat → Int) (N : Int) (a : Nat → Nat → Int) (x y k n cm : Int) : Prop := (cm = 0 ∧ iv1 c 1 = 0 ∧ N ≤ iv1 c 0 ∧ SV2 T N a x y k n (iv1 c 0)) ∨ (cm = 1 ∧ iv1 c 1 ≠ 0 ∧ SV3 T N a x y k n (iv1 c 0)) ∨ (cm = 3 ∧ iv1 c 1 = 0 ∧ SV2 T N a x y k n (iv1 c 0)) ∨ (cm = 2 ∧ iv1 c 1 ≠ 0 ∧ ∃ p w, SV3 T N a x y k n p ∧ TWF T N p = ((iv1 c 0).toNat, w) ∧ w.length ≠ 0 ∧ PWH iv1 rv s w)
def PVA (sk ln : Nat → Nat) (iv : Nat → Nat → Int) (rv : Nat → Nat → Option Nat) (i j k n wy : Int) : Prop := ∀ v a, TRL sk ln iv rv v a → iv (sk 3) 2 = v 30 → CT iv rv (sk 3) (a 29) → (wy = 0 → SV1 (a 29) (v 30) a i j k n) ∧ (wy ≠ 0 → BADW (a 29) (v 30) a i ∨ BADW (a 29) (v 30) a j)
def PVD (sk ln : Nat → Nat) (iv : Nat → Nat → Int) (rv : Nat → Nat → Option Nat) (iv1 : Nat → Nat → Int) (i j k n wy cm : Int) : Prop := ∀ v a, TRL sk ln iv rv v a → iv (sk 3) 2 = v 30 → CT iv rv (sk 3) (a 29) → (wy = 0 → PVS iv1 rv (sk 15) (sk 14) (a 29) (v 30) a i j k n cm) ∧ (wy ≠ 0 → BADW (a 29) (v 30) a i ∨ BADW (a 29) (v 30) a j)
section VROW
variable {h : Nat} {sk : Nat → Nat} {L : List Nat} {cl ln : Nat → Nat} {iv iv1 iv2 iv3 : Nat → Nat → Int} {rv : Nat → Nat → Option Nat} {s c q b b2 : Nat} {T : Nat → Int} {N : Int} {a : Nat → Nat → Int} {v : Nat → Int} {x y k n n2 m p f cm cm2 i j wy wy2 t : Int} {ls : List Nat} {w : List (Int × Nat × Int)}
theorem PWH.ltw (hw : PWH iv rv s w) (hW : WT h sk L cl ln iv rv) (ts : ty L cl s 15) : LTW iv rv s (lts w) 0 (iv s 4) := fun lb hb j h1 h2 => by
  obtain ⟨g1, g2⟩ := hw
  obtain ⟨b1, q1, _⟩ := hW.ref ts 1 rfl rfl rfl
  obtain ⟨b2, q2, _⟩ := hW.ref ts 2 rfl rfl rfl
  have lt : j.toNat < w.length := by omega
  have g := (g2 lb b1 b2 hb q1 q2 j.toNat _ (List.getElem?_eq_getElem lt)).1
  rw [g]
  show _ = ((w[j.toNat]?).map (fun x => x.1)).getD 0
  (rw [List.getElem?_eq_getElem lt]) <;> rfl
theorem SV3.go (hs : SV3 T N a x y k n p) (h0 : p = iv1 c 0) (st : STP iv1 rv iv2 q c s f) (ht : CT iv1 rv q T) (hN : iv1 q 2 = N) (h1 : iv1 c 1 ≠ 0) : PVS iv2 rv s c T N a x y k n f := by
  subst h0
  obtain ⟨P, w, p0, g1, _, g2⟩ := (st T ht).2 h1
  rw [hN] at g1
  rcases g2 with ⟨e1, e2, e3, e4, e5⟩ | ⟨e1, e2, e3, e4⟩
  · refine Or.inr (Or.inr (Or.inr ⟨e2, by rw [e4]; exact h1, iv1 c 0, w, hs, ?_, e1, e5⟩))
    rw [e3]; exact g1
  · obtain ⟨ws, k1, k2⟩ := hs
    refine Or.inr (Or.inr (Or.inl ⟨e2, e4, ws, ?_, k2⟩))
    rw [e3]; exact k1.line g1 p0 e1
theorem SV2.go (hs : SV2 T N a x y k n p) (h0 : p = iv1 c 0) (st : STP iv1 rv iv2 q c s f) (ht : CT iv1 rv q T) (hN : iv1 q 2 = N) (h1 : iv1 c 1 = 0) : PVS iv2 rv s c T N a x y k n f := by
  subst h0
  rcases (st T ht).1 h1 with ⟨e1, e2, e3, e4⟩ | ⟨e1, e2, e3, e4⟩
  · refine Or.inl ⟨e2, e4, by omega, ?_⟩
    rw [e3]; exact hs
  · refine Or.inr (Or.inl ⟨e2, by omega, hs.enter (by omega) ?_⟩)
    rcases e4 with ⟨q1, q2, _⟩ | ⟨q1, q2, _⟩
    · exact Or.inl ⟨q1, q2⟩
    · exact Or.inr ⟨q1, q2⟩
theorem PVS.go (hs : PVS iv1 rv s c T N a x y k n cm) (hc : cm = 1 ∨ cm = 3) (st : STP iv1 rv iv2 q c s f) (ht : CT iv1 rv q T) (hN : iv1 q 2 = N) : PVS iv2 rv s c T N a x y k n f := by
  rcases hs with ⟨e, _⟩ | ⟨e, g1, g2⟩ | ⟨e, g1, g2⟩ | ⟨e, _⟩
  · omega
  · exact g2.go rfl st ht hN g1
  · exact g2.go rfl st ht hN g1
  · omega
theorem PVA.init : PVA sk ln iv rv i j 0 0 0 := fun v a _ _ _ => ⟨fun _ => SV1.init, fun e => absurd rfl e⟩
theorem PVA.begin (hv : PVA sk ln iv rv i j k n wy) (hw : wy = 0) (hk : k < 2) (hW : WT h sk L cl ln iv1 rv) (hF : fT ls L cl iv rv iv1 rv) (t3 : ty L cl (sk 3) 3) (a3 : ls.contains 3 = false) (a33 : ls.contains 33 = false) (h1 : iv1 (sk 14) 1 = 0) (h0 : iv1 (sk 14) 0 = 0) (st : STP iv1 rv iv2 (sk 3) (sk 14) (sk 15) f) (hwy : wy2 = 0) : PVD sk ln iv rv iv2 i j k n wy2 f := fun v a hR e3 hc => by
  refine ⟨fun _ => ?_, fun e => absurd hwy e⟩
  have g := ((hv v a hR e3 hc).1 hw).begin hk
  exact g.go h0.symm st (CT.frn hc hW t3 hF a3 a33 rfl rfl rfl) ((hF.i t3 a3 2).trans e3) h1
theorem PVD.go (hv : PVD sk ln iv rv iv1 i j k n wy cm) (hw : wy = 0) (hc0 : cm = 1 ∨ cm = 3) (hW : WT h sk L cl ln iv1 rv) (hF : fT ls L cl iv rv iv1 rv) (t3 : ty L cl (sk 3) 3) (a3 : ls.contains 3 = false) (a33 : ls.contains 33 = false) (st : STP iv1 rv iv2 (sk 3) (sk 14) (sk 15) f) (hwy : wy2 = 0) : PVD sk ln iv rv iv2 i j k n wy2 f := fun v a hR e3 hc => by
  refine ⟨fun _ => ?_, fun e => absurd hwy e⟩
  exact ((hv v a hR e3 hc).1 hw).go hc0 st (CT.frn hc hW t3 hF a3 a33 rfl rfl rfl) ((hF.i t3 a3 2).trans e3)
theorem PVD.fin (hv : PVD sk ln iv rv iv1 i j k n wy cm) (hc0 : wy ≠ 0 ∨ cm = 0) (hz : iv1 (sk 14) 0 ≤ 502) : PVA sk ln iv rv i j (k + 1) n wy := fun v a hR e3 hc => by
  refine ⟨fun e => ?_, (hv v a hR e3 hc).2⟩
  rcases (hv v a hR e3 hc).1 e with ⟨_, _, g1, g2⟩ | ⟨e2, _⟩ | ⟨e2, _⟩ | ⟨e2, _⟩
  · exact g2.fin g1 (g2.rg hz).2
  · omega
  · omega
  · omega
theorem PVD.set (hv : PVD sk ln iv rv iv1 i j k n wy cm) (hw : wy = 0) (hc0 : cm = 2) (hW : WT h sk L cl ln iv rv) (hS : SKL sk L cl) (hW1 : WT h sk L cl ln iv1 rv) (hF : fT [1, 14, 15, 50, 51, 52, 53, 54, 55] L cl iv rv iv1 rv) (t15 : ty L cl (sk 15) 15) (wo : WOX sk ln iv rv t (some b)) (ht : (k = 0 ∧ t = i) ∨ (k = 1 ∧ t = j)) (sb : SBX sk ln iv1 rv iv2 (sk 15) b f) (h14 : iv2 (sk 14) 0 = iv1 (sk 14) 0 ∧ iv2 (sk 14) 1 = iv1 (sk 14) 1) (hz : 0 ≤ iv1 (sk 14) 0) (hn : f ≠ 0 ∨ (k = 0 ∧ n2 = n + iv2 (sk 15) 7) ∨ (k = 1 ∧ n2 = n - iv2 (sk 15) 7)) : PVD sk ln iv rv iv2 i j k n2 f 1 := fun v a hR e3 hc => by
  rcases (hv v a hR e3 hc).1 hw with ⟨e, _⟩ | ⟨e, _⟩ | ⟨e, _⟩ | ⟨_, m1, p, w, ⟨ws, r1, r2⟩, g2, g3, g4⟩
  · omega
  · omega
  · omega
  obtain ⟨o1, o2, o3⟩ := wo.smt hR
  have hR1 := hR.ni hW hS hF rfl rfl rfl rfl rfl
  have et : ((t.toNat : Nat) : Int) = t := Int.toNat_of_nonneg o1.1
  have cb : CTB sk ln iv1 rv (sk 15) b v a (lts w) t.toNat := ⟨hR1, by omega, o2, g4.ltw hW1 t15⟩
  obtain ⟨s1, s2⟩ := sb v a (lts w) t.toNat cb
  rw [et, g4.1] at s1 s2
  refine ⟨fun e => ?_, fun e => ?_⟩
  · obtain ⟨cs, c1, c2, c3⟩ := s1 e
    have wst : WST a t w cs := SWC.iff0.mpr ⟨c1, c2⟩
    have cl7 := c3.1.1
    clear s1 s2
    refine Or.inr (Or.inl ⟨rfl, by rw [h14.2]; exact m1, ws ++ [w], ?_, ?_⟩)
    · rw [h14.1]; exact r1.word g2 hz g3
    · rcases r2 with ⟨e0, r2⟩ | ⟨e0, we, n1, m, k1, k2, k3, k4, k5⟩
      · rcases ht with ⟨_, e2⟩ | ⟨e1, _⟩
        · subst e2
          have q := wsm.snoc ws n r2 wst
          rw [show n + ((cs.length : Nat) : Int) = n2 by omega] at q
          exact Or.inl ⟨e0, q⟩
        · omega
      · rcases ht with ⟨e1, _⟩ | ⟨_, e2⟩
        · omega
        · subst e2
          have q := wsm.snoc ws m k4 wst
          exact Or.inr ⟨e0, we, n1, _, k1, k2, k3, q, by omega⟩
  · have bad : BADW (a 29) (v 30) a t := BADW.mk r1 g2 hz g3 (fun ⟨cs, c⟩ => s2 e ⟨cs, (SWC.iff0.mp c).1, (SWC.iff0.mp c).2⟩)
    rcases ht with ⟨_, e2⟩ | ⟨_, e2⟩
    · rw [← e2]; exact Or.inl bad
    · rw [← e2]; exact Or.inr bad
theorem SVX.n1 (hw : WOX sk ln iv rv i none ∨ WOX sk ln iv rv j none) (e : f = -1) : SVX sk ln iv rv i j f := fun v a hR _ _ => SVD.nf (by
  rcases hw with g | g
  · rcases g v a hR with ⟨_, q⟩ | ⟨b, q, _⟩
    · exact Or.inl q
    · cases q
  · rcases g v a hR with ⟨_, q⟩ | ⟨b, q, _⟩
    · exact Or.inr q
    · cases q) e
theorem SVX.bad (w1 : WOX sk ln iv rv i (some b)) (w2 : WOX sk ln iv rv j (some b2)) (hv : PVA sk ln iv rv i j k n wy) (hw : wy ≠ 0) (e : f = 0) : SVX sk ln iv rv i j f := fun v a hR e3 hc => Or.inr ⟨⟨(w1.smt hR).2.2, (w2.smt hR).2.2⟩, Or.inl ⟨e, (hv v a hR e3 hc).2 hw⟩⟩
theorem SVX.ok (w1 : WOX sk ln iv rv i (some b)) (w2 : WOX sk ln iv rv j (some b2)) (hv : PVA sk ln iv rv i j k n wy) (hw : wy = 0) (hk : k = 2) (e : f = n) : SVX sk ln iv rv i j f := fun v a hR e3 hc => SVD.ok ⟨(w1.smt hR).2.2, (w2.smt hR).2.2⟩ ((hv v a hR e3 hc).1 hw) hk e
end VROW
