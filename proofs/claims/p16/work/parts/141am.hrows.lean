def PTL (iv : Nat → Nat → Int) (rv : Nat → Nat → Option Nat) (iv2 : Nat → Nat → Int) (s : Nat) (x : Int) : Prop := iv s 4 < 500 → iv2 s 4 = iv s 4 + 1 ∧ ∀ lb, rv s 0 = some lb → iv2 lb (iv s 4).toNat = x ∧ ∀ j : Nat, (j : Int) < iv s 4 → iv2 lb j = iv lb j
def HWD (iv : Nat → Nat → Int) (rv : Nat → Nat → Option Nat) (q : Nat) (fl : Int) : Prop := ∀ ss, CT iv rv q ss → (fl = 1 ↔ (iv q 2 ≤ 40 ∧ TLT ss (iv q 2)))
def HDX (sk ln : Nat → Nat) (iv : Nat → Nat → Int) (rv : Nat → Nat → Option Nat) (wd i f : Int) : Prop := ∀ v a, TRL sk ln iv rv v a → iv (sk 2) 2 = v 3 → CT iv rv (sk 2) (a 2) → wd = v 31 → HDS v a i f
def HDP (sk ln : Nat → Nat) (iv : Nat → Nat → Int) (rv : Nat → Nat → Option Nat) (i m : Int) : Prop := ∀ v a, TRL sk ln iv rv v a → iv (sk 2) 2 = v 3 → CT iv rv (sk 2) (a 2) → (v 3 ≤ 40 ∧ TLT (a 2) (v 3) ∧ WHL v a i) ∧ ∃ cs, SWC a (a 2) (v 3) i cs ∧ m = ((cs.length : Nat) : Int)
def LTA (sk ln : Nat → Nat) (iv : Nat → Nat → Int) (rv : Nat → Nat → Option Nat) (iv1 : Nat → Nat → Int) (rv1 : Nat → Nat → Option Nat) (k : Int) : Prop := ∀ ss, CT iv rv (sk 2) ss → LTW iv1 rv1 (sk 15) ss 0 k
section HROW
variable {h : Nat} {sk : Nat → Nat} {L L1 : List Nat} {cl ln cl1 ln1 : Nat → Nat} {iv iv1 iv2 iv3 iv4 iv5 : Nat → Nat → Int} {rv rv1 : Nat → Nat → Option Nat} {W : Nat → Int} {s lb pb bb i2 i3 b : Nat} {x y p k f fl f2 i wd m z2 z3 z4 : Int} {ls : List Nat}
theorem PTL.mk (h0 : rv s 0 = some lb) (e1 : iv1 = up2 iv lb p.toNat x) (e2 : iv2 = up2 iv1 pb i2 z2) (e3 : iv3 = up2 iv2 bb i3 z3) (e4 : iv4 = up2 iv3 s 5 z4) (e5 : iv5 = up2 iv4 s 4 y) (hp : p = iv s 4) (hy : y = iv s 4 + 1) (h4 : 0 ≤ iv s 4) (n1 : lb ≠ pb) (n2 : lb ≠ bb) (n3 : lb ≠ s) : PTL iv rv iv5 s x := fun _ => by
  refine ⟨by rw [e5, up2_s]; exact hy, fun lb' hb => ?_⟩
  rw [h0] at hb; cases hb
  subst hp
  refine ⟨?_, fun j hj => ?_⟩
  · rw [e5, up2_k n3, e4, up2_k n3, e3, up2_k n2, e2, up2_k n1, e1, up2_s]
  · rw [e5, up2_k n3, e4, up2_k n3, e3, up2_k n2, e2, up2_k n1, e1, up2_j (by omega)]
theorem PTL.full (h4 : 500 ≤ iv s 4) : PTL iv rv iv1 s x := fun e => absurd e (by omega)
theorem LTW.put (hl : LTW iv rv s W 0 k) (p : PTL iv rv iv2 s x) (h4 : iv s 4 = k) (hk : 0 ≤ k ∧ k < 500) (hx : x = W k.toNat) : LTW iv2 rv s W 0 (k + 1) := fun lb hb j h1 h2 => by
  obtain ⟨q1, q2⟩ := (p (by omega)).2 lb hb
  by_cases c : j < k
  · rw [q2 j.toNat (by omega)]; exact hl lb hb j h1 c
  · have e : iv2 lb k.toNat = x := by
      rw [← h4]; exact q1
    rw [show j = k by omega, e]; exact hx
theorem LTA.zero : LTA sk ln iv rv iv1 rv1 0 := fun ss hs lb hb j h1 h2 => absurd h1 (by omega)
theorem LTA.put (hl : LTA sk ln iv rv iv1 rv1 k) (p : PTL iv1 rv1 iv2 (sk 15) x) (h4 : iv1 (sk 15) 4 = k) (hk : 0 ≤ k ∧ k < 500) (hx : ∀ ss, CT iv rv (sk 2) ss → x = ss k.toNat) : LTA sk ln iv rv iv2 rv1 (k + 1) := fun ss hs => (hl ss hs).put p h4 hk (hx ss hs)
theorem LTA.ni (hl : LTA sk ln iv rv iv1 rv1 k) (hW : WT h sk L1 cl1 ln1 iv1 rv1) (hF : fT ls L1 cl1 iv1 rv1 iv2 rv1) (hc : ls.contains 50 = false) (ts : ty L1 cl1 (sk 15) 15) : LTA sk ln iv rv iv2 rv1 k := fun ss hs => (hl ss hs).ni hW hF hc ts
theorem HDX.bad (hw : HWD iv rv (sk 2) fl) (hf : fl ≠ 1) (e : f = -1) : HDX sk ln iv rv wd i f := fun v a hR h3 hc _ => HDS.bad (fun q => hf ((hw _ hc).mpr ⟨by omega, by rw [h3]; exact q.2⟩)) e
theorem HDX.nw (w : WOX sk ln1 iv1 rv1 i none) (hq : QT h sk L cl ln iv rv L1 cl1 ln1 iv1 rv1) (e : f = -1) : HDX sk ln iv rv wd i f := fun v a hR _ _ _ => HDS.nw (fun g => by
  rcases w v a (hR.qq hq) with ⟨_, q⟩ | ⟨b, q, _⟩
  · exact q g
  · cases q) e
theorem HDX.cb {v : Nat → Int} {a : Nat → Nat → Int} (w : WOX sk ln1 iv1 rv1 i (some b)) (hq : QT h sk L cl ln iv rv L1 cl1 ln1 iv1 rv1) (hl : LTA sk ln iv rv iv1 rv1 k) (h4 : iv1 (sk 15) 4 = k) (hk : k = iv (sk 2) 2) (hR : TRL sk ln iv rv v a) (h3 : iv (sk 2) 2 = v 3) (hc : CT iv rv (sk 2) (a 2)) : CTB sk ln1 iv1 rv1 (sk 15) b v a (a 2) i.toNat ∧ ((i.toNat : Nat) : Int) = i ∧ iv1 (sk 15) 4 = v 3 ∧ WHL v a i := by
  obtain ⟨p1, p2, p3⟩ := w.smt (hR.qq hq)
  exact ⟨⟨hR.qq hq, by omega, p2, by rw [h4]; exact hl _ hc⟩, by omega, by omega, p3⟩
theorem HDX.ns (w : WOX sk ln1 iv1 rv1 i (some b)) (hq : QT h sk L cl ln iv rv L1 cl1 ln1 iv1 rv1) (hl : LTA sk ln iv rv iv1 rv1 k) (h4 : iv1 (sk 15) 4 = k) (hk : k = iv (sk 2) 2) (sb : SBX sk ln1 iv1 rv1 iv2 (sk 15) b f2) (hf2 : f2 ≠ 0) (e : f = -1) : HDX sk ln iv rv wd i f := fun v a hR h3 hc _ => HDS.ns (fun g => by
  obtain ⟨c1, c2, c3, _⟩ := HDX.cb w hq hl h4 hk hR h3 hc
  obtain ⟨cs, g1⟩ := g
  have g2 := SWC.iff0.mp g1
  refine (sb v a _ _ c1).2 hf2 ⟨cs, ?_, g2.2⟩
  rw [c2, c3]; exact g2.1) e
theorem HDP.mk (w : WOX sk ln1 iv1 rv1 i (some b)) (hq : QT h sk L cl ln iv rv L1 cl1 ln1 iv1 rv1) (hl : LTA sk ln iv rv iv1 rv1 k) (h4 : iv1 (sk 15) 4 = k) (hk : k = iv (sk 2) 2) (hw : HWD iv rv (sk 2) fl) (hfl : fl = 1) (sb : SBX sk ln1 iv1 rv1 iv2 (sk 15) b f2) (hf2 : f2 = 0) (hm : m = iv2 (sk 15) 7) : HDP sk ln iv rv i m := fun v a hR h3 hc => by
  obtain ⟨c1, c2, c3, c4⟩ := HDX.cb w hq hl h4 hk hR h3 hc
  have d1 := (hw _ hc).mp hfl
  rw [h3] at d1
  obtain ⟨cs, s1, s2, s3⟩ := (sb v a _ _ c1).1 hf2
  rw [c2, c3] at s1
  exact ⟨⟨d1.1, d1.2, c4⟩, cs, SWC.iff0.mpr ⟨s1, s2⟩, hm.trans s3.1.1⟩
theorem HDX.ok (hp : HDP sk ln iv rv i m) (hf : (m ≤ wd ∧ f = m) ∨ (wd < m ∧ f = wd)) : HDX sk ln iv rv wd i f := fun v a hR h3 hc hw => by
  obtain ⟨p1, cs, p2, p3⟩ := hp v a hR h3 hc
  refine Or.inr ⟨p1, cs, p2, ?_⟩
  omega
end HROW
