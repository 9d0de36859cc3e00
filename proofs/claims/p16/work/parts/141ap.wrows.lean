def PWH (iv : Nat → Nat → Int) (rv : Nat → Nat → Option Nat) (s : Nat) (w : List (Int × Nat × Int)) : Prop := iv s 4 = ((w.length : Nat) : Int) ∧ ∀ lb pb bb, rv s 0 = some lb → rv s 1 = some pb → rv s 2 = some bb → ∀ (j : Nat) (x : Int × Nat × Int), w[j]? = some x → iv lb j = x.1 ∧ iv pb j = ((x.2.1 : Nat) : Int) ∧ (1 ≤ j → iv bb j = x.2.2)
def PT2 (iv : Nat → Nat → Int) (rv : Nat → Nat → Option Nat) (iv2 : Nat → Nat → Int) (s : Nat) (x y : Int) : Prop := iv s 4 < 500 → iv2 s 4 = iv s 4 + 1 ∧ iv2 s 5 = 0 ∧ ∀ lb pb bb, rv s 0 = some lb → rv s 1 = some pb → rv s 2 = some bb → (iv2 lb (iv s 4).toNat = x ∧ iv2 pb (iv s 4).toNat = y ∧ iv2 bb (iv s 4).toNat = iv s 5) ∧ ∀ j : Nat, (j : Int) < iv s 4 → iv2 lb j = iv lb j ∧ iv2 pb j = iv pb j ∧ iv2 bb j = iv bb j
def PTK (iv : Nat → Nat → Int) (rv : Nat → Nat → Option Nat) (iv1 : Nat → Nat → Int) (q c s : Nat) : Prop := ∀ tt, CT iv rv q tt → ∃ w, TKI tt (iv q 2) (iv c 0) (iv1 c 0) (iv1 s 5) w ∧ PWH iv1 rv s w
def PTN (iv : Nat → Nat → Int) (rv : Nat → Nat → Option Nat) (iv1 : Nat → Nat → Int) (q c s : Nat) : Prop := ∀ tt, CT iv rv q tt → ∃ w, TKI tt (iv q 2) (iv c 0) (iv1 c 0 + 1) (iv1 s 5) w ∧ PWH iv1 rv s w
def STP (iv : Nat → Nat → Int) (rv : Nat → Nat → Option Nat) (iv2 : Nat → Nat → Int) (q c s : Nat) (f : Int) : Prop := ∀ tt, CT iv rv q tt → (iv c 1 = 0 → (iv q 2 ≤ iv c 0 ∧ f = 0 ∧ iv2 c 0 = iv c 0 ∧ iv2 c 1 = 0) ∨ (iv c 0 < iv q 2 ∧ f = 1 ∧ iv2 c 1 = 1 ∧ ((tt (iv c 0).toNat = 94 ∧ iv2 c 0 = iv c 0 + 1 ∧ iv2 c 2 = 1) ∨ (tt (iv c 0).toNat ≠ 94 ∧ iv2 c 0 = iv c 0 ∧ iv2 c 2 = 0)))) ∧ (iv c 1 ≠ 0 → ∃ (P : Int) (w : List (Int × Nat × Int)), 0 ≤ P ∧ TWF tt (iv q 2) (iv c 0) = (P.toNat, w) ∧ iv2 c 2 = iv c 2 ∧ ((w.length ≠ 0 ∧ f = 2 ∧ iv2 c 0 = P ∧ iv2 c 1 = iv c 1 ∧ PWH iv2 rv s w) ∨ (w.length = 0 ∧ f = 3 ∧ iv2 c 0 = P + 1 ∧ iv2 c 1 = 0)))
section WROW
variable {h : Nat} {sk : Nat → Nat} {L : List Nat} {cl ln : Nat → Nat} {iv iv1 iv2 iv3 iv4 iv5 : Nat → Nat → Int} {rv : Nat → Nat → Option Nat} {s q c lb pb bb : Nat} {x y p b f z5 z4 p2 p3 : Int} {ls : List Nat} {w : List (Int × Nat × Int)} {tt : Nat → Int}
theorem PT2.mk (h0 : rv s 0 = some lb) (h1 : rv s 1 = some pb) (h2 : rv s 2 = some bb) (e1 : iv1 = up2 iv lb p.toNat x) (e2 : iv2 = up2 iv1 pb p2.toNat y) (e3 : iv3 = up2 iv2 bb p3.toNat b) (e4 : iv4 = up2 iv3 s 5 0) (e5 : iv5 = up2 iv4 s 4 z4) (hp : p = iv s 4) (hp2 : p2 = iv s 4) (hp3 : p3 = iv s 4) (hb : b = iv s 5) (hy : z4 = iv s 4 + 1) (h4 : 0 ≤ iv s 4) (n1 : lb ≠ pb) (n2 : lb ≠ bb) (n3 : lb ≠ s) (n4 : pb ≠ bb) (n5 : pb ≠ s) (n6 : bb ≠ s) : PT2 iv rv iv5 s x y := fun _ => by
  refine ⟨by rw [e5, up2_s]; exact hy, by rw [e5, up2_j (by decide), e4, up2_s], fun lb' pb' bb' g0 g1 g2 => ?_⟩
  rw [h0] at g0; cases g0
  rw [h1] at g1; cases g1
  rw [h2] at g2; cases g2
  subst hp
  subst hp2
  subst hp3
  refine hv3 (show ∀ j, iv5 lb j = up2 iv lb (iv s 4).toNat x lb j from fun j => by rw [e5, up2_k n3, e4, up2_k n3, e3, up2_k n2, e2, up2_k n1, e1]) (show ∀ j, iv5 pb j = up2 iv1 pb (iv s 4).toNat y pb j from fun j => by rw [e5, up2_k n5, e4, up2_k n5, e3, up2_k n4, e2]) (show ∀ j, iv5 bb j = up2 iv2 bb (iv s 4).toNat b bb j from fun j => by rw [e5, up2_k n6, e4, up2_k n6, e3]) (fun kl kp kb => ?_)
  refine ⟨⟨by rw [kl, up2_s], by rw [kp, up2_s], by rw [kb, up2_s]; exact hb⟩, fun j hj => ⟨by rw [kl, up2_j (by omega)], ?_, ?_⟩⟩
  · rw [kp, up2_j (by omega), e1, up2_k (fun e => n1 e.symm)]
  · rw [kb, up2_j (by omega), e2, up2_k (fun e => n4 e.symm), e1, up2_k (fun e => n2 e.symm)]
theorem PT2.full (h4 : 500 ≤ iv s 4) : PT2 iv rv iv1 s x y := fun e => absurd e (by omega)
theorem PWH.nil (h4 : iv s 4 = 0) : PWH iv rv s [] := ⟨h4, fun _ _ _ _ _ _ j x e => by simp at e⟩
theorem PWH.put (hw : PWH iv rv s w) (p : PT2 iv rv iv2 s x y) (hl : iv s 4 < 500) {pp : Nat} (hy : y = ((pp : Nat) : Int)) : PWH iv2 rv s (w ++ [(x, pp, iv s 5)]) := by
  obtain ⟨h1, h2⟩ := hw
  obtain ⟨p1, _, p3⟩ := p hl
  have e0 : (w ++ [(x, pp, iv s 5)]).length = w.length + 1 := by rw [List.length_append]; rfl
  refine ⟨by omega, fun lb pb bb g0 g1 g2 j z e => ?_⟩
  obtain ⟨⟨q1, q2, q3⟩, q4⟩ := p3 lb pb bb g0 g1 g2
  have lt := gl3 e
  by_cases c : j < w.length
  · rw [List.getElem?_append_left c] at e
    obtain ⟨k1, k2, k3⟩ := q4 j (by omega)
    rw [k1, k2, k3]
    exact h2 lb pb bb g0 g1 g2 j z e
  · rw [List.getElem?_append_right (by omega), show j - w.length = 0 by omega] at e
    cases e
    rw [show j = (iv s 4).toNat by omega]
    exact ⟨q1, q2.trans hy, fun _ => q3⟩
theorem PWH.ni (hW : WT h sk L cl ln iv1 rv) (hF : fT ls L cl iv1 rv iv2 rv) (ts : ty L cl s 15) (h5 : iv2 s 4 = iv1 s 4) (a0 : ls.contains 50 = false) (a1 : ls.contains 51 = false) (a2 : ls.contains 52 = false) (hw : PWH iv1 rv s w) : PWH iv2 rv s w := by
  obtain ⟨h1, h2⟩ := hw
  refine ⟨h5.trans h1, fun lb pb bb g0 g1 g2 j z e => ?_⟩
  obtain ⟨b0, q0, t0⟩ := hW.ref ts 0 rfl rfl rfl
  rw [g0] at q0; cases q0
  obtain ⟨b1, q1, t1⟩ := hW.ref ts 1 rfl rfl rfl
  rw [g1] at q1; cases q1
  obtain ⟨b2, q2, t2⟩ := hW.ref ts 2 rfl rfl rfl
  rw [g2] at q2; cases q2
  refine hv3 (show ty L cl lb 50 from t0) (show ty L cl pb 51 from t1) (show ty L cl bb 52 from t2) (fun t50 t51 t52 => ?_)
  rw [hF.i t50 a0 j, hF.i t51 a1 j, hF.i t52 a2 j]
  exact h2 lb pb bb g0 g1 g2 j z e
theorem PTK.init (hc : iv1 c 0 = iv c 0) (h4 : iv1 s 4 = 0) (h5 : iv1 s 5 = 0) : PTK iv rv iv1 q c s := fun tt _ => ⟨[], by rw [hc, h5]; exact TKI.init, PWH.nil h4⟩
theorem PTK.sp (hk : PTK iv rv iv1 q c s) (hT : ∀ tt, CT iv rv q tt → f = tt (iv1 c 0).toNat) (e : f = 32) (hp : 0 ≤ iv1 c 0 ∧ iv1 c 0 < iv q 2) (h4 : iv1 s 4 = 0) : PTN iv rv iv1 q c s := fun tt ht => by
  obtain ⟨w, k1, k2⟩ := hk tt ht
  have g := k2.1
  exact ⟨w, k1.sp hp ((hT tt ht).symm.trans e) (by omega), k2⟩
theorem PTK.til (hk : PTK iv rv iv1 q c s) (hT : ∀ tt, CT iv rv q tt → f = tt (iv1 c 0).toNat) (e : f = 126) (hp : 0 ≤ iv1 c 0 ∧ iv1 c 0 < iv q 2) (c0 : iv2 c 0 = iv1 c 0) (h5 : iv2 s 5 = 1) (hw : ∀ w, PWH iv1 rv s w → PWH iv2 rv s w) : PTN iv rv iv2 q c s := fun tt ht => by
  obtain ⟨w, k1, k2⟩ := hk tt ht
  refine ⟨w, ?_, hw w k2⟩
  rw [c0, h5]
  exact k1.til hp ((hT tt ht).symm.trans e)
theorem PTK.ltr {f0 : Int} (hk : PTK iv rv iv1 q c s) (hT0 : ∀ tt, CT iv rv q tt → f0 = tt (iv1 c 0).toNat) (hT : ∀ tt, CT iv rv q tt → f = tt (iv1 c 0).toNat) (e0 : f0 ≠ 10) (e1 : f ≠ 32) (e2 : f ≠ 126) (hp : 0 ≤ iv1 c 0 ∧ iv1 c 0 < iv q 2) (p : PT2 iv1 rv iv2 s f y) (hl : iv1 s 4 < 500) (hy : y = iv1 c 0) (c0 : iv2 c 0 = iv1 c 0) : PTN iv rv iv2 q c s := fun tt ht => by
  obtain ⟨w, k1, k2⟩ := hk tt ht
  have ef := hT tt ht
  have g := k1.ltr hp (by rw [← hT0 tt ht]; exact e0) (by rw [← ef]; exact e1) (by rw [← ef]; exact e2)
  have g2 := k2.put p hl (pp := (iv1 c 0).toNat) (by omega)
  rw [← ef] at g
  refine ⟨_, ?_, g2⟩
  rw [c0, (p hl).2.1]
  exact g
theorem PWH.upc {k : Nat} (hW : WT h sk L cl ln iv1 rv) (e : iv2 = up2 iv1 c k x) (tc : ty L cl c 14) (ts : ty L cl s 15) (hw : PWH iv1 rv s w) : PWH iv2 rv s w := by
  obtain ⟨h1, h2⟩ := hw
  have n0 : s ≠ c := ne_ty ts tc (by decide)
  refine ⟨by rw [e, up2_k n0]; exact h1, fun lb pb bb g0 g1 g2 j z e2 => ?_⟩
  obtain ⟨b0, q0, t0⟩ := hW.ref ts 0 rfl rfl rfl
  rw [g0] at q0; cases q0
  obtain ⟨b1, q1, t1⟩ := hW.ref ts 1 rfl rfl rfl
  rw [g1] at q1; cases q1
  obtain ⟨b2, q2, t2⟩ := hW.ref ts 2 rfl rfl rfl
  rw [g2] at q2; cases q2
  rw [e, up2_k (ne_ty t0 tc (by decide)), up2_k (ne_ty t1 tc (by decide)), up2_k (ne_ty t2 tc (by decide))]
  exact h2 lb pb bb g0 g1 g2 j z e2
theorem PTN.next (hk : PTN iv rv iv1 q c s) (hW : WT h sk L cl ln iv1 rv) (e : iv2 = up2 iv1 c 0 x) (hx : x = iv1 c 0 + 1) (tc : ty L cl c 14) (ts : ty L cl s 15) : PTK iv rv iv2 q c s := fun tt ht => by
  obtain ⟨w, k1, k2⟩ := hk tt ht
  refine ⟨w, ?_, k2.upc hW e tc ts⟩
  refine hv2 (show iv2 c 0 = iv1 c 0 + 1 from by rw [e, up2_s]; exact hx) (show iv2 s 5 = iv1 s 5 from by rw [e, up2_k (ne_ty ts tc (by decide))]) (fun e1 e2 => ?_)
  rw [e1, e2]
  exact k1
theorem STP.no (h1 : iv c 1 = 0) (hs : ∀ tt, CT iv rv q tt → (iv q 2 ≤ iv c 0 ∧ f = 0 ∧ iv2 c 0 = iv c 0 ∧ iv2 c 1 = 0) ∨ (iv c 0 < iv q 2 ∧ f = 1 ∧ iv2 c 1 = 1 ∧ ((tt (iv c 0).toNat = 94 ∧ iv2 c 0 = iv c 0 + 1 ∧ iv2 c 2 = 1) ∨ (tt (iv c 0).toNat ≠ 94 ∧ iv2 c 0 = iv c 0 ∧ iv2 c 2 = 0)))) : STP iv rv iv2 q c s f := fun tt ht => ⟨fun _ => hs tt ht, fun e => absurd h1 e⟩
theorem STP.sp (h1 : iv c 1 ≠ 0) (hk : PTK iv rv iv1 q c s) (hT : ∀ tt, CT iv rv q tt → x = tt (iv1 c 0).toNat) (e : x = 32) (hp : 0 ≤ iv1 c 0 ∧ iv1 c 0 < iv q 2) (h4 : 0 < iv1 s 4) (hf : f = 2) (hc1 : iv1 c 1 = iv c 1) (hc2 : iv1 c 2 = iv c 2) : STP iv rv iv1 q c s f := fun tt ht => ⟨fun e => absurd e h1, fun _ => by
  obtain ⟨w, k1, k2⟩ := hk tt ht
  have g := k2.1
  exact ⟨iv1 c 0, w, hp.1, k1.end2 hp ((hT tt ht).symm.trans e) (by omega), hc2, Or.inl ⟨by omega, hf, rfl, hc1, k2⟩⟩⟩
theorem STP.fin2 (h1 : iv c 1 ≠ 0) (hk : PTK iv rv iv1 q c s) (he : ∀ tt, CT iv rv q tt → iv q 2 ≤ iv1 c 0 ∨ tt (iv1 c 0).toNat = 10) (hp : 0 ≤ iv1 c 0) (h4 : 0 < iv1 s 4) (hf : f = 2) (hc1 : iv1 c 1 = iv c 1) (hc2 : iv1 c 2 = iv c 2) : STP iv rv iv1 q c s f := fun tt ht => ⟨fun e => absurd e h1, fun _ => by
  obtain ⟨w, k1, k2⟩ := hk tt ht
  have g := k2.1
  exact ⟨iv1 c 0, w, hp, k1.end1 hp (he tt ht), hc2, Or.inl ⟨by omega, hf, rfl, hc1, k2⟩⟩⟩
theorem STP.fin3 (h1 : iv c 1 ≠ 0) (hk : PTK iv rv iv1 q c s) (he : ∀ tt, CT iv rv q tt → iv q 2 ≤ iv1 c 0 ∨ tt (iv1 c 0).toNat = 10) (hp : 0 ≤ iv1 c 0) (h4 : iv1 s 4 ≤ 0) (hf : f = 3) (c0 : iv2 c 0 = iv1 c 0 + 1) (c1 : iv2 c 1 = 0) (hc2 : iv2 c 2 = iv c 2) : STP iv rv iv2 q c s f := fun tt ht => ⟨fun e => absurd e h1, fun _ => by
  obtain ⟨w, k1, k2⟩ := hk tt ht
  have g := k2.1
  exact ⟨iv1 c 0, w, hp, k1.end1 hp (he tt ht), hc2, Or.inr ⟨by omega, hf, c0, c1⟩⟩⟩
end WROW
