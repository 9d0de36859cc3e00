def HDB (sk ln : Nat → Nat) (iv : Nat → Nat → Int) (rv : Nat → Nat → Option Nat) (iv1 : Nat → Nat → Int) (rv1 : Nat → Nat → Option Nat) (i : Int) : Prop := ∀ v a, TRL sk ln iv rv v a → iv (sk 2) 2 = v 3 → CT iv rv (sk 2) (a 2) → ∃ cs, SWC a (a 2) (v 3) i cs ∧ PDH iv1 rv1 (sk 15) cs ∧ CT iv1 rv1 (sk 5) (fun j => (cs[j]?).getD 0)
def HDY (sk ln : Nat → Nat) (iv : Nat → Nat → Int) (rv : Nat → Nat → Option Nat) (iv2 : Nat → Nat → Int) (rv2 : Nat → Nat → Option Nat) (i f : Int) : Prop := (f = -1 ∧ iv2 (sk 5) 2 = iv (sk 5) 2 ∧ ∀ ss, CT iv rv (sk 5) ss → CT iv2 rv2 (sk 5) ss) ∨ (0 ≤ f ∧ iv2 (sk 5) 2 = f ∧ HDB sk ln iv rv iv2 rv2 i)
section HRO2
variable {h : Nat} {sk : Nat → Nat} {L L1 : List Nat} {cl ln cl1 ln1 : Nat → Nat} {iv iv1 iv2 iv3 : Nat → Nat → Int} {rv rv1 rv2 : Nat → Nat → Option Nat} {s b cb : Nat} {l : List Int} {x k f fl f2 i : Int} {ls : List Nat}
theorem PDH.frr (hW : WT h sk L cl ln iv1 rv1) (hF : fT ls L cl iv1 rv1 iv2 rv2) (ts : ty L cl s 15) (h15 : ls.contains 15 = false) (h54 : ls.contains 54 = false) (hp : PDH iv1 rv1 s l) : PDH iv2 rv2 s l := by
  refine ⟨(hF.i ts h15 7).trans hp.1, fun cb hb j d hj e => ?_⟩
  rw [hF.r ts h15 6] at hb
  obtain ⟨b', q1, t3⟩ := hW.ref ts 6 rfl rfl rfl
  rw [hb] at q1; cases q1
  rw [hF.i t3 h54 j]
  exact hp.2 cb hb j d hj e
theorem HDB.mk (w : WOX sk ln1 iv1 rv1 i (some b)) (hq : QT h sk L cl ln iv rv L1 cl1 ln1 iv1 rv1) (hl : LTA sk ln iv rv iv1 rv1 k) (h4 : iv1 (sk 15) 4 = k) (hk : k = iv (sk 2) 2) (sb : SBX sk ln1 iv1 rv1 iv2 (sk 15) b f2) (hf2 : f2 = 0) (hW : WT h sk L1 cl1 ln1 iv2 rv1) (hF : fT ls L1 cl1 iv2 rv1 iv3 rv1) (ts : ty L1 cl1 (sk 15) 15) (h15 : ls.contains 15 = false) (h54 : ls.contains 54 = false) (h5 : iv3 (sk 5) 2 = 0) : HDB sk ln iv rv iv3 rv1 i := fun v a hR h3 hc => by
  obtain ⟨c1, c2, c3, c4⟩ := HDX.cb w hq hl h4 hk hR h3 hc
  obtain ⟨cs, s1, s2, s3⟩ := (sb v a _ _ c1).1 hf2
  rw [c2, c3] at s1
  exact ⟨cs, SWC.iff0.mpr ⟨s1, s2⟩, PDH.frr hW hF ts h15 h54 s3.1, CT.zero h5⟩
theorem HDB.step (hb : HDB sk ln iv rv iv1 rv1 i) (hW : WT h sk L1 cl1 ln1 iv1 rv1) (hF : fT ls L1 cl1 iv1 rv1 iv2 rv2) (ts : ty L1 cl1 (sk 15) 15) (h15 : ls.contains 15 = false) (h54 : ls.contains 54 = false) (g : ∀ ss, CT iv1 rv1 (sk 5) ss → iv1 (sk 5) 2 < 200 → CT iv2 rv2 (sk 5) (va_up ss (iv1 (sk 5) 2).toNat x)) (h6 : rv1 (sk 15) 6 = some cb) (hx : x = iv1 cb (iv1 (sk 5) 2).toNat) (hk : 0 ≤ iv1 (sk 5) 2 ∧ iv1 (sk 5) 2 < iv1 (sk 15) 7 ∧ iv1 (sk 5) 2 < 200) : HDB sk ln iv rv iv2 rv2 i := fun v a hR h3 hc => by
  obtain ⟨cs, s1, s2, s3⟩ := hb v a hR h3 hc
  have e := s2.1
  refine ⟨cs, s1, PDH.frr hW hF ts h15 h54 s2, ?_⟩
  have w := g _ s3 hk.2.2
  have ex : x = (cs[(iv1 (sk 5) 2).toNat]?).getD 0 := by
    have lt : (iv1 (sk 5) 2).toNat < cs.length := by omega
    have e1 := List.getElem?_eq_getElem lt
    rw [hx, e1, s2.2 cb h6 _ _ (by omega) e1]
    rfl
  have ee : va_up (fun j => (cs[j]?).getD 0) (iv1 (sk 5) 2).toNat x = fun j => (cs[j]?).getD 0 := by
    funext j
    unfold va_up
    split
    · rename_i e2
      rw [e2, ex]
    · rfl
  rw [ee] at w
  exact w
theorem HDB.fr (hb : HDB sk ln iv rv iv1 rv1 i) (hW : WT h sk L1 cl1 ln1 iv1 rv1) (hF : fT ls L1 cl1 iv1 rv1 iv2 rv2) (ts : ty L1 cl1 (sk 15) 15) (t5 : ty L1 cl1 (sk 5) 5) (h15 : ls.contains 15 = false) (h54 : ls.contains 54 = false) (h5 : ls.contains 5 = false) (h35 : ls.contains 35 = false) : HDB sk ln iv rv iv2 rv2 i := fun v a hR h3 hc => by
  obtain ⟨cs, s1, s2, s3⟩ := hb v a hR h3 hc
  exact ⟨cs, s1, PDH.frr hW hF ts h15 h54 s2, CT.fr s3 hW t5 hF h5 h35 rfl rfl rfl⟩
end HRO2
