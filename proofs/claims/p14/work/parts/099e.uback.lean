def PBI (a : Nat → Nat → Int) (s : Nat → Int) (k : Int) : Prop := ∀ j : Nat, ((j : Nat) : Int) < k → s j = a 54 j
def PBXU (v : Nat → Int) (a : Nat → Nat → Int) (v2 : Nat → Int) (a2 : Nat → Nat → Int) : Prop := v2 52 = v 55 ∧ PBI a (a2 51) (v 55)
def WDW (v : Nat → Int) (a : Nat → Nat → Int) (ws : List Int) : Prop := v 23 = ((ws.length : Nat) : Int) ∧ ∀ (j : Nat) (x : Int), ws[j]? = some x → a 20 j = x
def UCX (a : Nat → Nat → Int) (t : Int) : Prop := (HLD a a 0 (gat0 a t) ∧ HLD a a 1 (gat1 a t)) ∧ (NZL a (gat0 a t) ∧ NZL a (gat1 a t)) ∧ ((∀ (j : Nat) (d : Int), (gat0 a t)[j]? = some d → rol d ≠ 3) ∧ ∀ (j : Nat) (d : Int), (gat1 a t)[j]? = some d → rol d ≠ 2)
def IUX (v : Nat → Int) (a : Nat → Nat → Int) (a2 : Nat → Nat → Int) (t f : Int) : Prop := a2 20 = a 20 ∧ ∀ ws, UCX a t → WDW v a ws → ws.length ≤ 500 → (f = 1 ↔ URB a t ws)
def IU1 (v : Nat → Int) (a : Nat → Nat → Int) (v1 : Nat → Int) (a1 : Nat → Nat → Int) (t k : Int) : Prop := ∃ cs, SWC a (a 20) (v 23) t cs ∧ MDH v1 a1 cs ∧ ROWL v1 a1 (cs.take k.toNat)
def IU2 (v : Nat → Int) (a : Nat → Nat → Int) (v1 : Nat → Int) (a1 : Nat → Nat → Int) (t k : Int) : Prop := ∃ cs, SWC a (a 20) (v 23) t cs ∧ (UCX a t → ∃ bs, RFN a (gat0 a t) (gat1 a t) (RR0 cs) bs ∧ OUTL v1 a1 bs) ∧ ∀ j : Nat, ((j : Nat) : Int) < k → a1 51 j = a 20 j
section UBCK
variable {v v1 v2 v3 v4 : Nat → Int} {a a1 a2 a3 a4 : Nat → Nat → Int} {s s2 : Nat → Int} {t k f f1 x z : Int} {ws cs bs : List Int} {V A : List Nat}
theorem PBI.zero : PBI a s 0 := fun j hj => absurd hj (by omega)
theorem PBI.step (h : PBI a s k) (hk : 0 ≤ k) (e : s2 = va_up s k.toNat (a 54 k.toNat)) : PBI a s2 (k + 1) := fun j hj => by
  rw [e]
  by_cases q : j = k.toNat
  · rw [q, va_up_self]
  · rw [va_up_ne _ _ q]
    exact h j (by omega)
theorem WDW.ag (h : WDW v a ws) : AGW (a 20) (RR0 ws) 0 (v 23) := fun j h1 h2 => by
  have e := h.1
  have lt : j.toNat < ws.length := by omega
  have g := List.getElem?_eq_getElem lt
  rw [RR0_at g]
  exact h.2 _ _ g
theorem WDW.ag2 (h : WDW v a ws) : AGW (RR0 ws) (a 20) 0 (v 23) := fun j h1 h2 => (h.ag j h1 h2).symm
theorem IUX.no (hB : BX v a) (hs : SWT v a v2 a2 t f1) (hf : f1 ≠ 1) (e : f = 0) (e20 : a3 20 = a2 20) : IUX v a a3 t f := ⟨e20.trans hs.1, fun ws _ hw _ => ⟨fun q => by omega, fun q => by
  obtain ⟨cs, q1, _⟩ := q
  rw [← hw.1] at q1
  exact absurd ⟨cs, SWC_w hw.ag2 (fun i => (hB.2 12 i).1) q1⟩ (hs.2.2 hf)⟩⟩
theorem IU1.init (hs : SWT v a v1 a1 t f1) (hf : f1 = 1) (h50 : v2 50 = 0) (h25 : v2 25 = v1 25) (h24 : a2 24 = a1 24) : IU1 v a v2 a2 t 0 := by
  obtain ⟨cs, c1, c2⟩ := hs.2.1 hf
  refine ⟨cs, c1, ⟨h25.trans c2.1, fun j d e => by rw [h24]; exact c2.2 j d e⟩, h50, fun j x e => ?_⟩
  simp at e
theorem take_s {l : List Int} {n : Nat} {y : Int} (e : l[n]? = some y) : l.take (n + 1) = l.take n ++ [y] := by
  rw [List.take_succ, e]
  rfl
theorem IU1.step (h : IU1 v a v1 a1 t k) (hk : 0 ≤ k ∧ k < v1 25) (hx : x = a1 24 k.toNat) (h50 : v2 50 = v1 50 + 1) (h48 : a2 48 = va_up (a1 48) (v1 50).toNat x) (h25 : v2 25 = v1 25) (h24 : a2 24 = a1 24) : IU1 v a v2 a2 t (k + 1) := by
  obtain ⟨cs, c1, c2, c3⟩ := h
  have e := c2.1
  have lt : k.toNat < cs.length := by omega
  have g := List.getElem?_eq_getElem lt
  have g2 := c2.2 _ _ g
  refine ⟨cs, c1, ⟨h25.trans c2.1, fun j d e => by rw [h24]; exact c2.2 j d e⟩, ?_⟩
  rw [show (k + 1).toNat = k.toNat + 1 by omega, take_s g, ← g2, ← hx]
  exact c3.snoc h50 h48
theorem IU1.read (h : IU1 v a v1 a1 t k) (hk : v1 25 ≤ k) (hU : UCX a t) (hf : fr V A v a v1 a1) (hc : ([12, 13, 14, 15, 16, 17, 44, 45, 46, 47] : List Nat).all (fun k => !A.contains k) = true) (hx : RAX v1 a1 v2 a2 f) : ∃ cs, SWC a (a 20) (v 23) t cs ∧ ((f = 0 ∧ ∃ bs, RFN a (gat0 a t) (gat1 a t) (RR0 cs) bs ∧ OUTL v2 a2 bs) ∨ (f ≠ 0 ∧ (RWG a (gat0 a t) (gat1 a t) (RR0 cs) ∨ ROV a (gat0 a t) (gat1 a t) (RR0 cs) 4000))) := by
  obtain ⟨cs, c1, c2, c3⟩ := h
  have e := c2.1
  rw [List.take_of_length_le (by omega)] at c3
  have kk : ∀ j, ([12, 13, 14, 15, 16, 17, 44, 45, 46, 47] : List Nat).contains j = true → a1 j = a j := fun j hj => hf.2 j (by
    have w := List.all_eq_true.mp hc j (List.contains_iff_mem.mp hj)
    simpa using w)
  have e12 := kk 12 rfl
  have e13 := kk 13 rfl
  have e14 := kk 14 rfl
  have e15 := kk 15 rfl
  have e16 := kk 16 rfl
  have e17 := kk 17 rfl
  have e44 := kk 44 rfl
  have e45 := kk 45 rfl
  have e46 := kk 46 rfl
  have e47 := kk 47 rfl
  obtain ⟨⟨u1, u2⟩, ⟨u3, u4⟩, u5⟩ := hU
  have nz : ∀ l, NZL a l → NZL a1 l := fun l hl j d hd => by
    rw [rlen_cg e13 e16]
    exact ⟨(hl j d hd).1, fun k c1 c2 => by rw [dcl_cg e15 e17]; exact (hl j d hd).2 k c1 c2⟩
  have rac : RAC v1 a1 (gat0 a t) (gat1 a t) (RR0 cs) := by
    refine ⟨⟨(u1.fr e44 e45 e46 (by rw [e47])).cg e13 e16, (u2.fr e44 e45 e46 (by rw [e47])).cg e13 e16⟩, ⟨nz _ u3, nz _ u4⟩, u5, fun j => ⟨fun hj => ?_, fun hj => ?_⟩⟩
    · have e2 := c3.1
      have lt : j < cs.length := by omega
      have g := List.getElem?_eq_getElem lt
      rw [RR0_at g, c3.2 j _ g]
    · have e2 := c3.1
      unfold RR0
      rw [List.getElem?_eq_none (by omega)]
      rfl
  refine ⟨cs, c1, ?_⟩
  rcases hx _ _ _ rac with ⟨z0, bs, w1, w2⟩ | ⟨z0, w1 | w1⟩
  · exact Or.inl ⟨z0, bs, RFN_cg e12 e13 e14 e15 e16 e17 w1, w2⟩
  · exact Or.inr ⟨z0, Or.inl (RWG_cg e12 e13 e14 e15 e16 e17 w1)⟩
  · exact Or.inr ⟨z0, Or.inr (ROV_cg e12 e13 e14 e15 e16 e17 w1)⟩
theorem IU1.yes (hB : BX v a) (h : IU1 v a v1 a1 t k) (hk : v1 25 ≤ k) (hf : fr V A v a v1 a1) (hc : ([12, 13, 14, 15, 16, 17, 44, 45, 46, 47] : List Nat).all (fun k => !A.contains k) = true) (hx : RAX v1 a1 v2 a2 z) (hd : z ≠ 0 ∨ v2 52 ≠ v 23) (e : f = 1) (e20 : a3 20 = a 20) : IUX v a a3 t f := ⟨e20, fun ws hU hw hl => ⟨fun _ => by
  obtain ⟨cs, c1, c2⟩ := h.read hk hU hf hc hx
  refine ⟨cs, ?_, fun hr => ?_⟩
  · rw [← hw.1]
    exact SWC_w hw.ag (fun i => (hB.2 12 i).1) c1
  · have e1 := hw.1
    rcases c2 with ⟨z0, bs, w1, w2⟩ | ⟨_, w1 | w1⟩
    · have w3 := RFN.uni hU.2.1.1 hU.2.1.2 w1 hr
      subst w3
      have w4 := w2.1
      omega
    · exact (RFN.nw hU.2.1.1 hU.2.1.2 hr w1).elim
    · have w3 := RFN.ov hU.2.1.1 hU.2.1.2 hr w1
      omega, fun _ => e⟩⟩
theorem IU1.two (h : IU1 v a v1 a1 t k) (hk : v1 25 ≤ k) (hf : fr V A v a v1 a1) (hc : ([12, 13, 14, 15, 16, 17, 44, 45, 46, 47] : List Nat).all (fun k => !A.contains k) = true) (hx : RAX v1 a1 v2 a2 z) (hd : z = 0) : IU2 v a v2 a2 t 0 := by
  obtain ⟨cs, c1, c2, c3⟩ := h
  by_cases hU : UCX a t
  · obtain ⟨ds, d1, d2⟩ := IU1.read ⟨cs, c1, c2, c3⟩ hk hU hf hc hx
    refine ⟨ds, d1, fun _ => ?_, fun j hj => absurd hj (by omega)⟩
    rcases d2 with ⟨_, w⟩ | ⟨w, _⟩
    · exact w
    · exact absurd hd w
  · exact ⟨cs, c1, fun q => absurd q hU, fun j hj => absurd hj (by omega)⟩
theorem IU2.step (h : IU2 v a v1 a1 t k) (hk : 0 ≤ k) (e : a1 51 k.toNat = a 20 k.toNat) : IU2 v a v1 a1 t (k + 1) := by
  obtain ⟨cs, c1, c2, c3⟩ := h
  refine ⟨cs, c1, c2, fun j hj => ?_⟩
  by_cases q : j = k.toNat
  · rw [q]; exact e
  · exact c3 j (by omega)
theorem IU2.bad (hB : BX v a) (h : IU2 v a v1 a1 t k) (hk : 0 ≤ k ∧ k < v1 52) (ne : ¬ a1 51 k.toNat = a 20 k.toNat) (e : f = 1) (e20 : a3 20 = a 20) : IUX v a a3 t f := ⟨e20, fun ws hU hw hl => ⟨fun _ => by
  obtain ⟨cs, c1, c2, c3⟩ := h
  obtain ⟨bs, b1, b2⟩ := c2 hU
  refine ⟨cs, ?_, fun hr => ?_⟩
  · rw [← hw.1]
    exact SWC_w hw.ag (fun i => (hB.2 12 i).1) c1
  · have w3 := RFN.uni hU.2.1.1 hU.2.1.2 b1 hr
    subst w3
    have e2 := b2.1
    have lt : k.toNat < bs.length := by omega
    have g := List.getElem?_eq_getElem lt
    exact ne ((b2.2 _ _ g).trans (hw.2 _ _ g).symm), fun _ => e⟩⟩
theorem IU2.same (hB : BX v a) (hT : TBL v a) (ht : 0 ≤ t ∧ t < v 4) (h : IU2 v a v1 a1 t k) (h52 : v1 52 = v 23) (hk : v1 52 ≤ k) (e : f = 0) (e20 : a3 20 = a 20) : IUX v a a3 t f := ⟨e20, fun ws hU hw hl => ⟨fun q => by omega, fun q => by
  obtain ⟨cs, c1, c2, c3⟩ := h
  obtain ⟨bs, b1, b2⟩ := c2 hU
  obtain ⟨ds, d1, d2⟩ := q
  have ew := hw.1
  have eb := b2.1
  have same : bs = ws := by
    apply List.ext_getElem?
    intro j
    by_cases lt : j < ws.length
    · have lt2 : j < bs.length := by omega
      have g1 := List.getElem?_eq_getElem lt
      have g2 := List.getElem?_eq_getElem lt2
      rw [g1, g2]
      have w1 := b2.2 _ _ g2
      have w2 := hw.2 _ _ g1
      have w3 := c3 j (by omega)
      rw [← w1, ← w2, w3]
    · rw [List.getElem?_eq_none (by omega), List.getElem?_eq_none (by omega)]
  subst same
  rw [← hw.1] at d1
  have e3 := SWC.uni hT ht (SWC_w hw.ag2 (fun i => (hB.2 12 i).1) d1) c1
  subst e3
  exact absurd b1 d2⟩⟩
end UBCK
