def rol (d : Int) : Int := if 0 ≤ d then 4 else (-1 - d) % 4
def SMR (a : Nat → Nat → Int) (d : Int) : Prop := 0 ≤ d ∧ 97 ≤ a 14 (8 * d).toNat ∧ a 14 (8 * d).toNat ≤ 122
def rlt (a : Nat → Nat → Int) (d h : Int) : Nat → List Int
  | 0 => []
  | n + 1 => rlt a d h n ++ [a 14 (8 * d + ((n : Nat) : Int)).toNat - (if h = 1 ∧ n = 0 then 32 else 0)]
def rout (a : Nat → Nat → Int) (d h : Int) : List Int := if 0 ≤ d then rlt a d h (a 12 d.toNat).toNat else if rol d = 2 then [60] else if rol d = 3 then [62] else []
def ngp (d g : Int) : Int := if rol d = 2 then 1 else if rol d = 3 then 0 else g
def ngh (d : Int) : Int := if rol d = 0 then 1 else 0
def STD (a : Nat → Nat → Int) (R : Nat → Int) (p d : Int) : Prop := ∀ k : Int, 0 ≤ k → k < rlen a d → dcl a d k = R (p + k).toNat
def BSI (a : Nat → Nat → Int) (R : Nat → Int) (p : Int) (l : List Int) (k x : Int) : Prop := (x = -1 ∧ ∀ (j : Nat) (d : Int), ((j : Nat) : Int) < k → l[j]? = some d → ¬ STD a R p d) ∨ ((0 ≤ x ∧ x < k) ∧ ∃ d, l[x.toNat]? = some d ∧ STD a R p d ∧ ∀ (j : Nat) (e : Int), ((j : Nat) : Int) < k → l[j]? = some e → STD a R p e → rlen a e ≤ rlen a d ∧ (rlen a e = rlen a d → x ≤ ((j : Nat) : Int)))
def BSQ (a : Nat → Nat → Int) (R : Nat → Int) (p : Int) (l : List Int) (o : Option Int) : Prop := ∃ x, BSI a R p l ((l.length : Nat) : Int) x ∧ ((x = -1 ∧ o = none) ∨ (0 ≤ x ∧ o = l[x.toNat]?))
def NZL (a : Nat → Nat → Int) (l : List Int) : Prop := ∀ (j : Nat) (d : Int), l[j]? = some d → (1 ≤ rlen a d ∧ rlen a d ≤ 4) ∧ ∀ k : Int, 0 ≤ k → k < rlen a d → dcl a d k ≠ 0
def mst (a : Nat → Nat → Int) (l0 l1 : List Int) (R : Nat → Int) (s s2 : Int × Int × Int × Int × Int) (o : List Int) : Prop := (s.2.2.2.2 = 0 ∧ R s.1.toNat = 0 ∧ s2 = (s.1 + 1, 0, 0, s.2.2.2.1, 0) ∧ o = []) ∨ (s.2.2.2.2 = 0 ∧ R s.1.toNat ≠ 0 ∧ s2 = (s.1, 0, 0, 1, 1) ∧ o = if s.2.2.2.1 = 1 then [32] else []) ∨ (s.2.2.2.2 = 1 ∧ R s.1.toNat ≠ 0 ∧ ∃ d, BSQ a R s.1 (if s.2.1 = 0 then l0 else l1) (some d) ∧ (s.2.2.1 = 1 → SMR a d) ∧ s2 = (s.1 + rlen a d, ngp d s.2.1, ngh d, s.2.2.2.1, 1) ∧ o = rout a d s.2.2.1) ∨ (s.2.2.2.2 = 1 ∧ R s.1.toNat = 0 ∧ s.2.2.1 ≠ 1 ∧ s2 = (s.1, 0, 0, s.2.2.2.1, 0) ∧ o = [])
def mrn (a : Nat → Nat → Int) (l0 l1 : List Int) (R : Nat → Int) : Nat → Int × Int × Int × Int × Int → Int × Int × Int × Int × Int → List Int → Prop
  | 0, s, s2, o => s = s2 ∧ o = []
  | k + 1, s, s2, o => ∃ s1 o1 o2, mst a l0 l1 R s s1 o1 ∧ mrn a l0 l1 R k s1 s2 o2 ∧ o = o1 ++ o2
def MSB (a : Nat → Nat → Int) (l0 l1 : List Int) (R : Nat → Int) (s : Int × Int × Int × Int × Int) : Prop := s.2.2.2.2 = 1 ∧ ((R s.1.toNat ≠ 0 ∧ (BSQ a R s.1 (if s.2.1 = 0 then l0 else l1) none ∨ (s.2.2.1 = 1 ∧ ∃ d, BSQ a R s.1 (if s.2.1 = 0 then l0 else l1) (some d) ∧ ¬ SMR a d))) ∨ (R s.1.toNat = 0 ∧ s.2.2.1 = 1))
def MFN (R : Nat → Int) (s : Int × Int × Int × Int × Int) : Prop := s.2.2.2.2 = 0 ∧ ∀ j : Nat, s.1.toNat ≤ j → R j = 0
def MRC (a : Nat → Nat → Int) (l0 l1 : List Int) (R : Nat → Int) (s : Int × Int × Int × Int × Int) (bs : List Int) : Prop := ∃ k, mrn a l0 l1 R k (0, 0, 0, 0, 0) s bs
def RFN (a : Nat → Nat → Int) (l0 l1 : List Int) (R : Nat → Int) (bs : List Int) : Prop := ∃ s, MRC a l0 l1 R s bs ∧ MFN R s
def RWG (a : Nat → Nat → Int) (l0 l1 : List Int) (R : Nat → Int) : Prop := ∃ s bs, MRC a l0 l1 R s bs ∧ MSB a l0 l1 R s
def ROV (a : Nat → Nat → Int) (l0 l1 : List Int) (R : Nat → Int) (m : Nat) : Prop := ∃ s bs, MRC a l0 l1 R s bs ∧ m < bs.length
def RDA (a : Nat → Nat → Int) (l0 l1 : List Int) (R : Nat → Int) (f : Int) (bs : List Int) : Prop := (RFN a l0 l1 R bs ∧ bs.length ≤ 4000 ∧ f = ((bs.length : Nat) : Int)) ∨ ((RWG a l0 l1 R ∨ ROV a l0 l1 R 4000) ∧ f = -1 ∧ bs = [])
section RSEM
variable {a a1 a2 : Nat → Nat → Int} {l l0 l1 : List Int} {R R1 : Nat → Int} {s s1 s2 : Int × Int × Int × Int × Int} {o o1 o2 bs b1 b2 : List Int} {p q k x y d e g h f f1 f2 : Int} {m n : Nat} {c c1 c2 : Option Int}
theorem BSI.uni (h1 : BSI a R p l k x) (h2 : BSI a R p l k y) : x = y := by
  rcases h1 with ⟨e1, g1⟩ | ⟨⟨e1, e2⟩, d, g1, g2, g3⟩ <;> rcases h2 with ⟨e3, g4⟩ | ⟨⟨e3, e4⟩, e, g4, g5, g6⟩
  · omega
  · exact absurd g5 (g1 y.toNat e (by omega) g4)
  · exact absurd g2 (g4 x.toNat d (by omega) g1)
  · have q1 := g3 y.toNat e (by omega) g4 g5
    have q2 := g6 x.toNat d (by omega) g1 g2
    have q3 := q1.2 (by omega)
    have q4 := q2.2 (by omega)
    omega
theorem BSQ.uni (h1 : BSQ a R p l c1) (h2 : BSQ a R p l c2) : c1 = c2 := by
  obtain ⟨x, g1, g2⟩ := h1
  obtain ⟨y, g3, g4⟩ := h2
  have e := BSI.uni g1 g3
  subst e
  rcases g2 with ⟨q1, q2⟩ | ⟨q1, q2⟩ <;> rcases g4 with ⟨q3, q4⟩ | ⟨q3, q4⟩
  · rw [q2, q4]
  · omega
  · omega
  · rw [q2, q4]
theorem BSI.zero : BSI a R p l 0 (-1) := Or.inl ⟨rfl, fun j d hj => absurd hj (by omega)⟩
theorem BSI.skip (h : BSI a R p l k x) (hk : 0 ≤ k) (hd : l[k.toNat]? = some d) (hn : ¬ STD a R p d) : BSI a R p l (k + 1) x := by
  rcases h with ⟨e1, g1⟩ | ⟨e1, e, g1, g2, g3⟩
  · refine Or.inl ⟨e1, fun j e hj he => ?_⟩
    by_cases q : ((j : Nat) : Int) < k
    · exact g1 j e q he
    · rw [show j = k.toNat by omega, hd] at he
      cases he
      exact hn
  · refine Or.inr ⟨⟨e1.1, by omega⟩, e, g1, g2, fun j e2 hj he hs => ?_⟩
    by_cases q : ((j : Nat) : Int) < k
    · exact g3 j e2 q he hs
    · rw [show j = k.toNat by omega, hd] at he
      cases he
      exact absurd hs hn
theorem BSI.less (h : BSI a R p l k x) (hk : 0 ≤ k) (hd : l[k.toNat]? = some d) (hx : 0 ≤ x) (he : l[x.toNat]? = some e) (hn : rlen a d ≤ rlen a e) : BSI a R p l (k + 1) x := by
  rcases h with ⟨e1, g1⟩ | ⟨e1, e3, g1, g2, g3⟩
  · omega
  · rw [he] at g1
    cases g1
    refine Or.inr ⟨⟨e1.1, by omega⟩, e, he, g2, fun j e2 hj he2 hs => ?_⟩
    by_cases q : ((j : Nat) : Int) < k
    · exact g3 j e2 q he2 hs
    · rw [show j = k.toNat by omega, hd] at he2
      cases he2
      exact ⟨hn, fun _ => by omega⟩
theorem BSI.take (h : BSI a R p l k x) (hk : 0 ≤ k) (hd : l[k.toNat]? = some d) (hs : STD a R p d) (hx : x = -1 ∨ ∃ e, l[x.toNat]? = some e ∧ rlen a e < rlen a d) : BSI a R p l (k + 1) k := by
  refine Or.inr ⟨⟨hk, by omega⟩, d, hd, hs, fun j e2 hj he2 hs2 => ?_⟩
  by_cases q : ((j : Nat) : Int) < k
  · rcases h with ⟨e1, g1⟩ | ⟨e1, e3, g1, g2, g3⟩
    · exact absurd hs2 (g1 j e2 q he2)
    · rcases hx with hx | ⟨e, hx1, hx2⟩
      · omega
      · rw [hx1] at g1
        cases g1
        have q2 := (g3 j e2 q he2 hs2).1
        exact ⟨by omega, fun q3 => by omega⟩
  · rw [show j = k.toNat by omega, hd] at he2
    cases he2
    exact ⟨Int.le_refl _, fun _ => by omega⟩
theorem BSI.some (h : BSI a R p l ((l.length : Nat) : Int) x) (hx : 0 ≤ x) (hd : l[x.toNat]? = some d) : BSQ a R p l (some d) := ⟨x, h, Or.inr ⟨hx, hd.symm⟩⟩
theorem BSI.none (h : BSI a R p l ((l.length : Nat) : Int) x) (hx : x < 0) : BSQ a R p l none := by
  refine ⟨x, h, Or.inl ⟨?_, rfl⟩⟩
  rcases h with ⟨e1, _⟩ | ⟨e1, _⟩ <;> omega
theorem BSQ.mem (h : BSQ a R p l (some d)) : ∃ j : Nat, l[j]? = some d ∧ STD a R p d := by
  obtain ⟨x, g1, g2⟩ := h
  rcases g2 with ⟨_, q⟩ | ⟨q1, q2⟩
  · cases q
  · rcases g1 with ⟨e1, _⟩ | ⟨_, e, g3, g4, _⟩
    · omega
    · rw [g3] at q2
      cases q2
      exact ⟨x.toNat, g3, g4⟩
theorem mst.uni (h1 : mst a l0 l1 R s s1 o1) (h2 : mst a l0 l1 R s s2 o2) : s1 = s2 ∧ o1 = o2 := by
  rcases h1 with ⟨p1, p2, p3, p4⟩ | ⟨p1, p2, p3, p4⟩ | ⟨p1, p2, d, p3, p4, p5, p6⟩ | ⟨p1, p2, p3, p4, p5⟩ <;> rcases h2 with ⟨q1, q2, q3, q4⟩ | ⟨q1, q2, q3, q4⟩ | ⟨q1, q2, e, q3, q4, q5, q6⟩ | ⟨q1, q2, q3, q4, q5⟩
  · exact ⟨p3.trans q3.symm, p4.trans q4.symm⟩
  · exact absurd p2 q2
  · omega
  · omega
  · exact absurd q2 p2
  · exact ⟨p3.trans q3.symm, p4.trans q4.symm⟩
  · omega
  · omega
  · omega
  · omega
  · have e2 := BSQ.uni p3 q3
    cases e2
    exact ⟨p5.trans q5.symm, p6.trans q6.symm⟩
  · exact absurd q2 p2
  · omega
  · omega
  · exact absurd p2 q2
  · exact ⟨p4.trans q4.symm, p5.trans q5.symm⟩
theorem mrn.snoc : ∀ {k : Nat} {s s1 s2 : Int × Int × Int × Int × Int} {o o1 : List Int}, mrn a l0 l1 R k s s1 o → mst a l0 l1 R s1 s2 o1 → mrn a l0 l1 R (k + 1) s s2 (o ++ o1) := by
  intro k
  induction k with
  | zero =>
    intro s s1 s2 o o1 h1 h2
    obtain ⟨e1, e2⟩ := h1
    subst e1
    subst e2
    exact ⟨s2, o1, [], h2, ⟨rfl, rfl⟩, by simp⟩
  | succ k ih =>
    intro s s1 s2 o o1 h1 h2
    obtain ⟨t, o3, o4, g1, g2, g3⟩ := h1
    refine ⟨t, o3, o4 ++ o1, g1, ih g2 h2, ?_⟩
    rw [g3, List.append_assoc]
theorem mrn.cut : ∀ {k : Nat} {s s1 s2 : Int × Int × Int × Int × Int} {o1 o2 : List Int} {m : Nat}, mrn a l0 l1 R k s s1 o1 → mrn a l0 l1 R (k + m) s s2 o2 → ∃ r, mrn a l0 l1 R m s1 s2 r ∧ o2 = o1 ++ r := by
  intro k
  induction k with
  | zero =>
    intro s s1 s2 o1 o2 m h1 h2
    obtain ⟨e1, e2⟩ := h1
    subst e1
    subst e2
    rw [Nat.zero_add] at h2
    exact ⟨o2, h2, rfl⟩
  | succ k ih =>
    intro s s1 s2 o1 o2 m h1 h2
    rw [show k + 1 + m = (k + m) + 1 by omega] at h2
    obtain ⟨t, o3, o4, g1, g2, g3⟩ := h1
    obtain ⟨u, o5, o6, g4, g5, g6⟩ := h2
    obtain ⟨e1, e2⟩ := mst.uni g1 g4
    subst e1
    subst e2
    obtain ⟨r, r1, r2⟩ := ih g2 g5
    refine ⟨r, r1, ?_⟩
    rw [g6, g3, r2, List.append_assoc]
theorem MFN.step (h1 : MFN R s) (h2 : mst a l0 l1 R s s2 o) (h0 : 0 ≤ s.1) : MFN R s2 ∧ o = [] ∧ 0 ≤ s2.1 := by
  obtain ⟨w1, w2⟩ := h1
  rcases h2 with ⟨p1, p2, p3, p4⟩ | ⟨p1, p2, p3, p4⟩ | ⟨p1, p2, d, p3, p4, p5, p6⟩ | ⟨p1, p2, p3, p4, p5⟩
  · subst p3
    exact ⟨⟨rfl, fun j hj => w2 j (by have q : (s.1 + 1).toNat ≤ j := hj; omega)⟩, p4, by show 0 ≤ s.1 + 1; omega⟩
  · exact absurd (w2 _ (Nat.le_refl _)) p2
  · omega
  · omega
theorem MFN.run : ∀ {k : Nat} {s s2 : Int × Int × Int × Int × Int} {o : List Int}, MFN R s → 0 ≤ s.1 → mrn a l0 l1 R k s s2 o → MFN R s2 ∧ o = [] := by
  intro k
  induction k with
  | zero =>
    intro s s2 o h1 _ h2
    obtain ⟨e1, e2⟩ := h2
    subst e1
    exact ⟨h1, e2⟩
  | succ k ih =>
    intro s s2 o h1 h0 h2
    obtain ⟨t, o3, o4, g1, g2, g3⟩ := h2
    obtain ⟨q1, q2, q3⟩ := MFN.step h1 g1 h0
    obtain ⟨q4, q5⟩ := ih q1 q3 g2
    exact ⟨q4, by rw [g3, q2, q5]; rfl⟩
theorem MSB.no (h1 : MSB a l0 l1 R s) (h2 : mst a l0 l1 R s s2 o) : False := by
  obtain ⟨w1, w2⟩ := h1
  rcases h2 with ⟨p1, p2, p3, p4⟩ | ⟨p1, p2, p3, p4⟩ | ⟨p1, p2, d, p3, p4, p5, p6⟩ | ⟨p1, p2, p3, p4, p5⟩
  · omega
  · omega
  · rcases w2 with ⟨_, w2 | ⟨w2, e, w3, w4⟩⟩ | ⟨w2, _⟩
    · have q := BSQ.uni w2 p3
      cases q
    · have q := BSQ.uni w3 p3
      cases q
      exact w4 (p4 w2)
    · exact p2 w2
  · rcases w2 with ⟨w2, _⟩ | ⟨_, w3⟩
    · exact w2 p2
    · exact p3 w3
theorem rlen_nn (h : NZL a l) (hd : l[n]? = some d) : 0 ≤ rlen a d := by
  have := (h n d hd).1
  omega
theorem mrn.nn (hz0 : NZL a l0) (hz1 : NZL a l1) : ∀ {k : Nat} {s s2 : Int × Int × Int × Int × Int} {o : List Int}, 0 ≤ s.1 → mrn a l0 l1 R k s s2 o → 0 ≤ s2.1 := by
  intro k
  induction k with
  | zero =>
    intro s s2 o h0 h2
    obtain ⟨e1, e2⟩ := h2
    subst e1
    exact h0
  | succ k ih =>
    intro s s2 o h0 h2
    obtain ⟨t, o3, o4, g1, g2, g3⟩ := h2
    refine ih ?_ g2
    rcases g1 with ⟨p1, p2, p3, p4⟩ | ⟨p1, p2, p3, p4⟩ | ⟨p1, p2, d, p3, p4, p5, p6⟩ | ⟨p1, p2, p3, p4, p5⟩
    · subst p3
      show 0 ≤ s.1 + 1
      omega
    · subst p3
      exact h0
    · subst p5
      obtain ⟨j, q1, _⟩ := BSQ.mem p3
      have q2 : 0 ≤ rlen a d := by
        by_cases c : s.2.1 = 0
        · rw [if_pos c] at q1
          exact rlen_nn hz0 q1
        · rw [if_neg c] at q1
          exact rlen_nn hz1 q1
      show 0 ≤ s.1 + rlen a d
      omega
    · subst p4
      exact h0
theorem RFN.uni (hz0 : NZL a l0) (hz1 : NZL a l1) (h1 : RFN a l0 l1 R b1) (h2 : RFN a l0 l1 R b2) : b1 = b2 := by
  obtain ⟨s, ⟨k, g1⟩, g2⟩ := h1
  obtain ⟨t, ⟨m, g3⟩, g4⟩ := h2
  have n1 := mrn.nn hz0 hz1 (Int.le_refl 0) g1
  have n2 := mrn.nn hz0 hz1 (Int.le_refl 0) g3
  by_cases c : k ≤ m
  · rw [show m = k + (m - k) by omega] at g3
    obtain ⟨r, r1, r2⟩ := mrn.cut g1 g3
    rw [(MFN.run g2 n1 r1).2] at r2
    rw [r2, List.append_nil]
  · rw [show k = m + (k - m) by omega] at g1
    obtain ⟨r, r1, r2⟩ := mrn.cut g3 g1
    rw [(MFN.run g4 n2 r1).2] at r2
    rw [r2, List.append_nil]
theorem RFN.nw (hz0 : NZL a l0) (hz1 : NZL a l1) (h1 : RFN a l0 l1 R b1) (h2 : RWG a l0 l1 R) : False := by
  obtain ⟨s, ⟨k, g1⟩, g2⟩ := h1
  obtain ⟨t, bs, ⟨m, g3⟩, g4⟩ := h2
  have n1 := mrn.nn hz0 hz1 (Int.le_refl 0) g1
  by_cases c : k ≤ m
  · rw [show m = k + (m - k) by omega] at g3
    obtain ⟨r, r1, r2⟩ := mrn.cut g1 g3
    have w := (MFN.run g2 n1 r1).1.1
    have w2 := g4.1
    omega
  · rw [show k = m + ((k - m - 1) + 1) by omega] at g1
    obtain ⟨r, r1, r2⟩ := mrn.cut g3 g1
    obtain ⟨u, o3, o4, q1, _, _⟩ := r1
    exact MSB.no g4 q1
theorem RFN.ov (hz0 : NZL a l0) (hz1 : NZL a l1) (h1 : RFN a l0 l1 R b1) (h2 : ROV a l0 l1 R n) : n < b1.length := by
  obtain ⟨s, ⟨k, g1⟩, g2⟩ := h1
  obtain ⟨t, bs, ⟨m, g3⟩, g4⟩ := h2
  have n1 := mrn.nn hz0 hz1 (Int.le_refl 0) g1
  by_cases c : k ≤ m
  · rw [show m = k + (m - k) by omega] at g3
    obtain ⟨r, r1, r2⟩ := mrn.cut g1 g3
    rw [(MFN.run g2 n1 r1).2, List.append_nil] at r2
    rw [← r2]
    exact g4
  · rw [show k = m + (k - m) by omega] at g1
    obtain ⟨r, r1, r2⟩ := mrn.cut g3 g1
    rw [r2, List.length_append]
    omega
theorem RDA.uni (hz0 : NZL a l0) (hz1 : NZL a l1) (h1 : RDA a l0 l1 R f1 b1) (h2 : RDA a l0 l1 R f2 b2) : f1 = f2 ∧ b1 = b2 := by
  rcases h1 with ⟨p1, p2, p3⟩ | ⟨p1, p2, p3⟩ <;> rcases h2 with ⟨q1, q2, q3⟩ | ⟨q1, q2, q3⟩
  · have e := RFN.uni hz0 hz1 p1 q1
    subst e
    exact ⟨p3.trans q3.symm, rfl⟩
  · rcases q1 with q1 | q1
    · exact (RFN.nw hz0 hz1 p1 q1).elim
    · have w := RFN.ov hz0 hz1 p1 q1
      omega
  · rcases p1 with p1 | p1
    · exact (RFN.nw hz0 hz1 q1 p1).elim
    · have w := RFN.ov hz0 hz1 q1 p1
      omega
  · exact ⟨p2.trans q2.symm, p3.trans q3.symm⟩
theorem MRC.zero : MRC a l0 l1 R (0, 0, 0, 0, 0) [] := ⟨0, rfl, rfl⟩
theorem MRC.step (h : MRC a l0 l1 R s o) (h2 : mst a l0 l1 R s s2 o1) : MRC a l0 l1 R s2 (o ++ o1) := by
  obtain ⟨k, g⟩ := h
  exact ⟨k + 1, g.snoc h2⟩
theorem MRC.word (h : MRC a l0 l1 R (p, 0, 0, x, 0) o) (hp : R p.toNat ≠ 0) (ho : o2 = o ++ (if x = 1 then [32] else [])) : MRC a l0 l1 R (p, 0, 0, 1, 1) o2 := by
  rw [ho]
  exact h.step (Or.inr (Or.inl ⟨rfl, hp, rfl, rfl⟩))
theorem MRC.row (h : MRC a l0 l1 R (p, g, q, 1, 1) o) (hp : R p.toNat ≠ 0) (hb : BSQ a R p (if g = 0 then l0 else l1) (some d)) (hs : q = 1 → SMR a d) : MRC a l0 l1 R (p + rlen a d, ngp d g, ngh d, 1, 1) (o ++ rout a d q) := h.step (Or.inr (Or.inr (Or.inl ⟨rfl, hp, d, hb, hs, rfl, rfl⟩)))
theorem MRC.wend (h : MRC a l0 l1 R (p, g, q, 1, 1) o) (hp : R p.toNat = 0) (hq : q ≠ 1) : MRC a l0 l1 R (p, 0, 0, 1, 0) o := by
  have w := h.step (Or.inr (Or.inr (Or.inr ⟨rfl, hp, hq, rfl, rfl⟩)))
  rw [List.append_nil] at w
  exact w
theorem MRC.no (h : MRC a l0 l1 R (p, g, q, 1, 1) o) (hp : R p.toNat ≠ 0) (hb : BSQ a R p (if g = 0 then l0 else l1) none) : RWG a l0 l1 R := ⟨_, o, h, rfl, Or.inl ⟨hp, Or.inl hb⟩⟩
theorem MRC.ns (h : MRC a l0 l1 R (p, g, q, 1, 1) o) (hp : R p.toNat ≠ 0) (hb : BSQ a R p (if g = 0 then l0 else l1) (some d)) (hq : q = 1) (hs : ¬ SMR a d) : RWG a l0 l1 R := ⟨_, o, h, rfl, Or.inl ⟨hp, Or.inr ⟨hq, d, hb, hs⟩⟩⟩
theorem MRC.ge (h : MRC a l0 l1 R (p, g, q, 1, 1) o) (hp : R p.toNat = 0) (hq : q = 1) : RWG a l0 l1 R := ⟨_, o, h, rfl, Or.inr ⟨hp, hq⟩⟩
theorem MRC.fin (h : MRC a l0 l1 R (p, 0, 0, x, 0) o) (hp : ∀ j : Nat, p.toNat ≤ j → R j = 0) : RFN a l0 l1 R o := ⟨_, h, rfl, hp⟩
theorem MRC.ov (h : MRC a l0 l1 R s o) (hn : n < o.length) : ROV a l0 l1 R n := ⟨s, o, h, hn⟩
end RSEM
