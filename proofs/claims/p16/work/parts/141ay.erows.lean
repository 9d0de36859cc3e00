def PSR (T : Nat → Int) (N : Int) (a : Nat → Nat → Int) (t wd hy : Int) (iv : Nat → Nat → Int) (rv : Nat → Nat → Option Nat) (s c : Nat) : Prop := ∃ m es D b, RNE T N m (iv c 0) es ∧ drs a t wd hy es D b ∧ DRP iv rv s D ∧ ((m = 0 ∧ iv c 1 = 0) ∨ ((m = 1 ∨ m = 2) ∧ iv c 1 ≠ 0 ∧ iv c 2 = m - 1 ∧ iv s 2 = ((b : Nat) : Int) ∧ b < D.length))
def PSV (T : Nat → Int) (N : Int) (a : Nat → Nat → Int) (t wd hy : Int) (iv : Nat → Nat → Int) (rv : Nat → Nat → Option Nat) (s c u : Nat) (cm : Int) : Prop := ∃ m es D b, drs a t wd hy es D b ∧ DRP iv rv s D ∧ ((cm = 0 ∧ RNE T N 0 (iv c 0) es ∧ N ≤ iv c 0) ∨ (cm = 1 ∧ RNE T N m (iv c 0) ((1, []) :: es) ∧ (m = 1 ∨ m = 2) ∧ iv c 1 ≠ 0 ∧ iv c 2 = m - 1) ∨ (cm = 2 ∧ (∃ w, RNE T N m (iv c 0) ((2, w) :: es) ∧ PWH iv rv u w) ∧ (m = 1 ∨ m = 2) ∧ iv c 1 ≠ 0 ∧ iv c 2 = m - 1 ∧ iv s 2 = ((b : Nat) : Int) ∧ b < D.length) ∨ (cm = 3 ∧ RNE T N 0 (iv c 0) ((if m = 2 then 4 else 3, []) :: es) ∧ (m = 1 ∨ m = 2) ∧ iv c 1 = 0 ∧ iv c 2 = m - 1 ∧ iv s 2 = ((b : Nat) : Int)))
def PHY (sk ln : Nat → Nat) (iv : Nat → Nat → Int) (rv : Nat → Nat → Option Nat) (sA sB : Nat) (wd hy : Int) (v : Nat → Int) (a : Nat → Nat → Int) : Prop := TRL sk ln iv rv v a ∧ (∀ i, a 10 i ≤ 200) ∧ (iv (sk 3) 2 = v 30 ∧ CT iv rv (sk 3) (a 29)) ∧ (wd = v 31 ∧ hy = v 33) ∧ LNK rv sB sA
def PSL (sk ln : Nat → Nat) (iv : Nat → Nat → Int) (rv : Nat → Nat → Option Nat) (iv1 : Nat → Nat → Int) (rv1 : Nat → Nat → Option Nat) (sA sB : Nat) (wd hy t wy cm : Int) : Prop := ∀ v a, PHY sk ln iv rv sA sB wd hy v a → SHK iv rv iv1 rv1 sB sA ∧ (wy = 0 → PSV (a 29) (v 30) a t wd hy iv1 rv1 sB (sk 14) (sk 15) cm) ∧ (wy ≠ 0 → BADV (a 29) (v 30) a t wd hy)
def PSQ (sk ln : Nat → Nat) (iv : Nat → Nat → Int) (rv : Nat → Nat → Option Nat) (iv1 : Nat → Nat → Int) (rv1 : Nat → Nat → Option Nat) (sA sB : Nat) (wd hy t wy ok : Int) : Prop := ∀ v a, PHY sk ln iv rv sA sB wd hy v a → SHK iv rv iv1 rv1 sB sA ∧ (wy = 0 → ok ≠ 0 → PSR (a 29) (v 30) a t wd hy iv1 rv1 sB (sk 14)) ∧ (wy ≠ 0 ∨ ok = 0 → BADV (a 29) (v 30) a t wd hy)
def PBX (iv : Nat → Nat → Int) (rv rv2 : Nat → Nat → Option Nat) (h0 : Nat) (f : Int) : Prop := ∀ sA sB, rv h0 9 = some sA → rv h0 10 = some sB → rv2 h0 9 = some sB ∧ rv2 h0 10 = some sA ∧ f = iv sB 1
def PSX (sk ln : Nat → Nat) (iv : Nat → Nat → Int) (rv : Nat → Nat → Option Nat) (iv2 : Nat → Nat → Int) (rv2 : Nat → Nat → Option Nat) (h0 : Nat) (wd hy t f : Int) : Prop := ∀ sA sB, rv h0 9 = some sA → rv h0 10 = some sB → ∀ v a, PHY sk ln iv rv sA sB wd hy v a → (SETN v a t f ∧ rv2 h0 9 = some sA ∧ rv2 h0 10 = some sB ∧ SHK iv rv iv2 rv2 sB sA) ∨ ∃ D, SETD v a t f D ∧ rv2 h0 9 = some sB ∧ rv2 h0 10 = some sA ∧ LNK rv2 sA sB ∧ DRP iv2 rv2 sB D
section EROW
variable {h : Nat} {sk : Nat → Nat} {L L1 L2 : List Nat} {cl ln cl1 ln1 cl2 ln2 : Nat → Nat} {iv iv0 iv1 iv2 iv3 : Nat → Nat → Int} {rv rv0 rv1 rv2 rv3 : Nat → Nat → Option Nat} {s s2 c u q tb sA sB h0 : Nat} {v : Nat → Int} {a : Nat → Nat → Int} {T : Nat → Int} {N t wd hy cm f f2 wy ok x kd : Int} {ls : List Nat}
theorem SHK.frm (hK : SHK iv rv iv1 rv1 s s2) (hW : WT h sk L1 cl1 ln1 iv1 rv1) (ts : ty L1 cl1 s 18) (ts2 : ty L1 cl1 s2 18) (hF : fT ls L1 cl1 iv1 rv1 iv2 rv2) (a18 : ls.contains 18 = false) (a19 : ls.contains 19 = false) (a64 : ls.contains 64 = false) (a67 : ls.contains 67 = false) : SHK iv rv iv2 rv2 s s2 := hK.trans ⟨hK.1.frm hW ts ts2 hF a18 a19 a67, SAM.frm hW ts2 hF a18 a19 a64 a67, funext fun j => hF.r ts a18 j⟩
theorem DRP.frm {D : List (List Int)} (hD : DRP iv rv s D) (hW : WT h sk L cl ln iv rv) (ts : ty L cl s 18) (hF : fT ls L cl iv rv iv2 rv2) (a18 : ls.contains 18 = false) (a19 : ls.contains 19 = false) (a64 : ls.contains 64 = false) (a67 : ls.contains 67 = false) : DRP iv2 rv2 s D := hD.sam (SAM.frm hW ts hF a18 a19 a64 a67)
theorem PSR.init (h1 : iv s 1 = 0) (c0 : iv c 0 = 0) (c1 : iv c 1 = 0) : PSR T N a t wd hy iv rv s c := ⟨0, [], [], 0, by rw [c0]; exact RNE.zero, ⟨rfl, rfl⟩, ⟨h1, fun l xs e => by simp at e⟩, Or.inl ⟨rfl, c1⟩⟩
theorem PSR.step (hR : PSR T N a t wd hy iv rv s c) (hW : WT h sk L cl ln iv rv) (ts : ty L cl s 18) (hF : fT [14, 15, 50, 51, 52] L cl iv rv iv2 rv) (st : STP iv rv iv2 q c u f) (hc : CT iv rv q T) (hN : iv q 2 = N) : PSV T N a t wd hy iv2 rv s c u f := by
  obtain ⟨m, es, D, b, h1, h2, h3, h4⟩ := hR
  refine hv2 (h3.frm hW ts hF rfl rfl rfl rfl) (show iv2 s 2 = iv s 2 from hF.i ts rfl 2) (fun h5 s2 => ?_)
  obtain ⟨g1, g2⟩ := st T hc
  rw [hN] at g1 g2
  rcases h4 with ⟨e0, e1⟩ | ⟨e0, e1, e2, e3, e4⟩
  · subst e0
    rcases g1 e1 with ⟨k1, k2, k3, k4⟩ | ⟨k1, k2, k3, k4⟩
    · exact ⟨0, es, D, b, h2, h5, Or.inl ⟨k2, by rw [k3]; exact h1, by rw [k3]; exact k1⟩⟩
    · rcases k4 with ⟨j1, j2, j3⟩ | ⟨j1, j2, j3⟩
      · exact ⟨2, es, D, b, h2, h5, Or.inr (Or.inl ⟨k2, h1.enter k1 (Or.inl ⟨j1, j2, rfl⟩), Or.inr rfl, by omega, by omega⟩)⟩
      · exact ⟨1, es, D, b, h2, h5, Or.inr (Or.inl ⟨k2, h1.enter k1 (Or.inr ⟨j1, j2, rfl⟩), Or.inl rfl, by omega, by omega⟩)⟩
  · obtain ⟨P, w, p0, p1, p2, p3⟩ := g2 e1
    rcases p3 with ⟨k1, k2, k3, k4, k5⟩ | ⟨k1, k2, k3, k4⟩
    · exact ⟨m, es, D, b, h2, h5, Or.inr (Or.inr (Or.inl ⟨k2, ⟨w, by rw [k3]; exact h1.word (by omega) p1 p0 k1, k5⟩, e0, by omega, by omega, by omega, e4⟩))⟩
    · exact ⟨m, es, D, b, h2, h5, Or.inr (Or.inr (Or.inr ⟨k2, by rw [k3]; exact h1.line (by omega) p1 p0 k1, e0, k4, by omega, by omega⟩))⟩
theorem PSV.begin (hV : PSV T N a t wd hy iv rv s c u cm) (hcm : cm = 1) (hT : TBL v a) (ht : 0 ≤ t ∧ t < v 4) (ts2 : ty L cl s2 18) (hK : LNK rv s s2) (hB : BTX L cl iv rv iv2 rv2 s f) (c0 : iv2 c 0 = iv c 0) (c1 : iv2 c 1 = iv c 1) (c2 : iv2 c 2 = iv c 2) : (f = 1 → PSR T N a t wd hy iv2 rv2 s c) ∧ (f ≠ 1 → BADV T N a t wd hy) := by
  obtain ⟨m, es, D, b, h2, h3, h4⟩ := hV
  rcases h4 with ⟨e, _⟩ | ⟨_, e1, e2, e3, e4⟩ | ⟨e, _⟩ | ⟨e, _⟩
  · omega
  · obtain ⟨k1, k2⟩ := (hB s2 ts2 hK).2 D h3
    refine ⟨fun e => ?_, fun e => ?_⟩
    · obtain ⟨j1, j2, j3⟩ := k1 e
      exact ⟨m, (1, []) :: es, D ++ [[]], D.length, by rw [c0]; exact e1, ⟨D, b, h2, Or.inl ⟨rfl, j1, rfl, rfl⟩⟩, j2, Or.inr ⟨e2, by omega, by omega, j3, by rw [len1]; omega⟩⟩
    · have j := k2 e
      refine ⟨m, _, _, e1, fun ⟨D2, b2, D0, b0, g1, g2⟩ => ?_⟩
      obtain ⟨q1, _⟩ := drs.uni hT ht es D0 D b0 b g1 h2
      subst q1
      rcases g2 with ⟨_, q2, _⟩ | ⟨q1, _⟩ | ⟨q1, _⟩ | ⟨q1, _⟩
      · omega
      · exact absurd q1 (by decide)
      · exact absurd q1 (by decide)
      · exact absurd q1 (by decide)
  · omega
  · omega
theorem PSV.ends (hV : PSV T N a t wd hy iv rv s c u cm) (hcm : cm = 3) (ts2 : ty L cl s2 18) (hK : LNK rv s s2) (hE : ENX L cl iv rv iv2 s x wd) (hx : x = iv c 2) (c0 : iv2 c 0 = iv c 0) (c1 : iv2 c 1 = iv c 1) : PSR T N a t wd hy iv2 rv s c := by
  obtain ⟨m, es, D, b, h2, h3, h4⟩ := hV
  rcases h4 with ⟨e, _⟩ | ⟨e, _⟩ | ⟨e, _⟩ | ⟨_, e1, e2, e3, e4, e5⟩
  · omega
  · omega
  · omega
  · obtain ⟨k1, k2⟩ := (hE s2 ts2 hK).2 D h3
    by_cases c3 : m = 2
    · rw [if_pos c3] at e1
      have j := k2 (by omega) (by omega)
      rw [show (iv s 2).toNat = b by omega] at j
      exact ⟨0, (4, []) :: es, cnl wd b D, b, by rw [c0]; exact e1, ⟨D, b, h2, Or.inr (Or.inr (Or.inr ⟨rfl, rfl, rfl⟩))⟩, j, Or.inl ⟨rfl, by omega⟩⟩
    · rw [if_neg c3] at e1
      exact ⟨0, (3, []) :: es, D, b, by rw [c0]; exact e1, ⟨D, b, h2, Or.inr (Or.inr (Or.inl ⟨rfl, rfl, rfl⟩))⟩, k1 (by omega), Or.inl ⟨rfl, by omega⟩⟩
theorem WSS.mk {w : List (Int × Nat × Int)} {cs : List Int} (hS : SW0 a (lts w) ((w.length : Nat) : Int) t cs) (hl : cs.length ≤ 200) (hF : STF iv rv u a (lts w) ((w.length : Nat) : Int) t cs) : ∃ st, WSS a t w cs st ∧ (a 6 t.toNat ≠ 5 → w.length ≤ 500 → SBG iv rv u w.length st) := by
  have ws : WST a t w cs := SWC.iff0.mpr ⟨hS, hl⟩
  by_cases c5 : a 6 t.toNat = 5
  · exact ⟨fun _ => -1, ⟨ws, fun e => absurd c5 e, fun _ => rfl⟩, fun e => absurd c5 e⟩
  · obtain ⟨ps, ⟨y, k1, k2⟩, k3, k4⟩ := hF c5
    refine ⟨fun j => bgn ps 0 j (-1), ⟨ws, fun _ => ⟨ps, ⟨⟨y, k1, k2⟩, by rw [k3] at hl; omega⟩, k3, rfl⟩, fun e => absurd e c5⟩, fun _ hw sb hb j hj => ?_⟩
    exact k4 sb hb j (by omega) (by omega) (by omega)
theorem PSV.bad (hV : PSV T N a t wd hy iv rv s c u cm) (hcm : cm = 2) (hR : TRL sk ln iv rv v a) (hW : WT h sk L cl ln iv rv) (tu : ty L cl u 15) (ht : 0 ≤ t ∧ t < v 4) (he : el rv (sk 22) t.toNat = some tb) (sb : SBX sk ln iv rv iv2 u tb f) (hf : f ≠ 0) : BADV T N a t wd hy := by
  obtain ⟨m, es, D, b, h2, h3, h4⟩ := hV
  rcases h4 with ⟨e, _⟩ | ⟨e, _⟩ | ⟨_, ⟨w, e1, e2⟩, e3, e4, e5, e6, e7⟩ | ⟨e, _⟩
  · omega
  · omega
  · have et : ((t.toNat : Nat) : Int) = t := Int.toNat_of_nonneg ht.1
    have cb : CTB sk ln iv rv u tb v a (lts w) t.toNat := ⟨hR, by omega, he, e2.ltw hW tu⟩
    have s2 := (sb v a (lts w) t.toNat cb).2 hf
    rw [et, e2.1] at s2
    refine ⟨m, _, _, e1, fun ⟨D2, b2, D0, b0, _, g2⟩ => ?_⟩
    rcases g2 with ⟨q1, _⟩ | ⟨_, ⟨D1, x1, cs, st, _, j4, _⟩, _⟩ | ⟨q1, _⟩ | ⟨q1, _⟩
    · exact absurd (show (2 : Int) = 1 from q1) (by decide)
    · exact s2 ⟨cs, (SWC.iff0.mp j4.1).1, (SWC.iff0.mp j4.1).2⟩
    · exact absurd (show (2 : Int) = 3 from q1) (by decide)
    · exact absurd (show (2 : Int) = 4 from q1) (by decide)
  · omega
theorem PSV.word (hV : PSV T N a t wd hy iv rv s c u cm) (hcm : cm = 2) (hR : TRL sk ln iv rv v a) (h10 : ∀ i, a 10 i ≤ 200) (hW : WT h sk L cl ln iv rv) (hW2 : WT h sk L cl ln iv2 rv) (tu : ty L cl u 15) (ts : ty L cl s 18) (ts2 : ty L cl s2 18) (hK : LNK rv s s2) (ht : 0 ≤ t ∧ t < v 4) (he : el rv (sk 22) t.toNat = some tb) (sb : SBX sk ln iv rv iv2 u tb f) (hf : f = 0) (hF : fT [15, 53, 54, 55] L cl iv rv iv2 rv) (h4u : iv2 u 4 = iv u 4) (hkd : kd = iv tb 0) (tk : TKE L cl iv2 rv iv3 rv3 s u kd wd hy f2) (s32 : iv3 s 2 = iv2 s 2) (c0 : iv3 c 0 = iv c 0) (c1 : iv3 c 1 = iv c 1) (c2 : iv3 c 2 = iv c 2) : (f2 = 1 → PSR T N a t wd hy iv3 rv3 s c) ∧ (f2 ≠ 1 → BADV T N a t wd hy) := by
  obtain ⟨m, es, D, b, h2, h3, h4⟩ := hV
  rcases h4 with ⟨e, _⟩ | ⟨e, _⟩ | ⟨_, ⟨w, e1, e2⟩, e3, e4, e5, e6, e7⟩ | ⟨e, _⟩
  · omega
  · omega
  · have et : ((t.toNat : Nat) : Int) = t := Int.toNat_of_nonneg ht.1
    have cb : CTB sk ln iv rv u tb v a (lts w) t.toNat := ⟨hR, by omega, he, e2.ltw hW tu⟩
    have s1 := (sb v a (lts w) t.toNat cb).1 hf
    rw [et, e2.1] at s1
    obtain ⟨cs, q1, q2, q3, q4⟩ := s1
    obtain ⟨st, w1, w2⟩ := WSS.mk q1 q2 q4
    refine hv4 (hR.2.2.1) (show kd = a 6 t.toNat from hkd.trans cb.kind) (show iv u 4 ≤ 500 from (hW.int tu 4).2) (e2.1) (fun hT ek u500 ew => ?_)
    have lt : ∀ j, st j < ((cs.length : Nat) : Int) := fun j => by
      by_cases c5 : a 6 t.toNat = 5
      · rw [w1.2.2 c5]
        show (-1 : Int) < _
        omega
      · exact w1.lt hT hR.v30 h10 ht c5 j
    have tc : TKC iv2 rv u kd w cs st := ⟨e2.ni hW hF tu h4u rfl rfl rfl, q3, q2, fun ck => ⟨w2 (by omega) (by omega), fun i j hij g1 g2 => w1.mono hT hR.v30 h10 ht (by omega) hij g1 g2⟩, lt⟩
    obtain ⟨D1, x1, eD⟩ := snocx D (by omega)
    have h3' : DRP iv2 rv s (D1 ++ [x1]) := by
      rw [← eD]
      exact h3.frm hW ts hF rfl rfl rfl rfl
    obtain ⟨F1, F2⟩ := (tk s2 ts2 hK).2 D1 x1 cs w st h3' tc
    have eV : TKV kd wd hy w cs st 201 0 D1 x1 = flw (brk a t w st) wd hy cs 201 0 D1 x1 := by
      unfold TKV brk
      rw [ek]
    rw [eV] at F1 F2
    have es2 : iv2 s 2 = iv s 2 := hF.i ts rfl 2
    refine ⟨fun k => ?_, fun k => ?_⟩
    · obtain ⟨D2, g1, g2⟩ := F1 k
      refine hv2 (flw_len _ _ _ _ _ g1) (congrArg List.length eD) (fun gl el_ => ?_)
      rw [len1] at el_
      exact ⟨m, (2, w) :: es, D2, b, by rw [c0]; exact e1, ⟨D, b, h2, Or.inr (Or.inl ⟨rfl, ⟨D1, x1, cs, st, eD, w1, g1⟩, rfl⟩)⟩, g2, Or.inr ⟨e3, by omega, by omega, by omega, by omega⟩⟩
    · have g1 := F2 k
      refine ⟨m, _, _, e1, fun ⟨D2, b2, D0, b0, j1, j2⟩ => ?_⟩
      obtain ⟨i1, _⟩ := drs.uni hT ht es D0 D b0 b j1 h2
      subst i1
      rcases j2 with ⟨k1, _⟩ | ⟨_, ⟨D3, x3, ds, s3, j3, j4, j5⟩, _⟩ | ⟨k1, _⟩ | ⟨k1, _⟩
      · exact absurd (show (2 : Int) = 1 from k1) (by decide)
      · obtain ⟨i1, i2⟩ := app_inj (eD.symm.trans j3)
        obtain ⟨i3, i4⟩ := WSS.uni hT ht w1 j4
        subst i1
        subst i2
        subst i3
        subst i4
        rw [g1] at j5
        cases j5
      · exact absurd (show (2 : Int) = 3 from k1) (by decide)
      · exact absurd (show (2 : Int) = 4 from k1) (by decide)
  · omega
theorem WOX.mv (wo : WOX sk ln iv rv t (some tb)) (hR : TRL sk ln iv rv v a) (hQ : QT h sk L cl ln iv rv L1 cl1 ln1 iv1 rv1) : (0 ≤ t ∧ t < v 4) ∧ el rv1 (sk 22) t.toNat = some tb := by
  obtain ⟨o1, o2, _⟩ := wo.smt hR
  have e := hQ.2.2.2.1.2.2.1.1 t.toNat (by have q := hR.1.1; omega)
  exact ⟨o1, by rw [e]; exact o2⟩
theorem WOX.whl (wo : WOX sk ln iv rv t (some tb)) (hR : TRL sk ln iv rv v a) : (0 ≤ t ∧ t < v 4) ∧ WHL v a t := ⟨(wo.smt hR).1, (wo.smt hR).2.2⟩
theorem PSL.init (hW : WT h sk L cl ln iv rv) (tB : ty L cl sB 18) (tA : ty L cl sA 18) (e1 : iv1 = up2 iv sB 1 0) (hW1 : WT h sk L cl ln iv1 rv) (hF1 : fT [14] L cl iv1 rv iv2 rv) (hW2 : WT h sk L cl ln iv2 rv) (z0 : iv2 (sk 14) 0 = 0) (z1 : iv2 (sk 14) 1 = 0) (hF2 : fT [14, 15, 50, 51, 52] L cl iv2 rv iv3 rv) (hFF : fT ls L cl iv rv iv2 rv) (a3 : ls.contains 3 = false) (a33 : ls.contains 33 = false) (t3 : ty L cl (sk 3) 3) (st : STP iv2 rv iv3 (sk 3) (sk 14) (sk 15) f) (hw : wy = 0) : PSL sk ln iv rv iv3 rv sA sB wd hy t wy f := fun v a hP => by
  obtain ⟨p1, p2, ⟨p3, p4⟩, p5, p6⟩ := hP
  refine hv2 (show SHK iv rv iv1 rv sB sA from (SHK.refl p6).up tB tA hW e1) (show PSR (a 29) (v 30) a t wd hy iv2 rv sB (sk 14) from PSR.init (by rw [hF1.i tB rfl 1, e1, up2_s]) z0 z1) (fun k1 r0 => ?_)
  have k2 := k1.frm hW1 tB tA hF1 rfl rfl rfl rfl
  refine ⟨k2.frm hW2 tB tA hF2 rfl rfl rfl rfl, fun _ => r0.step hW2 tB hF2 st (CT.frn p4 hW2 t3 hFF a3 a33 rfl rfl rfl) ((hFF.i t3 a3 2).trans p3), fun e => absurd hw e⟩
theorem PSL.beg (hL : PSL sk ln iv rv iv1 rv1 sA sB wd hy t wy cm) (hw : wy = 0) (hcm : cm = 1) (wo : WOX sk ln iv rv t (some tb)) (tA : ty L1 cl1 sA 18) (hB : BTX L1 cl1 iv1 rv1 iv2 rv2 sB f) (c0 : iv2 (sk 14) 0 = iv1 (sk 14) 0) (c1 : iv2 (sk 14) 1 = iv1 (sk 14) 1) (c2 : iv2 (sk 14) 2 = iv1 (sk 14) 2) (hf : f = 0 ∨ f = 1) : PSQ sk ln iv rv iv2 rv2 sA sB wd hy t wy f := fun v a hP => by
  obtain ⟨g1, g2, _⟩ := hL v a hP
  obtain ⟨o1, _⟩ := wo.whl hP.1
  obtain ⟨k1, k2⟩ := (g2 hw).begin hcm hP.1.2.2.1 o1 tA g1.1 hB c0 c1 c2
  exact ⟨g1.trans (hB sA tA g1.1).1, fun _ e => k1 (by omega), fun e => k2 (by omega)⟩
theorem PSL.end_ (hL : PSL sk ln iv rv iv1 rv1 sA sB wd hy t wy cm) (hw : wy = 0) (hcm : cm = 3) (tA : ty L1 cl1 sA 18) (hE : ENX L1 cl1 iv1 rv1 iv2 sB x wd) (hx : x = iv1 (sk 14) 2) (c0 : iv2 (sk 14) 0 = iv1 (sk 14) 0) (c1 : iv2 (sk 14) 1 = iv1 (sk 14) 1) (hk : ok = 1) : PSQ sk ln iv rv iv2 rv1 sA sB wd hy t wy ok := fun v a hP => by
  obtain ⟨g1, g2, _⟩ := hL v a hP
  exact ⟨g1.trans (hE sA tA g1.1).1, fun _ _ => (g2 hw).ends hcm tA g1.1 hE hx c0 c1, fun e => absurd e (by omega)⟩
theorem PSL.bad (hL : PSL sk ln iv rv iv1 rv1 sA sB wd hy t wy cm) (hw : wy = 0) (hcm : cm = 2) (hQ : QT h sk L cl ln iv rv L1 cl1 ln1 iv1 rv1) (wo : WOX sk ln iv rv t (some tb)) (hW1 : WT h sk L1 cl1 ln1 iv1 rv1) (tu : ty L1 cl1 (sk 15) 15) (tB : ty L1 cl1 sB 18) (tA : ty L1 cl1 sA 18) (sb : SBX sk ln1 iv1 rv1 iv2 (sk 15) tb f) (hf : f ≠ 0) (hF : fT [15, 53, 54, 55] L1 cl1 iv1 rv1 iv2 rv1) : PSQ sk ln iv rv iv2 rv1 sA sB wd hy t f ok := fun v a hP => by
  obtain ⟨g1, g2, _⟩ := hL v a hP
  have hR := hP.1.qq hQ
  obtain ⟨o1, o2⟩ := wo.mv hP.1 hQ
  have k := (g2 hw).bad hcm hR hW1 tu o1 o2 sb hf
  exact ⟨g1.frm hW1 tB tA hF rfl rfl rfl rfl, fun e => absurd e hf, fun _ => k⟩
theorem PSL.word (hL : PSL sk ln iv rv iv1 rv1 sA sB wd hy t wy cm) (hw : wy = 0) (hcm : cm = 2) (hQ : QT h sk L cl ln iv rv L1 cl1 ln1 iv1 rv1) (wo : WOX sk ln iv rv t (some tb)) (hW1 : WT h sk L1 cl1 ln1 iv1 rv1) (hW2 : WT h sk L1 cl1 ln1 iv2 rv1) (tu : ty L1 cl1 (sk 15) 15) (tB : ty L1 cl1 sB 18) (tA : ty L1 cl1 sA 18) (sb : SBX sk ln1 iv1 rv1 iv2 (sk 15) tb f) (hf : f = 0) (hF : fT [15, 53, 54, 55] L1 cl1 iv1 rv1 iv2 rv1) (h4u : iv2 (sk 15) 4 = iv1 (sk 15) 4) (hkd : kd = iv1 tb 0) (tk : TKE L1 cl1 iv2 rv1 iv3 rv3 sB (sk 15) kd wd hy f2) (s32 : iv3 sB 2 = iv2 sB 2) (c0 : iv3 (sk 14) 0 = iv1 (sk 14) 0) (c1 : iv3 (sk 14) 1 = iv1 (sk 14) 1) (c2 : iv3 (sk 14) 2 = iv1 (sk 14) 2) (hk : (f2 = 0 ∧ ok = 0) ∨ (f2 = 1 ∧ ok = 1)) : PSQ sk ln iv rv iv3 rv3 sA sB wd hy t f ok := fun v a hP => by
  obtain ⟨g1, g2, _⟩ := hL v a hP
  have hR := hP.1.qq hQ
  obtain ⟨o1, o2⟩ := wo.mv hP.1 hQ
  have g3 := g1.frm hW1 tB tA hF rfl rfl rfl rfl
  obtain ⟨k1, k2⟩ := (g2 hw).word hcm hR hP.2.1 hW1 hW2 tu tB tA g1.1 o1 o2 sb hf hF h4u hkd tk s32 c0 c1 c2
  exact ⟨g3.trans (tk sA tA g3.1).1, fun _ e => k1 (by omega), fun e => k2 (by omega)⟩
theorem PSQ.nor (hL : PSQ sk ln iv rv iv1 rv1 sA sB wd hy t wy ok) (hk : ok = 0) (hw : x ≠ 0) : PSL sk ln iv rv iv1 rv1 sA sB wd hy t x cm := fun v a hP => by
  obtain ⟨g1, _, g3⟩ := hL v a hP
  exact ⟨g1, fun e => absurd e hw, fun _ => g3 (Or.inr hk)⟩
theorem PSQ.stop (hL : PSQ sk ln iv rv iv1 rv1 sA sB wd hy t wy ok) (hw : wy ≠ 0) : PSL sk ln iv rv iv1 rv1 sA sB wd hy t wy cm := fun v a hP => by
  obtain ⟨g1, _, g3⟩ := hL v a hP
  exact ⟨g1, fun e => absurd e hw, fun _ => g3 (Or.inl hw)⟩
theorem PSQ.next (hL : PSQ sk ln iv rv iv1 rv1 sA sB wd hy t wy ok) (hw : wy = 0) (hk : ok ≠ 0) (hW : WT h sk L cl ln iv rv) (hX : XT L cl ln L1 cl1 ln1) (hFF : fT ls L cl iv rv iv1 rv1) (a3 : ls.contains 3 = false) (a33 : ls.contains 33 = false) (t3 : ty L cl (sk 3) 3) (hW1 : WT h sk L1 cl1 ln1 iv1 rv1) (tB : ty L1 cl1 sB 18) (tA : ty L1 cl1 sA 18) (hF : fT [14, 15, 50, 51, 52] L1 cl1 iv1 rv1 iv2 rv1) (st : STP iv1 rv1 iv2 (sk 3) (sk 14) (sk 15) f) : PSL sk ln iv rv iv2 rv1 sA sB wd hy t wy f := fun v a hP => by
  obtain ⟨g1, g2, _⟩ := hL v a hP
  obtain ⟨_, _, ⟨p3, p4⟩, _⟩ := hP
  exact ⟨g1.frm hW1 tB tA hF rfl rfl rfl rfl, fun _ => (g2 hw hk).step hW1 tB hF st (CT.fr p4 hW t3 hFF a3 a33 rfl rfl rfl) ((hFF.i t3 a3 2).trans p3), fun e => absurd hw e⟩
theorem PSX.n1 (wo : WOX sk ln iv rv t none) (hW : WT h sk L cl ln iv rv) (tB : ty L cl sB 18) (tA : ty L cl sA 18) (hA : rv h0 9 = some sA) (hB : rv h0 10 = some sB) (hF : fT ls L cl iv rv iv2 rv) (a18 : ls.contains 18 = false) (a19 : ls.contains 19 = false) (a64 : ls.contains 64 = false) (a67 : ls.contains 67 = false) (hf : f = -1) : PSX sk ln iv rv iv2 rv h0 wd hy t f := fun sA' sB' e1 e2 v a hP => by
  rw [hA] at e1; cases e1
  rw [hB] at e2; cases e2
  refine Or.inl ⟨⟨hf, Or.inl (fun g => ?_)⟩, hA, hB, (SHK.refl hP.2.2.2.2).frm hW tB tA hF a18 a19 a64 a67⟩
  rcases wo v a hP.1 with ⟨_, k⟩ | ⟨b, k, _⟩
  · exact k g
  · cases k
theorem PSX.n2 (hL : PSL sk ln iv rv iv1 rv1 sA sB wd hy t wy cm) (hw : wy ≠ 0) (wo : WOX sk ln iv rv t (some tb)) (hA : rv h0 9 = some sA) (hB : rv h0 10 = some sB) (hA2 : rv1 h0 9 = some sA) (hB2 : rv1 h0 10 = some sB) (hW1 : WT h sk L1 cl1 ln1 iv1 rv1) (tB : ty L1 cl1 sB 18) (tA : ty L1 cl1 sA 18) (hF : fT ls L1 cl1 iv1 rv1 iv2 rv1) (a18 : ls.contains 18 = false) (a19 : ls.contains 19 = false) (a64 : ls.contains 64 = false) (a67 : ls.contains 67 = false) (hf : f = -1) : PSX sk ln iv rv iv2 rv1 h0 wd hy t f := fun sA' sB' e1 e2 v a hP => by
  rw [hA] at e1; cases e1
  rw [hB] at e2; cases e2
  obtain ⟨g1, _, g3⟩ := hL v a hP
  have b := g3 hw
  rw [hP.2.2.2.1.1, hP.2.2.2.1.2] at b
  exact Or.inl ⟨⟨hf, Or.inr ⟨(wo.whl hP.1).2, b⟩⟩, hA2, hB2, g1.frm hW1 tB tA hF a18 a19 a64 a67⟩
theorem PSX.yes (hL : PSL sk ln iv rv iv1 rv1 sA sB wd hy t wy cm) (hw : wy = 0) (hcm : cm = 0) (wo : WOX sk ln iv rv t (some tb)) (hA : rv h0 9 = some sA) (hB : rv h0 10 = some sB) (hA2 : rv2 h0 9 = some sB) (hB2 : rv2 h0 10 = some sA) (hW1 : WT h sk L1 cl1 ln1 iv1 rv1) (tB : ty L1 cl1 sB 18) (tA : ty L1 cl1 sA 18) (hF : fT ls L1 cl1 iv1 rv1 iv2 rv2) (a18 : ls.contains 18 = false) (a19 : ls.contains 19 = false) (a64 : ls.contains 64 = false) (a67 : ls.contains 67 = false) (hf : f = iv1 sB 1) : PSX sk ln iv rv iv2 rv2 h0 wd hy t f := fun sA' sB' e1 e2 v a hP => by
  rw [hA] at e1; cases e1
  rw [hB] at e2; cases e2
  obtain ⟨g1, g2, _⟩ := hL v a hP
  obtain ⟨m, es, D, b, k1, k2, k3⟩ := g2 hw
  rcases k3 with ⟨_, k4, k5⟩ | ⟨e, _⟩ | ⟨e, _⟩ | ⟨e, _⟩
  · rw [hP.2.2.2.1.1, hP.2.2.2.1.2] at k1
    refine Or.inr ⟨D, ⟨(wo.whl hP.1).2, es, b, ⟨_, k4, k5⟩, k1, ?_⟩, hA2, hB2, (g1.1.frm hW1 tB tA hF a18 a19 a67).sym, k2.frm hW1 tB hF a18 a19 a64 a67⟩
    rw [hf]
    exact k2.1
  · omega
  · omega
  · omega
end EROW
