def ROW (iv : Nat → Nat → Int) (rv : Nat → Nat → Option Nat) (s l : Nat) (xs : List Int) : Prop := ∃ rb r, rv s 0 = some rb ∧ rv rb l = some r ∧ iv r 2 = 0 ∧ LNE iv rv r xs
def DRP (iv : Nat → Nat → Int) (rv : Nat → Nat → Option Nat) (s : Nat) (D : List (List Int)) : Prop := iv s 1 = ((D.length : Nat) : Int) ∧ ∀ (l : Nat) (xs : List Int), D[l]? = some xs → ROW iv rv s l xs
def SHK (iv : Nat → Nat → Int) (rv : Nat → Nat → Option Nat) (iv2 : Nat → Nat → Int) (rv2 : Nat → Nat → Option Nat) (s s2 : Nat) : Prop := LNK rv2 s s2 ∧ SAM iv rv iv2 rv2 s2 ∧ rv2 s = rv s
def SATX (iv : Nat → Nat → Int) (rv : Nat → Nat → Option Nat) (s : Nat) (i : Int) (f : Option Nat) : Prop := ((0 ≤ i ∧ i < iv s 1) ∧ ∃ rb, rv s 0 = some rb ∧ f = rv rb i.toNat) ∨ (¬ (0 ≤ i ∧ i < iv s 1) ∧ f = none)
def BEX (L : List Nat) (cl : Nat → Nat) (iv : Nat → Nat → Int) (rv : Nat → Nat → Option Nat) (iv2 : Nat → Nat → Int) (rv2 : Nat → Nat → Option Nat) (s : Nat) (f : Int) : Prop := ∀ s2, ty L cl s2 18 → LNK rv s s2 → SHK iv rv iv2 rv2 s s2 ∧ ∀ D, DRP iv rv s D → (f = 1 → D.length < 200 ∧ DRP iv2 rv2 s (D ++ [[]])) ∧ (f ≠ 1 → D.length = 200)
def BTX (L : List Nat) (cl : Nat → Nat) (iv : Nat → Nat → Int) (rv : Nat → Nat → Option Nat) (iv2 : Nat → Nat → Int) (rv2 : Nat → Nat → Option Nat) (s : Nat) (f : Int) : Prop := ∀ s2, ty L cl s2 18 → LNK rv s s2 → SHK iv rv iv2 rv2 s s2 ∧ ∀ D, DRP iv rv s D → (f = 1 → D.length < 200 ∧ DRP iv2 rv2 s (D ++ [[]]) ∧ iv2 s 2 = ((D.length : Nat) : Int)) ∧ (f ≠ 1 → D.length = 200)
def TKC (iv : Nat → Nat → Int) (rv : Nat → Nat → Option Nat) (s : Nat) (kd : Int) (w : List (Int × Nat × Int)) (cs : List Int) (st : Nat → Int) : Prop := PWH iv rv s w ∧ PDH iv rv s cs ∧ cs.length ≤ 200 ∧ (kd ≤ 3 → SBG iv rv s w.length st ∧ MNO st) ∧ ∀ j, st j < ((cs.length : Nat) : Int)
def TKV (kd wd hy : Int) (w : List (Int × Nat × Int)) (cs : List Int) (st : Nat → Int) (n d : Nat) (D : List (List Int)) (xs : List Int) : Option (List (List Int)) := flw (fun d r => lbk w kd st d r w.length) wd hy cs n d D xs
def TKJ (L : List Nat) (cl : Nat → Nat) (iv : Nat → Nat → Int) (rv : Nat → Nat → Option Nat) (iv2 : Nat → Nat → Int) (rv2 : Nat → Nat → Option Nat) (s u : Nat) (kd wd hy d tn : Int) : Prop := ∀ s2, ty L cl s2 18 → LNK rv s s2 → SHK iv rv iv2 rv2 s s2 ∧ ∀ D1 x1 cs w st, DRP iv rv s (D1 ++ [x1]) → TKC iv rv u kd w cs st → d ≤ ((cs.length : Nat) : Int) ∧ ∃ D3 x3, TKV kd wd hy w cs st 201 0 D1 x1 = TKV kd wd hy w cs st (201 - tn).toNat d.toNat D3 x3 ∧ DRP iv2 rv2 s (D3 ++ [x3])
def TKM (L : List Nat) (cl : Nat → Nat) (iv : Nat → Nat → Int) (rv : Nat → Nat → Option Nat) (iv2 : Nat → Nat → Int) (rv2 : Nat → Nat → Option Nat) (s u : Nat) (kd wd hy d tn : Int) : Prop := ∀ s2, ty L cl s2 18 → LNK rv s s2 → SHK iv rv iv2 rv2 s s2 ∧ ∀ D1 x1 cs w st, DRP iv rv s (D1 ++ [x1]) → TKC iv rv u kd w cs st → d ≤ ((cs.length : Nat) : Int) ∧ ∃ D4, TKV kd wd hy w cs st 201 0 D1 x1 = (if D4.length < 200 then TKV kd wd hy w cs st (200 - tn).toNat d.toNat D4 [] else none) ∧ DRP iv2 rv2 s D4
def TKE (L : List Nat) (cl : Nat → Nat) (iv : Nat → Nat → Int) (rv : Nat → Nat → Option Nat) (iv2 : Nat → Nat → Int) (rv2 : Nat → Nat → Option Nat) (s u : Nat) (kd wd hy f : Int) : Prop := ∀ s2, ty L cl s2 18 → LNK rv s s2 → SHK iv rv iv2 rv2 s s2 ∧ ∀ D1 x1 cs w st, DRP iv rv s (D1 ++ [x1]) → TKC iv rv u kd w cs st → (f = 1 → ∃ D2, TKV kd wd hy w cs st 201 0 D1 x1 = some D2 ∧ DRP iv2 rv2 s D2) ∧ (f ≠ 1 → TKV kd wd hy w cs st 201 0 D1 x1 = none)
def ENI (L : List Nat) (cl : Nat → Nat) (iv : Nat → Nat → Int) (rv : Nat → Nat → Option Nat) (iv1 : Nat → Nat → Int) (s : Nat) (wd k : Int) : Prop := ∀ s2, ty L cl s2 18 → LNK rv s s2 → SHK iv rv iv1 rv s s2 ∧ ∀ D, DRP iv rv s D → iv1 s 1 = ((D.length : Nat) : Int) ∧ ∀ (l : Nat) (xs : List Int), D[l]? = some xs → ROW iv1 rv s l (if iv s 2 ≤ ((l : Nat) : Int) ∧ ((l : Nat) : Int) < k then cen wd xs else xs)
def ENX (L : List Nat) (cl : Nat → Nat) (iv : Nat → Nat → Int) (rv : Nat → Nat → Option Nat) (iv2 : Nat → Nat → Int) (s : Nat) (g wd : Int) : Prop := ∀ s2, ty L cl s2 18 → LNK rv s s2 → SHK iv rv iv2 rv s s2 ∧ ∀ D, DRP iv rv s D → (g = 0 → DRP iv2 rv s D) ∧ (g ≠ 0 → 0 ≤ iv s 2 → DRP iv2 rv s (cnl wd (iv s 2).toNat D))
section TROW
variable {h : Nat} {sk : Nat → Nat} {L L1 L2 : List Nat} {cl ln cl1 ln1 cl2 ln2 : Nat → Nat} {iv iv1 iv2 iv3 : Nat → Nat → Int} {rv rv1 rv2 rv3 : Nat → Nat → Option Nat} {r s s2 u rb cb l q b : Nat} {x z i k j n d f tn kd wd hy m : Int} {xs ys cs x1 x2 : List Int} {w : List (Int × Nat × Int)} {st : Nat → Int} {ls : List Nat} {D D1 : List (List Int)} {fo : Option Nat}
theorem LNK.ne {s3 s4 rb2 l2 r2 : Nat} (hK : LNK rv s s2) (hW : WT h sk L cl ln iv rv) (h3 : s3 = s ∨ s3 = s2) (h4 : s4 = s ∨ s4 = s2) (tr : ty L cl r 19) (h0 : rv s3 0 = some rb) (hr : rv rb l = some r) (h02 : rv s4 0 = some rb2) (hr2 : rv rb2 l2 = some r2) (hn : ¬ (s3 = s4 ∧ l = l2)) : r2 ≠ r ∧ ∀ cb, rv r2 0 = some cb → rv r 0 ≠ some cb := by
  have k : ∀ cb, rv r2 0 = some cb → rv r 0 ≠ some cb := fun cb e1 e2 => hn (hK.2.2 s3 s4 h3 h4 rb rb2 l l2 r r2 cb h0 h02 hr hr2 e2 e1)
  refine ⟨fun e => ?_, k⟩
  obtain ⟨c, hc, _⟩ := hW.ref tr 0 rfl rfl rfl
  exact k c (by rw [e]; exact hc) hc
theorem SAM.lfr (hK : LNK rv s s2) (hW : WT h sk L cl ln iv rv) (ts : ty L cl s 18) (ts2 : ty L cl s2 18) (h0 : rv s 0 = some rb) (hr : rv rb l = some r) (hL : LFR L cl iv rv iv2 r) (hF : fT ls L cl iv rv iv2 rv) (h18 : ls.contains 18 = false) : SAM iv rv iv2 rv s2 := by
  have tr := ro19 hW (sh67 hW ts h0) hr
  refine ⟨funext fun j => hF.i ts2 h18 j, rfl, fun rb2 hb2 => ⟨rfl, fun l2 r2 hr2 => ?_⟩⟩
  have t2 := ro19 hW (sh67 hW ts2 hb2) hr2
  obtain ⟨n1, n2⟩ := hK.ne hW (Or.inl rfl) (Or.inr rfl) tr h0 hr hb2 hr2 (fun e => hK.1 e.1)
  exact ⟨hL.1 r2 t2 n1, rfl, fun cb hc => hL.2 cb (li64 hW t2 hc) (n2 cb hc)⟩
theorem SHK.refl (hK : LNK rv s s2) : SHK iv rv iv rv s s2 := ⟨hK, SAM.refl, rfl⟩
theorem SHK.trans (h1 : SHK iv rv iv1 rv1 s s2) (h2 : SHK iv1 rv1 iv2 rv2 s s2) : SHK iv rv iv2 rv2 s s2 := ⟨h2.1, h1.2.1.trans h2.2.1, h2.2.2.trans h1.2.2⟩
theorem SHK.lfr (h1 : SHK iv rv iv1 rv1 s s2) (hW : WT h sk L1 cl1 ln1 iv1 rv1) (ts : ty L1 cl1 s 18) (ts2 : ty L1 cl1 s2 18) (h0 : rv1 s 0 = some rb) (hr : rv1 rb l = some r) (hL : LFR L1 cl1 iv1 rv1 iv2 r) (hF : fT ls L1 cl1 iv1 rv1 iv2 rv1) (h18 : ls.contains 18 = false) : SHK iv rv iv2 rv1 s s2 := h1.trans ⟨h1.1, SAM.lfr h1.1 hW ts ts2 h0 hr hL hF h18, rfl⟩
theorem LNE.fr (hx : LNE iv rv r xs) (h1 : iv2 r = iv r) (h2 : rv2 r = rv r) (h3 : ∀ cb, rv r 0 = some cb → iv2 cb = iv cb) : LNE iv2 rv2 r xs := by
  refine ⟨by rw [h1]; exact hx.1, fun cb hc j x e => ?_⟩
  rw [h2] at hc
  rw [h3 cb hc]
  exact hx.2 cb hc j x e
theorem ROW.fr (hx : ROW iv rv s l xs) (h0 : rv2 s = rv s) (h1 : ∀ rb r, rv s 0 = some rb → rv rb l = some r → rv2 rb l = some r ∧ iv2 r = iv r ∧ rv2 r = rv r ∧ ∀ cb, rv r 0 = some cb → iv2 cb = iv cb) : ROW iv2 rv2 s l xs := by
  obtain ⟨rb, r, q0, q1, q2, q3⟩ := hx
  obtain ⟨p1, p2, p3, p4⟩ := h1 rb r q0 q1
  exact ⟨rb, r, by rw [h0]; exact q0, p1, by rw [p2]; exact q2, q3.fr p2 p3 p4⟩
theorem DRP.sam (hD : DRP iv rv s D) (hS : SAM iv rv iv2 rv2 s) : DRP iv2 rv2 s D := by
  obtain ⟨s1, s2, s3⟩ := hS
  refine ⟨by rw [s1]; exact hD.1, fun l xs e => (hD.2 l xs e).fr s2 (fun rb r h0 h1 => ?_)⟩
  obtain ⟨p1, p2⟩ := s3 rb h0
  obtain ⟨q1, q2, q3⟩ := p2 l r h1
  exact ⟨by rw [p1]; exact h1, q1, q2, q3⟩
theorem ROW.lfr {l0 : Nat} (hK : LNK rv s s2) (hW : WT h sk L cl ln iv rv) (ts : ty L cl s 18) (h0 : rv s 0 = some rb) (hr : rv rb l0 = some r) (hL : LFR L cl iv rv iv2 r) (hl : l ≠ l0) (hx : ROW iv rv s l xs) : ROW iv2 rv s l xs := by
  have tb := sh67 hW ts h0
  have tr := ro19 hW tb hr
  refine hx.fr rfl (fun rb2 r2 h02 hr2 => ?_)
  obtain ⟨n1, n2⟩ := hK.ne hW (Or.inl rfl) (Or.inl rfl) tr h0 hr h02 hr2 (fun e => hl e.2.symm)
  have t2 := ro19 hW (sh67 hW ts h02) hr2
  exact ⟨hr2, hL.1 r2 t2 n1, rfl, fun cb hc => hL.2 cb (li64 hW t2 hc) (n2 cb hc)⟩
theorem SATX.row (hx : SATX iv rv s i (some r)) : ∃ rb, rv s 0 = some rb ∧ rv rb i.toNat = some r := by
  rcases hx with ⟨_, rb, h0, e⟩ | ⟨_, e⟩
  · exact ⟨rb, h0, e.symm⟩
  · cases e
theorem DRP.no (hD : DRP iv rv s D) (hx : SATX iv rv s i none) (h0 : 0 ≤ i) (hi : i < ((D.length : Nat) : Int)) : False := by
  obtain ⟨d1, d2⟩ := hD
  rcases hx with ⟨_, rb, h0', e⟩ | ⟨e, _⟩
  · have lt : i.toNat < D.length := by omega
    obtain ⟨rb2, r, q0, q1, _⟩ := d2 i.toNat _ (List.getElem?_eq_getElem lt)
    rw [h0'] at q0; cases q0
    rw [← e] at q1
    cases q1
  · omega
theorem DRP.row (hD : DRP iv rv s (D ++ [x1])) (hx : SATX iv rv s (iv s 1 - 1) (some r)) : ∃ rb, rv s 0 = some rb ∧ rv rb D.length = some r ∧ iv r 2 = 0 ∧ LNE iv rv r x1 := by
  obtain ⟨d1, d2⟩ := hD
  obtain ⟨rb, h0, hr⟩ := hx.row
  rw [len1] at d1
  rw [show (iv s 1 - 1).toNat = D.length by omega] at hr
  obtain ⟨rb2, r2, q0, q1, q2, q3⟩ := d2 D.length x1 ap2
  rw [h0] at q0; cases q0
  rw [hr] at q1; cases q1
  exact ⟨rb, h0, hr, q2, q3⟩
theorem DRP.last (hD : DRP iv rv s (D ++ [x1])) (hK : LNK rv s s2) (hW : WT h sk L cl ln iv rv) (ts : ty L cl s 18) (h0 : rv s 0 = some rb) (hr : rv rb D.length = some r) (hL : LFR L cl iv rv iv2 r) (h1 : iv2 s 1 = iv s 1) (h2 : iv2 r 2 = 0) (hx : LNE iv2 rv r x2) : DRP iv2 rv s (D ++ [x2]) := by
  obtain ⟨d1, d2⟩ := hD
  refine ⟨by rw [h1, d1, len1, len1], fun l xs e => ?_⟩
  rcases ap1 e with ⟨c, e3⟩ | ⟨c, e3⟩
  · exact ROW.lfr hK hW ts h0 hr hL (by omega) (d2 l xs (ap3 e3))
  · rw [c, ← e3]
    exact ⟨rb, r, h0, hr, h2, hx⟩
theorem TKC.al (hc : TKC iv rv u kd w cs st) (hW : WT h sk L cl ln iv rv) (hF : fT ls L cl iv rv iv2 rv2) (tu : ty L cl u 15) (a15 : ls.contains 15 = false) (a50 : ls.contains 50 = false) (a51 : ls.contains 51 = false) (a52 : ls.contains 52 = false) (a53 : ls.contains 53 = false) (a54 : ls.contains 54 = false) : TKC iv2 rv2 u kd w cs st := by
  obtain ⟨p1, p2, p3, p4, p5⟩ := hc
  have r_ : ∀ m, rv2 u m = rv u m := fun m => hF.r tu a15 m
  have k0 : ∀ b, rv u 0 = some b → iv2 b = iv b := fun b hb => by
    obtain ⟨b', q1, t3⟩ := hW.ref tu 0 rfl rfl rfl
    rw [hb] at q1; cases q1
    exact funext fun j => hF.i (show ty L cl b 50 from t3) a50 j
  have k1 : ∀ b, rv u 1 = some b → iv2 b = iv b := fun b hb => by
    obtain ⟨b', q1, t3⟩ := hW.ref tu 1 rfl rfl rfl
    rw [hb] at q1; cases q1
    exact funext fun j => hF.i (show ty L cl b 51 from t3) a51 j
  have k2 : ∀ b, rv u 2 = some b → iv2 b = iv b := fun b hb => by
    obtain ⟨b', q1, t3⟩ := hW.ref tu 2 rfl rfl rfl
    rw [hb] at q1; cases q1
    exact funext fun j => hF.i (show ty L cl b 52 from t3) a52 j
  have k3 : ∀ b, rv u 3 = some b → iv2 b = iv b := fun b hb => by
    obtain ⟨b', q1, t3⟩ := hW.ref tu 3 rfl rfl rfl
    rw [hb] at q1; cases q1
    exact funext fun j => hF.i (show ty L cl b 53 from t3) a53 j
  have k6 : ∀ b, rv u 6 = some b → iv2 b = iv b := fun b hb => by
    obtain ⟨b', q1, t3⟩ := hW.ref tu 6 rfl rfl rfl
    rw [hb] at q1; cases q1
    exact funext fun j => hF.i (show ty L cl b 54 from t3) a54 j
  refine ⟨⟨(hF.i tu a15 4).trans p1.1, fun lb pb bb g0 g1 g2 j y e => ?_⟩, ⟨(hF.i tu a15 7).trans p2.1, fun cb hb j y hj e => ?_⟩, p3, fun c => ⟨fun sb hb j hj => ?_, (p4 c).2⟩, p5⟩
  · rw [r_] at g0 g1 g2
    rw [k0 lb g0, k1 pb g1, k2 bb g2]
    exact p1.2 lb pb bb g0 g1 g2 j y e
  · rw [r_] at hb
    rw [k6 cb hb]
    exact p2.2 cb hb j y hj e
  · rw [r_] at hb
    rw [k3 sb hb]
    exact (p4 c).1 sb hb j hj
theorem TKV_s {n d : Nat} : TKV kd wd hy w cs st (n + 1) d D xs = if ((cs.length : Nat) : Int) - ((d : Nat) : Int) ≤ rom wd xs then some (D ++ [pql xs ++ sgm cs d (cs.length - d)]) else if 0 ≤ lbk w kd st ((d : Nat) : Int) (rom wd xs) w.length then (if D.length + 1 < 200 then TKV kd wd hy w cs st n (lbk w kd st ((d : Nat) : Int) (rom wd xs) w.length).toNat (D ++ [(pql xs ++ sgm cs d ((lbk w kd st ((d : Nat) : Int) (rom wd xs) w.length).toNat - d)) ++ [hy]]) [] else none) else if xs.length = 0 then some (D ++ [pql xs ++ sgm cs d (cs.length - d)]) else if D.length + 1 < 200 then TKV kd wd hy w cs st n d (D ++ [xs]) [] else none := rfl
theorem rom_z (hx : LNE iv rv r xs) (hz : (0 < iv r 1 ∧ z = wd - (iv r 1 + 1)) ∨ (iv r 1 ≤ 0 ∧ z = wd)) : rom wd xs = z ∧ (((pql xs).length : Nat) : Int) = wd - z := by
  refine hv2 (hx.1) (pql_len (xs := xs)) (fun e p => ?_)
  unfold rom
  by_cases c : xs.length = 0
  · rw [if_pos c] at p ⊢
    omega
  · rw [if_neg c] at p ⊢
    omega
theorem TKJ.zero (hd : d = 0) (ht : tn = 0) : TKJ L cl iv rv iv rv s u kd wd hy d tn := fun s2 _ hK => ⟨SHK.refl hK, fun D1 x1 cs w st h1 h2 => ⟨by omega, D1, x1, by rw [hd, ht, show ((201 : Int) - 0).toNat = 201 from rfl, show (0 : Int).toNat = 0 from rfl], h1⟩⟩
theorem TKJ.out (hT : TKJ L cl iv rv iv1 rv1 s u kd wd hy d tn) (ht : 200 < tn) (hf : f = 0) : TKE L cl iv rv iv1 rv1 s u kd wd hy f := fun s2 t2 hK => by
  obtain ⟨g1, g2⟩ := hT s2 t2 hK
  refine ⟨g1, fun D1 x1 cs w st h1 h2 => ⟨fun e => absurd e (by omega), fun _ => ?_⟩⟩
  obtain ⟨_, D3, x3, e, _⟩ := g2 D1 x1 cs w st h1 h2
  rw [e, show (201 - tn).toNat = 0 by omega]
  rfl
theorem TKJ.nul (hT : TKJ L cl iv rv iv1 rv1 s u kd wd hy d tn) (hx : SATX iv1 rv1 s (iv1 s 1 - 1) none) (hf : f = 0) : TKE L cl iv rv iv1 rv1 s u kd wd hy f := fun s2 t2 hK => by
  obtain ⟨g1, g2⟩ := hT s2 t2 hK
  refine ⟨g1, fun D1 x1 cs w st h1 h2 => ?_⟩
  obtain ⟨_, D3, x3, _, hD⟩ := g2 D1 x1 cs w st h1 h2
  refine hv2 (hD.1) (show (D3 ++ [x3]).length = D3.length + 1 from len1) (fun e e2 => ?_)
  exact (hD.no hx (by omega) (by omega)).elim
theorem TKJ.add (hT : TKJ L cl iv rv iv1 rv1 s u kd wd hy d tn) (hX : XT L cl ln L1 cl1 ln1) (hW : WT h sk L cl ln iv rv) (hW1 : WT h sk L1 cl1 ln1 iv1 rv1) (hF : fT [18, 19, 64, 67, 203] L cl iv rv iv1 rv1) (ts : ty L cl s 18) (tu : ty L cl u 15) (hx : SATX iv1 rv1 s (iv1 s 1 - 1) (some r)) (hL : LFR L1 cl1 iv1 rv1 iv2 r) (hF2 : fT [19, 64] L1 cl1 iv1 rv1 iv2 rv1) (h2 : iv2 r 2 = iv1 r 2) (hA : APX iv1 rv1 iv2 r u d m) (hm : m = iv1 u 7) (hd : 0 ≤ d) (ht : 0 ≤ tn ∧ tn ≤ 200) (hw : wd ≤ 100) (hz : (0 < iv1 r 1 ∧ z = wd - (iv1 r 1 + 1)) ∨ (iv1 r 1 ≤ 0 ∧ z = wd)) (hc : m - d ≤ z ∨ (iv1 r 1 = 0 ∧ LBX iv1 rv1 u kd d (z - 1) x ∧ x ≤ d)) (hf : f = 1) : TKE L cl iv rv iv2 rv1 s u kd wd hy f := fun s2 t2 hK => by
  obtain ⟨g1, g2⟩ := hT s2 t2 hK
  obtain ⟨rb, r0, r1⟩ := hx.row
  refine ⟨g1.lfr hW1 (hX.ty ts) (hX.ty t2) r0 r1 hL hF2 rfl, fun D1 x1 cs w st h1 hC => ⟨fun _ => ?_, fun e => absurd hf e⟩⟩
  obtain ⟨k1, D3, x3, k2, k3⟩ := g2 D1 x1 cs w st h1 hC
  obtain ⟨rb2, q0, q1, q2, q3⟩ := k3.row hx
  have hC1 := hC.al hW hF tu rfl rfl rfl rfl rfl rfl
  obtain ⟨z1, z2⟩ := rom_z q3 hz
  refine hv3 (hC1.2.1.1) (hC1.2.2.1) (q3.1) (fun em l200 ex => ?_)
  have lx := hA x3 cs q3 hC1.2.1 l200 (by omega) (by omega) (by omega)
  refine ⟨D3 ++ [pql x3 ++ sgm cs d.toNat (cs.length - d.toNat)], ?_, ?_⟩
  · rw [k2, show (201 - tn).toNat = (200 - tn).toNat + 1 by omega, TKV_s, z1, Int.toNat_of_nonneg hd]
    rcases hc with hc | ⟨c1, c2, c3⟩
    · rw [if_pos (by omega)]
    · by_cases c4 : ((cs.length : Nat) : Int) - d ≤ z
      · rw [if_pos c4]
      · have b := c2 w st hC1.1 hC1.2.2.2.1
        rw [show z - 1 + 1 = z by omega] at b
        unfold LBV at b
        rw [if_neg c4, if_neg, if_pos (by omega)]
        intro c5
        rw [if_pos c5] at b
        obtain ⟨_, _, b2, b3⟩ := lbk_at _ c5
        omega
  · rw [show cs.length - d.toNat = (m - d).toNat by omega]
    exact k3.last g1.1 hW1 (hX.ty ts) q0 q1 hL (hF2.i (hX.ty ts) rfl 1) (h2.trans q2) lx
theorem TKJ.part (hT : TKJ L cl iv rv iv1 rv1 s u kd wd hy d tn) (hX : XT L cl ln L1 cl1 ln1) (hW : WT h sk L cl ln iv rv) (hW1 : WT h sk L1 cl1 ln1 iv1 rv1) (hF : fT [18, 19, 64, 67, 203] L cl iv rv iv1 rv1) (ts : ty L cl s 18) (tu : ty L cl u 15) (hx : SATX iv1 rv1 s (iv1 s 1 - 1) (some r)) (hL : LFR L1 cl1 iv1 rv1 iv2 r) (hF2 : fT [19, 64] L1 cl1 iv1 rv1 iv2 rv1) (h2 : iv2 r 2 = iv1 r 2) (hA : APX iv1 rv1 iv2 r u d x) (hL3 : LFR L1 cl1 iv2 rv1 iv3 r) (hF3 : fT [19, 64] L1 cl1 iv2 rv1 iv3 rv1) (h3 : iv3 r 2 = iv2 r 2) (hA3 : LAX iv2 rv1 iv3 r hy) (hm : m = iv1 u 7) (hd : 0 ≤ d) (ht : 0 ≤ tn ∧ tn ≤ 200) (hw : wd ≤ 100) (hz : (0 < iv1 r 1 ∧ z = wd - (iv1 r 1 + 1)) ∨ (iv1 r 1 ≤ 0 ∧ z = wd)) (hc : z < m - d) (hb : LBX iv1 rv1 u kd d (z - 1) x) (hxd : d < x) : TKM L cl iv rv iv3 rv1 s u kd wd hy x tn := fun s2 t2 hK => by
  obtain ⟨g1, g2⟩ := hT s2 t2 hK
  obtain ⟨rb, r0, r1⟩ := hx.row
  refine hv2 (hL.trans hL3) (show fT [19, 64] L1 cl1 iv1 rv1 iv3 rv1 from hF2.call (ln := ln1) (ln2 := ln1) XT.refl hF3 rfl) (fun hL13 hF13 => ?_)
  refine ⟨g1.lfr hW1 (hX.ty ts) (hX.ty t2) r0 r1 hL13 hF13 rfl, fun D1 x1 cs w st h1 hC => ?_⟩
  obtain ⟨k1, D3, x3, k2, k3⟩ := g2 D1 x1 cs w st h1 hC
  obtain ⟨rb2, q0, q1, q2, q3⟩ := k3.row hx
  have hC1 := hC.al hW hF tu rfl rfl rfl rfl rfl rfl
  obtain ⟨z1, z2⟩ := rom_z q3 hz
  refine hv3 (hC1.2.1.1) (hC1.2.2.1) (hb w st hC1.1 hC1.2.2.2.1) (fun em l200 b => ?_)
  rw [show z - 1 + 1 = z by omega] at b
  unfold LBV at b
  have c5 : 0 ≤ lbk w kd st d z w.length := by
    by_cases c5 : 0 ≤ lbk w kd st d z w.length
    · exact c5
    · rw [if_neg c5] at b
      omega
  rw [if_pos c5] at b
  obtain ⟨qq, _, ⟨b2, b4⟩, b3⟩ := lbk_at _ c5
  refine hv2 (hC1.2.2.2.2 qq) (show (pql x3 ++ sgm cs d.toNat (x - d).toNat).length = (pql x3).length + (x - d).toNat from by rw [List.length_append, sgm_len]) (fun b5 ll => ?_)
  have lx := hA x3 cs q3 hC1.2.1 l200 (by omega) (by omega) (by omega)
  have ly := hA3 _ lx (by omega)
  refine ⟨by omega, D3 ++ [(pql x3 ++ sgm cs d.toNat (x - d).toNat) ++ [hy]], ?_, ?_⟩
  · rw [k2, show (201 - tn).toNat = (200 - tn).toNat + 1 by omega, TKV_s, z1, Int.toNat_of_nonneg hd, if_neg (by omega), if_pos c5, ← b, len1, show x.toNat - d.toNat = (x - d).toNat by omega]
  · exact k3.last g1.1 hW1 (hX.ty ts) q0 q1 hL13 (hF13.i (hX.ty ts) rfl 1) (h3.trans (h2.trans q2)) ly
theorem TKJ.next (hT : TKJ L cl iv rv iv1 rv1 s u kd wd hy d tn) (hX : XT L cl ln L1 cl1 ln1) (hW : WT h sk L cl ln iv rv) (hF : fT [18, 19, 64, 67, 203] L cl iv rv iv1 rv1) (tu : ty L cl u 15) (hx : SATX iv1 rv1 s (iv1 s 1 - 1) (some r)) (hm : m = iv1 u 7) (hd : 0 ≤ d) (ht : 0 ≤ tn ∧ tn ≤ 200) (hz : (0 < iv1 r 1 ∧ z = wd - (iv1 r 1 + 1)) ∨ (iv1 r 1 ≤ 0 ∧ z = wd)) (hc : z < m - d) (hb : LBX iv1 rv1 u kd d (z - 1) x) (hxd : x ≤ d) (h0 : iv1 r 1 ≠ 0) : TKM L cl iv rv iv1 rv1 s u kd wd hy d tn := fun s2 t2 hK => by
  obtain ⟨g1, g2⟩ := hT s2 t2 hK
  refine ⟨g1, fun D1 x1 cs w st h1 hC => ?_⟩
  obtain ⟨k1, D3, x3, k2, k3⟩ := g2 D1 x1 cs w st h1 hC
  obtain ⟨rb2, q0, q1, q2, q3⟩ := k3.row hx
  have hC1 := hC.al hW hF tu rfl rfl rfl rfl rfl rfl
  obtain ⟨z1, z2⟩ := rom_z q3 hz
  refine hv3 (hC1.2.1.1) (q3.1) (hb w st hC1.1 hC1.2.2.2.1) (fun em ex b => ?_)
  rw [show z - 1 + 1 = z by omega] at b
  unfold LBV at b
  refine ⟨k1, D3 ++ [x3], ?_, k3⟩
  rw [k2, show (201 - tn).toNat = (200 - tn).toNat + 1 by omega, TKV_s, z1, Int.toNat_of_nonneg hd, if_neg (by omega), if_neg, if_neg (by omega), len1]
  intro c5
  rw [if_pos c5] at b
  obtain ⟨_, _, b2, b3⟩ := lbk_at _ c5
  omega
theorem TKM.full (hT : TKM L cl iv rv iv1 rv1 s u kd wd hy d tn) (hX : XT L cl ln L1 cl1 ln1) (hB : BEX L1 cl1 iv1 rv1 iv2 rv2 s x) (hx : x ≠ 1) (hf : f = 0) : TKE L cl iv rv iv2 rv2 s u kd wd hy f := fun s2 t2 hK => by
  obtain ⟨g1, g2⟩ := hT s2 t2 hK
  obtain ⟨b1, b2⟩ := hB s2 (hX.ty t2) g1.1
  refine ⟨g1.trans b1, fun D1 x1 cs w st h1 hC => ⟨fun e => absurd e (by omega), fun _ => ?_⟩⟩
  obtain ⟨k1, D4, k2, k3⟩ := g2 D1 x1 cs w st h1 hC
  have e := (b2 D4 k3).2 hx
  rw [k2, if_neg (by omega)]
theorem TKM.go (hT : TKM L cl iv rv iv1 rv1 s u kd wd hy d tn) (hX : XT L cl ln L1 cl1 ln1) (hB : BEX L1 cl1 iv1 rv1 iv2 rv2 s x) (hx : x = 1) : TKJ L cl iv rv iv2 rv2 s u kd wd hy d (tn + 1) := fun s2 t2 hK => by
  obtain ⟨g1, g2⟩ := hT s2 t2 hK
  obtain ⟨b1, b2⟩ := hB s2 (hX.ty t2) g1.1
  refine ⟨g1.trans b1, fun D1 x1 cs w st h1 hC => ?_⟩
  obtain ⟨k1, D4, k2, k3⟩ := g2 D1 x1 cs w st h1 hC
  obtain ⟨e1, e2⟩ := (b2 D4 k3).1 hx
  exact ⟨k1, D4, [], by rw [k2, if_pos e1, show (201 - (tn + 1)).toNat = (200 - tn).toNat by omega], e2⟩
theorem ENI.zero (hk : k = iv s 2) : ENI L cl iv rv iv s wd k := fun s2 _ hK => ⟨SHK.refl hK, fun D hD => ⟨hD.1, fun l xs e => by
  rw [if_neg (by omega)]
  exact hD.2 l xs e⟩⟩
theorem ENI.skip (hE : ENI L cl iv rv iv1 s wd k) (hx : SATX iv1 rv s k none) (hk : k < iv1 s 1) : ENI L cl iv rv iv1 s wd (k + 1) := fun s2 t2 hK => by
  obtain ⟨g1, g2⟩ := hE s2 t2 hK
  refine ⟨g1, fun D hD => ?_⟩
  obtain ⟨e1, e2⟩ := g2 D hD
  rcases hx with ⟨⟨e3, _⟩, rb, h0, e⟩ | ⟨e, _⟩
  · have lt : k.toNat < D.length := by omega
    obtain ⟨rb2, r2, q0, q1, _⟩ := e2 k.toNat _ (List.getElem?_eq_getElem lt)
    rw [h0] at q0; cases q0
    rw [← e] at q1
    cases q1
  · refine ⟨e1, fun l xs el => ?_⟩
    have g := e2 l xs el
    rw [if_neg (by omega)] at g ⊢
    exact g
theorem ENI.non (hE : ENI L cl iv rv iv1 s wd k) (hk : k = iv s 2) (hg : x = 0) : ENX L cl iv rv iv1 s x wd := fun s2 t2 hK => by
  obtain ⟨g1, g2⟩ := hE s2 t2 hK
  refine ⟨g1, fun D hD => ⟨fun _ => ?_, fun e => absurd hg e⟩⟩
  obtain ⟨e1, e2⟩ := g2 D hD
  refine ⟨e1, fun l xs el => ?_⟩
  have g := e2 l xs el
  rw [if_neg (by omega)] at g
  exact g
theorem ENI.step (hE : ENI L cl iv rv iv1 s wd k) (hW1 : WT h sk L cl ln iv1 rv) (ts : ty L cl s 18) (hx : SATX iv1 rv s k (some r)) (hk : iv s 2 ≤ k) (hL : LFR L cl iv1 rv iv2 r) (hF2 : fT [19, 64] L cl iv1 rv iv2 rv) (h2 : iv2 r 2 = iv1 r 2) (hI : INX iv1 rv iv2 r n) (hn : (0 ≤ wd - iv1 r 1 → n = (wd - iv1 r 1) / 2) ∧ (wd - iv1 r 1 < 0 → n ≤ 0)) (hw : wd ≤ 100) : ENI L cl iv rv iv2 s wd (k + 1) := fun s2 t2 hK => by
  obtain ⟨g1, g2⟩ := hE s2 t2 hK
  obtain ⟨rb, r0, r1⟩ := hx.row
  have hk0 : 0 ≤ k := by
    rcases hx with ⟨e, _⟩ | ⟨_, e⟩
    · exact e.1
    · cases e
  refine ⟨g1.lfr hW1 ts t2 r0 r1 hL hF2 rfl, fun D hD => ?_⟩
  obtain ⟨e1, e2⟩ := g2 D hD
  refine ⟨(hF2.i ts rfl 1).trans e1, fun l xs e => ?_⟩
  have g := e2 l xs e
  by_cases c : l = k.toNat
  · rw [if_neg (by omega)] at g
    rw [if_pos (by omega)]
    obtain ⟨rb2, r2, q0, q1, q2, q3⟩ := g
    rw [r0] at q0; cases q0
    rw [c, r1] at q1; cases q1
    have q4 := hI xs q3
    rw [q3.1] at hn
    rw [ind_cen hn hw] at q4
    exact ⟨rb, r, r0, by rw [c]; exact r1, h2.trans q2, q4⟩
  · have g3 := ROW.lfr g1.1 hW1 ts r0 r1 hL c g
    by_cases c2 : iv s 2 ≤ ((l : Nat) : Int) ∧ ((l : Nat) : Int) < k
    · rw [if_pos c2] at g3
      rw [if_pos (by omega)]
      exact g3
    · rw [if_neg c2] at g3
      rw [if_neg (by omega)]
      exact g3
theorem ENX.no (hg : x = 0) : ENX L cl iv rv iv s x wd := fun s2 _ hK => ⟨SHK.refl hK, fun D hD => ⟨fun _ => hD, fun e => absurd hg e⟩⟩
theorem ENI.fin (hE : ENI L cl iv rv iv1 s wd k) (hk : iv1 s 1 ≤ k) (hg : x ≠ 0) : ENX L cl iv rv iv1 s x wd := fun s2 t2 hK => by
  obtain ⟨g1, g2⟩ := hE s2 t2 hK
  refine ⟨g1, fun D hD => ⟨fun e => absurd e hg, fun _ h0 => ?_⟩⟩
  obtain ⟨e1, e2⟩ := g2 D hD
  refine ⟨by rw [cnl_len]; exact e1, fun l xs e => ?_⟩
  rw [cnl_get] at e
  have lt : l < D.length := by
    by_cases c : l < D.length
    · exact c
    · rw [List.getElem?_eq_none (by omega)] at e
      split at e <;> cases e
  have e3 := List.getElem?_eq_getElem lt
  have g := e2 l _ e3
  by_cases c : (iv s 2).toNat ≤ l
  · rw [if_pos c, e3] at e
    cases e
    rw [if_pos (by omega)] at g
    exact g
  · rw [if_neg c, e3] at e
    cases e
    rw [if_neg (by omega)] at g
    exact g
theorem SAM.up {m : Nat} (ts : ty L cl s 18) (ts2 : ty L cl s2 18) (hn : s2 ≠ s) (hW : WT h sk L cl ln iv rv) (e : iv1 = up2 iv s m z) : SAM iv rv iv1 rv s2 := by
  refine ⟨by funext q; rw [e, up2_k hn], rfl, fun rb h0 => ⟨rfl, fun l r hr => ?_⟩⟩
  have tr := ro19 hW (sh67 hW ts2 h0) hr
  refine ⟨by funext q; rw [e, up2_k (ne_ty tr ts (by decide))], rfl, fun cb hc => ?_⟩
  funext q
  rw [e, up2_k (ne_ty (li64 hW tr hc) ts (by decide))]
theorem ROW.up {m : Nat} (ts : ty L cl s 18) (hW : WT h sk L cl ln iv rv) (e : iv1 = up2 iv s m z) (hx : ROW iv rv s l xs) : ROW iv1 rv s l xs := hx.fr rfl (fun rb r h0 hr => by
  have tr := ro19 hW (sh67 hW ts h0) hr
  refine ⟨hr, by funext q; rw [e, up2_k (ne_ty tr ts (by decide))], rfl, fun cb hc => ?_⟩
  funext q
  rw [e, up2_k (ne_ty (li64 hW tr hc) ts (by decide))])
theorem SHK.up {m : Nat} (h1 : SHK iv rv iv1 rv1 s s2) (ts : ty L1 cl1 s 18) (ts2 : ty L1 cl1 s2 18) (hW : WT h sk L1 cl1 ln1 iv1 rv1) (e : iv2 = up2 iv1 s m z) : SHK iv rv iv2 rv1 s s2 := h1.trans ⟨h1.1, SAM.up ts ts2 (fun q => h1.1.1 q.symm) hW e, rfl⟩
theorem BTX.mk (ts : ty L cl s 18) (hW : WT h sk L cl ln iv rv) (e : iv1 = up2 iv s 2 z) (hz : z = iv s 1) (hB : BEX L cl iv1 rv iv2 rv2 s f) (h2 : iv2 s 2 = iv1 s 2) : BTX L cl iv rv iv2 rv2 s f := fun s2 t2 hK => by
  have g0 : SHK iv rv iv1 rv s s2 := (SHK.refl hK).up ts t2 hW e
  obtain ⟨b1, b2⟩ := hB s2 t2 g0.1
  refine ⟨g0.trans b1, fun D hD => ?_⟩
  have hD1 : DRP iv1 rv s D := ⟨by rw [e, up2_j (by decide)]; exact hD.1, fun l xs q => (hD.2 l xs q).up ts hW e⟩
  obtain ⟨k1, k2⟩ := b2 D hD1
  have e2 : iv1 s 2 = z := by rw [e, up2_s]
  refine ⟨fun c => ⟨(k1 c).1, (k1 c).2, ?_⟩, k2⟩
  rw [h2, e2, hz]
  exact hD.1
theorem BEX.no (hf : f ≠ 1) (h1 : 200 ≤ iv s 1) (h2 : iv s 1 ≤ 200) : BEX L cl iv rv iv rv s f := fun s2 _ hK => ⟨SHK.refl hK, fun D hD => ⟨fun e => absurd e hf, fun _ => by
  have e := hD.1
  omega⟩⟩
theorem BEX.old (ts : ty L cl s 18) (hW : WT h sk L cl ln iv rv) (hW1 : WT h sk L cl ln iv1 rv) (h0 : rv s 0 = some rb) (hr : rv rb (iv s 1).toNat = some r) (hL : LFR L cl iv rv iv1 r) (hF : fT [19] L cl iv rv iv1 rv) (e1 : iv1 r 1 = 0) (e2 : iv1 r 2 = 0) (e : iv2 = up2 iv1 s 1 z) (hz : z = iv s 1 + 1) (hl : iv s 1 < 200) (hf : f = 1) : BEX L cl iv rv iv2 rv s f := fun s2 t2 hK => by
  have g1 : SHK iv rv iv1 rv s s2 := (SHK.refl hK).lfr hW ts t2 h0 hr hL hF rfl
  refine ⟨g1.up ts t2 hW1 e, fun D hD => ⟨fun _ => ?_, fun c => absurd hf c⟩⟩
  obtain ⟨d1, d2⟩ := hD
  refine ⟨by omega, by rw [e, up2_s, len1]; omega, fun l xs q => ?_⟩
  rcases ap1 q with ⟨c, q3⟩ | ⟨c, q3⟩
  · exact (ROW.lfr hK hW ts h0 hr hL (by omega) (d2 l xs q3)).up ts hW1 e
  · subst q3
    have rw1 : ROW iv1 rv s l [] := ⟨rb, r, h0, by rw [c, show D.length = (iv s 1).toNat by omega]; exact hr, e2, LNE.nil e1⟩
    exact rw1.up ts hW1 e
theorem BEX.fresh (ts : ty L cl s 18) (hW : WT h sk L cl ln iv rv) (h0 : rv s 0 = some rb) (hl : iv s 1 < 200) (hl0 : 0 ≤ iv s 1) (qL : q ∉ L) (bL : b ∉ L) (i18 : ∀ c, ty L cl c 18 → c ≠ s → ∀ j, iv2 c j = iv c j) (i19 : ∀ c, ty L cl c 19 → ∀ j, iv2 c j = iv c j) (i64 : ∀ c, ty L cl c 64 → ∀ j, iv2 c j = iv c j) (r18 : ∀ c, ty L cl c 18 → ∀ j, rv2 c j = rv c j) (r19 : ∀ c, ty L cl c 19 → ∀ j, rv2 c j = rv c j) (r67 : ∀ c, ty L cl c 67 → c ≠ rb → ∀ j, rv2 c j = rv c j) (rrb : ∀ j, j ≠ (iv s 1).toNat → rv2 rb j = rv rb j) (rn : rv2 rb (iv s 1).toNat = some q) (rq : rv2 q 0 = some b) (q1 : iv2 q 1 = 0) (q2 : iv2 q 2 = 0) (hz : iv2 s 1 = iv s 1 + 1) (hf : f = 1) : BEX L cl iv rv iv2 rv2 s f := fun s2 t2 hK => by
  refine hv3 (sh67 hW ts h0) (show rv2 s = rv s from funext fun j => r18 s ts j) (show rv2 s2 = rv s2 from funext fun j => r18 s2 t2 j) (fun tb es es2 => ?_)
  have old : ∀ x y, (x = s ∨ x = s2) → rv2 x 0 = some y → ∀ l r, rv2 y l = some r → (rv x 0 = some y ∧ rv y l = some r ∧ rv2 r 0 = rv r 0 ∧ ty L cl r 19) ∨ (x = s ∧ l = (iv s 1).toNat ∧ r = q) := fun x y hx hy l r hr => by
    have tx : ty L cl x 18 := by
      rcases hx with e | e
      · rw [e]; exact ts
      · rw [e]; exact t2
    have hy' : rv x 0 = some y := by rw [← r18 x tx 0]; exact hy
    have ty' := sh67 hW tx hy'
    by_cases c : y = rb
    · rw [c] at hr hy' ty' ⊢
      have xs_ : x = s := by
        rcases hx with e | e
        · exact e
        · rw [e] at hy'
          exact absurd hy' (hK.2.1 rb h0)
      by_cases c2 : l = (iv s 1).toNat
      · rw [c2, rn] at hr
        cases hr
        exact Or.inr ⟨xs_, c2, rfl⟩
      · rw [rrb l c2] at hr
        have tr := ro19 hW ty' hr
        exact Or.inl ⟨hy', hr, r19 r tr 0, tr⟩
    · rw [r67 y ty' c l] at hr
      have tr := ro19 hW ty' hr
      exact Or.inl ⟨hy', hr, r19 r tr 0, tr⟩
  have K2 : LNK rv2 s s2 := by
    refine ⟨hK.1, fun c h1 h2 => hK.2.1 c (by rw [← es]; exact h1) (by rw [← es2]; exact h2), fun x y hx hy rb1 rb2 l l' r r' c a1 a2 a3 a4 a5 a6 => ?_⟩
    rcases old x rb1 hx a1 l r a3 with ⟨o1, o2, o3, o4⟩ | ⟨o1, o2, o3⟩
    · rcases old y rb2 hy a2 l' r' a4 with ⟨p1, p2, p3, p4⟩ | ⟨p1, p2, p3⟩
      · rw [o3] at a5
        rw [p3] at a6
        exact hK.2.2 x y hx hy rb1 rb2 l l' r r' c o1 p1 o2 p2 a5 a6
      · rw [p3, rq] at a6
        rw [o3] at a5
        cases a6
        exact absurd (li64 hW o4 a5).1 bL
    · rcases old y rb2 hy a2 l' r' a4 with ⟨p1, p2, p3, p4⟩ | ⟨p1, p2, p3⟩
      · rw [o3, rq] at a5
        rw [p3] at a6
        cases a5
        exact absurd (li64 hW p4 a6).1 bL
      · exact ⟨o1.trans p1.symm, o2.trans p2.symm⟩
  have kp : ∀ r, ty L cl r 19 → iv2 r = iv r ∧ rv2 r = rv r ∧ ∀ cb, rv r 0 = some cb → iv2 cb = iv cb := fun r tr => ⟨funext fun j => i19 r tr j, funext fun j => r19 r tr j, fun cb hc => funext fun j => i64 cb (li64 hW tr hc) j⟩
  refine ⟨⟨K2, ⟨funext fun j => i18 s2 t2 (fun e => hK.1 e.symm) j, es2, fun rb2 hb2 => ?_⟩, es⟩, fun D hD => ⟨fun _ => ?_, fun c => absurd hf c⟩⟩
  · have tb2 := sh67 hW t2 hb2
    refine ⟨funext fun j => r67 rb2 tb2 (fun e => hK.2.1 rb h0 (by rw [← e]; exact hb2)) j, fun l r hr => kp r (ro19 hW tb2 hr)⟩
  · obtain ⟨d1, d2⟩ := hD
    refine ⟨by omega, by rw [hz, len1]; omega, fun l xs g => ?_⟩
    rcases ap1 g with ⟨c, q3⟩ | ⟨c, q3⟩
    · refine (d2 l xs q3).fr es (fun rb2 r h02 hr => ?_)
      rw [h0] at h02; cases h02
      obtain ⟨k1, k2, k3⟩ := kp r (ro19 hW tb hr)
      exact ⟨by rw [rrb l (by omega)]; exact hr, k1, k2, k3⟩
    · subst q3
      exact ⟨rb, q, by rw [es]; exact h0, by rw [c, show D.length = (iv s 1).toNat by omega]; exact rn, q2, LNE.nil q1⟩
end TROW
