def LNO (iv : Nat → Nat → Int) (rv : Nat → Nat → Option Nat) (r : Nat) (x : Option (List Int)) : Prop := (x = none ∧ iv r 2 ≠ 0) ∨ ∃ xs, x = some xs ∧ iv r 2 = 0 ∧ LNE iv rv r xs
def SHT (iv : Nat → Nat → Int) (rv : Nat → Nat → Option Nat) (s : Nat) (E : List (Option (List Int))) : Prop := iv s 1 = ((E.length : Nat) : Int) ∧ ∀ (l : Nat) (x : Option (List Int)), E[l]? = some x → ∃ rb r, rv s 0 = some rb ∧ rv rb l = some r ∧ LNO iv rv r x
def PRX (iv : Nat → Nat → Int) (rv : Nat → Nat → Option Nat) (s : Nat) (i : Int) (f : Option Nat) : Prop := (∃ r, f = some r ∧ SATX iv rv s i (some r) ∧ iv r 2 = 0) ∨ (f = none ∧ (SATX iv rv s i none ∨ ∃ r, SATX iv rv s i (some r) ∧ iv r 2 ≠ 0))
def TCH (iv : Nat → Nat → Int) (rv : Nat → Nat → Option Nat) (iv2 : Nat → Nat → Int) (h0 : Nat) (P : List (Option (List Int)) → List (Option (List Int)) → Prop) : Prop := ∀ sA sB, rv h0 9 = some sA → rv h0 10 = some sB → LNK rv sB sA → ∀ E, SHT iv rv sA E → ∃ E2, P E E2 ∧ SHT iv2 rv sA E2
def RSK (iv : Nat → Nat → Int) (rv : Nat → Nat → Option Nat) (iv1 : Nat → Nat → Int) (r : Nat) (k : Int) : Prop := ∀ xs, LNE iv rv r xs → LNE iv1 rv r (mpr k.toNat (gd0 xs))
def BCX (iv : Nat → Nat → Int) (rv : Nat → Nat → Option Nat) (iv2 : Nat → Nat → Int) (r r2 : Nat) : Prop := iv2 r 2 = iv r2 2 ∧ ∀ xs, LNE iv rv r2 xs → LNE iv2 rv r xs
def DTK (iv : Nat → Nat → Int) (rv : Nat → Nat → Option Nat) (r : Nat) (k z : Int) : Prop := ∀ xs, LNE iv rv r xs → k ≤ ((xs.length : Nat) : Int) → iI z = bcs 0 (mpr k.toNat (gd0 xs))
def DTX (iv : Nat → Nat → Int) (rv : Nat → Nat → Option Nat) (r : Nat) (z : Int) : Prop := ∀ xs, LNE iv rv r xs → iI z = bcs 0 xs
def EP1 (iv : Nat → Nat → Int) (rv : Nat → Nat → Option Nat) (h0 : Nat) (q w k z : Int) : Prop := ∀ sA, rv h0 9 = some sA → ∀ E, SHT iv rv sA E → emb E q w k.toNat (iI z)
def EPX (iv : Nat → Nat → Int) (rv : Nat → Nat → Option Nat) (iv2 : Nat → Nat → Int) (h0 : Nat) (q n w f : Int) : Prop := ∀ sA, rv h0 9 = some sA → ∀ E, SHT iv rv sA E → EMBX E q n w (iI (iv h0 16)) f (iI (iv2 h0 16))
section CROW
variable {h : Nat} {sk : Nat → Nat} {L : List Nat} {cl ln : Nat → Nat} {iv iv1 iv2 iv3 iv4 : Nat → Nat → Int} {rv rv2 : Nat → Nat → Option Nat} {s s2 r r2 rb cb ca h0 sA : Nat} {l i n f k w x q u z : Int} {E E2 : List (Option (List Int))} {y : Option (List Int)} {xs ys : List Int} {ls : List Nat} {P : List (Option (List Int)) → List (Option (List Int)) → Prop}
theorem mpr_s {n : Nat} {F : Nat → Int} : mpr (n + 1) F = mpr n F ++ [F n] := by
  unfold mpr
  rw [List.range_succ, List.map_append]
  rfl
theorem LNE.gd (hx : LNE iv rv r xs) (h0 : rv r 0 = some cb) {j : Nat} (hj : j < xs.length) : iv cb j = gd0 xs j := hx.2 cb h0 j _ (gd0_lt hj)
theorem LNO.fr (hx : LNO iv rv r y) (h1 : iv2 r = iv r) (h2 : rv2 r = rv r) (h3 : ∀ cb, rv r 0 = some cb → iv2 cb = iv cb) : LNO iv2 rv2 r y := by
  rcases hx with ⟨e1, e2⟩ | ⟨xs, e1, e2, e3⟩
  · exact Or.inl ⟨e1, by rw [h1]; exact e2⟩
  · exact Or.inr ⟨xs, e1, by rw [h1]; exact e2, e3.fr h1 h2 h3⟩
theorem SHT.sam (hE : SHT iv rv s E) (hS : SAM iv rv iv2 rv2 s) : SHT iv2 rv2 s E := by
  obtain ⟨s1, s2, s3⟩ := hS
  refine ⟨by rw [s1]; exact hE.1, fun l x e => ?_⟩
  obtain ⟨rb, r, q0, q1, q2⟩ := hE.2 l x e
  obtain ⟨p1, p2⟩ := s3 rb q0
  obtain ⟨k1, k2, k3⟩ := p2 l r q1
  exact ⟨rb, r, by rw [s2]; exact q0, by rw [p1]; exact q1, q2.fr k1 k2 k3⟩
theorem SHT.nul (hE : SHT iv rv s E) (hx : SATX iv rv s i none) : rwe E i = none := by
  rcases hx with ⟨⟨c1, c2⟩, rb, h0, e⟩ | ⟨c, _⟩
  · obtain ⟨y, _, y2⟩ := rwl_in (E := E) c1 (by have q := hE.1; omega)
    obtain ⟨rb2, r, q0, q1, _⟩ := hE.2 _ _ y2
    rw [h0] at q0; cases q0
    rw [← e] at q1
    cases q1
  · exact rwl_out (by have q := hE.1; omega)
theorem SHT.smt (hE : SHT iv rv s E) (hx : SATX iv rv s i (some r)) : ∃ y, rwe E i = some y ∧ LNO iv rv r y := by
  rcases hx with ⟨⟨c1, c2⟩, rb, h0, e⟩ | ⟨_, e⟩
  · obtain ⟨y, y1, y2⟩ := rwl_in (E := E) c1 (by have q := hE.1; omega)
    obtain ⟨rb2, r2, q0, q1, q2⟩ := hE.2 _ _ y2
    rw [h0] at q0; cases q0
    rw [← e] at q1
    cases q1
    exact ⟨y, y1, q2⟩
  · cases e
theorem SHT.lck (hE : SHT iv rv s E) (hx : SATX iv rv s i (some r)) (hn : iv r 2 ≠ 0) : rwe E i = some none := by
  obtain ⟨y, y1, y2⟩ := hE.smt hx
  rcases y2 with ⟨e, _⟩ | ⟨xs, _, e, _⟩
  · rw [y1, e]
  · exact absurd e hn
theorem SHT.prs (hE : SHT iv rv s E) (hx : SATX iv rv s i (some r)) (hn : iv r 2 = 0) : ∃ xs, rwe E i = some (some xs) ∧ LNE iv rv r xs := by
  obtain ⟨y, y1, y2⟩ := hE.smt hx
  rcases y2 with ⟨_, e⟩ | ⟨xs, e1, _, e2⟩
  · exact absurd hn e
  · exact ⟨xs, by rw [y1, e1], e2⟩
theorem PRX.non (hx : PRX iv rv s i none) (hE : SHT iv rv s E) : ¬ ∃ xs, rwe E i = some (some xs) := fun g => by
  obtain ⟨xs, g⟩ := g
  rcases hx with ⟨r, e, _⟩ | ⟨_, e | ⟨r, e1, e2⟩⟩
  · cases e
  · rw [hE.nul e] at g
    cases g
  · rw [hE.lck e1 e2] at g
    cases g
theorem PRX.smt (hx : PRX iv rv s i (some r)) : SATX iv rv s i (some r) ∧ iv r 2 = 0 := by
  rcases hx with ⟨r2, e, e1, e2⟩ | ⟨e, _⟩
  · cases e
    exact ⟨e1, e2⟩
  · cases e
theorem SHT.set (hE : SHT iv rv s E) (hK : LNK rv s2 s) (hW : WT h sk L cl ln iv rv) (ts : ty L cl s 18) (hx : SATX iv rv s i (some r)) (hL : LFR L cl iv rv iv2 r) (h1 : iv2 s 1 = iv s 1) (hn : LNO iv2 rv r y) : SHT iv2 rv s (E.set i.toNat y) := by
  obtain ⟨rb, r0, r1⟩ := hx.row
  have tr := ro19 hW (sh67 hW ts r0) r1
  refine ⟨by rw [List.length_set, h1]; exact hE.1, fun j x e => ?_⟩
  rw [List.getElem?_set] at e
  by_cases c : i.toNat = j
  · rw [if_pos c] at e
    split at e
    · cases e
      exact ⟨rb, r, r0, by rw [← c]; exact r1, hn⟩
    · cases e
  · rw [if_neg c] at e
    obtain ⟨rb2, r2, q0, q1, q2⟩ := hE.2 j x e
    obtain ⟨n1, n2⟩ := hK.sym.ne hW (Or.inl rfl) (Or.inl rfl) tr r0 r1 q0 q1 (fun g => c g.2)
    have t2 := ro19 hW (sh67 hW ts q0) q1
    exact ⟨rb2, r2, q0, q1, q2.fr (hL.1 r2 t2 n1) rfl (fun cb hc => hL.2 cb (li64 hW t2 hc) (n2 cb hc))⟩
theorem TCH.same (hA : rv h0 9 = some sA) (hW : WT h sk L cl ln iv rv) (tA : ty L cl sA 18) (hF : fT ls L cl iv rv iv2 rv) (a18 : ls.contains 18 = false) (a19 : ls.contains 19 = false) (a64 : ls.contains 64 = false) (a67 : ls.contains 67 = false) (hP : ∀ E, SHT iv rv sA E → P E E) : TCH iv rv iv2 h0 P := fun sA' sB e _ _ E hE => by
  rw [hA] at e; cases e
  exact ⟨E, hP E hE, hE.sam (SAM.frm hW tA hF a18 a19 a64 a67)⟩
theorem TCH.row (hA : rv h0 9 = some sA) (hW : WT h sk L cl ln iv rv) (tA : ty L cl sA 18) (hx : SATX iv rv sA i (some r)) (hL : LFR L cl iv rv iv1 r) (h1 : iv1 sA 1 = iv sA 1) (hW1 : WT h sk L cl ln iv1 rv) (hF : fT ls L cl iv1 rv iv2 rv) (a18 : ls.contains 18 = false) (a19 : ls.contains 19 = false) (a64 : ls.contains 64 = false) (a67 : ls.contains 67 = false) (hP : ∀ E, SHT iv rv sA E → ∃ y, LNO iv1 rv r y ∧ P E (E.set i.toNat y)) : TCH iv rv iv2 h0 P := fun sA' sB e _ hK E hE => by
  rw [hA] at e; cases e
  obtain ⟨y, y1, y2⟩ := hP E hE
  exact ⟨_, y2, (hE.set hK hW tA hx hL h1 y1).sam (SAM.frm hW1 tA hF a18 a19 a64 a67)⟩
theorem LSP.no (hx : SATX iv rv s l none) (hf : f = -1) (hE : SHT iv rv s E) : LOSX E l f E := Or.inr ⟨hE.nul hx, rfl, hf⟩
theorem LSP.ok (hx : SATX iv rv s l (some r)) (e : iv1 = up2 iv r 2 1) (hf : f = 1) (hE : SHT iv rv s E) : ∃ y, LNO iv1 rv r y ∧ LOSX E l f (E.set l.toNat y) := by
  obtain ⟨y, y1, _⟩ := hE.smt hx
  exact ⟨none, Or.inl ⟨rfl, by rw [e, up2_s]; decide⟩, Or.inl ⟨⟨y, y1⟩, rfl, hf⟩⟩
theorem CTP.no (hx : (n < 0 ∨ 200 < n) ∨ PRX iv rv s l none) (hf : f = -1) (hE : SHT iv rv s E) : CUTX E l n f E := by
  refine Or.inr ⟨fun ⟨c, g⟩ => ?_, rfl, hf⟩
  rcases hx with e | e
  · omega
  · exact e.non hE g
theorem CTP.ok (hx : PRX iv rv s l (some r)) (hn : 0 ≤ n ∧ n ≤ 200) (hr : RSK iv rv iv1 r n) (h2 : iv1 r 2 = iv r 2) (hf : f = n) (hE : SHT iv rv s E) : ∃ y, LNO iv1 rv r y ∧ CUTX E l n f (E.set l.toNat y) := by
  obtain ⟨x1, x2⟩ := hx.smt
  obtain ⟨xs, e1, e2⟩ := hE.prs x1 x2
  exact ⟨some (mpr n.toNat (gd0 xs)), Or.inr ⟨_, rfl, h2.trans x2, hr xs e2⟩, Or.inl ⟨hn, xs, e1, rfl, hf⟩⟩
theorem RSK.init (e : iv1 = up2 iv r 1 k) (hk : 0 ≤ k ∧ k ≤ iv r 1) (hne : ∀ cb, rv r 0 = some cb → cb ≠ r) : RSK iv rv iv1 r k := fun xs hx => by
  refine ⟨by rw [e, up2_s, mpr_len]; omega, fun cb hc j y ey => ?_⟩
  obtain ⟨m1, m2⟩ := mpr_at ey
  have q := hx.1
  rw [e, up2_k (hne cb hc), m2]
  exact hx.gd hc (by omega)
theorem RSK.step (hr : RSK iv rv iv1 r k) (hx : LAX iv1 rv iv2 r 0) (hk : 0 ≤ k ∧ iv r 1 ≤ k ∧ k < 200) : RSK iv rv iv2 r (k + 1) := fun xs hl => by
  have q := hl.1
  have g := hx _ (hr xs hl) (by rw [mpr_len]; omega)
  rw [show (k + 1).toNat = k.toNat + 1 by omega, mpr_s, gd0_out (by omega)]
  exact g
theorem CRP.no (hx : SATX iv rv s q none ∨ SATX iv rv s u none) (hf : f = -1) (hE : SHT iv rv s E) : CPRX E q w u x n f E := by
  refine Or.inr ⟨fun ⟨xs, ys, g⟩ => ?_, rfl, hf⟩
  rcases hx with e | e
  · have g1 := g.1
    rw [hE.nul e] at g1
    cases g1
  · have g1 := g.2.1
    rw [hE.nul e] at g1
    cases g1
theorem CRP.lck (hq : SATX iv rv s q (some r)) (hu : SATX iv rv s u (some r2)) (hx : iv r 2 ≠ 0 ∨ iv r2 2 ≠ 0) (hf : f = -1) (hE : SHT iv rv s E) : CPRX E q w u x n f E := by
  refine Or.inr ⟨fun ⟨xs, ys, g⟩ => ?_, rfl, hf⟩
  rcases hx with e | e
  · have g1 := g.1
    rw [hE.lck hq e] at g1
    cases g1
  · have g1 := g.2.1
    rw [hE.lck hu e] at g1
    cases g1
theorem CRP.out (hq : SATX iv rv s q (some r)) (hu : SATX iv rv s u (some r2)) (h1 : iv r 2 = 0) (h2 : iv r2 2 = 0) (hx : ¬ (0 ≤ n ∧ 0 ≤ w ∧ 0 ≤ x ∧ w + n ≤ iv r 1 ∧ x + n ≤ iv r2 1)) (hf : f = -1) (hE : SHT iv rv s E) : CPRX E q w u x n f E := by
  obtain ⟨xs, e1, e2⟩ := hE.prs hq h1
  obtain ⟨ys, d1, d2⟩ := hE.prs hu h2
  refine Or.inr ⟨fun ⟨zs, us, g1, g2, g3, g4, g5, g6, g7⟩ => hx ?_, rfl, hf⟩
  rw [e1] at g1
  rw [d1] at g2
  cases g1
  cases g2
  refine hv2 (e2.1) (d2.1) (fun a1 a2 => ?_)
  exact ⟨g3, g4, g5, by omega, by omega⟩
theorem CRP.ok (hq : SATX iv rv s q (some r)) (hu : SATX iv rv s u (some r2)) (h1 : iv r 2 = 0) (h2 : iv r2 2 = 0) (hx : 0 ≤ n ∧ 0 ≤ w ∧ 0 ≤ x ∧ w + n ≤ iv r 1 ∧ x + n ≤ iv r2 1) (ha : rv r 0 = some ca) (hb : rv r2 0 = some cb) (e : iv1 = fun a b => if a = cb then (if x.toNat ≤ b ∧ b < x.toNat + n.toNat then iv ca (w.toNat + (b - x.toNat)) else iv cb b) else iv a b) (hne : r2 ≠ cb) (hf : f = n) (hE : SHT iv rv s E) : ∃ y, LNO iv1 rv r2 y ∧ CPRX E q w u x n f (E.set u.toNat y) := by
  obtain ⟨xs, e1, e2⟩ := hE.prs hq h1
  obtain ⟨ys, d1, d2⟩ := hE.prs hu h2
  refine hv2 (e2.1) (d2.1) (fun a1 a2 => ?_)
  have er : ∀ m, iv1 r2 m = iv r2 m := fun m => by
    rw [e]
    show (if r2 = cb then _ else iv r2 m) = iv r2 m
    rw [if_neg hne]
  refine ⟨some (cpx xs ys w.toNat x.toNat n.toNat), Or.inr ⟨_, rfl, (er 2).trans h2, ?_, fun c hc j y ey => ?_⟩, Or.inl ⟨xs, ys, ⟨e1, d1, hx.1, hx.2.1, hx.2.2.1, by omega, by omega⟩, rfl, hf⟩⟩
  · unfold cpx
    rw [er, mpr_len]
    exact a2
  · unfold cpx at ey
    obtain ⟨m1, m2⟩ := mpr_at ey
    rw [hb] at hc; cases hc
    have ec : iv1 cb j = if x.toNat ≤ j ∧ j < x.toNat + n.toNat then iv ca (w.toNat + (j - x.toNat)) else iv cb j := by
      rw [e]
      show (if cb = cb then _ else _) = _
      rw [if_pos rfl]
    rw [ec, m2]
    by_cases c0 : x.toNat ≤ j ∧ j < x.toNat + n.toNat
    · rw [if_pos c0, if_pos c0]
      exact e2.gd ha (by omega)
    · rw [if_neg c0, if_neg c0]
      exact d2.gd hb m1
theorem BCX.mk {m : Int} (ha : rv r2 0 = some ca) (hb : rv r 0 = some cb) (e1 : iv1 = fun a b => if a = cb then (if (0 : Int).toNat ≤ b ∧ b < (0 : Int).toNat + m.toNat then iv ca ((0 : Int).toNat + (b - (0 : Int).toNat)) else iv cb b) else iv a b) (hm : m = iv r2 1) (e2 : iv2 = up2 iv1 r 1 k) (hk : k = iv r2 1) (e3 : iv3 = up2 iv2 r 2 z) (hz : z = iv2 r2 2) (hne : cb ≠ r) (hne2 : r2 ≠ cb) : BCX iv rv iv3 r r2 := by
  have z2 : iv2 r2 2 = iv r2 2 := by
    rw [e2, up2_j (by decide), e1]
    show (if r2 = cb then _ else iv r2 2) = iv r2 2
    rw [if_neg hne2]
  refine ⟨by rw [e3, up2_s]; exact hz.trans z2, fun xs hx => ⟨by rw [e3, up2_j (by decide), e2, up2_s]; exact hk.trans hx.1, fun c hc j y ey => ?_⟩⟩
  rw [hb] at hc; cases hc
  refine hv2 (hx.1) (gl3 ey) (fun q lt => ?_)
  have ec : iv1 cb j = if (0 : Int).toNat ≤ j ∧ j < (0 : Int).toNat + m.toNat then iv ca ((0 : Int).toNat + (j - (0 : Int).toNat)) else iv cb j := by
    rw [e1]
    show (if cb = cb then _ else _) = _
    rw [if_pos rfl]
  rw [e3, up2_k hne, e2, up2_k hne, ec, if_pos (by omega), show (0 : Int).toNat + (j - (0 : Int).toNat) = j by omega]
  exact hx.2 ca ha j y ey
theorem wr_add {x z : Int} (hz : R32 z) (hx : -2147483648 ≤ x ∧ x ≤ 2147484000) (e : iI x = iI z) : (x < 2147483648 ∧ z = x) ∨ (2147483648 ≤ x ∧ z < 0) := by
  have g := congrArg Int32.toInt e
  rw [iI_int hz] at g
  by_cases c : x < 2147483648
  · rw [iI_int ⟨hx.1, c⟩] at g
    exact Or.inl ⟨c, g.symm⟩
  · have h2 : (iI x).toInt = x.bmod 4294967296 := Int32.toInt_ofInt
    rw [h2, Int.bmod_def] at g
    refine Or.inr ⟨by omega, ?_⟩
    split at g <;> omega
theorem SATX.wr {fo : Option Nat} (hx : SATX iv rv s z fo) (hw : (x < 2147483648 ∧ z = x) ∨ (2147483648 ≤ x ∧ z < 0)) (hc : iv s 1 ≤ 200) : SATX iv rv s x fo := by
  rcases hw with ⟨_, e⟩ | ⟨e1, e2⟩
  · rw [← e]
    exact hx
  · rcases hx with ⟨c, _⟩ | ⟨_, c⟩
    · omega
    · exact Or.inr ⟨by omega, c⟩
theorem CPP.zero (hA : rv h0 9 = some sA) (hW : WT h sk L cl ln iv rv) (tA : ty L cl sA 18) (th : ty L cl h0 1) (e : iv1 = up2 iv h0 15 z) (hk : k = 0) : TCH iv rv iv1 h0 (fun E E1 => cpn E q u k.toNat E1) := by
  have hF : fT [1] L cl iv rv iv1 rv := fT.refl.puti (ln := ln) (ln2 := ln) XT.refl e th rfl
  refine TCH.same hA hW tA hF rfl rfl rfl rfl (fun E hE => ?_)
  rw [hk]
  exact rfl
theorem CPP.step (hT : TCH iv rv iv1 h0 (fun E E1 => cpn E q u k.toNat E1)) (hA : rv h0 9 = some sA) (hW1 : WT h sk L cl ln iv1 rv) (tA : ty L cl sA 18) (th : ty L cl h0 1) (g1 : SATX iv1 rv sA (q + k) (some r)) (g2 : SATX iv1 rv sA (u + k) (some r2)) (hl : iv1 r 2 = 0) (hL : LFR L cl iv1 rv iv2 r2) (hB : BCX iv1 rv iv2 r2 r) (h1 : iv2 sA 1 = iv1 sA 1) (hW2 : WT h sk L cl ln iv2 rv) (e : iv3 = up2 iv2 h0 15 z) (hk : 0 ≤ k) : TCH iv rv iv3 h0 (fun E E1 => cpn E q u (k + 1).toNat E1) := fun sA' sB e1 e2 hK E hE => by
  rw [hA] at e1; cases e1
  have hF : fT [1] L cl iv2 rv iv3 rv := fT.refl.puti (ln := ln) (ln2 := ln) XT.refl e th rfl
  obtain ⟨E1, p1, p2⟩ := hT sA sB hA e2 hK E hE
  obtain ⟨xs, d1, d2⟩ := p2.prs g1 hl
  obtain ⟨y, y1, _⟩ := p2.smt g2
  refine ⟨E1.set (u + k).toNat (some xs), ?_, (p2.set hK hW1 tA g2 hL h1 (Or.inr ⟨xs, rfl, hB.1.trans hl, hB.2 xs d2⟩)).sam (SAM.frm hW2 tA hF rfl rfl rfl rfl)⟩
  show cpn E q u (k + 1).toNat (E1.set (u + k).toNat (some xs))
  rw [show (k + 1).toNat = k.toNat + 1 by omega]
  refine ⟨E1, p1, xs, y, ?_, ?_, ?_⟩
  · rw [show q + ((k.toNat : Nat) : Int) = q + k by omega]
    exact d1
  · rw [show u + ((k.toNat : Nat) : Int) = u + k by omega]
    exact y1
  · rw [show u + ((k.toNat : Nat) : Int) = u + k by omega]
theorem CPP.bad (hA : rv h0 9 = some sA) (hW : WT h sk L cl ln iv rv) (tA : ty L cl sA 18) (hF : fT [1] L cl iv rv iv2 rv) {c c2 : Int} (hn : n < 0 ∨ 10 < n) (hf : f = -1) (hc : c2 = c) : TCH iv rv iv2 h0 (fun E E2 => CPLX E q u n c f E2 c2) := TCH.same hA hW tA hF rfl rfl rfl rfl (fun E hE => Or.inl ⟨hn, rfl, hf, hc⟩)
theorem CPP.ok (hT : TCH iv rv iv1 h0 (fun E E1 => cpn E q u k.toNat E1)) (hA : rv h0 9 = some sA) (hW1 : WT h sk L cl ln iv1 rv) (tA : ty L cl sA 18) (hF : fT [1] L cl iv1 rv iv2 rv) {c c2 : Int} (hk : k = n) (hn : 0 ≤ n ∧ n ≤ 10) (hf : f = n) (hc : c2 = n) : TCH iv rv iv2 h0 (fun E E2 => CPLX E q u n c f E2 c2) := fun sA' sB e1 e2 hK E hE => by
  rw [hA] at e1; cases e1
  obtain ⟨E1, p1, p2⟩ := hT sA sB hA e2 hK E hE
  have p3 : cpn E q u k.toNat E1 := p1
  rw [hk] at p3
  exact ⟨E1, Or.inr ⟨hn, Or.inl ⟨p3, hf, hc⟩⟩, p2.sam (SAM.frm hW1 tA hF rfl rfl rfl rfl)⟩
theorem CPP.stop (hT : TCH iv rv iv1 h0 (fun E E1 => cpn E q u k.toNat E1)) (hA : rv h0 9 = some sA) (hW1 : WT h sk L cl ln iv1 rv) (tA : ty L cl sA 18) (hF : fT [1] L cl iv1 rv iv2 rv) {c c2 : Int} (hk : 0 ≤ k ∧ k < n) (hn : n ≤ 10) (hf : f = -1) (hc : c2 = k) (hx : SATX iv1 rv sA (q + k) none ∨ SATX iv1 rv sA (u + k) none ∨ ∃ r, SATX iv1 rv sA (q + k) (some r) ∧ iv1 r 2 ≠ 0) : TCH iv rv iv2 h0 (fun E E2 => CPLX E q u n c f E2 c2) := fun sA' sB e1 e2 hK E hE => by
  rw [hA] at e1; cases e1
  obtain ⟨E1, p1, p2⟩ := hT sA sB hA e2 hK E hE
  refine ⟨E1, Or.inr ⟨⟨by omega, hn⟩, Or.inr ⟨k.toNat, by omega, p1, fun ⟨E3, xs, y, d1, d2, _⟩ => ?_, hf, by omega⟩⟩, p2.sam (SAM.frm hW1 tA hF rfl rfl rfl rfl)⟩
  rw [show q + ((k.toNat : Nat) : Int) = q + k by omega] at d1
  rw [show u + ((k.toNat : Nat) : Int) = u + k by omega] at d2
  rcases hx with e | e | ⟨r, e1, e3⟩
  · rw [p2.nul e] at d1
    cases d1
  · rw [p2.nul e] at d2
    cases d2
  · rw [p2.lck e1 e3] at d1
    cases d1
theorem DTK.zero (hk : k = 0) (hz : z = 0) : DTK iv rv r k z := fun xs hx hl => by
  rw [hk, hz]
  rfl
theorem DTK.step (hd : DTK iv rv r k z) (hc : rv r 0 = some cb) (hk : 0 ≤ k) (e1 : bcn (iI (iv cb k.toNat)) = iI w) (e2 : iI (z + w) = iI x) : DTK iv rv r (k + 1) x := fun xs hx hl => by
  refine hv2 (hd xs hx (by omega)) (show iI (z + w) = iI z + iI w from Int32.ofInt_add z w) (fun g ea => ?_)
  have ec := hx.gd hc (j := k.toNat) (by omega)
  rw [show (k + 1).toNat = k.toNat + 1 by omega, mpr_s, bcs_snoc, ← g, ← e2, ea, ← e1, ec]
theorem mpr_all {n : Nat} (hn : n = xs.length) : mpr n (gd0 xs) = xs := by
  refine List.ext_getElem? (fun j => ?_)
  by_cases cj : j < xs.length
  · have lt : j < (mpr n (gd0 xs)).length := by rw [mpr_len]; omega
    have g := List.getElem?_eq_getElem lt
    rw [gd0_lt cj, g]
    obtain ⟨_, m2⟩ := mpr_at g
    rw [m2]
  · have l1 : (mpr n (gd0 xs)).length ≤ j := by
      rw [mpr_len]
      omega
    rw [List.getElem?_eq_none l1, List.getElem?_eq_none (show xs.length ≤ j by omega)]
theorem DTX.fin (hd : DTK iv rv r k z) (hk : k = iv r 1) : DTX iv rv r z := fun xs hx => by
  have e := hx.1
  have g := hd xs hx (by omega)
  rw [mpr_all (by omega)] at g
  exact g
theorem SATX.up {fo : Option Nat} (hx : SATX iv1 rv s x fo) (h1 : iv1 s 1 = iv s 1) : SATX iv rv s x fo := by
  unfold SATX at hx ⊢
  rw [h1] at hx
  exact hx
theorem EP1.zero (hk : k = 0) (hz : z = 0) : EP1 iv rv h0 q w k z := fun sA _ E _ => by
  rw [hk, hz]
  rfl
theorem EP1.lck (hp : EP1 iv rv h0 q w k z) (hA : rv h0 9 = some sA) (hx : SATX iv rv sA (q + k) (some r)) (hn : iv r 2 ≠ 0) (hk : 0 ≤ k) (hz : iI x = iI z) : EP1 iv rv h0 q w (k + 1) x := fun sA' e E hE => by
  have g := hp sA' e E hE
  rw [hA] at e; cases e
  rw [show (k + 1).toNat = k.toNat + 1 by omega]
  refine ⟨_, g, Or.inl ⟨?_, hz⟩⟩
  rw [show q + ((k.toNat : Nat) : Int) = q + k by omega]
  exact hE.lck hx hn
theorem EP1.dts (hp : EP1 iv rv h0 q w k z) (hA : rv h0 9 = some sA) (hx : SATX iv rv sA (q + k) (some r)) (hn : iv r 2 = 0) (hw : iv r 1 ≤ w) (hk : 0 ≤ k) (hd : DTX iv rv r u) (hz : iI (z + u) = iI x) : EP1 iv rv h0 q w (k + 1) x := fun sA' e E hE => by
  have g := hp sA' e E hE
  rw [hA] at e; cases e
  obtain ⟨xs, e1, e2⟩ := hE.prs hx hn
  refine hv2 (e2.1) (show iI (z + u) = iI z + iI u from Int32.ofInt_add z u) (fun l1 ea => ?_)
  rw [show (k + 1).toNat = k.toNat + 1 by omega]
  refine ⟨_, g, Or.inr ⟨xs, ?_, by omega, ?_⟩⟩
  · rw [show q + ((k.toNat : Nat) : Int) = q + k by omega]
    exact e1
  · rw [← hz, ea, hd xs e2, bcs_add xs (iI z)]
theorem EPX.bad (hn : n < 0 ∨ 200 < n) (hf : f = -1) (h16 : iv2 h0 16 = iv h0 16) : EPX iv rv iv2 h0 q n w f := fun sA _ E _ => Or.inl ⟨hn, hf, by rw [h16]⟩
theorem EPX.ok (hp : EP1 iv rv h0 q w k z) (hk : k = n) (hn : 0 ≤ n ∧ n ≤ 200) (hf : f = z) (hc : iI (iv2 h0 16) = iI (iv h0 16) + iI k) : EPX iv rv iv2 h0 q n w f := fun sA e E hE => by
  have g := hp sA e E hE
  rw [hk, ← hf] at g
  rw [hk] at hc
  exact Or.inr ⟨hn, Or.inl ⟨g, hc⟩⟩
theorem EPX.nul (hp : EP1 iv rv h0 q w k z) (hA : rv h0 9 = some sA) (hk : 0 ≤ k ∧ k < n) (hn : n ≤ 200) (hc : iI (iv2 h0 16) = iI (iv h0 16) + iI (k + 1)) (hx : SATX iv rv sA (q + k) none) (hf : f = -1) : EPX iv rv iv2 h0 q n w f := fun sA' e E hE => by
  have g := hp sA' e E hE
  rw [hA] at e; cases e
  refine Or.inr ⟨⟨by omega, hn⟩, Or.inr ⟨k.toNat, iI z, by omega, g, Or.inl ⟨?_, hf⟩, by rw [hc, show ((k.toNat : Nat) : Int) = k by omega]⟩⟩
  rw [show q + ((k.toNat : Nat) : Int) = q + k by omega]
  exact hE.nul hx
theorem EPX.big (hp : EP1 iv rv h0 q w k z) (hA : rv h0 9 = some sA) (hk : 0 ≤ k ∧ k < n) (hn : n ≤ 200) (hc : iI (iv2 h0 16) = iI (iv h0 16) + iI (k + 1)) (hx : SATX iv rv sA (q + k) (some r)) (hl : iv r 2 = 0) (hw : w < iv r 1) (hf : f = z) : EPX iv rv iv2 h0 q n w f := fun sA' e E hE => by
  have g := hp sA' e E hE
  rw [hA] at e; cases e
  obtain ⟨xs, e1, e2⟩ := hE.prs hx hl
  have l1 := e2.1
  refine Or.inr ⟨⟨by omega, hn⟩, Or.inr ⟨k.toNat, iI z, by omega, g, Or.inr ⟨xs, ?_, by omega, by rw [hf]⟩, by rw [hc, show ((k.toNat : Nat) : Int) = k by omega]⟩⟩
  rw [show q + ((k.toNat : Nat) : Int) = q + k by omega]
  exact e1
end CROW
