def PDH (iv : Nat → Nat → Int) (rv : Nat → Nat → Option Nat) (s : Nat) (l : List Int) : Prop := iv s 7 = ((l.length : Nat) : Int) ∧ ∀ cb, rv s 6 = some cb → ∀ (j : Nat) (d : Int), j < 200 → l[j]? = some d → iv cb j = d
def RCX (ln : Nat → Nat) (iv : Nat → Nat → Int) (rv : Nat → Nat → Option Nat) (r : Option Nat) (cs : List Int) : Prop := (r = none ∧ cs = []) ∨ ∃ w c, r = some w ∧ rv w 2 = some c ∧ cs = (List.range (ln c)).map (fun k => iv c k)
def PUX (ln : Nat → Nat) (iv : Nat → Nat → Int) (rv : Nat → Nat → Option Nat) (iv2 : Nat → Nat → Int) (s : Nat) (r : Option Nat) : Prop := ∀ l, PDH iv rv s l → ∀ cs, RCX ln iv rv r cs → PDH iv2 rv s (l ++ cs)
def PUK (ln : Nat → Nat) (iv : Nat → Nat → Int) (rv : Nat → Nat → Option Nat) (iv1 : Nat → Nat → Int) (s : Nat) (r : Option Nat) (k : Int) : Prop := ∀ w c, r = some w → rv w 2 = some c → k ≤ ((ln c : Nat) : Int) ∧ ∀ l, PDH iv rv s l → PDH iv1 rv s (l ++ (List.range k.toNat).map (fun j => iv c j))
def CTX (sk ln : Nat → Nat) (iv : Nat → Nat → Int) (rv : Nat → Nat → Option Nat) (s tb : Nat) (q u : Int) (v : Nat → Int) (a : Nat → Nat → Int) (W : Nat → Int) (t : Nat) : Prop := TRL sk ln iv rv v a ∧ (t : Int) < v 4 ∧ a 6 t ≠ 5 ∧ el rv (sk 22) t = some tb ∧ LTW iv rv s W q u
def NAX (sk ln : Nat → Nat) (iv : Nat → Nat → Int) (rv : Nat → Nat → Option Nat) (s tb : Nat) (i : Int) (f : Option Nat) : Prop := ∀ v a W t, CTX sk ln iv rv s tb (iv s 10) (iv s 11) v a W t → iv s 10 ≤ i → i < iv s 11 → RCX ln iv rv f (nbl a W t (iv s 10) i)
def NA0 (sk ln : Nat → Nat) (iv : Nat → Nat → Int) (rv : Nat → Nat → Option Nat) (s tb : Nat) (q u x : Int) (f : Option Nat) : Prop := ∀ v a W t, CTX sk ln iv rv s tb q u v a W t → RCX ln iv rv f (nbl a W t q x)
def FD0 (sk ln : Nat → Nat) (iv : Nat → Nat → Int) (rv : Nat → Nat → Option Nat) (s tb : Nat) (q u x b : Int) (f : Option Nat) : Prop := ∀ v a W t, CTX sk ln iv rv s tb q u v a W t → ∃ y, fnd a q u x 30 (va_up W x.toNat b) t y ∧ BST ln iv rv a f y
def PCX (sk ln : Nat → Nat) (iv : Nat → Nat → Int) (rv : Nat → Nat → Option Nat) (s tb : Nat) (q u x : Int) (ah : Option Nat) (w : Nat) : Prop := ∀ v a W t, CTX sk ln iv rv s tb q u v a W t → ∃ as ds lb, RCX ln iv rv ah as ∧ RCX ln iv rv (some w) ds ∧ rv w 1 = some lb ∧ 1 ≤ ln lb ∧ PC1 a W t q u x ((ln lb : Nat) : Int) (as ++ ds)
def NPX (sk ln : Nat → Nat) (iv : Nat → Nat → Int) (rv : Nat → Nat → Option Nat) (s tb : Nat) (q u x : Int) : Prop := ∀ v a W t, CTX sk ln iv rv s tb q u v a W t → ∀ l ds, ¬ PC1 a W t q u x l ds
def NCP (iv : Nat → Nat → Int) (rv : Nat → Nat → Option Nat) (tb : Nat) (b : Int) : Prop := ¬ isG b ∨ 2 < iv tb 0 ∨ ∃ n, rv tb 6 = some n ∧ rv n 0 = none
def PTS (a : Nat → Nat → Int) (W : Nat → Int) (t q u : Int) (ps : List (Int × List Int)) : Prop := ∃ y, ptp a W t q u q ps y ∧ u ≤ y
def STI (iv : Nat → Nat → Int) (rv : Nat → Nat → Option Nat) (s : Nat) (m : Int) (ps : List (Int × List Int)) (q x : Int) : Prop := (∀ j : Nat, x ≤ ((j : Nat) : Int) → bgn ps m j (-1) = -1) ∧ ∀ sb, rv s 3 = some sb → ∀ j : Nat, q ≤ ((j : Nat) : Int) → ((j : Nat) : Int) < x → j < 500 → iv sb j = bgn ps m j (-1)
def ST2 (iv : Nat → Nat → Int) (rv : Nat → Nat → Option Nat) (s : Nat) (m : Int) (ps : List (Int × List Int)) (q x n : Int) : Prop := (∀ j : Nat, x ≤ ((j : Nat) : Int) → bgn ps m j (-1) = -1) ∧ ∀ sb, rv s 3 = some sb → ∀ j : Nat, q ≤ ((j : Nat) : Int) → ((j : Nat) : Int) < x + n → j < 500 → iv sb j = if j = x.toNat then m + (((cls ps).length : Nat) : Int) else bgn ps m j (-1)
def STE (iv : Nat → Nat → Int) (rv : Nat → Nat → Option Nat) (s : Nat) (m : Int) (ps : List (Int × List Int)) (q u : Int) : Prop := ∀ sb, rv s 3 = some sb → ∀ j : Nat, q ≤ ((j : Nat) : Int) → ((j : Nat) : Int) < u → j < 500 → iv sb j = bgn ps m j (-1)
def MSK (iv : Nat → Nat → Int) (rv : Nat → Nat → Option Nat) (iv1 : Nat → Nat → Int) (s : Nat) (i k : Int) : Prop := ∀ sb, rv s 3 = some sb → ∀ j : Nat, j < 500 → iv1 sb j = if i ≤ ((j : Nat) : Int) ∧ ((j : Nat) : Int) < k then (if ((j : Nat) : Int) = i then iv s 7 else -1) else iv sb j
def MSX (iv : Nat → Nat → Int) (rv : Nat → Nat → Option Nat) (iv2 : Nat → Nat → Int) (s : Nat) (i n : Int) : Prop := MSK iv rv iv2 s i (i + n)
def SPX (sk ln : Nat → Nat) (iv : Nat → Nat → Int) (rv : Nat → Nat → Option Nat) (iv2 : Nat → Nat → Int) (s : Nat) (r : Option Nat) (q u f : Int) : Prop := ∀ tb, r = some tb → ∀ v a W t, CTX sk ln iv rv s tb q u v a W t → ∀ l0, PDH iv rv s l0 → (f = 0 → ∃ ps, PTS a W t q u ps ∧ (PDH iv2 rv s (l0 ++ cls ps) ∧ STE iv2 rv s ((l0.length : Nat) : Int) ps q u)) ∧ (f ≠ 0 → ¬ ∃ ps, PTS a W t q u ps ∧ (l0 ++ cls ps).length ≤ 200)
def SPI (sk ln : Nat → Nat) (iv : Nat → Nat → Int) (rv : Nat → Nat → Option Nat) (iv1 : Nat → Nat → Int) (s tb : Nat) (q u x : Int) : Prop := ∀ v a W t, CTX sk ln iv rv s tb q u v a W t → ∀ l0, PDH iv rv s l0 → ∃ pre, ptp a W t q u q pre x ∧ (PDH iv1 rv s (l0 ++ cls pre) ∧ STI iv1 rv s ((l0.length : Nat) : Int) pre q x)
def SPM (sk ln : Nat → Nat) (iv : Nat → Nat → Int) (rv : Nat → Nat → Option Nat) (iv1 : Nat → Nat → Int) (s tb : Nat) (q u x n : Int) : Prop := ∀ v a W t, CTX sk ln iv rv s tb q u v a W t → ∀ l0, PDH iv rv s l0 → ∃ pre, ptp a W t q u q pre x ∧ (PDH iv1 rv s (l0 ++ cls pre) ∧ ST2 iv1 rv s ((l0.length : Nat) : Int) pre q x n)
def SP2 (sk ln : Nat → Nat) (iv : Nat → Nat → Int) (rv : Nat → Nat → Option Nat) (iv1 : Nat → Nat → Int) (s tb : Nat) (q u x : Int) (w : Nat) : Prop := ∀ v a W t, CTX sk ln iv rv s tb q u v a W t → ∀ l0, PDH iv rv s l0 → ∃ pre cs lb, ptp a W t q u q pre x ∧ (rv w 1 = some lb ∧ 1 ≤ ln lb ∧ PC1 a W t q u x ((ln lb : Nat) : Int) cs) ∧ (PDH iv1 rv s ((l0 ++ cls pre) ++ cs) ∧ ST2 iv1 rv s ((l0.length : Nat) : Int) pre q x ((ln lb : Nat) : Int))
def STX (ln : Nat → Nat) (iv : Nat → Nat → Int) (rv : Nat → Nat → Option Nat) (iv2 : Nat → Nat → Int) (s : Nat) (r : Option Nat) (f : Int) : Prop := (r = none ∧ f = 7) ∨ (f = 0 ∧ (∃ w, r = some w) ∧ PUX ln iv rv iv2 s r)
section SROW
variable {g : Nat} {sk : Nat → Nat} {L : List Nat} {cl ln : Nat → Nat} {iv iv1 iv2 iv3 : Nat → Nat → Int} {rv : Nat → Nat → Option Nat} {v : Nat → Int} {a : Nat → Nat → Int} {W : Nat → Int} {s w tb c cb n lb : Nat} {t : Nat} {i k x y z q u m p b b2 f : Int} {r ah fo : Option Nat} {ls : List Nat} {l l0 cs ds : List Int}
theorem rgs {h : Nat → Int} (hk : 0 ≤ k) : (List.range (k + 1).toNat).map h = (List.range k.toNat).map h ++ [h k.toNat] := by
  rw [show (k + 1).toNat = k.toNat + 1 by omega, List.range_succ, List.map_append]; rfl
theorem PDH.app1 (h : PDH iv1 rv s l) (hl : iv2 s 7 = iv1 s 7 + 1) (ho : ∀ cb, rv s 6 = some cb → (∀ j : Nat, (j : Int) < iv1 s 7 → iv2 cb j = iv1 cb j) ∧ (iv1 s 7 < 200 → iv2 cb (iv1 s 7).toNat = z)) : PDH iv2 rv s (l ++ [z]) := by
  obtain ⟨h1, h2⟩ := h
  have e0 : (l ++ [z]).length = l.length + 1 := by rw [List.length_append]; rfl
  refine ⟨by omega, fun cb hb j d hj e => ?_⟩
  obtain ⟨o1, o2⟩ := ho cb hb
  by_cases c : j < l.length
  · rw [List.getElem?_append_left c] at e
    rw [o1 j (by omega)]; exact h2 cb hb j d hj e
  · rw [List.getElem?_append_right (by omega)] at e
    have e2 : j - l.length < 1 := gl_lt e
    rw [show j - l.length = 0 by omega] at e
    cases e
    rw [show j = (iv1 s 7).toNat by omega]; exact o2 (by omega)
theorem PDH.put1 {k : Nat} (h : PDH iv1 rv s l) (e : iv2 = up2 iv1 s k z) (hk : k ≠ 7) (hne : ∀ cb, rv s 6 = some cb → cb ≠ s) : PDH iv2 rv s l := by
  obtain ⟨h1, h2⟩ := h
  refine ⟨by rw [e, up2_j (fun q => hk q.symm)]; exact h1, fun cb hb j d hj e2 => ?_⟩
  rw [e, up2_k (hne cb hb)]; exact h2 cb hb j d hj e2
theorem s6ne (hW : WT g sk L cl ln iv rv) (ts : ty L cl s 15) : ∀ cb, rv s 6 = some cb → cb ≠ s := fun cb hb => by
  obtain ⟨b', q1, t6⟩ := hW.ref ts 6 rfl rfl rfl
  rw [hb] at q1; cases q1
  exact ne_ty t6 ts (by decide)
theorem PDH.ni (hW : WT g sk L cl ln iv1 rv) (hF : fT ls L cl iv1 rv iv2 rv) (ts : ty L cl s 15) (h15 : ls.contains 15 = false) (h54 : ls.contains 54 = false) (h : PDH iv1 rv s l) : PDH iv2 rv s l := by
  obtain ⟨h1, h2⟩ := h
  refine ⟨(hF.i ts h15 7).trans h1, fun cb hb j d hj e2 => ?_⟩
  obtain ⟨b', q1, t6⟩ := hW.ref ts 6 rfl rfl rfl
  rw [hb] at q1; cases q1
  have t54 : ty L cl cb 54 := t6
  rw [hF.i t54 h54 j]; exact h2 cb hb j d hj e2
theorem PUX.no : PUX ln iv rv iv s none := fun l h cs hc => by
  rcases hc with ⟨_, e⟩ | ⟨w, c, e, _⟩
  · rw [e, List.append_nil]; exact h
  · cases e
theorem PUK.zero : PUK ln iv rv iv s r 0 := fun w c _ _ => ⟨by omega, fun l h => by
  show PDH iv rv s (l ++ [])
  rw [List.append_nil]; exact h⟩
theorem PUK.put (h : PUK ln iv rv iv1 s (some w) k) (hk : 0 ≤ k) (h2 : rv w 2 = some c) (hlt : k < ((ln c : Nat) : Int)) (h6 : rv s 6 = some cb) (e1 : iv2 = up2 iv1 cb p.toNat z) (hp : p = iv1 s 7) (hz : z = iv c k.toNat) (e2 : iv3 = up2 iv2 s 7 y) (hy : y = iv1 s 7 + 1) (h7 : 0 ≤ iv1 s 7) (hne : ∀ cb, rv s 6 = some cb → cb ≠ s) : PUK ln iv rv iv3 s (some w) (k + 1) := fun w' c' q1 q2 => by
  cases q1
  rw [h2] at q2; cases q2
  refine ⟨by omega, fun l hl => ?_⟩
  have g := (h w c rfl h2).2 l hl
  rw [rgs hk, ← List.append_assoc]
  refine g.app1 (by rw [e2, up2_s]; exact hy) (fun cb' hb => ?_)
  rw [h6] at hb; cases hb
  have n1 := hne cb h6
  subst hp
  refine ⟨fun j hj => ?_, fun _ => ?_⟩
  · rw [e2, up2_k n1, e1, up2_j (by omega)]
  · rw [e2, up2_k n1, e1, up2_s]; exact hz
theorem PUK.inc (h : PUK ln iv rv iv1 s (some w) k) (hk : 0 ≤ k) (h2 : rv w 2 = some c) (hlt : k < ((ln c : Nat) : Int)) (e2 : iv3 = up2 iv1 s 7 y) (hy : y = iv1 s 7 + 1) (h200 : 200 ≤ iv1 s 7) (hne : ∀ cb, rv s 6 = some cb → cb ≠ s) : PUK ln iv rv iv3 s (some w) (k + 1) := fun w' c' q1 q2 => by
  cases q1
  rw [h2] at q2; cases q2
  refine ⟨by omega, fun l hl => ?_⟩
  have g := (h w c rfl h2).2 l hl
  rw [rgs hk, ← List.append_assoc]
  exact g.app1 (by rw [e2, up2_s]; exact hy) (fun cb hb => ⟨fun j hj => by rw [e2, up2_k (hne cb hb)], fun e => absurd e (by omega)⟩)
theorem PUX.fin (h : PUK ln iv rv iv1 s (some w) k) (h2 : rv w 2 = some c) (hk : ((ln c : Nat) : Int) ≤ k) : PUX ln iv rv iv1 s (some w) := fun l hl cs hc => by
  rcases hc with ⟨e, _⟩ | ⟨w', c', e, e2, e3⟩
  · cases e
  · cases e
    rw [h2] at e2; cases e2
    obtain ⟨g1, g2⟩ := h w c rfl h2
    have g := g2 l hl
    rw [show k.toNat = ln c by omega] at g
    rw [e3]; exact g
theorem RCX.ni (hW : WT g sk L cl ln iv rv) (hF : fT ls L cl iv rv iv1 rv) (h1 : kpl ls = true) (tr : ∀ b, r = some b → ty L cl b 20) (h : RCX ln iv rv r cs) : RCX ln iv1 rv r cs := by
  rcases h with h | ⟨w, c, e1, e2, e3⟩
  · exact Or.inl h
  · obtain ⟨c', q1, tc⟩ := hW.ref (tr w e1) 2 rfl rfl rfl
    rw [e2] at q1; cases q1
    have t66 : ty L cl c 66 := tc
    refine Or.inr ⟨w, c, e1, e2, ?_⟩
    rw [e3, show iv1 c = iv c from funext fun j => hF.i t66 (kpl_no h1).2.2.2.2.1 j]
theorem CTX.ni (hW : WT g sk L cl ln iv rv) (hS : SKL sk L cl) (hF : fT ls L cl iv rv iv1 rv) (h1 : kpl ls = true) (a1 : ls.contains 22 = false) (a2 : ls.contains 1000 = false) (a3 : ls.contains 23 = false) (a4 : ls.contains 1001 = false) (a5 : ls.contains 50 = false) (ts : ty L cl s 15) (h : CTX sk ln iv rv s tb q u v a W t) : CTX sk ln iv1 rv s tb q u v a W t := ⟨h.1.ni hW hS hF h1 a1 a2 a3 a4, h.2.1, h.2.2.1, h.2.2.2.1, h.2.2.2.2.ni hW hF a5 ts⟩
theorem NAX.mv (h : NAX sk ln iv1 rv s tb x fo) (hW : WT g sk L cl ln iv rv) (hS : SKL sk L cl) (hW1 : WT g sk L cl ln iv1 rv) (hF : fT [15, 53, 54, 55] L cl iv rv iv1 rv) (ts : ty L cl s 15) (tf : ∀ b, fo = some b → ty L cl b 20) (h10 : iv1 s 10 = q) (h11 : iv1 s 11 = u) (hx : q ≤ x ∧ x < u) : NA0 sk ln iv rv s tb q u x fo := fun v a W t hC => by
  subst h10
  subst h11
  exact (h v a W t (hC.ni hW hS hF rfl rfl rfl rfl rfl rfl ts) hx.1 hx.2).ni hW1 hF.sym rfl tf
theorem FDX.mv (h : FDX sk ln iv1 rv s tb x b fo) (hW : WT g sk L cl ln iv rv) (hS : SKL sk L cl) (hW1 : WT g sk L cl ln iv1 rv) (hF : fT [15, 53, 54, 55] L cl iv rv iv1 rv) (ts : ty L cl s 15) (tf : ∀ b, fo = some b → ty L cl b 20) (h10 : iv1 s 10 = q) (h11 : iv1 s 11 = u) (hx : q ≤ x ∧ x < u) : FD0 sk ln iv rv s tb q u x b fo := fun v a W t hC => by
  subst h10
  subst h11
  obtain ⟨p1, p2, p3, p4, p5⟩ := hC.ni hW hS hF rfl rfl rfl rfl rfl rfl ts
  obtain ⟨y, y1, y2⟩ := h v a W t p1 p2 p3 p4 (fun lb hb j h1 h2 => p5 lb hb j (by omega) h2)
  exact ⟨y, y1, y2.ni hW1 hF.sym rfl tf⟩
theorem BST.no (h : BST ln iv rv a none z) : z = -1 := by
  rcases h with ⟨_, e⟩ | ⟨w, e, _⟩
  · exact e
  · cases e
theorem BST.rc (h : BST ln iv rv a (some w) y) : RCX ln iv rv (some w) (RCL a y) ∧ (∃ lb, rv w 1 = some lb ∧ ((ln lb : Nat) : Int) = a 12 y.toNat) ∧ 0 ≤ y := by
  rcases h with ⟨e, _⟩ | ⟨w', e, e2, e3⟩
  · cases e
  · cases e
    obtain ⟨_, _, lb, c, q1, q2, q3, q4, _, q6⟩ := e3
    refine ⟨Or.inr ⟨w, c, rfl, q2, ?_⟩, ⟨lb, q1, q3⟩, e2⟩
    unfold RCL
    rw [show (a 13 y.toNat).toNat = ln c by omega]
    exact List.map_congr_left (fun k hk => (q6 k (List.mem_range.mp hk)).1.symm)
theorem CTX.wd (h : CTX sk ln iv rv s tb q u v a W t) (h0 : rv s 0 = some lb) (hx : q ≤ x ∧ x < u) : iv lb x.toNat = W x.toNat := h.2.2.2.2 lb h0 x hx.1 hx.2
theorem vus (h : b = W x.toNat) : va_up W x.toNat b = W := by
  funext j
  unfold va_up
  split
  · rename_i e; rw [e]; exact h
  · rfl
theorem CTX.t10 (hR : TRL sk ln iv rv v a) (h0 : 0 ≤ z) (h4 : z < v 4) : a 10 z.toNat ≤ 200 := by
  obtain ⟨tt, htt⟩ := hR.smt (i := z.toNat) (by omega)
  exact (hR.tab (i := z.toNat) (by omega) htt).1.2.2.2.2
theorem fnd_rg (hR : TRL sk ln iv rv v a) : ∀ (m : Nat) (W : Nat → Int) (z r : Int), z < v 4 → 0 ≤ z → fnd a q u i m W z r → FNP a u i r := by
  intro m
  induction m with
  | zero => intro W z r _ _ h; exact False.elim h
  | succ m ih =>
    intro W z r h4 h0 h
    have ht := hR.2.2.1.1 z h0 h4
    have t8 : 1 ≤ a 6 z.toNat → a 6 z.toNat ≤ 3 → 0 ≤ a 8 z.toNat ∧ a 8 z.toNat < v 4 := by omega
    have t6 : a 6 z.toNat ≠ 1 → a 6 z.toNat ≠ 2 → a 6 z.toNat ≠ 3 → a 6 z.toNat < 1 ∨ 3 < a 6 z.toNat := by omega
    clear ht
    have ow : ∀ (W : Nat → Int) (y : Int), OWR a W q u i z y → FNP a u i y := fun W y ho => own_rg hR.2.2.1 hR.v30 h0 h4 (CTX.t10 hR h0 h4) ho
    rw [fnd_s] at h
    obtain ⟨p1, p2, p3, p4⟩ := h
    by_cases k1 : a 6 z.toNat = 1
    · obtain ⟨y, z2, e1, e2, e3⟩ := p1 k1
      rw [e3]
      exact cmb_rg (P := fun r => FNP a u i r) (ow _ _ e1) (ih _ _ _ (t8 (by omega) (by omega)).2 (t8 (by omega) (by omega)).1 e2)
    · by_cases k2 : a 6 z.toNat = 2
      · by_cases c : isD (W i.toNat)
        · exact ow _ _ ((p2 k2).1 c)
        · exact ih _ _ _ (t8 (by omega) (by omega)).2 (t8 (by omega) (by omega)).1 ((p2 k2).2 c)
      · by_cases k3 : a 6 z.toNat = 3
        · obtain ⟨y, z2, e1, e2, e3⟩ := p3 k3
          rw [e3]
          exact cmb_rg (P := fun r => FNP a u i r) (ow _ _ e1) (ih _ _ _ (t8 (by omega) (by omega)).2 (t8 (by omega) (by omega)).1 e2)
        · exact ow _ _ (p4 (t6 k1 k2 k3))
theorem CTX.ind (h : CTX sk ln iv rv s tb q u v a W t) (h6 : rv tb 6 = some n) {j : Nat} (hj : j < 4) : INDR ln iv rv (rv n j) (j : Int) (a 16 (4 * t + j)) (fun k => a 17 (4 * (4 * t + j) + k)) := by
  obtain ⟨_, _, q1, n1, ⟨_, c2, _⟩, _, c5⟩ := h.1.tab h.2.1 h.2.2.2.1
  rw [h6] at c2; cases c2
  exact c5 j hj
theorem CTX.kind (h : CTX sk ln iv rv s tb q u v a W t) : iv tb 0 = a 6 t := (h.1.tab h.2.1 h.2.2.2.1).1.1
theorem INDR.rc {h : Nat → Int} (hi : INDR ln iv rv r z m h) : RCX ln iv rv r ((List.range m.toNat).map h) := by
  rcases hi with ⟨e1, e2⟩ | ⟨b, c, e1, _, e3, e4, _, e6⟩
  · exact Or.inl ⟨e1, by rw [e2]; rfl⟩
  · refine Or.inr ⟨b, c, e1, e3, ?_⟩
    rw [show m.toNat = ln c by omega]
    exact List.map_congr_left (fun k hk => (e6 k (List.mem_range.mp hk)).1.symm)
theorem ICL.nat {j : Nat} : ICL a (4 * (t : Int) + (j : Int)) = (List.range (a 16 (4 * t + j)).toNat).map (fun k => a 17 (4 * (4 * t + j) + k)) := by
  unfold ICL
  rw [show (4 * (t : Int) + (j : Int)).toNat = 4 * t + j by omega]
theorem NAX.no (h0 : rv s 0 = some lb) (hn : ¬ (iv tb 0 = 2 ∧ isD (iv lb i.toNat) ∧ (i ≤ iv s 10 ∨ ¬ isD (iv lb (i - 1).toNat)))) : NAX sk ln iv rv s tb i none := fun v a W t hC h1 h2 => Or.inl ⟨rfl, by
  unfold nbl
  rw [if_neg]
  intro w
  rw [Int.toNat_natCast, ← hC.kind, ← hC.wd h0 ⟨h1, h2⟩] at w
  refine hn ⟨w.1, w.2.1, ?_⟩
  rcases w.2.2 with e | e
  · exact Or.inl (by omega)
  · by_cases c : i ≤ iv s 10
    · exact Or.inl c
    · rw [← hC.wd (x := i - 1) h0 ⟨by omega, by omega⟩] at e
      exact Or.inr e⟩
theorem NAX.yes (h0 : rv s 0 = some lb) (hn : iv tb 0 = 2 ∧ isD (iv lb i.toNat) ∧ (i ≤ iv s 10 ∨ ¬ isD (iv lb (i - 1).toNat))) (h6 : rv tb 6 = some n) (hr : rv n 1 = r) : NAX sk ln iv rv s tb i r := fun v a W t hC h1 h2 => by
  have hi := (hC.ind h6 (j := 1) (by decide)).rc
  rw [hr] at hi
  have e : nbl a W t (iv s 10) i = ICL a (4 * (t : Int) + ((1 : Nat) : Int)) := by
    unfold nbl
    rw [if_pos]
    · rfl
    · rw [Int.toNat_natCast, ← hC.kind, ← hC.wd h0 ⟨h1, h2⟩]
      refine ⟨hn.1, hn.2.1, ?_⟩
      by_cases c : i ≤ iv s 10
      · exact Or.inl (by omega)
      · rcases hn.2.2 with e | e
        · exact absurd e c
        · rw [← hC.wd (x := i - 1) h0 ⟨by omega, by omega⟩]
          exact Or.inr e
  rw [e, ICL.nat]
  exact hi
theorem PCX.plain (na : NA0 sk ln iv rv s tb q u x ah) (fd : FD0 sk ln iv rv s tb q u x b (some w)) (h0 : rv s 0 = some lb) (hb : b = iv lb x.toNat) (hx : q ≤ x ∧ x < u) : PCX sk ln iv rv s tb q u x ah w := fun v a W t hC => by
  obtain ⟨y, f1, f2⟩ := fd v a W t hC
  rw [vus (hb.trans (hC.wd h0 hx))] at f1
  obtain ⟨r1, ⟨lb2, r2, r3⟩, r4⟩ := f2.rc
  have r5 := fnd_rg hC.1 30 W t y hC.2.1 (by omega) f1
  refine ⟨_, _, lb2, na v a W t hC, r1, r2, ?_, y, ⟨r4, r3⟩, Or.inl ⟨f1, rfl⟩⟩
  rcases r5 with e | ⟨_, _, e, _⟩ <;> omega
theorem PCX.cap (fd : FD0 sk ln iv rv s tb q u x b none) (fd2 : FD0 sk ln iv rv s tb q u x b2 (some w)) (h0 : rv s 0 = some lb) (hb : b = iv lb x.toNat) (hb2 : b2 = b + 32) (hg : isG b) (hk : iv tb 0 ≤ 2) (h6 : rv tb 6 = some n) (hr : rv n 0 = some cb) (hx : q ≤ x ∧ x < u) : PCX sk ln iv rv s tb q u x (some cb) w := fun v a W t hC => by
  obtain ⟨y, f1, f2⟩ := fd v a W t hC
  obtain ⟨y2, g1, g2⟩ := fd2 v a W t hC
  have ew := hb.trans (hC.wd h0 hx)
  rw [vus ew] at f1
  have e1 := f2.no
  subst e1
  obtain ⟨r1, ⟨lb2, r2, r3⟩, r4⟩ := g2.rc
  refine hv2 (fnd_rg hC.1 30 _ t y2 hC.2.1 (by omega) g1) (hC.ind h6 (j := 0) (by decide)) (fun r5 hi => ?_)
  rw [hr] at hi
  have hp : 0 < a 16 (4 * t + 0) := by
    rcases hi with ⟨e, _⟩ | ⟨_, _, _, _, _, _, e, _⟩
    · cases e
    · exact e
  have hI := hi.rc
  rw [← ICL.nat] at hI
  have nb : nbl a W t q x = [] := by
    unfold nbl
    rw [if_neg]
    intro e
    rw [← ew] at e
    have e2 := e.2.1
    unfold isD at e2
    unfold isG at hg
    omega
  refine ⟨_, _, lb2, hI, r1, r2, ?_, y2, ⟨r4, r3⟩, Or.inr ⟨f1, ⟨by rw [Int.toNat_natCast, ← hC.kind]; exact hk, by rw [← ew]; exact hg, ?_⟩, ?_, ?_⟩⟩
  · rcases r5 with e | ⟨_, _, e, _⟩ <;> omega
  · rw [show (4 * (t : Int) + 0).toNat = 4 * t + 0 by omega]; exact hp
  · rw [hb2, ew] at g1; exact g1
  · rw [nb, List.nil_append]; rfl
def CPX (iv : Nat → Nat → Int) (rv : Nat → Nat → Option Nat) (tb : Nat) (cp : Option Nat) : Prop := (2 < iv tb 0 ∧ cp = none) ∨ (iv tb 0 ≤ 2 ∧ ∃ n, rv tb 6 = some n ∧ rv n 0 = cp)
theorem CPX.no (h : CPX iv rv tb none) : NCP iv rv tb b := by
  rcases h with ⟨h1, _⟩ | ⟨_, n, h1, h2⟩
  · exact Or.inr (Or.inl h1)
  · exact Or.inr (Or.inr ⟨n, h1, h2⟩)
theorem PCX.cap2 (fd : FD0 sk ln iv rv s tb q u x b none) (fd2 : FD0 sk ln iv rv s tb q u x b2 (some w)) (h0 : rv s 0 = some lb) (hb : b = iv lb x.toNat) (hb2 : b2 = b + 32) (hg : isG b) (h : CPX iv rv tb (some cb)) (hx : q ≤ x ∧ x < u) : PCX sk ln iv rv s tb q u x (some cb) w := by
  rcases h with ⟨_, h1⟩ | ⟨hk, n, h1, h2⟩
  · cases h1
  · exact PCX.cap fd fd2 h0 hb hb2 hg hk h1 h2 hx
theorem NPX.no (fd : FD0 sk ln iv rv s tb q u x b none) (h0 : rv s 0 = some lb) (hb : b = iv lb x.toNat) (hx : q ≤ x ∧ x < u) (hn : NCP iv rv tb b) : NPX sk ln iv rv s tb q u x := fun v a W t hC l ds hp => by
  obtain ⟨y, f1, f2⟩ := fd v a W t hC
  have ew := hb.trans (hC.wd h0 hx)
  rw [vus ew] at f1
  have e1 := f2.no
  subst e1
  obtain ⟨r, ⟨p1, _⟩, p3⟩ := hp
  rcases p3 with ⟨p4, _⟩ | ⟨_, p5, _⟩
  · have e := fnd_uni hC.1.2.2.1 _ _ _ _ _ _ (by omega) hC.2.1 f1 p4
    omega
  · obtain ⟨c1, c2, c3⟩ := p5
    rw [Int.toNat_natCast, ← hC.kind] at c1
    rw [← ew] at c2
    rcases hn with e | e | ⟨n, n1, n2⟩
    · exact e c2
    · omega
    · have hi := hC.ind n1 (j := 0) (by decide)
      rw [n2] at hi
      rcases hi with ⟨_, e⟩ | ⟨_, _, e, _⟩
      · rw [show (4 * (t : Int) + 0).toNat = 4 * t + 0 by omega] at c3
        omega
      · cases e
theorem NPX.cap (fd : FD0 sk ln iv rv s tb q u x b none) (fd2 : FD0 sk ln iv rv s tb q u x b2 none) (h0 : rv s 0 = some lb) (hb : b = iv lb x.toNat) (hb2 : b2 = b + 32) (hx : q ≤ x ∧ x < u) : NPX sk ln iv rv s tb q u x := fun v a W t hC l ds hp => by
  obtain ⟨y, f1, f2⟩ := fd v a W t hC
  obtain ⟨y2, g1, g2⟩ := fd2 v a W t hC
  have ew := hb.trans (hC.wd h0 hx)
  rw [vus ew] at f1
  rw [hb2, ew] at g1
  refine hv2 (f2.no) (g2.no) (fun e1 e2 => ?_)
  subst e1
  subst e2
  obtain ⟨r, ⟨p1, _⟩, p3⟩ := hp
  rcases p3 with ⟨p4, _⟩ | ⟨_, _, p6, _⟩
  · have e := fnd_uni hC.1.2.2.1 _ _ _ _ _ _ (by omega) hC.2.1 f1 p4
    omega
  · have e := fnd_uni hC.1.2.2.1 _ _ _ _ _ _ (by omega) hC.2.1 g1 p6
    omega
theorem SPX.no : SPX sk ln iv rv iv2 s none q u f := fun tb e => by cases e
theorem SPI.init (e1 : iv1 = up2 iv s 10 y) (e2 : iv2 = up2 iv1 s 11 z) (hne : ∀ cb, rv s 6 = some cb → cb ≠ s) : SPI sk ln iv rv iv2 s tb q u q := fun v a W t hC l0 hl => ⟨[], rfl, by
  rw [show cls [] = [] from rfl, List.append_nil]
  exact (hl.put1 e1 (by decide) hne).put1 e2 (by decide) hne, fun _ _ => rfl, fun sb _ j h1 h2 _ => absurd h1 (by omega)⟩
theorem sb53 (hW : WT g sk L cl ln iv rv) (ts : ty L cl s 15) (hb : rv s 3 = some cb) : ty L cl cb 53 := by
  obtain ⟨b', q1, t3⟩ := hW.ref ts 3 rfl rfl rfl
  rw [hb] at q1; cases q1
  exact t3
theorem STI.ni {ps : List (Int × List Int)} (hW : WT g sk L cl ln iv1 rv) (hF : fT ls L cl iv1 rv iv2 rv) (ts : ty L cl s 15) (h53 : ls.contains 53 = false) (h : STI iv1 rv s m ps q x) : STI iv2 rv s m ps q x := ⟨h.1, fun sb hb j j1 j2 j3 => by
  rw [hF.i (sb53 hW ts hb) h53 j]
  exact h.2 sb hb j j1 j2 j3⟩
theorem ST2.ni {ps : List (Int × List Int)} (hW : WT g sk L cl ln iv1 rv) (hF : fT ls L cl iv1 rv iv2 rv) (ts : ty L cl s 15) (h53 : ls.contains 53 = false) (h : ST2 iv1 rv s m ps q x y) : ST2 iv2 rv s m ps q x y := ⟨h.1, fun sb hb j j1 j2 j3 => by
  rw [hF.i (sb53 hW ts hb) h53 j]
  exact h.2 sb hb j j1 j2 j3⟩
theorem MSK.zero : MSK iv rv iv s i i := fun sb hb j hj => by rw [if_neg (by omega)]
theorem MSK.step (h : MSK iv rv iv1 s i k) (h3 : rv s 3 = some cb) (e : iv2 = up2 iv1 cb k.toNat z) (hk : 0 ≤ i ∧ i ≤ k) (hz : (k = i ∧ z = iv s 7) ∨ (k ≠ i ∧ z = -1)) : MSK iv rv iv2 s i (k + 1) := fun sb hb j hj => by
  have g := h sb hb j hj
  rw [h3] at hb; cases hb
  by_cases c : ((j : Nat) : Int) = k
  · rw [e, show j = k.toNat by omega, up2_s, if_pos (by omega)]
    rcases hz with ⟨e1, e2⟩ | ⟨e1, e2⟩
    · rw [if_pos (by omega)]; exact e2
    · rw [if_neg (by omega)]; exact e2
  · rw [e, up2_j (by omega), g]
    by_cases c2 : i ≤ ((j : Nat) : Int) ∧ ((j : Nat) : Int) < k
    · rw [if_pos c2, if_pos (show i ≤ ((j : Nat) : Int) ∧ ((j : Nat) : Int) < k + 1 by omega)]
    · rw [if_neg c2, if_neg (by omega)]
theorem MSK.fin {y2 : Int} (h : MSK iv rv iv1 s i k) (hk : k ≤ i + y2 ∧ (i + y2 ≤ k ∨ 500 ≤ k)) : MSX iv rv iv1 s i y2 := fun sb hb j hj => by
  rw [h sb hb j hj]
  by_cases c2 : i ≤ ((j : Nat) : Int) ∧ ((j : Nat) : Int) < k
  · rw [if_pos c2, if_pos (show i ≤ ((j : Nat) : Int) ∧ ((j : Nat) : Int) < i + y2 by omega)]
  · rw [if_neg c2, if_neg (by omega)]
theorem SPI.ni (h : SPI sk ln iv rv iv1 s tb q u x) (hW : WT g sk L cl ln iv1 rv) (hF : fT ls L cl iv1 rv iv2 rv) (ts : ty L cl s 15) (h15 : ls.contains 15 = false) (h54 : ls.contains 54 = false) (h53 : ls.contains 53 = false) : SPI sk ln iv rv iv2 s tb q u x := fun v a W t hC l0 hl => by
  obtain ⟨pre, p1, p2⟩ := h v a W t hC l0 hl
  exact ⟨pre, p1, p2.1.ni hW hF ts h15 h54, p2.2.ni hW hF ts h53⟩
theorem SPI.mark (h : SPI sk ln iv rv iv1 s tb q u x) (hW : WT g sk L cl ln iv1 rv) (hF : fT ls L cl iv1 rv iv2 rv) (ts : ty L cl s 15) (h15 : ls.contains 15 = false) (h54 : ls.contains 54 = false) (hx : 0 ≤ x ∧ x < 500) (ms : MSX iv1 rv iv2 s x y) : SPM sk ln iv rv iv2 s tb q u x y := fun v a W t hC l0 hl => by
  obtain ⟨pre, p1, p2, p3, p4⟩ := h v a W t hC l0 hl
  refine ⟨pre, p1, p2.ni hW hF ts h15 h54, p3, fun sb hb j j1 j2 j3 => ?_⟩
  have e := p2.1
  rw [List.length_append] at e
  rw [ms sb hb j j3]
  by_cases c : x ≤ ((j : Nat) : Int)
  · rw [if_pos ⟨c, j2⟩]
    by_cases c2 : ((j : Nat) : Int) = x
    · rw [if_pos c2, if_pos (by omega), e]
      push_cast
      rfl
    · rw [if_neg c2, if_neg (by omega), p3 j c]
  · rw [if_neg (by omega), if_neg (by omega)]
    exact p4 sb hb j j1 (by omega) j3
theorem SPI.unk (h : SPI sk ln iv rv iv1 s tb q u x) (hn : NPX sk ln iv rv s tb q u x) (hx : x < u) (hf : f ≠ 0) : SPX sk ln iv rv iv2 s (some tb) q u f := fun tb' e v a W t hC l0 hl => by
  cases e
  refine ⟨fun e => absurd e hf, fun _ w => ?_⟩
  obtain ⟨pre, p1, _⟩ := h v a W t hC l0 hl
  obtain ⟨ps, ⟨y, w1, w2⟩, _⟩ := w
  obtain ⟨qs, k1, k2⟩ := ptp.ext hC.1.2.2.1 (by omega) hC.2.1 pre ps q y p1 w1 w2
  cases qs with
  | nil => cases k2; omega
  | cons p qs =>
    obtain ⟨_, _, l3, k5, _⟩ := k2
    exact hn v a W t hC _ _ k5
theorem SPM.two {ls2 : List Nat} {n1 : Int} (h : SPM sk ln iv rv iv1 s tb q u x n1) (hlb : rv w 1 = some lb) (hn : n1 = ((ln lb : Nat) : Int)) (hW1 : WT g sk L cl ln iv1 rv) (hW2 : WT g sk L cl ln iv2 rv) (ts : ty L cl s 15) (hP1 : fT ls L cl iv1 rv iv2 rv) (hP2 : fT ls2 L cl iv2 rv iv3 rv) (l53 : ls.contains 53 = false) (m53 : ls2.contains 53 = false) (hW : WT g sk L cl ln iv rv) (hF1 : fT [15, 53, 54, 55] L cl iv rv iv1 rv) (hF2 : fT [15, 53, 54, 55] L cl iv rv iv2 rv) (ta : ∀ b, ah = some b → ty L cl b 20) (tw : ty L cl w 20) (pc : PCX sk ln iv rv s tb q u x ah w) (p1 : PUX ln iv1 rv iv2 s ah) (p2 : PUX ln iv2 rv iv3 s (some w)) : SP2 sk ln iv rv iv3 s tb q u x w := fun v a W t hC l0 hl => by
  obtain ⟨pre, g1, g2⟩ := h v a W t hC l0 hl
  obtain ⟨as, ds, lb2, c1, c2, c3, c4, c5⟩ := pc v a W t hC
  have d1 := p1 _ g2.1 as (c1.ni hW hF1 rfl ta)
  have d2 := p2 _ d1 ds (c2.ni hW hF2 rfl (fun b e => by cases e; exact tw))
  rw [List.append_assoc] at d2
  refine ⟨pre, as ++ ds, lb2, g1, ⟨c3, c4, c5⟩, d2, ?_⟩
  rw [hlb] at c3; cases c3
  rw [← hn]
  exact (g2.2.ni hW1 hP1 ts l53).ni hW2 hP2 ts m53
theorem SP2.many (h : SP2 sk ln iv rv iv1 s tb q u x w) (hx : x < u) (hm : 200 < iv1 s 7) (hf : f ≠ 0) : SPX sk ln iv rv iv1 s (some tb) q u f := fun tb' e v a W t hC l0 hl => by
  cases e
  refine ⟨fun e => absurd e hf, fun _ w => ?_⟩
  obtain ⟨pre, cs, lb, p1, ⟨_, _, p2⟩, p3⟩ := h v a W t hC l0 hl
  obtain ⟨ps, ⟨y, w1, w2⟩, w3⟩ := w
  obtain ⟨qs, k1, k2⟩ := ptp.ext hC.1.2.2.1 (by omega) hC.2.1 pre ps q y p1 w1 w2
  cases qs with
  | nil => cases k2; omega
  | cons p qs =>
    obtain ⟨_, _, l3, k5, _⟩ := k2
    refine hv2 ((PC1.uni hC.1.2.2.1 (by omega) hC.2.1 p2 k5).2) (p3.1.1) (fun e w4 => ?_)
    rw [k1, cls_app, cls_cons, ← e] at w3
    simp only [List.length_append] at w3 w4
    omega
theorem SP2.next (h : SP2 sk ln iv rv iv1 s tb q u x w) (hx : x < u) (hx0 : 0 ≤ x) (h1 : rv w 1 = some lb) (hm : ((ln lb : Nat) : Int) < 1 ∨ y = x + ((ln lb : Nat) : Int)) : SPI sk ln iv rv iv1 s tb q u y := fun v a W t hC l0 hl => by
  obtain ⟨pre, cs, lb2, p1, ⟨c1, c2, p2⟩, p3⟩ := h v a W t hC l0 hl
  rw [h1] at c1; cases c1
  rw [show y = x + ((ln lb : Nat) : Int) by omega]
  obtain ⟨p3, p4, p5⟩ := p3
  refine ⟨pre ++ [(x, cs)], ptp.snoc pre q p1 hx p2, ?_, fun j hj => ?_, fun sb hb j j1 j2 j3 => ?_⟩
  · rw [cls_app, cls_one, ← List.append_assoc]
    exact p3
  · rw [bgn_snoc, if_neg (by omega)]
    exact p4 j (by omega)
  · rw [bgn_snoc]
    exact p5 sb hb j j1 j2 j3
theorem SPI.done (h : SPI sk ln iv rv iv1 s tb q u x) (hx : u ≤ x) : SPX sk ln iv rv iv1 s (some tb) q u 0 := fun tb' e v a W t hC l0 hl => by
  cases e
  obtain ⟨pre, p1, p2⟩ := h v a W t hC l0 hl
  exact ⟨fun _ => ⟨pre, ⟨x, p1, hx⟩, p2.1, fun sb hb j j1 j2 j3 => p2.2.2 sb hb j j1 (by omega) j3⟩, fun e => absurd rfl e⟩
end SROW
def CTB (sk ln : Nat → Nat) (iv : Nat → Nat → Int) (rv : Nat → Nat → Option Nat) (s tb : Nat) (v : Nat → Int) (a : Nat → Nat → Int) (W : Nat → Int) (t : Nat) : Prop := TRL sk ln iv rv v a ∧ (t : Int) < v 4 ∧ el rv (sk 22) t = some tb ∧ LTW iv rv s W 0 (iv s 4)
def SW0 (a : Nat → Nat → Int) (W : Nat → Int) (n t : Int) (cs : List Int) : Prop := (a 6 t.toNat ≠ 5 ∧ ∃ ps, PTS a W t 0 n ps ∧ cs = cls ps) ∨ (a 6 t.toNat = 5 ∧ ∃ js ps g x, jtp a W n t 0 0 js g x ∧ SEG a W n t g x n ps ∧ cs = jcl a t 0 js ++ cls ps)
def STF (iv : Nat → Nat → Int) (rv : Nat → Nat → Option Nat) (s : Nat) (a : Nat → Nat → Int) (W : Nat → Int) (n t : Int) (cs : List Int) : Prop := a 6 t.toNat ≠ 5 → ∃ ps, PTS a W t 0 n ps ∧ cs = cls ps ∧ STE iv rv s 0 ps 0 n
def SBF (sk ln : Nat → Nat) (iv : Nat → Nat → Int) (rv : Nat → Nat → Option Nat) (s tb : Nat) : Prop := ∀ v a W t, CTB sk ln iv rv s tb v a W t → ¬ ∃ cs, SW0 a W (iv s 4) t cs ∧ cs.length ≤ 200
def SBX (sk ln : Nat → Nat) (iv : Nat → Nat → Int) (rv : Nat → Nat → Option Nat) (iv2 : Nat → Nat → Int) (s tb : Nat) (f : Int) : Prop := ∀ v a W t, CTB sk ln iv rv s tb v a W t → (f = 0 → ∃ cs, SW0 a W (iv s 4) t cs ∧ cs.length ≤ 200 ∧ (PDH iv2 rv s cs ∧ STF iv2 rv s a W (iv s 4) t cs)) ∧ (f ≠ 0 → ¬ ∃ cs, SW0 a W (iv s 4) t cs ∧ cs.length ≤ 200)
def SBI (sk ln : Nat → Nat) (iv : Nat → Nat → Int) (rv : Nat → Nat → Option Nat) (iv1 : Nat → Nat → Int) (s tb : Nat) (g x y : Int) : Prop := ∀ v a W t, CTB sk ln iv rv s tb v a W t → (y ≤ iv s 4 → (a 6 t ≠ 5 → (x = 0 ∧ g = 0) ∧ PDH iv1 rv s []) ∧ (a 6 t = 5 → (0 ≤ x ∧ x ≤ y) ∧ NSG W (sgj g) x y ∧ ∃ js, jtp a W (iv s 4) t 0 0 js g x ∧ PDH iv1 rv s (jcl a t 0 js))) ∧ (iv s 4 < y → ∃ cs, SW0 a W (iv s 4) t cs ∧ (PDH iv1 rv s cs ∧ STF iv1 rv s a W (iv s 4) t cs))
def SBN (sk ln : Nat → Nat) (iv : Nat → Nat → Int) (rv : Nat → Nat → Option Nat) (iv1 : Nat → Nat → Int) (s tb : Nat) (g y f : Int) : Prop := (f = 0 → SBI sk ln iv rv iv1 s tb (1 - g) (y + 1) (y + 1)) ∧ (f ≠ 0 → SBF sk ln iv rv s tb)
def NTN (iv : Nat → Nat → Int) (rv : Nat → Nat → Option Nat) (s tb : Nat) (g y : Int) : Prop := iv tb 0 ≠ 5 ∨ ∃ lb, rv s 0 = some lb ∧ iv lb y.toNat ≠ sgj g
def TRN (iv : Nat → Nat → Int) (rv : Nat → Nat → Option Nat) (s tb : Nat) (g k tn : Int) (fs : Option Nat) : Prop := (tn = 1 → iv tb 0 = 5 ∧ k < iv s 4 ∧ ∃ lb, rv s 0 = some lb ∧ iv lb k.toNat = sgj g) ∧ (tn ≠ 1 → k = iv s 4) ∧ (iv tb 0 = 5 → fs = rv tb 2) ∧ (iv tb 0 ≠ 5 → fs = some tb)
section SBYS
variable {h : Nat} {sk : Nat → Nat} {L : List Nat} {cl ln : Nat → Nat} {iv iv1 iv2 iv3 : Nat → Nat → Int} {rv : Nat → Nat → Option Nat} {v : Nat → Int} {a : Nat → Nat → Int} {W : Nat → Int} {s tb n lb : Nat} {t : Nat} {g x y z m f f2 e0 g2 : Int} {r r2 : Option Nat} {cs ds : List Int} {js : List (Int × List (Int × List Int))}
theorem SWC.iff0 {t : Int} : SWC a W m t cs ↔ SW0 a W m t cs ∧ cs.length ≤ 200 := by
  constructor
  · intro hs
    rcases hs with ⟨h1, ps, ⟨⟨y, h2, h3⟩, h4⟩, h5⟩ | ⟨h1, h2, js, ps, g, x, h3, h4, h5⟩
    · exact ⟨Or.inl ⟨h1, ps, ⟨y, h2, h3⟩, h5⟩, by rw [h5]; omega⟩
    · exact ⟨Or.inr ⟨h1, js, ps, g, x, h3, h4, h5⟩, h2⟩
  · intro ⟨hs, hl⟩
    rcases hs with ⟨h1, ps, ⟨y, h2, h3⟩, h5⟩ | ⟨h1, js, ps, g, x, h3, h4, h5⟩
    · exact Or.inl ⟨h1, ps, ⟨⟨y, h2, h3⟩, by rw [h5] at hl; omega⟩, h5⟩
    · exact Or.inr ⟨h1, hl, js, ps, g, x, h3, h4, h5⟩
theorem SW0.uni {t : Int} (hT : TBL v a) (ht : 0 ≤ t ∧ t < v 4) (hs : SW0 a W m t cs) (h2 : SW0 a W m t ds) : cs = ds := by
  rcases hs with ⟨p1, ps, ⟨y, p2, p3⟩, p5⟩ | ⟨p1, js, ps, g, x, p3, p4, p5⟩
  · rcases h2 with ⟨_, qs, ⟨z, q2, q3⟩, q5⟩ | ⟨q1, _⟩
    · rw [p5, q5, ptp.uni hT ht.1 ht.2 p2 p3 q2 q3]
    · exact absurd q1 p1
  · rcases h2 with ⟨q1, _⟩ | ⟨_, ks, qs, g2, x2, q3, q4, q5⟩
    · exact absurd p1 q1
    · obtain ⟨ls, k1, k2⟩ := jtp.ext hT ht p1 js ks 0 0 g2 x2 qs p3 q3 q4
      have pk := prt.ok (g := g) hT ht p1
      cases ls with
      | nil =>
        obtain ⟨rfl, rfl⟩ := k2
        have e := SEG.uni hT pk.1.1 pk.1.2 p4 q4
        rw [List.append_nil] at k1
        rw [p5, q5, k1, e.2]
      | cons p ls =>
        obtain ⟨m1, m2, _, _⟩ := k2
        have e := SEG.uni hT pk.1.1 pk.1.2 p4 m1
        omega
theorem CTB.kind (hC : CTB sk ln iv rv s tb v a W t) : iv tb 0 = a 6 t := (hC.1.tab hC.2.1 hC.2.2.1).1.1
theorem CTB.ind (hC : CTB sk ln iv rv s tb v a W t) (h6 : rv tb 6 = some n) {j : Nat} (hj : j < 4) : INDR ln iv rv (rv n j) (j : Int) (a 16 (4 * t + j)) (fun k => a 17 (4 * (4 * t + j) + k)) := by
  obtain ⟨_, _, q1, n1, ⟨_, c2, _⟩, _, c5⟩ := hC.1.tab hC.2.1 hC.2.2.1
  rw [h6] at c2; cases c2
  exact c5 j hj
theorem CTB.tbt (hC : CTB sk ln iv rv s tb v a W t) : TBL v a ∧ (0 ≤ (t : Int) ∧ (t : Int) < v 4) := ⟨hC.1.2.2.1, by omega, hC.2.1⟩
theorem CTB.j5 (hC : CTB sk ln iv rv s tb v a W t) (hj : iv tb 0 = 5) : a 6 t = 5 ∧ a 6 (t : Int).toNat = 5 := by
  have e := hC.kind.symm.trans hj
  exact ⟨e, by rw [Int.toNat_natCast]; exact e⟩
theorem SBI.init (e : iv1 = up2 iv s 7 0) (h4 : 0 ≤ iv s 4) : SBI sk ln iv rv iv1 s tb 0 0 0 := fun v a W t hC => by
  have pd : PDH iv1 rv s [] := ⟨by rw [e, up2_s]; rfl, fun cb hb j d hj e => by simp at e⟩
  exact ⟨fun _ => ⟨fun _ => ⟨⟨rfl, rfl⟩, pd⟩, fun h5 => ⟨⟨Int.le_refl _, Int.le_refl _⟩, NSG.zero, [], ⟨rfl, rfl⟩, pd⟩⟩, fun e => absurd e (by omega)⟩
theorem SBI.re (hs : SBI sk ln iv rv iv1 s tb g x y) (hg : g = g2) : SBI sk ln iv rv iv1 s tb g2 x y := by
  subst hg
  exact hs
theorem SBI.skip (hs : SBI sk ln iv rv iv1 s tb g x y) (hy : y < iv s 4) (hy0 : 0 ≤ y) (hn : NTN iv rv s tb g y) : SBI sk ln iv rv iv1 s tb g x (y + 1) := fun v a W t hC => by
  obtain ⟨h1, h2⟩ := hs v a W t hC
  obtain ⟨h3, h4⟩ := h1 (by omega)
  refine ⟨fun _ => ⟨h3, fun h5 => ?_⟩, fun e => absurd e (by omega)⟩
  obtain ⟨p1, p2, p3⟩ := h4 h5
  refine ⟨⟨p1.1, by omega⟩, p2.step ?_, p3⟩
  rcases hn with e | ⟨lb, e1, e2⟩
  · exact absurd (hC.kind.trans h5) e
  · rw [← hC.2.2.2 lb e1 y hy0 hy]; exact e2
theorem SBI.fin (hs : SBI sk ln iv rv iv1 s tb g x y) (hk : iv s 4 < y) (hf : (200 < iv1 s 7 ∧ f ≠ 0) ∨ (iv1 s 7 ≤ 200 ∧ f = 0)) : SBX sk ln iv rv iv1 s tb f := fun v a W t hC => by
  obtain ⟨cs, c1, c2⟩ := (hs v a W t hC).2 hk
  have c3 := c2.1.1
  refine ⟨fun e => ⟨cs, c1, by omega, c2⟩, fun e w => ?_⟩
  obtain ⟨ds, d1, d2⟩ := w
  have q := SW0.uni hC.tbt.1 hC.tbt.2 c1 d1
  subst q
  omega
theorem SBX.fail (hs : SBF sk ln iv rv s tb) (hf : f ≠ 0) : SBX sk ln iv rv iv1 s tb f := fun v a W t hC => ⟨fun e => absurd e hf, fun _ => hs v a W t hC⟩
theorem SBN.bad (hs : SBI sk ln iv rv iv1 s tb g x y) (hn : iv tb 0 ≠ 5) (hg : g ≠ 0) (hk : y ≤ iv s 4) : SBN sk ln iv rv iv2 s tb g y f := by
  have no : ∀ v a W t, CTB sk ln iv rv s tb v a W t → False := fun v a W t hC => hg ((((hs v a W t hC).1 hk).1 (fun e => hn (hC.kind.trans e))).1.2)
  exact ⟨fun _ v a W t hC => (no v a W t hC).elim, fun _ v a W t hC => (no v a W t hC).elim⟩
theorem SBI.pl (hs : SBI sk ln iv rv iv1 s tb g x (iv s 4)) (hW : WT h sk L cl ln iv rv) (hS : SKL sk L cl) (hF : fT [15, 53, 54, 55] L cl iv rv iv1 rv) (ts : ty L cl s 15) (hn : iv tb 0 ≠ 5) (sp : SPX sk ln iv1 rv iv2 s (some tb) x (iv s 4) f) (hC : CTB sk ln iv rv s tb v a W t) : a 6 t ≠ 5 ∧ (f = 0 → ∃ ps, PTS a W t 0 (iv s 4) ps ∧ (PDH iv2 rv s (cls ps) ∧ STE iv2 rv s 0 ps 0 (iv s 4))) ∧ (f ≠ 0 → ¬ ∃ ps, PTS a W t 0 (iv s 4) ps ∧ (cls ps).length ≤ 200) := by
  have h5 : a 6 t ≠ 5 := fun e => hn (hC.kind.trans e)
  obtain ⟨⟨e1, _⟩, pd⟩ := ((hs v a W t hC).1 (Int.le_refl _)).1 h5
  subst e1
  have cx : CTX sk ln iv rv s tb 0 (iv s 4) v a W t := ⟨hC.1, hC.2.1, h5, hC.2.2.1, hC.2.2.2⟩
  have q := sp tb rfl v a W t (cx.ni hW hS hF rfl rfl rfl rfl rfl rfl ts) [] pd
  exact ⟨h5, q⟩
theorem SBN.plain (hs : SBI sk ln iv rv iv1 s tb g x y) (hW : WT h sk L cl ln iv rv) (hS : SKL sk L cl) (hF : fT [15, 53, 54, 55] L cl iv rv iv1 rv) (ts : ty L cl s 15) (hn : iv tb 0 ≠ 5) (hk : y = iv s 4) (hr : r = some tb) (sp : SPX sk ln iv1 rv iv2 s r x y f) : SBN sk ln iv rv iv2 s tb g y f := by
  subst hk
  subst hr
  refine ⟨fun e v a W t hC => ⟨fun e2 => absurd e2 (by omega), fun _ => ?_⟩, fun e v a W t hC w => ?_⟩
  · obtain ⟨h5, p1, _⟩ := hs.pl hW hS hF ts hn sp hC
    obtain ⟨ps, q1, q2⟩ := p1 e
    exact ⟨cls ps, Or.inl ⟨by rw [Int.toNat_natCast]; exact h5, ps, q1, rfl⟩, q2.1, fun _ => ⟨ps, q1, rfl, q2.2⟩⟩
  · obtain ⟨h5, _, p2⟩ := hs.pl hW hS hF ts hn sp hC
    obtain ⟨cs, w1, w2⟩ := w
    rcases w1 with ⟨_, ps, w3, w4⟩ | ⟨w1, _⟩
    · rw [w4] at w2
      exact p2 e ⟨ps, w3, w2⟩
    · rw [Int.toNat_natCast] at w1
      exact h5 w1
theorem prt_el (hC : CTB sk ln iv rv s tb v a W t) (h5 : a 6 t = 5) (hr : (g = 0 ∧ r = rv tb 2) ∨ (g = 1 ∧ r = rv tb 3)) : ∃ b, r = some b ∧ el rv (sk 22) (prt a t g).toNat = some b := by
  have T := hC.1.2.2.1.1 t (by omega) hC.2.1
  rw [Int.toNat_natCast] at T
  have t4 := hC.2.1
  obtain ⟨_, ⟨c2, c3⟩, _⟩ := hC.1.tab hC.2.1 hC.2.2.1
  rcases hr with ⟨g0, hr⟩ | ⟨g1, hr⟩
  · have e : prt a t g = a 8 t := by
      unfold prt
      rw [if_neg (by omega), Int.toNat_natCast]
    rw [e]
    obtain ⟨b, hb⟩ := hC.1.smt (i := (a 8 t).toNat) (by omega)
    refine ⟨b, ?_, hb⟩
    rcases c2 with ⟨c, _⟩ | ⟨_, _, c⟩
    · omega
    · rw [hr, c]; exact hb
  · have e : prt a t g = a 9 t := by
      unfold prt
      rw [if_pos g1, Int.toNat_natCast]
    rw [e]
    obtain ⟨b, hb⟩ := hC.1.smt (i := (a 9 t).toNat) (by omega)
    refine ⟨b, ?_, hb⟩
    rcases c3 with ⟨c, _⟩ | ⟨_, _, c⟩
    · omega
    · rw [hr, c]; exact hb
theorem SBI.jn (hs : SBI sk ln iv rv iv1 s tb g x y) (hW : WT h sk L cl ln iv rv) (hS : SKL sk L cl) (hF : fT [15, 53, 54, 55] L cl iv rv iv1 rv) (ts : ty L cl s 15) (hj : iv tb 0 = 5) (hr : (g = 0 ∧ r = rv tb 2) ∨ (g = 1 ∧ r = rv tb 3)) (hk : y ≤ iv s 4) (sp : SPX sk ln iv1 rv iv2 s r x y f) (hC : CTB sk ln iv rv s tb v a W t) : ∃ js, (0 ≤ x ∧ x ≤ y) ∧ NSG W (sgj g) x y ∧ jtp a W (iv s 4) t 0 0 js g x ∧ (f = 0 → ∃ ps, PTS a W (prt a t g) x y ps ∧ PDH iv2 rv s (jcl a t 0 js ++ cls ps)) ∧ (f ≠ 0 → ¬ ∃ ps, PTS a W (prt a t g) x y ps ∧ (jcl a t 0 js ++ cls ps).length ≤ 200) := by
  have h5 := hC.j5 hj
  obtain ⟨p1, p2, js, p3, p4⟩ := ((hs v a W t hC).1 hk).2 h5.1
  have pk := prt.ok (g := g) hC.tbt.1 hC.tbt.2 h5.2
  obtain ⟨b, b1, b2⟩ := prt_el hC h5.1 hr
  have e : (((prt a t g).toNat : Nat) : Int) = prt a t g := Int.toNat_of_nonneg pk.1.1
  have cx : CTX sk ln iv rv s b x y v a W (prt a t g).toNat := ⟨hC.1, by omega, by omega, b2, fun lb hb j h1 h2 => hC.2.2.2 lb hb j (by omega) (by omega)⟩
  have q := sp b b1 v a W _ (cx.ni hW hS hF rfl rfl rfl rfl rfl rfl ts) _ p4
  rw [e] at q
  refine ⟨js, p1, p2, p3, fun e2 => ?_, q.2⟩
  obtain ⟨ps, k1, k2⟩ := q.1 e2
  exact ⟨ps, k1, k2.1⟩
theorem SBJ.no {t : Int} (hT : TBL v a) (ht : 0 ≤ t ∧ t < v 4) (h5 : a 6 t.toNat = 5) (p3 : jtp a W m t 0 0 js g x) (hy : x ≤ y ∧ y ≤ m) (hN : NSG W (sgj g) x y) (he : y = m ∨ W y.toNat = sgj g) (no : (¬ ∃ ps, PTS a W (prt a t g) x y ps ∧ (jcl a t 0 js ++ cls ps).length ≤ 200) ∨ (y < m ∧ ¬ 0 < a 16 (ind4 t g).toNat)) : ¬ ∃ cs, SW0 a W m t cs ∧ cs.length ≤ 200 := fun w => by
  obtain ⟨cs, w1, len⟩ := w
  rcases w1 with ⟨w1, _⟩ | ⟨_, ks, qs, g3, x3, w2, w3, w4⟩
  · exact w1 h5
  · obtain ⟨ls, k1, k2⟩ := jtp.ext hT ht h5 js ks 0 0 g3 x3 qs p3 w2 w3
    obtain ⟨ps, zz, ⟨m1, m2⟩, m3, m4⟩ := seg_len hT ht h5 k2 w3 hy hN he
    rcases no with no | ⟨n1, n2⟩
    · refine no ⟨ps, ⟨zz, m1, m2⟩, ?_⟩
      rw [k1, jcl.app js ls 0 0 p3, List.append_assoc] at w4
      rw [w4, List.length_append] at len
      rw [List.length_append]; omega
    · rcases m4 with m4 | ⟨_, m5, _⟩
      · omega
      · exact n2 m5
theorem SBN.jfail (hs : SBI sk ln iv rv iv1 s tb g x y) (hW : WT h sk L cl ln iv rv) (hS : SKL sk L cl) (hF : fT [15, 53, 54, 55] L cl iv rv iv1 rv) (ts : ty L cl s 15) (hj : iv tb 0 = 5) (hr : (g = 0 ∧ r = rv tb 2) ∨ (g = 1 ∧ r = rv tb 3)) (hk : 0 ≤ y ∧ y ≤ iv s 4) (sp : SPX sk ln iv1 rv iv2 s r x y f) (he : y = iv s 4 ∨ ∃ lb, rv s 0 = some lb ∧ iv lb y.toNat = sgj g) (hf : f ≠ 0) : SBN sk ln iv rv iv3 s tb g y f := by
  refine ⟨fun e => absurd e hf, fun _ v a W t hC => ?_⟩
  obtain ⟨js, p1, p2, p3, _, p5⟩ := hs.jn hW hS hF ts hj hr hk.2 sp hC
  refine SBJ.no hC.tbt.1 hC.tbt.2 (hC.j5 hj).2 p3 ⟨p1.2, hk.2⟩ p2 ?_ (Or.inl (p5 hf))
  by_cases c : y = iv s 4
  · exact Or.inl c
  · rcases he with e | ⟨lb, e1, e2⟩
    · exact Or.inl e
    · exact Or.inr (by rw [← hC.2.2.2 lb e1 y hk.1 (by omega)]; exact e2)
theorem SBN.jlast (hs : SBI sk ln iv rv iv1 s tb g x y) (hW : WT h sk L cl ln iv rv) (hS : SKL sk L cl) (hF : fT [15, 53, 54, 55] L cl iv rv iv1 rv) (ts : ty L cl s 15) (hj : iv tb 0 = 5) (hr : (g = 0 ∧ r = rv tb 2) ∨ (g = 1 ∧ r = rv tb 3)) (hk : y = iv s 4) (sp : SPX sk ln iv1 rv iv2 s r x y f) (hf : f = 0) : SBN sk ln iv rv iv2 s tb g y f := by
  refine ⟨fun _ v a W t hC => ⟨fun e2 => absurd e2 (by omega), fun _ => ?_⟩, fun e => absurd hf e⟩
  obtain ⟨js, p1, p2, p3, p4, _⟩ := hs.jn hW hS hF ts hj hr (by omega) sp hC
  obtain ⟨ps, ⟨zz, q1, q2⟩, q3⟩ := p4 hf
  subst hk
  exact ⟨_, Or.inr ⟨(hC.j5 hj).2, js, ps, g, x, p3, ⟨⟨p1.2, Int.le_refl _⟩, p2, Or.inl rfl, zz, q1, q2⟩, rfl⟩, q3, fun c => absurd (hC.j5 hj).2 c⟩
theorem CTB.sign (hC : CTB sk ln iv rv s tb v a W t) (h6 : rv tb 6 = some n) (hr2 : (g = 0 ∧ rv n 2 = r2) ∨ (g = 1 ∧ rv n 3 = r2)) : RCX ln iv rv r2 (ICL a (ind4 t g)) ∧ (r2 = none → ¬ 0 < a 16 (ind4 (t : Int) g).toNat) ∧ ((∃ w, r2 = some w) → 0 < a 16 (ind4 (t : Int) g).toNat) := by
  have key : ∀ j : Nat, j < 4 → rv n j = r2 → ind4 (t : Int) g = 4 * (t : Int) + (j : Int) → RCX ln iv rv r2 (ICL a (ind4 t g)) ∧ (r2 = none → ¬ 0 < a 16 (ind4 (t : Int) g).toNat) ∧ ((∃ w, r2 = some w) → 0 < a 16 (ind4 (t : Int) g).toNat) := fun j hj e1 e2 => by
    have hi := hC.ind h6 hj
    rw [e1] at hi
    rw [e2, ICL.nat, show (4 * (t : Int) + (j : Int)).toNat = 4 * t + j by omega]
    refine ⟨hi.rc, fun e => ?_, fun e => ?_⟩
    · rcases hi with ⟨_, q⟩ | ⟨_, _, q, _⟩
      · omega
      · rw [e] at q; cases q
    · obtain ⟨w, e⟩ := e
      rcases hi with ⟨q, _⟩ | ⟨_, _, _, _, _, _, q, _⟩
      · rw [e] at q; cases q
      · exact q
  rcases hr2 with ⟨e1, e2⟩ | ⟨e1, e2⟩
  · exact key 2 (by decide) e2 (by unfold ind4; rw [if_neg (by omega)]; rfl)
  · exact key 3 (by decide) e2 (by unfold ind4; rw [if_pos e1]; rfl)
theorem SBN.jturn (hs : SBI sk ln iv rv iv1 s tb g x y) (hW : WT h sk L cl ln iv rv) (hS : SKL sk L cl) (hF : fT [15, 53, 54, 55] L cl iv rv iv1 rv) (ts : ty L cl s 15) (hj : iv tb 0 = 5) (hr : (g = 0 ∧ r = rv tb 2) ∨ (g = 1 ∧ r = rv tb 3)) (hk : 0 ≤ y ∧ y < iv s 4) (sp : SPX sk ln iv1 rv iv2 s r x y f) (he : ∃ lb, rv s 0 = some lb ∧ iv lb y.toNat = sgj g) (hf : f = 0) (hF2 : fT [15, 53, 54, 55] L cl iv rv iv2 rv) (h6 : rv tb 6 = some n) (hr2 : (g = 0 ∧ rv n 2 = r2) ∨ (g = 1 ∧ rv n 3 = r2)) (t2 : ∀ b, r2 = some b → ty L cl b 20) (st : STX ln iv2 rv iv3 s r2 f2) : SBN sk ln iv rv iv3 s tb g y f2 := by
  obtain ⟨lb, e1, e2⟩ := he
  have hg : g = 0 ∨ g = 1 := by
    rcases hr with ⟨e, _⟩ | ⟨e, _⟩
    · exact Or.inl e
    · exact Or.inr e
  refine ⟨fun e v a W t hC => ⟨fun _ => ⟨fun n5 => absurd (hC.j5 hj).1 n5, fun _ => ?_⟩, fun e3 => absurd e3 (by omega)⟩, fun e v a W t hC => ?_⟩
  · rcases st with ⟨_, q⟩ | ⟨_, w, pu⟩
    · omega
    · obtain ⟨js, p1, p2, p3, p4, _⟩ := hs.jn hW hS hF ts hj hr (by omega) sp hC
      obtain ⟨ps, ⟨zz, q1, q2⟩, q3⟩ := p4 hf
      obtain ⟨s1, _, s3⟩ := hC.sign h6 hr2
      refine hv2 (show W y.toNat = sgj g from by rw [← hC.2.2.2 lb e1 y hk.1 hk.2]; exact e2) (pu _ q3 _ (s1.ni hW hF2 rfl t2)) (fun ew pd => ?_)
      refine ⟨⟨by omega, Int.le_refl _⟩, NSG.zero, js ++ [(y, ps)], jtp.snoc js 0 0 p3 ⟨⟨p1.2, by omega⟩, p2, Or.inr ew, zz, q1, q2⟩ hk.2 (s3 w), ?_⟩
      rw [jcl.snoc hg js 0 0 p3, ← List.append_assoc]
      exact pd
  · rcases st with ⟨q, _⟩ | ⟨q, _⟩
    · obtain ⟨js, p1, p2, p3, p4, _⟩ := hs.jn hW hS hF ts hj hr (by omega) sp hC
      obtain ⟨_, s2, _⟩ := hC.sign h6 hr2
      have ew : W y.toNat = sgj g := by rw [← hC.2.2.2 lb e1 y hk.1 hk.2]; exact e2
      exact SBJ.no hC.tbt.1 hC.tbt.2 (hC.j5 hj).2 p3 ⟨p1.2, by omega⟩ p2 (Or.inr ew) (Or.inr ⟨hk.2, s2 q⟩)
    · exact absurd q e
end SBYS
