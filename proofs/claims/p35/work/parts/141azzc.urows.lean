section
def BYS (iv : Nat → Nat → Int) (rv : Nat → Nat → Option Nat) (q : Nat) (bs : List Int) : Prop := iv q 2 = ((bs.length : Nat) : Int) ∧ CT iv rv q (fun j => (bs[j]?).getD 0)
def UBN (L : List Nat) (cl ln : Nat → Nat) (iv : Nat → Nat → Int) (rv : Nat → Nat → Option Nat) (sk : Nat → Nat) (a : Nat → Nat → Int) (l0 l1 sg l : List Int) : Prop := DCQ L cl ln iv rv sk a l0 l1 ∧ ALF iv rv (sk 14) sg ∧ TRNU iv rv (sk 14) l
def URS (sk ln : Nat → Nat) (iv : Nat → Nat → Int) (rv : Nat → Nat → Option Nat) (b : Nat) (L1 : List Nat) (cl1 ln1 : Nat → Nat) (iv1 : Nat → Nat → Int) (rv1 : Nat → Nat → Option Nat) (t n ok k : Int) : Prop := ∀ v a, TRL sk ln iv rv v a → (∀ j, a 16 j ≤ 4) → (0 ≤ t ∧ t < v 4) → el rv (sk 22) t.toNat = some b → ∃ h, HSS a t h ∧ URK a t (sgl h 256) n.toNat k.toNat ∧ ((ok = 0 ∧ enw (((sgl h 256).length : Nat) : Int) n.toNat k.toNat = none) ∨ (ok = 1 ∧ ∃ l, enw (((sgl h 256).length : Nat) : Int) n.toNat k.toNat = some l ∧ UBN L1 cl1 ln1 iv1 rv1 sk a (gat0 a t) (gat1 a t) (sgl h 256) l))
def URW (sk ln : Nat → Nat) (iv : Nat → Nat → Int) (rv : Nat → Nat → Option Nat) (b : Nat) (L1 : List Nat) (cl1 ln1 : Nat → Nat) (iv1 : Nat → Nat → Int) (rv1 : Nat → Nat → Option Nat) (t n k : Int) : Prop := ∀ v a, TRL sk ln iv rv v a → (∀ j, a 16 j ≤ 4) → (0 ≤ t ∧ t < v 4) → el rv (sk 22) t.toNat = some b → ∃ h l, HSS a t h ∧ URK a t (sgl h 256) n.toNat k.toNat ∧ enw (((sgl h 256).length : Nat) : Int) n.toNat k.toNat = some l ∧ UBN L1 cl1 ln1 iv1 rv1 sk a (gat0 a t) (gat1 a t) (sgl h 256) l ∧ iv1 (sk 15) 4 = ((l.length : Nat) : Int) ∧ LTW iv1 rv1 (sk 15) (RR0 (wdb (sgl h 256) l)) 0 ((l.length : Nat) : Int)
def URC (sk ln : Nat → Nat) (iv : Nat → Nat → Int) (rv : Nat → Nat → Option Nat) (b : Nat) (L1 : List Nat) (cl1 ln1 : Nat → Nat) (iv1 : Nat → Nat → Int) (rv1 : Nat → Nat → Option Nat) (t n k : Int) : Prop := ∀ v a, TRL sk ln iv rv v a → (∀ j, a 16 j ≤ 4) → (0 ≤ t ∧ t < v 4) → el rv (sk 22) t.toNat = some b → ∃ h l cs, HSS a t h ∧ URK a t (sgl h 256) n.toNat k.toNat ∧ enw (((sgl h 256).length : Nat) : Int) n.toNat k.toNat = some l ∧ UBN L1 cl1 ln1 iv1 rv1 sk a (gat0 a t) (gat1 a t) (sgl h 256) l ∧ (iv1 (sk 15) 4 = ((l.length : Nat) : Int) ∧ LTW iv1 rv1 (sk 15) (RR0 (wdb (sgl h 256) l)) 0 ((l.length : Nat) : Int)) ∧ SWC a (RR0 (wdb (sgl h 256) l)) ((l.length : Nat) : Int) t cs ∧ cs.length ≤ 200 ∧ PDH iv1 rv1 (sk 15) cs
def URN (sk ln : Nat → Nat) (iv : Nat → Nat → Int) (rv : Nat → Nat → Option Nat) (b : Nat) (L1 : List Nat) (cl1 ln1 : Nat → Nat) (iv1 : Nat → Nat → Int) (rv1 : Nat → Nat → Option Nat) (t n k : Int) : Prop := ∀ v a, TRL sk ln iv rv v a → (∀ j, a 16 j ≤ 4) → (0 ≤ t ∧ t < v 4) → el rv (sk 22) t.toNat = some b → ∃ h l, HSS a t h ∧ URK a t (sgl h 256) n.toNat (k.toNat + 1) ∧ enw (((sgl h 256).length : Nat) : Int) n.toNat k.toNat = some l ∧ UBN L1 cl1 ln1 iv1 rv1 sk a (gat0 a t) (gat1 a t) (sgl h 256) l
def URF (sk ln : Nat → Nat) (iv : Nat → Nat → Int) (rv : Nat → Nat → Option Nat) (b : Nat) (iv1 : Nat → Nat → Int) (rv1 : Nat → Nat → Option Nat) (t n k : Int) : Prop := ∀ v a, TRL sk ln iv rv v a → (∀ j, a 16 j ≤ 4) → (0 ≤ t ∧ t < v 4) → el rv (sk 22) t.toNat = some b → ∃ h l, HSS a t h ∧ URK a t (sgl h 256) n.toNat k.toNat ∧ enw (((sgl h 256).length : Nat) : Int) n.toNat k.toNat = some l ∧ URB a t (wdb (sgl h 256) l) ∧ iv1 (sk 15) 4 = ((l.length : Nat) : Int) ∧ LTW iv1 rv1 (sk 15) (RR0 (wdb (sgl h 256) l)) 0 ((l.length : Nat) : Int)
def PUR (sk ln : Nat → Nat) (iv : Nat → Nat → Int) (rv : Nat → Nat → Option Nat) (iv2 : Nat → Nat → Int) (rv2 : Nat → Nat → Option Nat) (t n m f : Int) : Prop := ∀ v a, TRL sk ln iv rv v a → (∀ j, a 16 j ≤ 4) → ∀ b0 : List Int, BYS iv rv (sk 4) b0 → (¬ OKU v a t n m ∧ f = -1 ∧ BYS iv2 rv2 (sk 4) b0) ∨ (OKU v a t n m ∧ ∃ h o, HSS a t h ∧ URD a t (sgl h 256) n.toNat m.toNat f o ∧ BYS iv2 rv2 (sk 4) (o.getD b0))
section UROW
variable {g : Nat} {sk : Nat → Nat} {L L1 L2 L3 : List Nat} {cl ln cl1 ln1 cl2 ln2 cl3 ln3 : Nat → Nat} {iv iv1 iv2 iv3 iv4 iv5 : Nat → Nat → Int} {rv rv1 rv2 rv3 rv4 : Nat → Nat → Option Nat} {v : Nat → Int} {a : Nat → Nat → Int} {b c q r : Nat} {S t n m k f f2 ok z y : Int} {l l0 l1 l2 sg : List Int} {ls ls3 : List Nat} {N i : Nat}
theorem inw_dg : ∀ l l2 : List Int, (∀ (j : Nat) (x : Int), l[j]? = some x → 0 ≤ x ∧ x < S) → inw S l = some l2 → ∀ (j : Nat) (x : Int), l2[j]? = some x → 0 ≤ x ∧ x < S := by
  intro l
  induction l with
  | nil => intro l2 _ e; cases e
  | cons d r ih =>
    intro l2 hd e
    refine hv2 (show (if d = S - 1 then (match inw S r with | some l => some (0 :: l) | none => none) else some ((d + 1) :: r)) = some l2 from e) (hd 0 d rfl) (fun e0 d0 => ?_)
    by_cases c : d = S - 1
    · rw [if_pos c] at e0
      cases e1 : inw S r with
      | none => rw [e1] at e0; cases e0
      | some l3 =>
        rw [e1] at e0
        cases e0
        intro j x ej
        cases j with
        | zero =>
          have e2 : some (0 : Int) = some x := ej
          cases e2
          omega
        | succ j => exact ih l3 (fun j x q => hd (j + 1) x q) e1 j x ej
    · rw [if_neg c] at e0
      cases e0
      intro j x ej
      cases j with
      | zero =>
        have e2 : some (d + 1) = some x := ej
        cases e2
        omega
      | succ j => exact hd (j + 1) x ej
theorem zrs_dg (hS : 0 < S) {m : Nat} : ∀ (j : Nat) (x : Int), (zrs m)[j]? = some x → 0 ≤ x ∧ x < S := fun j x e => by
  rw [zrs_at _ _ _ e]
  omega
theorem enw_dg : ∀ (i : Nat) (l : List Int), enw S N i = some l → 0 < S ∧ (∀ (j : Nat) (x : Int), l[j]? = some x → 0 ≤ x ∧ x < S) ∧ l.length ≤ N := by
  intro i
  induction i with
  | zero =>
    intro l e
    have e0 : (if 0 < S ∧ 0 < N then some (zrs 1) else none) = some l := e
    by_cases c : 0 < S ∧ 0 < N
    · rw [if_pos c] at e0
      cases e0
      exact ⟨c.1, zrs_dg c.1, by rw [zrs_len]; omega⟩
    · rw [if_neg c] at e0
      cases e0
  | succ i ih =>
    intro l e
    cases e1 : enw S N i with
    | none => rw [enw_n e1] at e; cases e
    | some l1 =>
      rw [enw_s e1] at e
      obtain ⟨p1, p2, p3⟩ := ih l1 e1
      cases e2 : inw S l1 with
      | none =>
        rw [nxw_none e2] at e
        by_cases c : l1.length < N
        · rw [if_pos c] at e
          cases e
          exact ⟨p1, zrs_dg p1, by rw [zrs_len]; omega⟩
        · rw [if_neg c] at e
          cases e
      | some l3 =>
        rw [nxw_some e2] at e
        cases e
        exact ⟨p1, inw_dg l1 l p2 e2, by rw [inw_len l1 l e2]; exact p3⟩
theorem ALF.fr (h : ALF iv rv c sg) (hW : WT g sk L cl ln iv rv) (tc : ty L cl c 14) (hF : fT ls L cl iv rv iv1 rv1) (h5 : iv1 c 5 = iv c 5) (h4 : rv1 c 4 = rv c 4) (c57 : ls.contains 57 = false) : ALF iv1 rv1 c sg := by
  refine ⟨h5.trans h.1, fun ab hb j x ej => ?_⟩
  rw [h4] at hb
  obtain ⟨b', w1, tb⟩ := hW.ref tc 4 rfl rfl rfl
  rw [hb] at w1
  cases w1
  rw [hF.i tb c57]
  exact h.2 ab hb j x ej
theorem TRNU.fr (h : TRNU iv rv c l) (hW : WT g sk L cl ln iv rv) (tc : ty L cl c 14) (hF : fT ls L cl iv rv iv1 rv1) (c14 : ls.contains 14 = false) (c58 : ls.contains 58 = false) : TRNU iv1 rv1 c l := by
  refine ⟨(hF.i tc c14 7).trans h.1, fun tb hb j x ej => ?_⟩
  rw [hF.r tc c14 6] at hb
  obtain ⟨b', w1, t'⟩ := hW.ref tc 6 rfl rfl rfl
  rw [hb] at w1
  cases w1
  rw [hF.i t' c58]
  exact h.2 tb hb j x ej
theorem UBN.fr (h : UBN L cl ln iv rv sk a l0 l1 sg l) (hW : WT g sk L cl ln iv rv) (hS : SKL sk L cl) (hF : fT ls L cl iv rv iv1 rv1) (hq : QT g sk L cl ln iv rv L1 cl1 ln1 iv1 rv1) (k24 : ls.contains 24 = false) (k25 : ls.contains 25 = false) (k2 : ls.contains 1002 = false) (k3 : ls.contains 1003 = false) (k6 : ls.contains 6 = false) (k7 : ls.contains 7 = false) (k36 : ls.contains 36 = false) (k37 : ls.contains 37 = false) (k14 : ls.contains 14 = false) (k57 : ls.contains 57 = false) (k58 : ls.contains 58 = false) : UBN L1 cl1 ln1 iv1 rv1 sk a l0 l1 sg l := by
  have t14 : ty L cl (sk 14) 14 := tysq hS rfl rfl
  exact ⟨h.1.fr hW hS hF hq k24 k25 k2 k3 k6 k7 k36 k37, h.2.1.fr hW t14 hF (hF.i t14 k14 5) (hF.r t14 k14 4) k57, h.2.2.fr hW t14 hF k14 k58⟩
theorem URS.init (hg : GLQ sk ln iv rv b L1 cl1 ln1 iv1 rv1 (sk 24) gat0 ∧ GLQ sk ln iv rv b L1 cl1 ln1 iv1 rv1 (sk 25) gat1) (hb : GBQ sk ln iv rv b iv1 rv1 (sk 24) (sk 6) gat0 ∧ GBQ sk ln iv rv b iv1 rv1 (sk 25) (sk 7) gat1) (hW1 : WT g sk L1 cl1 ln1 iv1 rv1) (hS1 : SKL sk L1 cl1) (hx : GAX L1 cl1 ln1 iv1 rv1 iv2 (sk 14) (sk 24) (sk 25) z) (hz : z ≠ 0 ↔ iv b 0 = 5) (hF2 : fT ls L1 cl1 iv1 rv1 iv2 rv1) (hq2 : QT g sk L1 cl1 ln1 iv1 rv1 L1 cl1 ln1 iv2 rv1) (hW2 : WT g sk L1 cl1 ln1 iv2 rv1) (a24 : ls.contains 24 = false) (a25 : ls.contains 25 = false) (a2 : ls.contains 1002 = false) (a3 : ls.contains 1003 = false) (a6 : ls.contains 6 = false) (a7 : ls.contains 7 = false) (a36 : ls.contains 36 = false) (a37 : ls.contains 37 = false) (hF3 : fT ls3 L1 cl1 iv2 rv1 iv3 rv1) (hq3 : QT g sk L1 cl1 ln1 iv2 rv1 L1 cl1 ln1 iv3 rv1) (b24 : ls3.contains 24 = false) (b25 : ls3.contains 25 = false) (b2 : ls3.contains 1002 = false) (b3 : ls3.contains 1003 = false) (b6 : ls3.contains 6 = false) (b7 : ls3.contains 7 = false) (b36 : ls3.contains 36 = false) (b37 : ls3.contains 37 = false) (b57 : ls3.contains 57 = false) (hs : iv3 (sk 14) 5 = iv2 (sk 14) 5 ∧ STXU iv2 rv1 iv3 (sk 14) n f) (hn : 1 ≤ n) (hff : ok = f) : URS sk ln iv rv b L1 cl1 ln1 iv3 rv1 t n ok 0 := fun v a hR h16 ht hel => by
  refine hv2 (hR.nzl h16 ht.1 ht.2) (show ((t.toNat : Nat) : Int) = t from Int.toNat_of_nonneg ht.1) (fun nz ti => ?_)
  have g0 := hg.1 v a hR t.toNat (by omega) hel
  have g1 := hg.2 v a hR t.toNat (by omega) hel
  have b0 := hb.1 v a hR t.toNat (by omega) hel
  have b1 := hb.2 v a hR t.toNat (by omega) hel
  have kd := (hR.tab (i := t.toNat) (by omega) hel).1.1
  rw [ti] at g0 g1 b0 b1
  obtain ⟨h, h1, h2⟩ := hx a _ _ g0 g1
  refine hv3 (show DCQ L1 cl1 ln1 iv1 rv1 sk a (gat0 a t) (gat1 a t) from ⟨⟨g0, g1⟩, nz.1, nz.2, ⟨b0 nz.1.1, b1 nz.1.2⟩⟩) (show ty L1 cl1 (sk 14) 14 from tysq hS1 rfl rfl) (h2.1) (fun dq t14 e5 => ?_)
  refine hv2 ((dq.fr hW1 hS1 hF2 hq2 a24 a25 a2 a3 a6 a7 a36 a37).fr hW2 hS1 hF3 hq3 b24 b25 b2 b3 b6 b7 b36 b37) (h2.fr hW2 t14 hF3 hs.1 rfl b57) (fun dq2 al => ?_)
  refine ⟨h, fun c hc => ?_, URK.zero, ?_⟩
  · rw [h1 c hc, hz, kd]
  · have e0 : enw (((sgl h 256).length : Nat) : Int) n.toNat (0 : Int).toNat = (if 0 < (((sgl h 256).length : Nat) : Int) ∧ 0 < n.toNat then some (zrs 1) else none) := rfl
    rw [e0]
    rcases hs.2 with ⟨p1, p2⟩ | ⟨p1, p2, p3⟩
    · exact Or.inl ⟨hff.trans p1, if_neg (fun e => p2 ⟨by omega, by omega⟩)⟩
    · exact Or.inr ⟨hff.trans p1, zrs 1, if_pos ⟨by omega, by omega⟩, dq2, al, p3⟩
theorem URS.spell (hu : URS sk ln iv rv b L1 cl1 ln1 iv1 rv1 t n ok k) (hok : ok ≠ 0) (hs : SPXU iv1 rv1 iv2 (sk 14) (sk 15)) (hn : n ≤ 6) (hW1 : WT g sk L1 cl1 ln1 iv1 rv1) (hS1 : SKL sk L1 cl1) (hF : fT ls L1 cl1 iv1 rv1 iv2 rv1) (hq : QT g sk L1 cl1 ln1 iv1 rv1 L1 cl1 ln1 iv2 rv1) (k24 : ls.contains 24 = false) (k25 : ls.contains 25 = false) (k2 : ls.contains 1002 = false) (k3 : ls.contains 1003 = false) (k6 : ls.contains 6 = false) (k7 : ls.contains 7 = false) (k36 : ls.contains 36 = false) (k37 : ls.contains 37 = false) (k14 : ls.contains 14 = false) (k57 : ls.contains 57 = false) (k58 : ls.contains 58 = false) : URW sk ln iv rv b L1 cl1 ln1 iv2 rv1 t n k := fun v a hR h16 ht hel => by
  obtain ⟨h, h1, h2, h3⟩ := hu v a hR h16 ht hel
  rcases h3 with ⟨p, _⟩ | ⟨_, l, p1, p2⟩
  · exact absurd p hok
  · obtain ⟨d1, d2, d3⟩ := enw_dg _ _ p1
    have e5 := p2.2.1.1
    have w := hs _ l p2.2.1 p2.2.2 (fun j x ej => by rw [e5]; exact d2 j x ej)
    exact ⟨h, l, h1, h2, p1, p2.fr hW1 hS1 hF hq k24 k25 k2 k3 k6 k7 k36 k37 k14 k57 k58, w.1, w.2⟩
theorem URW.ctb {W : Nat → Int} (hR : TRL sk ln iv rv v a) (hq0 : QT g sk L cl ln iv rv L1 cl1 ln1 iv1 rv1) (ht : 0 ≤ t ∧ t < v 4) (hel : el rv (sk 22) t.toNat = some b) (h4 : iv1 (sk 15) 4 = z) (hl : LTW iv1 rv1 (sk 15) W 0 z) : CTB sk ln1 iv1 rv1 (sk 15) b v a W t.toNat := ⟨hR.qq hq0, by omega, (hq0.el hR (i := t.toNat) (by omega)).trans hel, by rw [h4]; exact hl⟩
theorem URW.bad (hu : URW sk ln iv rv b L1 cl1 ln1 iv1 rv1 t n k) (hq0 : QT g sk L cl ln iv rv L1 cl1 ln1 iv1 rv1) (hs : SBX sk ln1 iv1 rv1 iv2 (sk 15) b f) (hf : f ≠ 0) (hW1 : WT g sk L1 cl1 ln1 iv1 rv1) (hS1 : SKL sk L1 cl1) (hF : fT ls L1 cl1 iv1 rv1 iv2 rv1) (hq : QT g sk L1 cl1 ln1 iv1 rv1 L1 cl1 ln1 iv2 rv1) (k24 : ls.contains 24 = false) (k25 : ls.contains 25 = false) (k2 : ls.contains 1002 = false) (k3 : ls.contains 1003 = false) (k6 : ls.contains 6 = false) (k7 : ls.contains 7 = false) (k36 : ls.contains 36 = false) (k37 : ls.contains 37 = false) (k14 : ls.contains 14 = false) (k57 : ls.contains 57 = false) (k58 : ls.contains 58 = false) : URN sk ln iv rv b L1 cl1 ln1 iv2 rv1 t n k := fun v a hR h16 ht hel => by
  obtain ⟨h, l, h1, h2, p1, p2, p3, p4⟩ := hu v a hR h16 ht hel
  refine hv2 ((hs v a _ t.toNat (URW.ctb hR hq0 ht hel p3 p4)).2 hf) (show ((t.toNat : Nat) : Int) = t from Int.toNat_of_nonneg ht.1) (fun w ti => ?_)
  rw [ti, p3] at w
  refine ⟨h, l, h1, h2.step p1 (fun u => ?_), p1, p2.fr hW1 hS1 hF hq k24 k25 k2 k3 k6 k7 k36 k37 k14 k57 k58⟩
  obtain ⟨cs, u1, _⟩ := u
  rw [wdb_len] at u1
  exact w ⟨cs, (SWC.iff0.mp u1).1, (SWC.iff0.mp u1).2⟩
theorem URW.set (hu : URW sk ln iv rv b L1 cl1 ln1 iv1 rv1 t n k) (hq0 : QT g sk L cl ln iv rv L1 cl1 ln1 iv1 rv1) (hs : SBX sk ln1 iv1 rv1 iv2 (sk 15) b f) (hf : f = 0) (h4 : iv2 (sk 15) 4 = iv1 (sk 15) 4) (hW1 : WT g sk L1 cl1 ln1 iv1 rv1) (hS1 : SKL sk L1 cl1) (hF : fT ls L1 cl1 iv1 rv1 iv2 rv1) (hq : QT g sk L1 cl1 ln1 iv1 rv1 L1 cl1 ln1 iv2 rv1) (k24 : ls.contains 24 = false) (k25 : ls.contains 25 = false) (k2 : ls.contains 1002 = false) (k3 : ls.contains 1003 = false) (k6 : ls.contains 6 = false) (k7 : ls.contains 7 = false) (k36 : ls.contains 36 = false) (k37 : ls.contains 37 = false) (k14 : ls.contains 14 = false) (k57 : ls.contains 57 = false) (k58 : ls.contains 58 = false) (k50 : ls.contains 50 = false) : URC sk ln iv rv b L1 cl1 ln1 iv2 rv1 t n k := fun v a hR h16 ht hel => by
  obtain ⟨h, l, h1, h2, p1, p2, p3, p4⟩ := hu v a hR h16 ht hel
  obtain ⟨cs, w1, w2, w3, _⟩ := (hs v a _ t.toNat (URW.ctb hR hq0 ht hel p3 p4)).1 hf
  have ti : ((t.toNat : Nat) : Int) = t := Int.toNat_of_nonneg ht.1
  rw [ti, p3] at w1
  have t15 : ty L1 cl1 (sk 15) 15 := tysq hS1 rfl rfl
  exact ⟨h, l, cs, h1, h2, p1, p2.fr hW1 hS1 hF hq k24 k25 k2 k3 k6 k7 k36 k37 k14 k57 k58, ⟨h4.trans p3, LTW.ni hW1 hF k50 t15 p4⟩, SWC.iff0.mpr ⟨w1, w2⟩, w2, w3⟩
theorem URC.rb (hu : URC sk ln iv rv b L1 cl1 ln1 iv1 rv1 t n k) (hx : RBX L1 cl1 ln1 iv1 rv1 sk f) (hn : n ≤ 6) (hR : TRL sk ln iv rv v a) (h16 : ∀ j, a 16 j ≤ 4) (ht : 0 ≤ t ∧ t < v 4) (hel : el rv (sk 22) t.toNat = some b) : ∃ h l, HSS a t h ∧ URK a t (sgl h 256) n.toNat k.toNat ∧ enw (((sgl h 256).length : Nat) : Int) n.toNat k.toNat = some l ∧ UBN L1 cl1 ln1 iv1 rv1 sk a (gat0 a t) (gat1 a t) (sgl h 256) l ∧ (iv1 (sk 15) 4 = ((l.length : Nat) : Int) ∧ LTW iv1 rv1 (sk 15) (RR0 (wdb (sgl h 256) l)) 0 ((l.length : Nat) : Int)) ∧ (f = 1 ↔ ¬ URB a t (wdb (sgl h 256) l)) := by
  obtain ⟨h, l, cs, h1, h2, p1, p2, ⟨p3, p4⟩, p5, p6, p7⟩ := hu v a hR h16 ht hel
  obtain ⟨_, _, d3⟩ := enw_dg _ _ p1
  have w := hx a _ _ cs (wdb (sgl h 256) l) p2.1 p7 p6 (by rw [p3]; exact p4) (by rw [wdb_len]; exact p3) (by rw [wdb_len]; omega)
  refine ⟨h, l, h1, h2, p1, p2, ⟨p3, p4⟩, ?_⟩
  rw [w]
  constructor
  · intro e u
    obtain ⟨ds, u1, u2⟩ := u
    rw [wdb_len] at u1
    have e2 := SWC.uni hR.2.2.1 ht u1 p5
    rw [e2] at u2
    exact u2 e
  · intro u
    refine Classical.byContradiction (fun e => u ⟨cs, ?_, e⟩)
    rw [wdb_len]
    exact p5
theorem URC.back (hu : URC sk ln iv rv b L1 cl1 ln1 iv1 rv1 t n k) (hx : RBX L1 cl1 ln1 iv1 rv1 sk f) (hn : n ≤ 6) (hf : f = 1) (hW1 : WT g sk L1 cl1 ln1 iv1 rv1) (hS1 : SKL sk L1 cl1) (hF : fT ls L1 cl1 iv1 rv1 iv2 rv2) (hq : QT g sk L1 cl1 ln1 iv1 rv1 L2 cl2 ln2 iv2 rv2) (k24 : ls.contains 24 = false) (k25 : ls.contains 25 = false) (k2 : ls.contains 1002 = false) (k3 : ls.contains 1003 = false) (k6 : ls.contains 6 = false) (k7 : ls.contains 7 = false) (k36 : ls.contains 36 = false) (k37 : ls.contains 37 = false) (k14 : ls.contains 14 = false) (k57 : ls.contains 57 = false) (k58 : ls.contains 58 = false) : URN sk ln iv rv b L2 cl2 ln2 iv2 rv2 t n k := fun v a hR h16 ht hel => by
  obtain ⟨h, l, h1, h2, p1, p2, _, p4⟩ := hu.rb hx hn hR h16 ht hel
  exact ⟨h, l, h1, h2.step p1 (p4.mp hf), p1, p2.fr hW1 hS1 hF hq k24 k25 k2 k3 k6 k7 k36 k37 k14 k57 k58⟩
theorem URC.found (hu : URC sk ln iv rv b L1 cl1 ln1 iv1 rv1 t n k) (hx : RBX L1 cl1 ln1 iv1 rv1 sk f) (hn : n ≤ 6) (hf : f ≠ 1) (hW1 : WT g sk L1 cl1 ln1 iv1 rv1) (hS1 : SKL sk L1 cl1) (hF : fT ls L1 cl1 iv1 rv1 iv2 rv2) (k15 : ls.contains 15 = false) (k50 : ls.contains 50 = false) : URF sk ln iv rv b iv2 rv2 t n k := fun v a hR h16 ht hel => by
  obtain ⟨h, l, h1, h2, p1, _, ⟨p2, p3⟩, p4⟩ := hu.rb hx hn hR h16 ht hel
  have t15 : ty L1 cl1 (sk 15) 15 := tysq hS1 rfl rfl
  exact ⟨h, l, h1, h2, p1, Classical.byContradiction (fun e => hf (p4.mpr e)), (hF.i t15 k15 4).trans p2, p3.fx hW1 t15 hF k15 k50⟩
theorem URF.mv (hu : URF sk ln iv rv b iv1 rv1 t n k) (hW1 : WT g sk L1 cl1 ln1 iv1 rv1) (hS1 : SKL sk L1 cl1) (hF : fT ls L1 cl1 iv1 rv1 iv2 rv2) (k15 : ls.contains 15 = false) (k50 : ls.contains 50 = false) : URF sk ln iv rv b iv2 rv2 t n k := fun v a hR h16 ht hel => by
  obtain ⟨h, l, h1, h2, p1, p4, p2, p3⟩ := hu v a hR h16 ht hel
  have t15 : ty L1 cl1 (sk 15) 15 := tysq hS1 rfl rfl
  exact ⟨h, l, h1, h2, p1, p4, (hF.i t15 k15 4).trans p2, p3.fx hW1 t15 hF k15 k50⟩
theorem URN.next (hu : URN sk ln iv rv b L1 cl1 ln1 iv1 rv1 t n k) (hx : iv2 (sk 14) 5 = iv1 (sk 14) 5 ∧ NXX iv1 rv1 iv2 (sk 14) n f) (hn : 1 ≤ n ∧ n ≤ 6) (hk : 0 ≤ k) (hff : ok = f) (hW1 : WT g sk L1 cl1 ln1 iv1 rv1) (hS1 : SKL sk L1 cl1) (hF : fT ls L1 cl1 iv1 rv1 iv2 rv1) (hq : QT g sk L1 cl1 ln1 iv1 rv1 L1 cl1 ln1 iv2 rv1) (k24 : ls.contains 24 = false) (k25 : ls.contains 25 = false) (k2 : ls.contains 1002 = false) (k3 : ls.contains 1003 = false) (k6 : ls.contains 6 = false) (k7 : ls.contains 7 = false) (k36 : ls.contains 36 = false) (k37 : ls.contains 37 = false) (k57 : ls.contains 57 = false) : URS sk ln iv rv b L1 cl1 ln1 iv2 rv1 t n ok (k + 1) := fun v a hR h16 ht hel => by
  obtain ⟨h, l, h1, h2, p1, p2⟩ := hu v a hR h16 ht hel
  obtain ⟨d1, d2, d3⟩ := enw_dg _ _ p1
  refine hv2 (p2.2.1.1) (show ty L1 cl1 (sk 14) 14 from tysq hS1 rfl rfl) (fun e5 t14 => ?_)
  have w := hx.2 l p2.2.2 (fun j x ej => by rw [e5]; exact d2 j x ej) hn
  rw [e5] at w
  rw [← enw_s p1] at w
  rw [show k.toNat + 1 = (k + 1).toNat by omega] at w h2
  refine ⟨h, h1, h2, ?_⟩
  rcases w with ⟨w1, l2, w2, w3⟩ | ⟨w1, w2⟩
  · exact Or.inr ⟨hff.trans w1, l2, w2, p2.1.fr hW1 hS1 hF hq k24 k25 k2 k3 k6 k7 k36 k37, p2.2.1.fr hW1 t14 hF hx.1 rfl k57, w3⟩
  · exact Or.inl ⟨hff.trans w1, w2⟩
theorem PUR.arg (hn : ¬ ((1 ≤ n ∧ n ≤ 6) ∧ (1 ≤ m ∧ m ≤ 5000))) (hf : f = -1) (h4 : iv2 (sk 4) 2 = iv (sk 4) 2 ∧ ∀ ss, CT iv rv (sk 4) ss → CT iv2 rv2 (sk 4) ss) : PUR sk ln iv rv iv2 rv2 t n m f := fun v a hR _ b0 hb => Or.inl ⟨fun w => hn w.2, hf, h4.1.trans hb.1, h4.2 _ hb.2⟩
theorem PUR.nw (hw : WOX sk ln iv rv t none) (hf : f = -1) (h4 : iv2 (sk 4) 2 = iv (sk 4) 2 ∧ ∀ ss, CT iv rv (sk 4) ss → CT iv2 rv2 (sk 4) ss) : PUR sk ln iv rv iv2 rv2 t n m f := fun v a hR _ b0 hb => Or.inl ⟨(fun w => by
  rcases hw v a hR with ⟨_, q⟩ | ⟨b, q, _⟩
  · exact q w.1
  · cases q), hf, h4.1.trans hb.1, h4.2 _ hb.2⟩
theorem PUR.spent (hw : WOX sk ln iv rv t (some b)) (hn : (1 ≤ n ∧ n ≤ 6) ∧ (1 ≤ m ∧ m ≤ 5000)) (hu : URS sk ln iv rv b L1 cl1 ln1 iv1 rv1 t n ok k) (hok : ok ≠ 0) (hk : k = m) (hf : f = -1) (h4 : iv2 (sk 4) 2 = iv (sk 4) 2 ∧ ∀ ss, CT iv rv (sk 4) ss → CT iv2 rv2 (sk 4) ss) : PUR sk ln iv rv iv2 rv2 t n m f := fun v a hR h16 b0 hb => by
  obtain ⟨p1, p2, p3⟩ := hw.smt hR
  obtain ⟨h, h1, h2, h3⟩ := hu v a hR h16 p1 p2
  subst hk
  rcases h3 with ⟨q, _⟩ | ⟨_, l, q1, _⟩
  · exact absurd q hok
  · refine Or.inr ⟨⟨p3, hn⟩, h, none, h1, Or.inr (Or.inl ⟨h2, ?_, hf, rfl⟩), h4.1.trans hb.1, h4.2 _ hb.2⟩
    rw [q1]
    exact fun e => by cases e
theorem PUR.exh (hw : WOX sk ln iv rv t (some b)) (hn : (1 ≤ n ∧ n ≤ 6) ∧ (1 ≤ m ∧ m ≤ 5000)) (hu : URS sk ln iv rv b L1 cl1 ln1 iv1 rv1 t n ok k) (hok : ok = 0) (hk : 0 ≤ k ∧ k ≤ m) (hf : f = 0) (h4 : iv2 (sk 4) 2 = iv (sk 4) 2 ∧ ∀ ss, CT iv rv (sk 4) ss → CT iv2 rv2 (sk 4) ss) : PUR sk ln iv rv iv2 rv2 t n m f := fun v a hR h16 b0 hb => by
  obtain ⟨p1, p2, p3⟩ := hw.smt hR
  obtain ⟨h, h1, h2, h3⟩ := hu v a hR h16 p1 p2
  rcases h3 with ⟨_, q⟩ | ⟨q, _⟩
  · exact Or.inr ⟨⟨p3, hn⟩, h, none, h1, Or.inr (Or.inr ⟨k.toNat, by omega, h2, q, hf, rfl⟩), h4.1.trans hb.1, h4.2 _ hb.2⟩
  · omega
theorem PUR.found (hw : WOX sk ln iv rv t (some b)) (hn : (1 ≤ n ∧ n ≤ 6) ∧ (1 ≤ m ∧ m ≤ 5000)) (hu : URF sk ln iv rv b iv1 rv1 t n k) (hk : 0 ≤ k ∧ k < m) (h0 : iv1 (sk 4) 2 = 0) (hx : WWQ iv1 rv1 iv3 rv3 (sk 15) (sk 4)) (hf : f = iv1 (sk 15) 4) (h2 : iv2 (sk 4) 2 = iv3 (sk 4) 2) (hC : ∀ ss, CT iv3 rv3 (sk 4) ss → CT iv2 rv2 (sk 4) ss) : PUR sk ln iv rv iv2 rv2 t n m f := fun v a hR h16 b0 hb => by
  obtain ⟨p1, p2, p3⟩ := hw.smt hR
  obtain ⟨h, l, h1, hK, q1, q2, q3, q4⟩ := hu v a hR h16 p1 p2
  obtain ⟨_, _, d3⟩ := enw_dg _ _ q1
  have w := hx (wdb (sgl h 256) l) h0 (by rw [q3]; exact q4) (by rw [wdb_len]; exact q3) (by rw [wdb_len]; omega)
  exact Or.inr ⟨⟨p3, hn⟩, h, some (wdb (sgl h 256) l), h1, Or.inl ⟨k.toNat, l, by omega, hK, q1, q2, by omega, rfl⟩, h2.trans w.1, hC _ w.2⟩
end UROW
end
section
set_option maxHeartbeats 4000000 in
set_option maxRecDepth 100000 in
theorem G_unreadable {l : Launch} {G : GT} {mi : Nat} {sk : Nat → Nat} {L : List Nat} {cl ln : Nat → Nat} {iv : Nat → Nat → Int} {rv : Nat → Nat → Option Nat}  {a0 : Nat} {i : Int} {n : Int} {lim : Int} (hW : WT (g0 G) sk L cl ln iv rv) (hS : SKL sk L cl) (t_a0 : ty L cl a0 1) (h_i : -2147483648 ≤ i ∧ i ≤ 2147483647) (h_n : -2147483648 ≤ n ∧ n ≤ 2147483647) (h_lim : -2147483648 ≤ lim ∧ lim ≤ 2147483647) (hmr : MRK sk cl iv rv) : Mc l G mi (Phi (g0 G) sk) PHM yX11_unreadable cX11_unreadable 7 (some .int) 10 [.ref a0, .int (iI i), .int (iI n), .int (iI lim)] L cl ln iv rv 0 (fun v L2 cl2 ln2 iv2 rv2 => ∃ f : Int, v = some (.int (iI f)) ∧ XT L cl ln L2 cl2 ln2 ∧ fT [1, 4, 34, 14, 56, 57, 58, 15, 50, 51, 52, 53, 54, 55, 8, 38, 9, 39, 16, 10, 40, 24, 1002, 25, 1003, 6, 36, 7, 37] L cl iv rv iv2 rv2 ∧ WT (g0 G) sk L2 cl2 ln2 iv2 rv2 ∧ (-2147483648 ≤ f ∧ f ≤ 2147483647) ∧ (True) ∧ iv2 a0 11 = iv a0 11 ∧ iv2 a0 12 = iv a0 12 ∧ iv2 a0 13 = iv a0 13 ∧ iv2 a0 14 = iv a0 14 ∧ iv2 a0 15 = iv a0 15 ∧ iv2 a0 16 = iv a0 16 ∧ (PUR sk ln iv rv iv2 rv2 i n lim f) ∧ rv2 a0 9 = rv a0 9 ∧ rv2 a0 10 = rv a0 10) := by
  refine Mc.mk (by decide) (Nat.le_of_ble_eq_true rfl) ?_
  intro p e s m args below meth c A C hM
  refine hv21 (Phi.le hW hS) (show ty L cl (sk 2) 2 from ⟨(hS 2 rfl).1, by rw [(hS 2 rfl).2]; rfl⟩) (show ty L cl (sk 3) 3 from ⟨(hS 3 rfl).1, by rw [(hS 3 rfl).2]; rfl⟩) (show ty L cl (sk 4) 4 from ⟨(hS 4 rfl).1, by rw [(hS 4 rfl).2]; rfl⟩) (show ty L cl (sk 5) 5 from ⟨(hS 5 rfl).1, by rw [(hS 5 rfl).2]; rfl⟩) (show ty L cl (sk 6) 6 from ⟨(hS 6 rfl).1, by rw [(hS 6 rfl).2]; rfl⟩) (show ty L cl (sk 7) 7 from ⟨(hS 7 rfl).1, by rw [(hS 7 rfl).2]; rfl⟩) (show ty L cl (sk 8) 8 from ⟨(hS 8 rfl).1, by rw [(hS 8 rfl).2]; rfl⟩) (show ty L cl (sk 9) 9 from ⟨(hS 9 rfl).1, by rw [(hS 9 rfl).2]; rfl⟩) (show ty L cl (sk 10) 10 from ⟨(hS 10 rfl).1, by rw [(hS 10 rfl).2]; rfl⟩) (show ty L cl (sk 13) 13 from ⟨(hS 13 rfl).1, by rw [(hS 13 rfl).2]; rfl⟩) (show ty L cl (sk 14) 14 from ⟨(hS 14 rfl).1, by rw [(hS 14 rfl).2]; rfl⟩) (show ty L cl (sk 15) 15 from ⟨(hS 15 rfl).1, by rw [(hS 15 rfl).2]; rfl⟩) (show ty L cl (sk 16) 16 from ⟨(hS 16 rfl).1, by rw [(hS 16 rfl).2]; rfl⟩) (show ty L cl (sk 17) 17 from ⟨(hS 17 rfl).1, by rw [(hS 17 rfl).2]; rfl⟩) (show ty L cl (sk 22) 22 from ⟨(hS 22 rfl).1, by rw [(hS 22 rfl).2]; rfl⟩) (show ty L cl (sk 23) 23 from ⟨(hS 23 rfl).1, by rw [(hS 23 rfl).2]; rfl⟩) (show ty L cl (sk 24) 24 from ⟨(hS 24 rfl).1, by rw [(hS 24 rfl).2]; rfl⟩) (show ty L cl (sk 25) 25 from ⟨(hS 25 rfl).1, by rw [(hS 25 rfl).2]; rfl⟩) (show XT L cl ln L cl ln from XT.refl) (show fT [1, 4, 34, 14, 56, 57, 58, 15, 50, 51, 52, 53, 54, 55, 8, 38, 9, 39, 16, 10, 40, 24, 1002, 25, 1003, 6, 36, 7, 37] L cl iv rv iv rv from fT.refl) (fun hph tsk2 tsk3 tsk4 tsk5 tsk6 tsk7 tsk8 tsk9 tsk10 tsk13 tsk14 tsk15 tsk16 tsk17 tsk22 tsk23 tsk24 tsk25 hX0 hF0 => ?_)
  refine hv2 (show 0 ≤ iv (sk 4) 2 ∧ iv (sk 4) 2 ≤ 4000 from hW.int tsk4 2) (show 0 ≤ iv (sk 15) 4 ∧ iv (sk 15) 4 ≤ 500 from hW.int tsk15 4) (fun ri1 ri2 => ?_)
  refine c_iload_n (j := 2) C dX11_unreadable_0 rfl ?_
  refine c_iconst C dX11_unreadable_1 ?_
  refine c_icmp_lt (tgt := 23) C ⟨by omega, by omega⟩ ⟨by decide, by decide⟩ dX11_unreadable_2 (by decide) (fun c1 => ?_) (fun c1 => ?_)
  · refine c_aload_n (j := 0) (x := a0) C dX11_unreadable_23 rfl ?_
    refine c_bipush (z := 6) C dX11_unreadable_24 (by decide) ?_
    refine d_callV (As := [.int (iI 6)]) (rest := []) C hM (C_refuse (a0 := a0) (x := 6) hW hS t_a0 ⟨by decide, by decide⟩ ) dX11_unreadable_26 kV_X11_102 rfl t_a0 rfl rfl (by decide) ck_12 rfl (Nat.le_of_ble_eq_true rfl) ⟨(Nat.le_of_ble_eq_true rfl), (Nat.le_of_ble_eq_true rfl)⟩ hph hph (show 0 + 0 = 0 from rfl) (by decide) (fun rh1 Lh1 clh1 lnh1 ivh1 rvh1 h1 => ?_)
    obtain ⟨f1, rfl, rfl, rfl, rfl, rfl, fl1, W1, rgf1, exf1, kp11f1, kp12f1, kp13f1, kp14f1, kp15f1, kp16f1⟩ := h1
    refine hv8 (show 1 ≤ iv a0 11 ∧ iv a0 11 ≤ 100 from hW.int t_a0 11) (show 1 ≤ iv a0 12 ∧ iv a0 12 ≤ 50 from hW.int t_a0 12) (show (-2147483648) ≤ iv a0 13 ∧ iv a0 13 ≤ 2147483647 from hW.int t_a0 13) (show (-2147483648) ≤ iv a0 14 ∧ iv a0 14 ≤ 2147483647 from hW.int t_a0 14) (show (-2147483648) ≤ iv a0 15 ∧ iv a0 15 ≤ 2147483647 from hW.int t_a0 15) (show (-2147483648) ≤ iv a0 16 ∧ iv a0 16 ≤ 2147483647 from hW.int t_a0 16) (hF0.call hX0 fl1 rfl) (MRK.call hmr hW hS XT.refl fl1 rfl rfl) (fun ri3 ri4 ri5 ri6 ri7 ri8 F1 mr1 => ?_)
    refine c_st (st2 := [.int (iI f1)]) rfl ?_
    refine hv17 (show ivh1 a0 11 = iv a0 11 from kp11f1) (show ivh1 a0 12 = iv a0 12 from kp12f1) (show ivh1 a0 13 = iv a0 13 from kp13f1) (show ivh1 a0 14 = iv a0 14 from kp14f1) (show ivh1 a0 15 = iv a0 15 from kp15f1) (show ivh1 a0 16 = iv a0 16 from kp16f1) (show f1 = -1 from exf1) (show 1 ≤ ivh1 a0 11 ∧ ivh1 a0 11 ≤ 100 from W1.int t_a0 11) (show 1 ≤ ivh1 a0 12 ∧ ivh1 a0 12 ≤ 50 from W1.int t_a0 12) (show (-2147483648) ≤ ivh1 a0 13 ∧ ivh1 a0 13 ≤ 2147483647 from W1.int t_a0 13) (show (-2147483648) ≤ ivh1 a0 14 ∧ ivh1 a0 14 ≤ 2147483647 from W1.int t_a0 14) (show (-2147483648) ≤ ivh1 a0 15 ∧ ivh1 a0 15 ≤ 2147483647 from W1.int t_a0 15) (show (-2147483648) ≤ ivh1 a0 16 ∧ ivh1 a0 16 ≤ 2147483647 from W1.int t_a0 16) (show 0 ≤ ivh1 (sk 4) 2 ∧ ivh1 (sk 4) 2 ≤ 4000 from W1.int tsk4 2) (show ivh1 (sk 4) 2 = iv (sk 4) 2 from fl1.i tsk4 rfl 2) (show 0 ≤ ivh1 (sk 15) 4 ∧ ivh1 (sk 15) 4 ≤ 500 from W1.int tsk15 4) (show ivh1 (sk 15) 4 = iv (sk 15) 4 from fl1.i tsk15 rfl 4) (fun gk11f1 gk12f1 gk13f1 gk14f1 gk15f1 gk16f1 gf1 ri9 ri10 ri11 ri12 ri13 ri14 ri15 ie7 ri16 ie8 => ?_)
    exact c_iret C dX11_unreadable_29 rfl (by decide) (rom0 hph hph (by decide)) ⟨f1, rfl, hX0, F1, W1, ⟨by omega, by omega⟩, trivial, gk11f1, gk12f1, gk13f1, gk14f1, gk15f1, gk16f1, (PUR.arg (by omega) (by omega) ⟨by omega, fun ss hs => (CT.fr hs hW tsk4 fl1 rfl rfl rfl rfl rfl)⟩), rfl, rfl⟩
  · refine c_iload_n (j := 2) C dX11_unreadable_5 rfl ?_
    refine c_bipush (z := 6) C dX11_unreadable_6 (by decide) ?_
    refine c_icmp_gt (tgt := 23) C ⟨by omega, by omega⟩ ⟨by decide, by decide⟩ dX11_unreadable_8 (by decide) (fun c2 => ?_) (fun c2 => ?_)
    · refine c_aload_n (j := 0) (x := a0) C dX11_unreadable_23 rfl ?_
      refine c_bipush (z := 6) C dX11_unreadable_24 (by decide) ?_
      refine d_callV (As := [.int (iI 6)]) (rest := []) C hM (C_refuse (a0 := a0) (x := 6) hW hS t_a0 ⟨by decide, by decide⟩ ) dX11_unreadable_26 kV_X11_102 rfl t_a0 rfl rfl (by decide) ck_12 rfl (Nat.le_of_ble_eq_true rfl) ⟨(Nat.le_of_ble_eq_true rfl), (Nat.le_of_ble_eq_true rfl)⟩ hph hph (show 0 + 0 = 0 from rfl) (by decide) (fun rh2 Lh2 clh2 lnh2 ivh2 rvh2 h2 => ?_)
      obtain ⟨f2, rfl, rfl, rfl, rfl, rfl, fl2, W2, rgf2, exf2, kp11f2, kp12f2, kp13f2, kp14f2, kp15f2, kp16f2⟩ := h2
      refine hv8 (show 1 ≤ iv a0 11 ∧ iv a0 11 ≤ 100 from hW.int t_a0 11) (show 1 ≤ iv a0 12 ∧ iv a0 12 ≤ 50 from hW.int t_a0 12) (show (-2147483648) ≤ iv a0 13 ∧ iv a0 13 ≤ 2147483647 from hW.int t_a0 13) (show (-2147483648) ≤ iv a0 14 ∧ iv a0 14 ≤ 2147483647 from hW.int t_a0 14) (show (-2147483648) ≤ iv a0 15 ∧ iv a0 15 ≤ 2147483647 from hW.int t_a0 15) (show (-2147483648) ≤ iv a0 16 ∧ iv a0 16 ≤ 2147483647 from hW.int t_a0 16) (hF0.call hX0 fl2 rfl) (MRK.call hmr hW hS XT.refl fl2 rfl rfl) (fun ri17 ri18 ri19 ri20 ri21 ri22 F2 mr2 => ?_)
      refine c_st (st2 := [.int (iI f2)]) rfl ?_
      refine hv17 (show ivh2 a0 11 = iv a0 11 from kp11f2) (show ivh2 a0 12 = iv a0 12 from kp12f2) (show ivh2 a0 13 = iv a0 13 from kp13f2) (show ivh2 a0 14 = iv a0 14 from kp14f2) (show ivh2 a0 15 = iv a0 15 from kp15f2) (show ivh2 a0 16 = iv a0 16 from kp16f2) (show f2 = -1 from exf2) (show 1 ≤ ivh2 a0 11 ∧ ivh2 a0 11 ≤ 100 from W2.int t_a0 11) (show 1 ≤ ivh2 a0 12 ∧ ivh2 a0 12 ≤ 50 from W2.int t_a0 12) (show (-2147483648) ≤ ivh2 a0 13 ∧ ivh2 a0 13 ≤ 2147483647 from W2.int t_a0 13) (show (-2147483648) ≤ ivh2 a0 14 ∧ ivh2 a0 14 ≤ 2147483647 from W2.int t_a0 14) (show (-2147483648) ≤ ivh2 a0 15 ∧ ivh2 a0 15 ≤ 2147483647 from W2.int t_a0 15) (show (-2147483648) ≤ ivh2 a0 16 ∧ ivh2 a0 16 ≤ 2147483647 from W2.int t_a0 16) (show 0 ≤ ivh2 (sk 4) 2 ∧ ivh2 (sk 4) 2 ≤ 4000 from W2.int tsk4 2) (show ivh2 (sk 4) 2 = iv (sk 4) 2 from fl2.i tsk4 rfl 2) (show 0 ≤ ivh2 (sk 15) 4 ∧ ivh2 (sk 15) 4 ≤ 500 from W2.int tsk15 4) (show ivh2 (sk 15) 4 = iv (sk 15) 4 from fl2.i tsk15 rfl 4) (fun gk11f2 gk12f2 gk13f2 gk14f2 gk15f2 gk16f2 gf2 ri23 ri24 ri25 ri26 ri27 ri28 ri29 ie15 ri30 ie16 => ?_)
      exact c_iret C dX11_unreadable_29 rfl (by decide) (rom0 hph hph (by decide)) ⟨f2, rfl, hX0, F2, W2, ⟨by omega, by omega⟩, trivial, gk11f2, gk12f2, gk13f2, gk14f2, gk15f2, gk16f2, (PUR.arg (by omega) (by omega) ⟨by omega, fun ss hs => (CT.fr hs hW tsk4 fl2 rfl rfl rfl rfl rfl)⟩), rfl, rfl⟩
    · refine c_iload_n (j := 3) C dX11_unreadable_11 rfl ?_
      refine c_iconst C dX11_unreadable_12 ?_
      refine c_icmp_lt (tgt := 23) C ⟨by omega, by omega⟩ ⟨by decide, by decide⟩ dX11_unreadable_13 (by decide) (fun c3 => ?_) (fun c3 => ?_)
      · refine c_aload_n (j := 0) (x := a0) C dX11_unreadable_23 rfl ?_
        refine c_bipush (z := 6) C dX11_unreadable_24 (by decide) ?_
        refine d_callV (As := [.int (iI 6)]) (rest := []) C hM (C_refuse (a0 := a0) (x := 6) hW hS t_a0 ⟨by decide, by decide⟩ ) dX11_unreadable_26 kV_X11_102 rfl t_a0 rfl rfl (by decide) ck_12 rfl (Nat.le_of_ble_eq_true rfl) ⟨(Nat.le_of_ble_eq_true rfl), (Nat.le_of_ble_eq_true rfl)⟩ hph hph (show 0 + 0 = 0 from rfl) (by decide) (fun rh3 Lh3 clh3 lnh3 ivh3 rvh3 h3 => ?_)
        obtain ⟨f3, rfl, rfl, rfl, rfl, rfl, fl3, W3, rgf3, exf3, kp11f3, kp12f3, kp13f3, kp14f3, kp15f3, kp16f3⟩ := h3
        refine hv8 (show 1 ≤ iv a0 11 ∧ iv a0 11 ≤ 100 from hW.int t_a0 11) (show 1 ≤ iv a0 12 ∧ iv a0 12 ≤ 50 from hW.int t_a0 12) (show (-2147483648) ≤ iv a0 13 ∧ iv a0 13 ≤ 2147483647 from hW.int t_a0 13) (show (-2147483648) ≤ iv a0 14 ∧ iv a0 14 ≤ 2147483647 from hW.int t_a0 14) (show (-2147483648) ≤ iv a0 15 ∧ iv a0 15 ≤ 2147483647 from hW.int t_a0 15) (show (-2147483648) ≤ iv a0 16 ∧ iv a0 16 ≤ 2147483647 from hW.int t_a0 16) (hF0.call hX0 fl3 rfl) (MRK.call hmr hW hS XT.refl fl3 rfl rfl) (fun ri31 ri32 ri33 ri34 ri35 ri36 F3 mr3 => ?_)
        refine c_st (st2 := [.int (iI f3)]) rfl ?_
        refine hv17 (show ivh3 a0 11 = iv a0 11 from kp11f3) (show ivh3 a0 12 = iv a0 12 from kp12f3) (show ivh3 a0 13 = iv a0 13 from kp13f3) (show ivh3 a0 14 = iv a0 14 from kp14f3) (show ivh3 a0 15 = iv a0 15 from kp15f3) (show ivh3 a0 16 = iv a0 16 from kp16f3) (show f3 = -1 from exf3) (show 1 ≤ ivh3 a0 11 ∧ ivh3 a0 11 ≤ 100 from W3.int t_a0 11) (show 1 ≤ ivh3 a0 12 ∧ ivh3 a0 12 ≤ 50 from W3.int t_a0 12) (show (-2147483648) ≤ ivh3 a0 13 ∧ ivh3 a0 13 ≤ 2147483647 from W3.int t_a0 13) (show (-2147483648) ≤ ivh3 a0 14 ∧ ivh3 a0 14 ≤ 2147483647 from W3.int t_a0 14) (show (-2147483648) ≤ ivh3 a0 15 ∧ ivh3 a0 15 ≤ 2147483647 from W3.int t_a0 15) (show (-2147483648) ≤ ivh3 a0 16 ∧ ivh3 a0 16 ≤ 2147483647 from W3.int t_a0 16) (show 0 ≤ ivh3 (sk 4) 2 ∧ ivh3 (sk 4) 2 ≤ 4000 from W3.int tsk4 2) (show ivh3 (sk 4) 2 = iv (sk 4) 2 from fl3.i tsk4 rfl 2) (show 0 ≤ ivh3 (sk 15) 4 ∧ ivh3 (sk 15) 4 ≤ 500 from W3.int tsk15 4) (show ivh3 (sk 15) 4 = iv (sk 15) 4 from fl3.i tsk15 rfl 4) (fun gk11f3 gk12f3 gk13f3 gk14f3 gk15f3 gk16f3 gf3 ri37 ri38 ri39 ri40 ri41 ri42 ri43 ie23 ri44 ie24 => ?_)
        exact c_iret C dX11_unreadable_29 rfl (by decide) (rom0 hph hph (by decide)) ⟨f3, rfl, hX0, F3, W3, ⟨by omega, by omega⟩, trivial, gk11f3, gk12f3, gk13f3, gk14f3, gk15f3, gk16f3, (PUR.arg (by omega) (by omega) ⟨by omega, fun ss hs => (CT.fr hs hW tsk4 fl3 rfl rfl rfl rfl rfl)⟩), rfl, rfl⟩
      · refine c_iload_n (j := 3) C dX11_unreadable_16 rfl ?_
        refine c_sipush (z := 5000) C dX11_unreadable_17 (by decide) ?_
        refine c_icmp_le (tgt := 30) C ⟨by omega, by omega⟩ ⟨by decide, by decide⟩ dX11_unreadable_20 (by decide) (fun c4 => ?_) (fun c4 => ?_)
        · refine c_aload_n (j := 0) (x := a0) C dX11_unreadable_30 rfl ?_
          obtain ⟨rb1, rq1, trb1⟩ := hW.ref t_a0 4 rfl rfl rfl
          have erb1 := hW.sk trb1 (by decide) rfl
          subst erb1
          refine c_getr (k := 4) C ck_12 dX11_unreadable_31 w2_48 (by decide) t_a0 rfl rfl (by decide) rfl rq1 ?_
          refine c_st (st2 := [.ref (sk 13)]) rfl ?_
          refine c_iload_n (j := 1) C dX11_unreadable_34 rfl ?_
          refine d_callV (As := [.int (iI i)]) (rest := []) C hM (G_whole (a0 := (sk 13)) (i := i) hW hS tsk13 (by omega) hmr) dX11_unreadable_35 kV_X11_231 rfl tsk13 rfl rfl (by decide) ck_11 rfl (Nat.le_of_ble_eq_true rfl) ⟨(Nat.le_of_ble_eq_true rfl), (Nat.le_of_ble_eq_true rfl)⟩ hph hph (show 0 + 0 = 0 from rfl) (by decide) (fun rh4 Lh4 clh4 lnh4 ivh4 rvh4 h4 => ?_)
          obtain ⟨f4, rfl, rfl, rfl, rfl, rfl, rfl, rgf4, exf4⟩ := h4
          refine c_st (st2 := [(va_rf f4)]) rfl ?_
          have gf4 : WOX sk ln iv rv i f4 := exf4
          refine c_astorer (r := f4) (lv2 := [(4, (va_rf f4)), (0, .ref a0), (1, .int (iI i)), (2, .int (iI n)), (3, .int (iI lim))]) C dX11_unreadable_38 (by decide) rfl ?_
          refine c_aloadr (j := 0) (r := f4) C dX11_unreadable_40 rfl ?_
          refine c_ifnonnull (r := f4) (tgt := 51) C dX11_unreadable_42 (by decide) (fun ob1 oq1 => ?_) (fun oq1 => ?_)
          · subst oq1
            refine hv2 (rgf4 ob1 rfl) (gf4) (fun tob1 wkob1 => ?_)
            refine c_lv (lv2 := [(4, .ref ob1), (0, .ref a0), (1, .int (iI i)), (2, .int (iI n)), (3, .int (iI lim))]) [0, 1, 2, 3, 4] rfl ?_
            refine c_st (st2 := []) rfl ?_
            refine c_aload_n (j := 1) (x := a0) C dX11_unreadable_51 rfl ?_
            obtain ⟨rb2, rq2, trb2⟩ := hW.ref t_a0 7 rfl rfl rfl
            have erb2 := hW.sk trb2 (by decide) rfl
            subst erb2
            refine c_getr (k := 7) C ck_12 dX11_unreadable_52 w2_51 (by decide) t_a0 rfl rfl (by decide) rfl rq2 ?_
            refine c_st (st2 := [.ref (sk 16)]) rfl ?_
            refine c_aload (j := 0) (x := ob1) C dX11_unreadable_55 rfl ?_
            refine d_callV (As := [.ref ob1]) (rest := []) C hM (G_gather2 (a0 := (sk 16)) (a1 := ob1) hW hS tsk16 tob1  ) dX11_unreadable_57 kV_X11_331 rfl tsk16 rfl rfl (by decide) ck_4 rfl (Nat.le_of_ble_eq_true rfl) ⟨(Nat.le_of_ble_eq_true rfl), (Nat.le_of_ble_eq_true rfl)⟩ hph hph (show 0 + 0 = 0 from rfl) (by decide) (fun rh5 Lh5 clh5 lnh5 ivh5 rvh5 h5 => ?_)
            obtain ⟨rfl, xl5, fl5, W5, exf5, gaxf5, gbxf5⟩ := h5
            refine hv4 (hF0.call hX0 fl5 rfl) (MRK.call hmr hW hS xl5 fl5 rfl rfl) (hX0.trans xl5) (xl5.skl hS) (fun F4 mr4 X1 sk1 => ?_)
            refine c_st (st2 := []) rfl ?_
            refine hv2 (xl5.ty tob1) (show ivh5 ob1 0 = iv ob1 0 from fl5.i tob1 rfl 0) (fun ty1 ie25 => ?_)
            have ri45 : (-2147483648) ≤ ivh5 ob1 0 ∧ ivh5 ob1 0 ≤ 2147483647 := W5.int ty1 0
            refine c_aload_n (j := 1) (x := a0) C dX11_unreadable_60 rfl ?_
            have ty2 := xl5.ty t_a0
            obtain ⟨rb3, rq3, trb3⟩ := W5.ref ty2 5 rfl rfl rfl
            have erb3 := W5.sk trb3 (by decide) rfl
            subst erb3
            refine c_getr (k := 5) C ck_12 dX11_unreadable_61 w2_49 (by decide) ty2 rfl rfl (by decide) rfl rq3 ?_
            refine c_st (st2 := [.ref (sk 14)]) rfl ?_
            refine c_aload_n (j := 1) (x := a0) C dX11_unreadable_64 rfl ?_
            have re1 : rvh5 a0 7 = rv a0 7 := (fl5.r t_a0 rfl 7)
            rw [rq2] at re1
            refine c_getr (k := 7) C ck_12 dX11_unreadable_65 w2_51 (by decide) ty2 rfl rfl (by decide) rfl re1 ?_
            refine c_st (st2 := [.ref (sk 16), .ref (sk 14)]) rfl ?_
            refine c_aload (j := 0) (x := ob1) C dX11_unreadable_68 rfl ?_
            refine c_get (k := 0) C ck_10 dX11_unreadable_70 w2_176 (by decide) ty1 rfl rfl (by decide) rfl ?_
            refine c_iconst C dX11_unreadable_73 ?_
            refine c_icmp_ne (tgt := 81) C (r32_c (lo := (-2147483648)) (hi := 2147483647) ri45.1 ri45.2 (by decide) (by decide)) ⟨by decide, by decide⟩ dX11_unreadable_74 (by decide) (fun c5 => ?_) (fun c5 => ?_)
            · refine c_iconst C dX11_unreadable_81 ?_
              refine hv4 (xl5.ty tsk14) (xl5.ty tsk16) (show ivh5 (sk 14) 7 = iv (sk 14) 7 from fl5.i tsk14 rfl 7) (Phi.le W5 sk1) (fun ty3 ty4 ie26 pl1 => ?_)
              have ri46 : 0 ≤ ivh5 (sk 14) 7 ∧ ivh5 (sk 14) 7 ≤ 6 := W5.int ty3 7
              refine d_callV (As := [.ref (sk 16), .int (iI 0)]) (rest := []) C hM (G_gatherAlphabet (a0 := (sk 14)) (a1 := (sk 16)) (g := 0) W5 sk1 ty3 ty4 ⟨by decide, by decide⟩ ) dX11_unreadable_82 kV_X11_385 rfl ty3 rfl rfl (by decide) ck_9 rfl (Nat.le_of_ble_eq_true rfl) ⟨(Nat.le_of_ble_eq_true rfl), (Nat.le_of_ble_eq_true rfl)⟩ hph pl1 (show 0 + 0 = 0 from rfl) (by decide) (fun rh6 Lh6 clh6 lnh6 ivh6 rvh6 h6 => ?_)
              obtain ⟨rfl, rfl, rfl, rfl, rfl, fl6, W6, exf6⟩ := h6
              refine hv2 (F4.call X1 fl6 rfl) (MRK.call mr4 W5 sk1 XT.refl fl6 rfl rfl) (fun F5 mr5 => ?_)
              refine c_st (st2 := []) rfl ?_
              refine hv2 (show 0 ≤ ivh6 (sk 14) 7 ∧ ivh6 (sk 14) 7 ≤ 6 from W6.int ty3 7) (show ivh6 (sk 14) 7 = ivh5 (sk 14) 7 ∧ GAX Lh5 clh5 lnh5 ivh5 rvh5 ivh6 (sk 14) (sk 24) (sk 25) (0 : Int) from exf6) (fun ri47 gf6 => ?_)
              refine c_aload_n (j := 1) (x := a0) C dX11_unreadable_85 rfl ?_
              refine c_getr (k := 5) C ck_12 dX11_unreadable_86 w2_49 (by decide) ty2 rfl rfl (by decide) rfl rq3 ?_
              refine c_st (st2 := [.ref (sk 14)]) rfl ?_
              refine c_iload_n (j := 3) C dX11_unreadable_89 rfl ?_
              have ri48 : 0 ≤ ivh6 (sk 14) 5 ∧ ivh6 (sk 14) 5 ≤ 126 := W6.int ty3 5
              refine d_callV (As := [.int (iI n)]) (rest := []) C hM (G_startSpelling (a0 := (sk 14)) (n := n) W6 sk1 ty3 (by omega) ) dX11_unreadable_90 kV_X11_389 rfl ty3 rfl rfl (by decide) ck_9 rfl (Nat.le_of_ble_eq_true rfl) ⟨(Nat.le_of_ble_eq_true rfl), (Nat.le_of_ble_eq_true rfl)⟩ hph pl1 (show 0 + 0 = 0 from rfl) (by decide) (fun rh7 Lh7 clh7 lnh7 ivh7 rvh7 h7 => ?_)
              obtain ⟨f7, rfl, rfl, rfl, rfl, rfl, fl7, W7, rgf7, exf7⟩ := h7
              refine hv2 (F5.call X1 fl7 rfl) (MRK.call mr5 W6 sk1 XT.refl fl7 rfl rfl) (fun F6 mr6 => ?_)
              refine c_st (st2 := [.int (iI f7)]) rfl ?_
              refine hv2 (show 0 ≤ ivh7 (sk 14) 5 ∧ ivh7 (sk 14) 5 ≤ 126 from W7.int ty3 5) (show ivh7 (sk 14) 5 = ivh6 (sk 14) 5 ∧ STXU ivh6 rvh5 ivh7 (sk 14) n f7 from exf7) (fun ri49 gf7 => ?_)
              have us9 := URS.init (t := i) gaxf5 gbxf5 W5 sk1 gf6.2 (by omega) fl6 (QT.of W5 sk1 XT.refl fl6 rfl rfl rfl rfl rfl) W6 rfl rfl rfl rfl rfl rfl rfl rfl fl7 (QT.of W6 sk1 XT.refl fl7 rfl rfl rfl rfl rfl) rfl rfl rfl rfl rfl rfl rfl rfl rfl gf7 (by omega) rfl
              refine c_istore (lv2 := [(5, .int (iI f7)), (4, .ref ob1), (0, .ref a0), (1, .int (iI i)), (2, .int (iI n)), (3, .int (iI lim))]) C dX11_unreadable_93 (by decide) rfl ?_
              refine c_iconst C dX11_unreadable_95 ?_
              refine c_istore (lv2 := [(6, .int (iI 0)), (5, .int (iI f7)), (4, .ref ob1), (0, .ref a0), (1, .int (iI i)), (2, .int (iI n)), (3, .int (iI lim))]) C dX11_unreadable_96 (by decide) rfl ?_
              have Lp1 : ∀ (nn : Nat) (ok k : Int) (Lb1 : List Nat) (clb1 lnb1 : Nat → Nat) (ivb1 : Nat → Nat → Int) (rvb1 : Nat → Nat → Option Nat) , 5002 - k < (nn : Int) → XT L cl ln Lb1 clb1 lnb1 → WT (g0 G) sk Lb1 clb1 lnb1 ivb1 rvb1 → fT [1, 4, 34, 14, 56, 57, 58, 15, 50, 51, 52, 53, 54, 55, 8, 38, 9, 39, 16, 10, 40, 24, 1002, 25, 1003, 6, 36, 7, 37] L cl iv rv ivb1 rvb1 → (ok = 0 ∨ ok = 1) → (0 ≤ k ∧ k ≤ 5001) → (k ≤ lim) → (ivb1 (sk 4) 2 = iv (sk 4) 2) → (∀ ss, CT iv rv (sk 4) ss → CT ivb1 rvb1 (sk 4) ss) → (URS sk ln iv rv ob1 Lb1 clb1 lnb1 ivb1 rvb1 i n ok k) → (ivb1 a0 11 = iv a0 11) → (ivb1 a0 12 = iv a0 12) → (ivb1 a0 13 = iv a0 13) → (ivb1 a0 14 = iv a0 14) → (ivb1 a0 15 = iv a0 15) → (ivb1 a0 16 = iv a0 16) → (rvb1 a0 9 = rv a0 9) → (rvb1 a0 10 = rv a0 10) → cw p l e 10 ((PHM) + 0 - ((Phi (g0 G) sk) ln rv)) s m args below meth c G A 7 (MQ below (Qu G A (Qp G (Phi (g0 G) sk) ((Phi (g0 G) sk) ln rv) 0 (fun v L2 cl2 ln2 iv2 rv2 => ∃ f : Int, v = some (.int (iI f)) ∧ XT L cl ln L2 cl2 ln2 ∧ fT [1, 4, 34, 14, 56, 57, 58, 15, 50, 51, 52, 53, 54, 55, 8, 38, 9, 39, 16, 10, 40, 24, 1002, 25, 1003, 6, 36, 7, 37] L cl iv rv iv2 rv2 ∧ WT (g0 G) sk L2 cl2 ln2 iv2 rv2 ∧ (-2147483648 ≤ f ∧ f ≤ 2147483647) ∧ (True) ∧ iv2 a0 11 = iv a0 11 ∧ iv2 a0 12 = iv a0 12 ∧ iv2 a0 13 = iv a0 13 ∧ iv2 a0 14 = iv a0 14 ∧ iv2 a0 15 = iv a0 15 ∧ iv2 a0 16 = iv a0 16 ∧ (PUR sk ln iv rv iv2 rv2 i n lim f) ∧ rv2 a0 9 = rv a0 9 ∧ rv2 a0 10 = rv a0 10))) args s (((PHM) + 0 - ((Phi (g0 G) sk) ln rv)) / 16) ((PHM) + 0 - ((Phi (g0 G) sk) ln rv)) A) (Phi (g0 G) sk) ((Phi (g0 G) sk) ln rv) Lb1 clb1 lnb1 ivb1 rvb1 0 98 [(5, .int (iI ok)), (6, .int (iI k)), (4, .ref ob1), (0, .ref a0), (1, .int (iI i)), (2, .int (iI n)), (3, .int (iI lim))] [] := by
                intro nn
                induction nn with
                | zero =>
                  intro  ok k Lb1 clb1 lnb1 ivb1 rvb1 hm Xb1 Wb1 Fb1  hok hk hkm h4s hC4 hU9 hkp11 hkp12 hkp13 hkp14 hkp15 hkp16 hkr9 hkr10
                  have skb1 := Xb1.skl hS
                  exact absurd hm (by omega)
                | succ nn ih1 =>
                  intro  ok k Lb1 clb1 lnb1 ivb1 rvb1 hm Xb1 Wb1 Fb1  hok hk hkm h4s hC4 hU9 hkp11 hkp12 hkp13 hkp14 hkp15 hkp16 hkr9 hkr10
                  refine hv2 (Xb1.skl hS) (MRK.call hmr hW hS Xb1 Fb1 rfl rfl) (fun skb1 mrb1 => ?_)
                  refine c_iload (j := 0) C dX11_unreadable_98 rfl ?_
                  refine c_if_eq (tgt := 200) C (r32_01 hok) dX11_unreadable_100 (by decide) (fun c6 => ?_) (fun c6 => ?_)
                  · clear hok
                    refine c_aload_n (j := 3) (x := a0) C dX11_unreadable_200 rfl ?_
                    refine c_iconst C dX11_unreadable_201 ?_
                    refine hv2 (Xb1.ty t_a0) (Phi.le Wb1 skb1) (fun ty5 pl2 => ?_)
                    refine d_callV (As := [.int (iI 0)]) (rest := []) C hM (C_done (a0 := a0) (x := 0) Wb1 skb1 ty5 ⟨by decide, by decide⟩ ) dX11_unreadable_202 kV_X11_109 rfl ty5 rfl rfl (by decide) ck_12 rfl (Nat.le_of_ble_eq_true rfl) ⟨(Nat.le_of_ble_eq_true rfl), (Nat.le_of_ble_eq_true rfl)⟩ hph pl2 (show 0 + 0 = 0 from rfl) (by decide) (fun rh8 Lh8 clh8 lnh8 ivh8 rvh8 h8 => ?_)
                    obtain ⟨f8, rfl, rfl, rfl, rfl, rfl, fl8, W8, rgf8, exf8, kp11f8, kp12f8, kp13f8, kp14f8, kp15f8, kp16f8⟩ := h8
                    refine hv8 (show 1 ≤ ivb1 a0 11 ∧ ivb1 a0 11 ≤ 100 from Wb1.int ty5 11) (show 1 ≤ ivb1 a0 12 ∧ ivb1 a0 12 ≤ 50 from Wb1.int ty5 12) (show (-2147483648) ≤ ivb1 a0 13 ∧ ivb1 a0 13 ≤ 2147483647 from Wb1.int ty5 13) (show (-2147483648) ≤ ivb1 a0 14 ∧ ivb1 a0 14 ≤ 2147483647 from Wb1.int ty5 14) (show (-2147483648) ≤ ivb1 a0 15 ∧ ivb1 a0 15 ≤ 2147483647 from Wb1.int ty5 15) (show (-2147483648) ≤ ivb1 a0 16 ∧ ivb1 a0 16 ≤ 2147483647 from Wb1.int ty5 16) (Fb1.call Xb1 fl8 rfl) (MRK.call mrb1 Wb1 skb1 XT.refl fl8 rfl rfl) (fun ri50 ri51 ri52 ri53 ri54 ri55 F7 mr7 => ?_)
                    refine c_st (st2 := [.int (iI f8)]) rfl ?_
                    refine hv15 (show ivh8 a0 11 = ivb1 a0 11 from kp11f8) (show ivh8 a0 12 = ivb1 a0 12 from kp12f8) (show ivh8 a0 13 = ivb1 a0 13 from kp13f8) (show ivh8 a0 14 = ivb1 a0 14 from kp14f8) (show ivh8 a0 15 = ivb1 a0 15 from kp15f8) (show ivh8 a0 16 = ivb1 a0 16 from kp16f8) (show f8 = (0 : Int) from exf8) (show 1 ≤ ivh8 a0 11 ∧ ivh8 a0 11 ≤ 100 from W8.int ty5 11) (show 1 ≤ ivh8 a0 12 ∧ ivh8 a0 12 ≤ 50 from W8.int ty5 12) (show (-2147483648) ≤ ivh8 a0 13 ∧ ivh8 a0 13 ≤ 2147483647 from W8.int ty5 13) (show (-2147483648) ≤ ivh8 a0 14 ∧ ivh8 a0 14 ≤ 2147483647 from W8.int ty5 14) (show (-2147483648) ≤ ivh8 a0 15 ∧ ivh8 a0 15 ≤ 2147483647 from W8.int ty5 15) (show (-2147483648) ≤ ivh8 a0 16 ∧ ivh8 a0 16 ≤ 2147483647 from W8.int ty5 16) (Xb1.ty tsk4) (Xb1.ty tsk15) (fun gk11f8 gk12f8 gk13f8 gk14f8 gk15f8 gk16f8 gf8 ri56 ri57 ri58 ri59 ri60 ri61 ty6 ty7 => ?_)
                    refine hv4 (show 0 ≤ ivh8 (sk 4) 2 ∧ ivh8 (sk 4) 2 ≤ 4000 from W8.int ty6 2) (show ivh8 (sk 4) 2 = ivb1 (sk 4) 2 from fl8.i ty6 rfl 2) (show 0 ≤ ivh8 (sk 15) 4 ∧ ivh8 (sk 15) 4 ≤ 500 from W8.int ty7 4) (show ivh8 (sk 15) 4 = ivb1 (sk 15) 4 from fl8.i ty7 rfl 4) (fun ri62 ie42 ri63 ie44 => ?_)
                    exact c_iret C dX11_unreadable_205 rfl (by decide) (rom0 hph pl2 (by decide)) ⟨f8, rfl, Xb1, F7, W8, ⟨by omega, by omega⟩, trivial, (gk11f8.trans hkp11), (gk12f8.trans hkp12), (gk13f8.trans hkp13), (gk14f8.trans hkp14), (gk15f8.trans hkp15), (gk16f8.trans hkp16), (PUR.exh wkob1 ⟨⟨by omega, by omega⟩, by omega, by omega⟩ hU9 (by omega) ⟨by omega, by omega⟩ (by omega) ⟨by omega, fun ss hs => (CT.fr (hC4 ss hs) Wb1 ty6 fl8 rfl rfl rfl rfl rfl)⟩), (show rvb1 a0 9 = rv a0 9 from hkr9), (show rvb1 a0 10 = rv a0 10 from hkr10)⟩
                  · replace hok := (hok.resolve_left c6)
                    refine c_iload (j := 1) C dX11_unreadable_103 rfl ?_
                    refine c_sipush (z := 5000) C dX11_unreadable_105 (by decide) ?_
                    refine c_icmp_gt (tgt := 200) C (r32_c (lo := 0) (hi := 5001) hk.1 hk.2 (by decide) (by decide)) ⟨by decide, by decide⟩ dX11_unreadable_108 (by decide) (fun c7 => ?_) (fun c7 => ?_)
                    · refine c_aload_n (j := 3) (x := a0) C dX11_unreadable_200 rfl ?_
                      refine c_iconst C dX11_unreadable_201 ?_
                      refine hv2 (Xb1.ty t_a0) (Phi.le Wb1 skb1) (fun ty8 pl3 => ?_)
                      refine d_callV (As := [.int (iI 0)]) (rest := []) C hM (C_done (a0 := a0) (x := 0) Wb1 skb1 ty8 ⟨by decide, by decide⟩ ) dX11_unreadable_202 kV_X11_109 rfl ty8 rfl rfl (by decide) ck_12 rfl (Nat.le_of_ble_eq_true rfl) ⟨(Nat.le_of_ble_eq_true rfl), (Nat.le_of_ble_eq_true rfl)⟩ hph pl3 (show 0 + 0 = 0 from rfl) (by decide) (fun rh9 Lh9 clh9 lnh9 ivh9 rvh9 h9 => ?_)
                      obtain ⟨f9, rfl, rfl, rfl, rfl, rfl, fl9, W9, rgf9, exf9, kp11f9, kp12f9, kp13f9, kp14f9, kp15f9, kp16f9⟩ := h9
                      refine hv8 (show 1 ≤ ivb1 a0 11 ∧ ivb1 a0 11 ≤ 100 from Wb1.int ty8 11) (show 1 ≤ ivb1 a0 12 ∧ ivb1 a0 12 ≤ 50 from Wb1.int ty8 12) (show (-2147483648) ≤ ivb1 a0 13 ∧ ivb1 a0 13 ≤ 2147483647 from Wb1.int ty8 13) (show (-2147483648) ≤ ivb1 a0 14 ∧ ivb1 a0 14 ≤ 2147483647 from Wb1.int ty8 14) (show (-2147483648) ≤ ivb1 a0 15 ∧ ivb1 a0 15 ≤ 2147483647 from Wb1.int ty8 15) (show (-2147483648) ≤ ivb1 a0 16 ∧ ivb1 a0 16 ≤ 2147483647 from Wb1.int ty8 16) (Fb1.call Xb1 fl9 rfl) (MRK.call mrb1 Wb1 skb1 XT.refl fl9 rfl rfl) (fun ri64 ri65 ri66 ri67 ri68 ri69 F8 mr8 => ?_)
                      refine c_st (st2 := [.int (iI f9)]) rfl ?_
                      refine hv15 (show ivh9 a0 11 = ivb1 a0 11 from kp11f9) (show ivh9 a0 12 = ivb1 a0 12 from kp12f9) (show ivh9 a0 13 = ivb1 a0 13 from kp13f9) (show ivh9 a0 14 = ivb1 a0 14 from kp14f9) (show ivh9 a0 15 = ivb1 a0 15 from kp15f9) (show ivh9 a0 16 = ivb1 a0 16 from kp16f9) (show f9 = (0 : Int) from exf9) (show 1 ≤ ivh9 a0 11 ∧ ivh9 a0 11 ≤ 100 from W9.int ty8 11) (show 1 ≤ ivh9 a0 12 ∧ ivh9 a0 12 ≤ 50 from W9.int ty8 12) (show (-2147483648) ≤ ivh9 a0 13 ∧ ivh9 a0 13 ≤ 2147483647 from W9.int ty8 13) (show (-2147483648) ≤ ivh9 a0 14 ∧ ivh9 a0 14 ≤ 2147483647 from W9.int ty8 14) (show (-2147483648) ≤ ivh9 a0 15 ∧ ivh9 a0 15 ≤ 2147483647 from W9.int ty8 15) (show (-2147483648) ≤ ivh9 a0 16 ∧ ivh9 a0 16 ≤ 2147483647 from W9.int ty8 16) (Xb1.ty tsk4) (Xb1.ty tsk15) (fun gk11f9 gk12f9 gk13f9 gk14f9 gk15f9 gk16f9 gf9 ri70 ri71 ri72 ri73 ri74 ri75 ty9 ty10 => ?_)
                      refine hv4 (show 0 ≤ ivh9 (sk 4) 2 ∧ ivh9 (sk 4) 2 ≤ 4000 from W9.int ty9 2) (show ivh9 (sk 4) 2 = ivb1 (sk 4) 2 from fl9.i ty9 rfl 2) (show 0 ≤ ivh9 (sk 15) 4 ∧ ivh9 (sk 15) 4 ≤ 500 from W9.int ty10 4) (show ivh9 (sk 15) 4 = ivb1 (sk 15) 4 from fl9.i ty10 rfl 4) (fun ri76 ie58 ri77 ie60 => ?_)
                      exact c_iret C dX11_unreadable_205 rfl (by decide) (rom0 hph pl3 (by decide)) ⟨f9, rfl, Xb1, F8, W9, ⟨by omega, by omega⟩, trivial, (gk11f9.trans hkp11), (gk12f9.trans hkp12), (gk13f9.trans hkp13), (gk14f9.trans hkp14), (gk15f9.trans hkp15), (gk16f9.trans hkp16), (PUR.exh wkob1 ⟨⟨by omega, by omega⟩, by omega, by omega⟩ hU9 (by omega) ⟨by omega, by omega⟩ (by omega) ⟨by omega, fun ss hs => (CT.fr (hC4 ss hs) Wb1 ty9 fl9 rfl rfl rfl rfl rfl)⟩), (show rvb1 a0 9 = rv a0 9 from hkr9), (show rvb1 a0 10 = rv a0 10 from hkr10)⟩
                    · refine c_iload (j := 1) C dX11_unreadable_111 rfl ?_
                      refine c_iload_n (j := 6) C dX11_unreadable_113 rfl ?_
                      refine c_icmp_lt (tgt := 124) C (r32_c (lo := 0) (hi := 5001) hk.1 hk.2 (by decide) (by decide)) ⟨by omega, by omega⟩ dX11_unreadable_114 (by decide) (fun c8 => ?_) (fun c8 => ?_)
                      · refine c_aload_n (j := 3) (x := a0) C dX11_unreadable_124 rfl ?_
                        have ty11 := Xb1.ty t_a0
                        obtain ⟨rb4, rq4, trb4⟩ := Wb1.ref ty11 5 rfl rfl rfl
                        have erb4 := Wb1.sk trb4 (by decide) rfl
                        subst erb4
                        refine c_getr (k := 5) C ck_12 dX11_unreadable_125 w2_49 (by decide) ty11 rfl rfl (by decide) rfl rq4 ?_
                        refine c_st (st2 := [.ref (sk 14)]) rfl ?_
                        refine c_aload_n (j := 3) (x := a0) C dX11_unreadable_128 rfl ?_
                        obtain ⟨rb5, rq5, trb5⟩ := Wb1.ref ty11 6 rfl rfl rfl
                        have erb5 := Wb1.sk trb5 (by decide) rfl
                        subst erb5
                        refine c_getr (k := 6) C ck_12 dX11_unreadable_129 w2_50 (by decide) ty11 rfl rfl (by decide) rfl rq5 ?_
                        refine c_st (st2 := [.ref (sk 15), .ref (sk 14)]) rfl ?_
                        refine hv4 (Xb1.ty tsk4) (Xb1.ty tsk15) (Xb1.ty tsk14) (Phi.le Wb1 skb1) (fun ty12 ty13 ty14 pl4 => ?_)
                        refine hv2 (show 0 ≤ ivb1 (sk 4) 2 ∧ ivb1 (sk 4) 2 ≤ 4000 from Wb1.int ty12 2) (show 0 ≤ ivb1 (sk 15) 4 ∧ ivb1 (sk 15) 4 ≤ 500 from Wb1.int ty13 4) (fun ri78 ri79 => ?_)
                        refine d_callV (As := [.ref (sk 15)]) (rest := []) C hM (G_spell (a0 := (sk 14)) (a1 := (sk 15)) Wb1 skb1 ty14 ty13  ) dX11_unreadable_132 kV_X11_392 rfl ty14 rfl rfl (by decide) ck_9 rfl (Nat.le_of_ble_eq_true rfl) ⟨(Nat.le_of_ble_eq_true rfl), (Nat.le_of_ble_eq_true rfl)⟩ hph pl4 (show 0 + 0 = 0 from rfl) (by decide) (fun rh10 Lh10 clh10 lnh10 ivh10 rvh10 h10 => ?_)
                        obtain ⟨rfl, rfl, rfl, rfl, rfl, fl10, W10, exf10⟩ := h10
                        refine hv2 (Fb1.call Xb1 fl10 rfl) (MRK.call mrb1 Wb1 skb1 XT.refl fl10 rfl rfl) (fun F9 mr9 => ?_)
                        refine c_st (st2 := []) rfl ?_
                        refine hv4 (show SPXU ivb1 rvb1 ivh10 (sk 14) (sk 15) from exf10) (show 0 ≤ ivh10 (sk 4) 2 ∧ ivh10 (sk 4) 2 ≤ 4000 from W10.int ty12 2) (show ivh10 (sk 4) 2 = ivb1 (sk 4) 2 from fl10.i ty12 rfl 2) (show 0 ≤ ivh10 (sk 15) 4 ∧ ivh10 (sk 15) 4 ≤ 500 from W10.int ty13 4) (fun gf10 ri80 ie64 ri81 => ?_)
                        have uw9 := URS.spell hU9 (by omega) gf10 (by omega) Wb1 skb1 fl10 (QT.of Wb1 skb1 XT.refl fl10 rfl rfl rfl rfl rfl) rfl rfl rfl rfl rfl rfl rfl rfl rfl rfl rfl
                        refine c_aload_n (j := 3) (x := a0) C dX11_unreadable_135 rfl ?_
                        refine c_getr (k := 6) C ck_12 dX11_unreadable_136 w2_50 (by decide) ty11 rfl rfl (by decide) rfl rq5 ?_
                        refine c_st (st2 := [.ref (sk 15)]) rfl ?_
                        refine c_aload (j := 2) (x := ob1) C dX11_unreadable_139 rfl ?_
                        have ty15 := Xb1.ty tob1
                        refine d_callV (As := [.ref ob1]) (rest := []) C hM (G_setBy (a0 := (sk 15)) (a1 := ob1) W10 skb1 ty13 ty15  ) dX11_unreadable_141 kV_X11_253 rfl ty13 rfl rfl (by decide) ck_7 rfl (Nat.le_of_ble_eq_true rfl) ⟨(Nat.le_of_ble_eq_true rfl), (Nat.le_of_ble_eq_true rfl)⟩ hph pl4 (show 0 + 0 = 0 from rfl) (by decide) (fun rh11 Lh11 clh11 lnh11 ivh11 rvh11 h11 => ?_)
                        obtain ⟨f11, rfl, rfl, rfl, rfl, rfl, fl11, W11, rgf11, exf11⟩ := h11
                        refine hv2 (F9.call Xb1 fl11 rfl) (MRK.call mr9 W10 skb1 XT.refl fl11 rfl rfl) (fun F10 mr10 => ?_)
                        refine c_st (st2 := [.int (iI f11)]) rfl ?_
                        refine hv5 (show 0 ≤ ivh11 (sk 15) 4 ∧ ivh11 (sk 15) 4 ≤ 500 from W11.int ty13 4) (show 0 ≤ ivh11 (sk 15) 7 ∧ ivh11 (sk 15) 7 ≤ 100000 from W11.int ty13 7) (show ((f11 = 0 ∨ f11 = 6 ∨ f11 = 7) ∧ ivh11 (sk 15) 4 = ivh10 (sk 15) 4 ∧ (f11 = 0 → ivh11 (sk 15) 7 ≤ 200)) ∧ SBX sk lnb1 ivh10 rvb1 ivh11 (sk 15) ob1 f11 from exf11) (show 0 ≤ ivh11 (sk 4) 2 ∧ ivh11 (sk 4) 2 ≤ 4000 from W11.int ty12 2) (show ivh11 (sk 4) 2 = ivh10 (sk 4) 2 from fl11.i ty12 rfl 2) (fun ri82 ri83 gf11 ri84 ie68 => ?_)
                        refine c_if_ne (tgt := 184) C (r32_067 gf11.1.1) dX11_unreadable_144 (by decide) (fun c9 => ?_) (fun c9 => ?_)
                        · replace gf11 := (And.intro (And.intro (gf11.1.1.resolve_left c9) (And.intro gf11.1.2.1 trivial)) gf11.2)
                          have un9 := URW.bad uw9 (QT.of hW hS Xb1 F9 rfl rfl rfl rfl rfl) gf11.2 (by omega) W10 skb1 fl11 (QT.of W10 skb1 XT.refl fl11 rfl rfl rfl rfl rfl) rfl rfl rfl rfl rfl rfl rfl rfl rfl rfl rfl
                          refine c_aload_n (j := 3) (x := a0) C dX11_unreadable_184 rfl ?_
                          refine c_getr (k := 5) C ck_12 dX11_unreadable_185 w2_49 (by decide) ty11 rfl rfl (by decide) rfl rq4 ?_
                          refine c_st (st2 := [.ref (sk 14)]) rfl ?_
                          refine c_iload_n (j := 5) C dX11_unreadable_188 rfl ?_
                          refine hv3 (show 0 ≤ ivh11 (sk 14) 5 ∧ ivh11 (sk 14) 5 ≤ 126 from W11.int ty14 5) (show ivh11 (sk 14) 5 = ivh10 (sk 14) 5 from fl11.i ty14 rfl 5) (show ivh10 (sk 14) 5 = ivb1 (sk 14) 5 from fl10.i ty14 rfl 5) (fun ri85 ie69 ie70 => ?_)
                          refine d_callV (As := [.int (iI n)]) (rest := []) C hM (G_spellNext (a0 := (sk 14)) (n := n) W11 skb1 ty14 (by omega) ) dX11_unreadable_189 kV_X11_403 rfl ty14 rfl rfl (by decide) ck_9 rfl (Nat.le_of_ble_eq_true rfl) ⟨(Nat.le_of_ble_eq_true rfl), (Nat.le_of_ble_eq_true rfl)⟩ hph pl4 (show 0 + 0 = 0 from rfl) (by decide) (fun rh12 Lh12 clh12 lnh12 ivh12 rvh12 h12 => ?_)
                          obtain ⟨f12, rfl, rfl, rfl, rfl, rfl, fl12, W12, rgf12, exf12⟩ := h12
                          refine hv2 (F10.call Xb1 fl12 rfl) (MRK.call mr10 W11 skb1 XT.refl fl12 rfl rfl) (fun F11 mr11 => ?_)
                          refine c_st (st2 := [.int (iI f12)]) rfl ?_
                          refine hv6 (show 0 ≤ ivh12 (sk 14) 5 ∧ ivh12 (sk 14) 5 ≤ 126 from W12.int ty14 5) (show ivh12 (sk 14) 5 = ivh11 (sk 14) 5 ∧ NXX ivh11 rvb1 ivh12 (sk 14) n f12 from exf12) (show 0 ≤ ivh12 (sk 4) 2 ∧ ivh12 (sk 4) 2 ≤ 4000 from W12.int ty12 2) (show ivh12 (sk 4) 2 = ivh11 (sk 4) 2 from fl12.i ty12 rfl 2) (show 0 ≤ ivh12 (sk 15) 4 ∧ ivh12 (sk 15) 4 ≤ 500 from W12.int ty13 4) (show ivh12 (sk 15) 4 = ivh11 (sk 15) 4 from fl12.i ty13 rfl 4) (fun ri86 gf12 ri87 ie73 ri88 ie74 => ?_)
                          refine c_istore (lv2 := [(5, .int (iI f12)), (6, .int (iI k)), (4, .ref ob1), (0, .ref a0), (1, .int (iI i)), (2, .int (iI n)), (3, .int (iI lim))]) C dX11_unreadable_192 (by decide) rfl ?_
                          refine c_iinc (z := k) (j := 1) (lv2 := [(6, .int (iI (k + 1))), (5, .int (iI f12)), (4, .ref ob1), (0, .ref a0), (1, .int (iI i)), (2, .int (iI n)), (3, .int (iI lim))]) C dX11_unreadable_194 rfl (by decide) rfl ?_
                          refine c_goto (tgt := 98) C dX11_unreadable_197 (by decide) ?_
                          refine hv24 (show 1 ≤ ivh12 a0 11 ∧ ivh12 a0 11 ≤ 100 from W12.int ty11 11) (show ivh12 a0 11 = ivh11 a0 11 from fl12.i ty11 rfl 11) (show ivh11 a0 11 = ivh10 a0 11 from fl11.i ty11 rfl 11) (show ivh10 a0 11 = ivb1 a0 11 from fl10.i ty11 rfl 11) (show 1 ≤ ivh12 a0 12 ∧ ivh12 a0 12 ≤ 50 from W12.int ty11 12) (show ivh12 a0 12 = ivh11 a0 12 from fl12.i ty11 rfl 12) (show ivh11 a0 12 = ivh10 a0 12 from fl11.i ty11 rfl 12) (show ivh10 a0 12 = ivb1 a0 12 from fl10.i ty11 rfl 12) (show (-2147483648) ≤ ivh12 a0 13 ∧ ivh12 a0 13 ≤ 2147483647 from W12.int ty11 13) (show ivh12 a0 13 = ivh11 a0 13 from fl12.i ty11 rfl 13) (show ivh11 a0 13 = ivh10 a0 13 from fl11.i ty11 rfl 13) (show ivh10 a0 13 = ivb1 a0 13 from fl10.i ty11 rfl 13) (show (-2147483648) ≤ ivh12 a0 14 ∧ ivh12 a0 14 ≤ 2147483647 from W12.int ty11 14) (show ivh12 a0 14 = ivh11 a0 14 from fl12.i ty11 rfl 14) (show ivh11 a0 14 = ivh10 a0 14 from fl11.i ty11 rfl 14) (show ivh10 a0 14 = ivb1 a0 14 from fl10.i ty11 rfl 14) (show (-2147483648) ≤ ivh12 a0 15 ∧ ivh12 a0 15 ≤ 2147483647 from W12.int ty11 15) (show ivh12 a0 15 = ivh11 a0 15 from fl12.i ty11 rfl 15) (show ivh11 a0 15 = ivh10 a0 15 from fl11.i ty11 rfl 15) (show ivh10 a0 15 = ivb1 a0 15 from fl10.i ty11 rfl 15) (show (-2147483648) ≤ ivh12 a0 16 ∧ ivh12 a0 16 ≤ 2147483647 from W12.int ty11 16) (show ivh12 a0 16 = ivh11 a0 16 from fl12.i ty11 rfl 16) (show ivh11 a0 16 = ivh10 a0 16 from fl11.i ty11 rfl 16) (show ivh10 a0 16 = ivb1 a0 16 from fl10.i ty11 rfl 16) (fun ri89 ie75 ie76 ie77 ri90 ie79 ie80 ie81 ri91 ie83 ie84 ie85 ri92 ie87 ie88 ie89 ri93 ie91 ie92 ie93 ri94 ie95 ie96 ie97 => ?_)
                          refine c_lv (lv2 := [(5, .int (iI f12)), (6, .int (iI (k + 1))), (4, .ref ob1), (0, .ref a0), (1, .int (iI i)), (2, .int (iI n)), (3, .int (iI lim))]) [1, 0, 2, 3, 4, 5, 6] rfl ?_
                          exact ih1  f12 (k + 1) _ _ _ _ _ (by omega) Xb1 W12 F11  (by omega) (by omega) (by omega) (ie73.trans (ie68.trans (ie64.trans h4s))) (fun ss hs => (CT.fr (CT.fr (CT.fr (hC4 ss hs) Wb1 ty12 fl10 rfl rfl rfl rfl rfl) W10 ty12 fl11 rfl rfl rfl rfl rfl) W11 ty12 fl12 rfl rfl rfl rfl rfl)) (un9.next gf12 ⟨by omega, by omega⟩ (by omega) rfl W11 skb1 fl12 (QT.of W11 skb1 XT.refl fl12 rfl rfl rfl rfl rfl) rfl rfl rfl rfl rfl rfl rfl rfl rfl) (ie75.trans (ie76.trans (ie77.trans hkp11))) (ie79.trans (ie80.trans (ie81.trans hkp12))) (ie83.trans (ie84.trans (ie85.trans hkp13))) (ie87.trans (ie88.trans (ie89.trans hkp14))) (ie91.trans (ie92.trans (ie93.trans hkp15))) (ie95.trans (ie96.trans (ie97.trans hkp16))) (show rvb1 a0 9 = rv a0 9 from hkr9) (show rvb1 a0 10 = rv a0 10 from hkr10)
                        · replace gf11 := (And.intro (And.intro c9 (And.intro gf11.1.2.1 (gf11.1.2.2 c9))) gf11.2)
                          have uc9 := URW.set uw9 (QT.of hW hS Xb1 F9 rfl rfl rfl rfl rfl) gf11.2 (by omega) (by omega) W10 skb1 fl11 (QT.of W10 skb1 XT.refl fl11 rfl rfl rfl rfl rfl) rfl rfl rfl rfl rfl rfl rfl rfl rfl rfl rfl rfl
                          refine c_aload_n (j := 3) (x := a0) C dX11_unreadable_147 rfl ?_
                          refine d_callV (As := []) (rest := []) C hM (G_isReadBack (a0 := a0) W11 skb1 ty11  (by show ivh11 (sk 15) 7 ≤ 200; omega)) dX11_unreadable_148 kV_X11_396 rfl ty11 rfl rfl (by decide) ck_12 rfl (Nat.le_of_ble_eq_true rfl) ⟨(Nat.le_of_ble_eq_true rfl), (Nat.le_of_ble_eq_true rfl)⟩ hph pl4 (show 0 + 0 = 0 from rfl) (by decide) (fun rh13 Lh13 clh13 lnh13 ivh13 rvh13 h13 => ?_)
                          obtain ⟨f13, rfl, xl13, fl13, W13, rgf13, exf13⟩ := h13
                          refine hv19 (F10.call Xb1 fl13 rfl) (MRK.call mr10 W11 skb1 xl13 fl13 rfl rfl) (Xb1.ty tsk2) (Xb1.ty tsk3) (Xb1.ty tsk5) (Xb1.ty tsk6) (Xb1.ty tsk7) (Xb1.ty tsk8) (Xb1.ty tsk9) (Xb1.ty tsk10) (Xb1.ty tsk13) (Xb1.ty tsk16) (Xb1.ty tsk17) (Xb1.ty tsk22) (Xb1.ty tsk23) (Xb1.ty tsk24) (Xb1.ty tsk25) (Xb1.trans xl13) (xl13.skl skb1) (fun F12 mr12 ty16 ty17 ty18 ty19 ty20 ty21 ty22 ty23 ty24 ty25 ty26 ty27 ty28 ty29 ty30 X2 sk2 => ?_)
                          refine c_st (st2 := [.int (iI f13)]) rfl ?_
                          refine hv5 (show RBX Lb1 clb1 lnb1 ivh11 rvb1 sk f13 from exf13) (xl13.ty ty12) (show ivh13 (sk 4) 2 = ivh11 (sk 4) 2 from fl13.i ty12 rfl 2) (xl13.ty ty13) (show ivh13 (sk 15) 4 = ivh11 (sk 15) 4 from fl13.i ty13 rfl 4) (fun gf13 ty31 ie99 ty32 ie100 => ?_)
                          refine hv2 (show 0 ≤ ivh13 (sk 4) 2 ∧ ivh13 (sk 4) 2 ≤ 4000 from W13.int ty31 2) (show 0 ≤ ivh13 (sk 15) 4 ∧ ivh13 (sk 15) 4 ≤ 500 from W13.int ty32 4) (fun ri95 ri96 => ?_)
                          refine c_if_ne (tgt := 184) C ⟨by omega, by omega⟩ dX11_unreadable_151 (by decide) (fun c10 => ?_) (fun c10 => ?_)
                          · have un9 := URC.back uc9 gf13 (by omega) (by omega) W11 skb1 fl13 (QT.of W11 skb1 xl13 fl13 rfl rfl rfl rfl rfl) rfl rfl rfl rfl rfl rfl rfl rfl rfl rfl rfl
                            refine c_aload_n (j := 3) (x := a0) C dX11_unreadable_184 rfl ?_
                            refine hv2 (xl13.ty ty11) (show rvh13 a0 5 = rvb1 a0 5 from (fl13.r ty11 rfl 5)) (fun ty33 re2 => ?_)
                            rw [rq4] at re2
                            refine c_getr (k := 5) C ck_12 dX11_unreadable_185 w2_49 (by decide) ty33 rfl rfl (by decide) rfl re2 ?_
                            refine c_st (st2 := [.ref (sk 14)]) rfl ?_
                            refine c_iload_n (j := 5) C dX11_unreadable_188 rfl ?_
                            refine hv5 (xl13.ty ty14) (show ivh13 (sk 14) 5 = ivh11 (sk 14) 5 from fl13.i ty14 rfl 5) (show ivh11 (sk 14) 5 = ivh10 (sk 14) 5 from fl11.i ty14 rfl 5) (show ivh10 (sk 14) 5 = ivb1 (sk 14) 5 from fl10.i ty14 rfl 5) (Phi.le W13 sk2) (fun ty34 ie101 ie102 ie103 pl5 => ?_)
                            have ri97 : 0 ≤ ivh13 (sk 14) 5 ∧ ivh13 (sk 14) 5 ≤ 126 := W13.int ty34 5
                            refine d_callV (As := [.int (iI n)]) (rest := []) C hM (G_spellNext (a0 := (sk 14)) (n := n) W13 sk2 ty34 (by omega) ) dX11_unreadable_189 kV_X11_403 rfl ty34 rfl rfl (by decide) ck_9 rfl (Nat.le_of_ble_eq_true rfl) ⟨(Nat.le_of_ble_eq_true rfl), (Nat.le_of_ble_eq_true rfl)⟩ hph pl5 (show 0 + 0 = 0 from rfl) (by decide) (fun rh14 Lh14 clh14 lnh14 ivh14 rvh14 h14 => ?_)
                            obtain ⟨f14, rfl, rfl, rfl, rfl, rfl, fl14, W14, rgf14, exf14⟩ := h14
                            refine hv2 (F12.call X2 fl14 rfl) (MRK.call mr12 W13 sk2 XT.refl fl14 rfl rfl) (fun F13 mr13 => ?_)
                            refine c_st (st2 := [.int (iI f14)]) rfl ?_
                            refine hv6 (show 0 ≤ ivh14 (sk 14) 5 ∧ ivh14 (sk 14) 5 ≤ 126 from W14.int ty34 5) (show ivh14 (sk 14) 5 = ivh13 (sk 14) 5 ∧ NXX ivh13 rvh13 ivh14 (sk 14) n f14 from exf14) (show 0 ≤ ivh14 (sk 4) 2 ∧ ivh14 (sk 4) 2 ≤ 4000 from W14.int ty31 2) (show ivh14 (sk 4) 2 = ivh13 (sk 4) 2 from fl14.i ty31 rfl 2) (show 0 ≤ ivh14 (sk 15) 4 ∧ ivh14 (sk 15) 4 ≤ 500 from W14.int ty32 4) (show ivh14 (sk 15) 4 = ivh13 (sk 15) 4 from fl14.i ty32 rfl 4) (fun ri98 gf14 ri99 ie106 ri100 ie107 => ?_)
                            refine c_istore (lv2 := [(5, .int (iI f14)), (6, .int (iI k)), (4, .ref ob1), (0, .ref a0), (1, .int (iI i)), (2, .int (iI n)), (3, .int (iI lim))]) C dX11_unreadable_192 (by decide) rfl ?_
                            refine c_iinc (z := k) (j := 1) (lv2 := [(6, .int (iI (k + 1))), (5, .int (iI f14)), (4, .ref ob1), (0, .ref a0), (1, .int (iI i)), (2, .int (iI n)), (3, .int (iI lim))]) C dX11_unreadable_194 rfl (by decide) rfl ?_
                            refine c_goto (tgt := 98) C dX11_unreadable_197 (by decide) ?_
                            refine hv30 (show 1 ≤ ivh14 a0 11 ∧ ivh14 a0 11 ≤ 100 from W14.int ty33 11) (show ivh14 a0 11 = ivh13 a0 11 from fl14.i ty33 rfl 11) (show ivh13 a0 11 = ivh11 a0 11 from fl13.i ty11 rfl 11) (show ivh11 a0 11 = ivh10 a0 11 from fl11.i ty11 rfl 11) (show ivh10 a0 11 = ivb1 a0 11 from fl10.i ty11 rfl 11) (show 1 ≤ ivh14 a0 12 ∧ ivh14 a0 12 ≤ 50 from W14.int ty33 12) (show ivh14 a0 12 = ivh13 a0 12 from fl14.i ty33 rfl 12) (show ivh13 a0 12 = ivh11 a0 12 from fl13.i ty11 rfl 12) (show ivh11 a0 12 = ivh10 a0 12 from fl11.i ty11 rfl 12) (show ivh10 a0 12 = ivb1 a0 12 from fl10.i ty11 rfl 12) (show (-2147483648) ≤ ivh14 a0 13 ∧ ivh14 a0 13 ≤ 2147483647 from W14.int ty33 13) (show ivh14 a0 13 = ivh13 a0 13 from fl14.i ty33 rfl 13) (show ivh13 a0 13 = ivh11 a0 13 from fl13.i ty11 rfl 13) (show ivh11 a0 13 = ivh10 a0 13 from fl11.i ty11 rfl 13) (show ivh10 a0 13 = ivb1 a0 13 from fl10.i ty11 rfl 13) (show (-2147483648) ≤ ivh14 a0 14 ∧ ivh14 a0 14 ≤ 2147483647 from W14.int ty33 14) (show ivh14 a0 14 = ivh13 a0 14 from fl14.i ty33 rfl 14) (show ivh13 a0 14 = ivh11 a0 14 from fl13.i ty11 rfl 14) (show ivh11 a0 14 = ivh10 a0 14 from fl11.i ty11 rfl 14) (show ivh10 a0 14 = ivb1 a0 14 from fl10.i ty11 rfl 14) (show (-2147483648) ≤ ivh14 a0 15 ∧ ivh14 a0 15 ≤ 2147483647 from W14.int ty33 15) (show ivh14 a0 15 = ivh13 a0 15 from fl14.i ty33 rfl 15) (show ivh13 a0 15 = ivh11 a0 15 from fl13.i ty11 rfl 15) (show ivh11 a0 15 = ivh10 a0 15 from fl11.i ty11 rfl 15) (show ivh10 a0 15 = ivb1 a0 15 from fl10.i ty11 rfl 15) (show (-2147483648) ≤ ivh14 a0 16 ∧ ivh14 a0 16 ≤ 2147483647 from W14.int ty33 16) (show ivh14 a0 16 = ivh13 a0 16 from fl14.i ty33 rfl 16) (show ivh13 a0 16 = ivh11 a0 16 from fl13.i ty11 rfl 16) (show ivh11 a0 16 = ivh10 a0 16 from fl11.i ty11 rfl 16) (show ivh10 a0 16 = ivb1 a0 16 from fl10.i ty11 rfl 16) (fun ri101 ie108 ie109 ie110 ie111 ri102 ie113 ie114 ie115 ie116 ri103 ie118 ie119 ie120 ie121 ri104 ie123 ie124 ie125 ie126 ri105 ie128 ie129 ie130 ie131 ri106 ie133 ie134 ie135 ie136 => ?_)
                            refine c_lv (lv2 := [(5, .int (iI f14)), (6, .int (iI (k + 1))), (4, .ref ob1), (0, .ref a0), (1, .int (iI i)), (2, .int (iI n)), (3, .int (iI lim))]) [1, 0, 2, 3, 4, 5, 6] rfl ?_
                            exact ih1  f14 (k + 1) _ _ _ _ _ (by omega) X2 W14 F13  (by omega) (by omega) (by omega) (ie106.trans (ie99.trans (ie68.trans (ie64.trans h4s)))) (fun ss hs => (CT.fr (CT.fr (CT.fr (CT.fr (hC4 ss hs) Wb1 ty12 fl10 rfl rfl rfl rfl rfl) W10 ty12 fl11 rfl rfl rfl rfl rfl) W11 ty12 fl13 rfl rfl rfl rfl rfl) W13 ty31 fl14 rfl rfl rfl rfl rfl)) (un9.next gf14 ⟨by omega, by omega⟩ (by omega) rfl W13 sk2 fl14 (QT.of W13 sk2 XT.refl fl14 rfl rfl rfl rfl rfl) rfl rfl rfl rfl rfl rfl rfl rfl rfl) (ie108.trans (ie109.trans (ie110.trans (ie111.trans hkp11)))) (ie113.trans (ie114.trans (ie115.trans (ie116.trans hkp12)))) (ie118.trans (ie119.trans (ie120.trans (ie121.trans hkp13)))) (ie123.trans (ie124.trans (ie125.trans (ie126.trans hkp14)))) (ie128.trans (ie129.trans (ie130.trans (ie131.trans hkp15)))) (ie133.trans (ie134.trans (ie135.trans (ie136.trans hkp16)))) (Eq.trans (show rvh13 a0 9 = rvb1 a0 9 from (fl13.r ty11 rfl 9)) (show rvb1 a0 9 = rv a0 9 from hkr9)) (Eq.trans (show rvh13 a0 10 = rvb1 a0 10 from (fl13.r ty11 rfl 10)) (show rvb1 a0 10 = rv a0 10 from hkr10))
                          · have uf9 := URC.found uc9 gf13 (by omega) (by omega) W11 skb1 fl13 rfl rfl
                            refine c_aload_n (j := 3) (x := a0) C dX11_unreadable_154 rfl ?_
                            have ty35 := xl13.ty ty11
                            obtain ⟨rb6, rq6, trb6⟩ := W13.ref ty35 2 rfl rfl rfl
                            have erb6 := W13.sk trb6 (by decide) rfl
                            subst erb6
                            refine c_getr (k := 2) C ck_12 dX11_unreadable_155 w2_46 (by decide) ty35 rfl rfl (by decide) rfl rq6 ?_
                            refine c_st (st2 := [.ref (sk 4)]) rfl ?_
                            have pl6 := Phi.le W13 sk2
                            refine d_callV (As := []) (rest := []) C hM (C_clear_4 (a0 := (sk 4)) W13 sk2 ty31  ) dX11_unreadable_158 kV_X11_164 rfl ty31 rfl rfl (by decide) ck_2 rfl (Nat.le_of_ble_eq_true rfl) ⟨(Nat.le_of_ble_eq_true rfl), (Nat.le_of_ble_eq_true rfl)⟩ hph pl6 (show 0 + 0 = 0 from rfl) (by decide) (fun rh15 Lh15 clh15 lnh15 ivh15 rvh15 h15 => ?_)
                            obtain ⟨rfl, rfl, rfl, rfl, rfl, fl15, W15, exf15⟩ := h15
                            refine hv2 (F12.call X2 fl15 rfl) (MRK.call mr12 W13 sk2 XT.refl fl15 rfl rfl) (fun F14 mr14 => ?_)
                            refine c_st (st2 := []) rfl ?_
                            refine hv5 (show 0 ≤ ivh15 (sk 4) 2 ∧ ivh15 (sk 4) 2 ≤ 4000 from W15.int ty31 2) (show ivh15 (sk 4) 2 = 0 from exf15) (show 0 ≤ ivh15 (sk 15) 4 ∧ ivh15 (sk 15) 4 ≤ 500 from W15.int ty32 4) (show ivh15 (sk 15) 4 = ivh13 (sk 15) 4 from fl15.i ty32 rfl 4) (URF.mv uf9 W13 sk2 fl15 rfl rfl) (fun ri107 gf15 ri108 ie139 ug9 => ?_)
                            refine c_aload_n (j := 3) (x := a0) C dX11_unreadable_161 rfl ?_
                            have re3 : rvh13 a0 6 = rvb1 a0 6 := (fl13.r ty11 rfl 6)
                            rw [rq5] at re3
                            refine c_getr (k := 6) C ck_12 dX11_unreadable_162 w2_50 (by decide) ty35 rfl rfl (by decide) rfl re3 ?_
                            refine c_st (st2 := [.ref (sk 15)]) rfl ?_
                            refine c_aload_n (j := 3) (x := a0) C dX11_unreadable_165 rfl ?_
                            refine c_getr (k := 2) C ck_12 dX11_unreadable_166 w2_46 (by decide) ty35 rfl rfl (by decide) rfl rq6 ?_
                            refine c_st (st2 := [.ref (sk 4), .ref (sk 15)]) rfl ?_
                            refine d_callV (As := [.ref (sk 4)]) (rest := []) C hM (G_wwl (a0 := (sk 15)) (a1 := (sk 4)) W15 sk2 ty32 ty31  ) dX11_unreadable_169 kV_X11_399 rfl ty32 rfl rfl (by decide) ck_7 rfl (Nat.le_of_ble_eq_true rfl) ⟨(Nat.le_of_ble_eq_true rfl), (Nat.le_of_ble_eq_true rfl)⟩ hph pl6 (show 0 + 0 = 0 from rfl) (by decide) (fun rh16 Lh16 clh16 lnh16 ivh16 rvh16 h16 => ?_)
                            obtain ⟨rfl, xl16, fl16, W16, exf16⟩ := h16
                            refine hv21 (F14.call X2 fl16 rfl) (MRK.call mr14 W15 sk2 xl16 fl16 rfl rfl) (xl13.ty ty16) (xl13.ty ty17) (xl13.ty ty18) (xl13.ty ty19) (xl13.ty ty20) (xl13.ty ty21) (xl13.ty ty22) (xl13.ty ty23) (xl13.ty ty24) (xl13.ty ty14) (xl13.ty ty25) (xl13.ty ty26) (xl13.ty ty27) (xl13.ty ty28) (xl13.ty ty29) (xl13.ty ty30) (xl13.ty ty15) (X2.trans xl16) (xl16.skl sk2) (fun F15 mr15 ty36 ty37 ty38 ty39 ty40 ty41 ty42 ty43 ty44 ty45 ty46 ty47 ty48 ty49 ty50 ty51 ty52 X3 sk3 => ?_)
                            refine c_st (st2 := []) rfl ?_
                            refine hv4 (show WWQ ivh15 rvh13 ivh16 rvh16 (sk 15) (sk 4) from exf16) (xl16.ty ty31) (xl16.ty ty32) (show ivh16 (sk 15) 4 = ivh15 (sk 15) 4 from fl16.i ty32 rfl 4) (fun gf16 ty53 ty54 ie141 => ?_)
                            refine hv2 (show 0 ≤ ivh16 (sk 4) 2 ∧ ivh16 (sk 4) 2 ≤ 4000 from W16.int ty53 2) (show 0 ≤ ivh16 (sk 15) 4 ∧ ivh16 (sk 15) 4 ≤ 500 from W16.int ty54 4) (fun ri109 ri110 => ?_)
                            refine c_aload_n (j := 3) (x := a0) C dX11_unreadable_172 rfl ?_
                            refine c_aload_n (j := 3) (x := a0) C dX11_unreadable_173 rfl ?_
                            refine hv2 (xl16.ty ty35) (show rvh16 a0 6 = rvh13 a0 6 from (fl16.r ty35 rfl 6)) (fun ty55 re4 => ?_)
                            rw [re3] at re4
                            refine c_getr (k := 6) C ck_12 dX11_unreadable_174 w2_50 (by decide) ty55 rfl rfl (by decide) rfl re4 ?_
                            refine c_st (st2 := [.ref (sk 15), .ref a0]) rfl ?_
                            refine c_get (k := 4) C ck_7 dX11_unreadable_177 w1_142 (by decide) ty54 rfl rfl (by decide) rfl ?_
                            have pl7 := Phi.le W16 sk3
                            refine d_callV (As := [.int (iI (ivh16 (sk 15) 4))]) (rest := []) C hM (C_done (a0 := a0) (x := ivh16 (sk 15) 4) W16 sk3 ty55 (by omega) ) dX11_unreadable_180 kV_X11_109 rfl ty55 rfl rfl (by decide) ck_12 rfl (Nat.le_of_ble_eq_true rfl) ⟨(Nat.le_of_ble_eq_true rfl), (Nat.le_of_ble_eq_true rfl)⟩ hph pl7 (show 0 + 0 = 0 from rfl) (by decide) (fun rh17 Lh17 clh17 lnh17 ivh17 rvh17 h17 => ?_)
                            obtain ⟨f17, rfl, rfl, rfl, rfl, rfl, fl17, W17, rgf17, exf17, kp11f17, kp12f17, kp13f17, kp14f17, kp15f17, kp16f17⟩ := h17
                            refine hv38 (show 1 ≤ ivh16 a0 11 ∧ ivh16 a0 11 ≤ 100 from W16.int ty55 11) (show ivh16 a0 11 = ivh15 a0 11 from fl16.i ty35 rfl 11) (show ivh15 a0 11 = ivh13 a0 11 from fl15.i ty35 rfl 11) (show ivh13 a0 11 = ivh11 a0 11 from fl13.i ty11 rfl 11) (show ivh11 a0 11 = ivh10 a0 11 from fl11.i ty11 rfl 11) (show ivh10 a0 11 = ivb1 a0 11 from fl10.i ty11 rfl 11) (show 1 ≤ ivh16 a0 12 ∧ ivh16 a0 12 ≤ 50 from W16.int ty55 12) (show ivh16 a0 12 = ivh15 a0 12 from fl16.i ty35 rfl 12) (show ivh15 a0 12 = ivh13 a0 12 from fl15.i ty35 rfl 12) (show ivh13 a0 12 = ivh11 a0 12 from fl13.i ty11 rfl 12) (show ivh11 a0 12 = ivh10 a0 12 from fl11.i ty11 rfl 12) (show ivh10 a0 12 = ivb1 a0 12 from fl10.i ty11 rfl 12) (show (-2147483648) ≤ ivh16 a0 13 ∧ ivh16 a0 13 ≤ 2147483647 from W16.int ty55 13) (show ivh16 a0 13 = ivh15 a0 13 from fl16.i ty35 rfl 13) (show ivh15 a0 13 = ivh13 a0 13 from fl15.i ty35 rfl 13) (show ivh13 a0 13 = ivh11 a0 13 from fl13.i ty11 rfl 13) (show ivh11 a0 13 = ivh10 a0 13 from fl11.i ty11 rfl 13) (show ivh10 a0 13 = ivb1 a0 13 from fl10.i ty11 rfl 13) (show (-2147483648) ≤ ivh16 a0 14 ∧ ivh16 a0 14 ≤ 2147483647 from W16.int ty55 14) (show ivh16 a0 14 = ivh15 a0 14 from fl16.i ty35 rfl 14) (show ivh15 a0 14 = ivh13 a0 14 from fl15.i ty35 rfl 14) (show ivh13 a0 14 = ivh11 a0 14 from fl13.i ty11 rfl 14) (show ivh11 a0 14 = ivh10 a0 14 from fl11.i ty11 rfl 14) (show ivh10 a0 14 = ivb1 a0 14 from fl10.i ty11 rfl 14) (show (-2147483648) ≤ ivh16 a0 15 ∧ ivh16 a0 15 ≤ 2147483647 from W16.int ty55 15) (show ivh16 a0 15 = ivh15 a0 15 from fl16.i ty35 rfl 15) (show ivh15 a0 15 = ivh13 a0 15 from fl15.i ty35 rfl 15) (show ivh13 a0 15 = ivh11 a0 15 from fl13.i ty11 rfl 15) (show ivh11 a0 15 = ivh10 a0 15 from fl11.i ty11 rfl 15) (show ivh10 a0 15 = ivb1 a0 15 from fl10.i ty11 rfl 15) (show (-2147483648) ≤ ivh16 a0 16 ∧ ivh16 a0 16 ≤ 2147483647 from W16.int ty55 16) (show ivh16 a0 16 = ivh15 a0 16 from fl16.i ty35 rfl 16) (show ivh15 a0 16 = ivh13 a0 16 from fl15.i ty35 rfl 16) (show ivh13 a0 16 = ivh11 a0 16 from fl13.i ty11 rfl 16) (show ivh11 a0 16 = ivh10 a0 16 from fl11.i ty11 rfl 16) (show ivh10 a0 16 = ivb1 a0 16 from fl10.i ty11 rfl 16) (F15.call X3 fl17 rfl) (MRK.call mr15 W16 sk3 XT.refl fl17 rfl rfl) (fun ri111 ie142 ie143 ie144 ie145 ie146 ri112 ie148 ie149 ie150 ie151 ie152 ri113 ie154 ie155 ie156 ie157 ie158 ri114 ie160 ie161 ie162 ie163 ie164 ri115 ie166 ie167 ie168 ie169 ie170 ri116 ie172 ie173 ie174 ie175 ie176 F16 mr16 => ?_)
                            refine c_st (st2 := [.int (iI f17)]) rfl ?_
                            refine hv17 (show ivh17 a0 11 = ivh16 a0 11 from kp11f17) (show ivh17 a0 12 = ivh16 a0 12 from kp12f17) (show ivh17 a0 13 = ivh16 a0 13 from kp13f17) (show ivh17 a0 14 = ivh16 a0 14 from kp14f17) (show ivh17 a0 15 = ivh16 a0 15 from kp15f17) (show ivh17 a0 16 = ivh16 a0 16 from kp16f17) (show f17 = (ivh16 (sk 15) 4) from exf17) (show 1 ≤ ivh17 a0 11 ∧ ivh17 a0 11 ≤ 100 from W17.int ty55 11) (show 1 ≤ ivh17 a0 12 ∧ ivh17 a0 12 ≤ 50 from W17.int ty55 12) (show (-2147483648) ≤ ivh17 a0 13 ∧ ivh17 a0 13 ≤ 2147483647 from W17.int ty55 13) (show (-2147483648) ≤ ivh17 a0 14 ∧ ivh17 a0 14 ≤ 2147483647 from W17.int ty55 14) (show (-2147483648) ≤ ivh17 a0 15 ∧ ivh17 a0 15 ≤ 2147483647 from W17.int ty55 15) (show (-2147483648) ≤ ivh17 a0 16 ∧ ivh17 a0 16 ≤ 2147483647 from W17.int ty55 16) (show 0 ≤ ivh17 (sk 4) 2 ∧ ivh17 (sk 4) 2 ≤ 4000 from W17.int ty53 2) (show ivh17 (sk 4) 2 = ivh16 (sk 4) 2 from fl17.i ty53 rfl 2) (show 0 ≤ ivh17 (sk 15) 4 ∧ ivh17 (sk 15) 4 ≤ 500 from W17.int ty54 4) (show ivh17 (sk 15) 4 = ivh16 (sk 15) 4 from fl17.i ty54 rfl 4) (fun gk11f17 gk12f17 gk13f17 gk14f17 gk15f17 gk16f17 gf17 ri117 ri118 ri119 ri120 ri121 ri122 ri123 ie184 ri124 ie185 => ?_)
                            exact c_iret C dX11_unreadable_183 rfl (by decide) (rom0 hph pl7 (by decide)) ⟨f17, rfl, X3, F16, W17, ⟨by omega, by omega⟩, trivial, (gk11f17.trans (ie142.trans (ie143.trans (ie144.trans (ie145.trans (ie146.trans hkp11)))))), (gk12f17.trans (ie148.trans (ie149.trans (ie150.trans (ie151.trans (ie152.trans hkp12)))))), (gk13f17.trans (ie154.trans (ie155.trans (ie156.trans (ie157.trans (ie158.trans hkp13)))))), (gk14f17.trans (ie160.trans (ie161.trans (ie162.trans (ie163.trans (ie164.trans hkp14)))))), (gk15f17.trans (ie166.trans (ie167.trans (ie168.trans (ie169.trans (ie170.trans hkp15)))))), (gk16f17.trans (ie172.trans (ie173.trans (ie174.trans (ie175.trans (ie176.trans hkp16)))))), (PUR.found wkob1 ⟨⟨by omega, by omega⟩, by omega, by omega⟩ ug9 ⟨by omega, by omega⟩ (by omega) gf16 (by omega) (by omega) (fun ss hc => (CT.fr hc W16 ty53 fl17 rfl rfl rfl rfl rfl))), (Eq.trans (show rvh16 a0 9 = rvh13 a0 9 from (fl16.r ty35 rfl 9)) (Eq.trans (show rvh13 a0 9 = rvb1 a0 9 from (fl13.r ty11 rfl 9)) (show rvb1 a0 9 = rv a0 9 from hkr9))), (Eq.trans (show rvh16 a0 10 = rvh13 a0 10 from (fl16.r ty35 rfl 10)) (Eq.trans (show rvh13 a0 10 = rvb1 a0 10 from (fl13.r ty11 rfl 10)) (show rvb1 a0 10 = rv a0 10 from hkr10)))⟩
                      · refine c_aload_n (j := 3) (x := a0) C dX11_unreadable_117 rfl ?_
                        refine c_bipush (z := 8) C dX11_unreadable_118 (by decide) ?_
                        refine hv2 (Xb1.ty t_a0) (Phi.le Wb1 skb1) (fun ty56 pl8 => ?_)
                        refine d_callV (As := [.int (iI 8)]) (rest := []) C hM (C_refuse (a0 := a0) (x := 8) Wb1 skb1 ty56 ⟨by decide, by decide⟩ ) dX11_unreadable_120 kV_X11_102 rfl ty56 rfl rfl (by decide) ck_12 rfl (Nat.le_of_ble_eq_true rfl) ⟨(Nat.le_of_ble_eq_true rfl), (Nat.le_of_ble_eq_true rfl)⟩ hph pl8 (show 0 + 0 = 0 from rfl) (by decide) (fun rh18 Lh18 clh18 lnh18 ivh18 rvh18 h18 => ?_)
                        obtain ⟨f18, rfl, rfl, rfl, rfl, rfl, fl18, W18, rgf18, exf18, kp11f18, kp12f18, kp13f18, kp14f18, kp15f18, kp16f18⟩ := h18
                        refine hv8 (show 1 ≤ ivb1 a0 11 ∧ ivb1 a0 11 ≤ 100 from Wb1.int ty56 11) (show 1 ≤ ivb1 a0 12 ∧ ivb1 a0 12 ≤ 50 from Wb1.int ty56 12) (show (-2147483648) ≤ ivb1 a0 13 ∧ ivb1 a0 13 ≤ 2147483647 from Wb1.int ty56 13) (show (-2147483648) ≤ ivb1 a0 14 ∧ ivb1 a0 14 ≤ 2147483647 from Wb1.int ty56 14) (show (-2147483648) ≤ ivb1 a0 15 ∧ ivb1 a0 15 ≤ 2147483647 from Wb1.int ty56 15) (show (-2147483648) ≤ ivb1 a0 16 ∧ ivb1 a0 16 ≤ 2147483647 from Wb1.int ty56 16) (Fb1.call Xb1 fl18 rfl) (MRK.call mrb1 Wb1 skb1 XT.refl fl18 rfl rfl) (fun ri125 ri126 ri127 ri128 ri129 ri130 F17 mr17 => ?_)
                        refine c_st (st2 := [.int (iI f18)]) rfl ?_
                        refine hv15 (show ivh18 a0 11 = ivb1 a0 11 from kp11f18) (show ivh18 a0 12 = ivb1 a0 12 from kp12f18) (show ivh18 a0 13 = ivb1 a0 13 from kp13f18) (show ivh18 a0 14 = ivb1 a0 14 from kp14f18) (show ivh18 a0 15 = ivb1 a0 15 from kp15f18) (show ivh18 a0 16 = ivb1 a0 16 from kp16f18) (show f18 = -1 from exf18) (show 1 ≤ ivh18 a0 11 ∧ ivh18 a0 11 ≤ 100 from W18.int ty56 11) (show 1 ≤ ivh18 a0 12 ∧ ivh18 a0 12 ≤ 50 from W18.int ty56 12) (show (-2147483648) ≤ ivh18 a0 13 ∧ ivh18 a0 13 ≤ 2147483647 from W18.int ty56 13) (show (-2147483648) ≤ ivh18 a0 14 ∧ ivh18 a0 14 ≤ 2147483647 from W18.int ty56 14) (show (-2147483648) ≤ ivh18 a0 15 ∧ ivh18 a0 15 ≤ 2147483647 from W18.int ty56 15) (show (-2147483648) ≤ ivh18 a0 16 ∧ ivh18 a0 16 ≤ 2147483647 from W18.int ty56 16) (Xb1.ty tsk4) (Xb1.ty tsk15) (fun gk11f18 gk12f18 gk13f18 gk14f18 gk15f18 gk16f18 gf18 ri131 ri132 ri133 ri134 ri135 ri136 ty57 ty58 => ?_)
                        refine hv4 (show 0 ≤ ivh18 (sk 4) 2 ∧ ivh18 (sk 4) 2 ≤ 4000 from W18.int ty57 2) (show ivh18 (sk 4) 2 = ivb1 (sk 4) 2 from fl18.i ty57 rfl 2) (show 0 ≤ ivh18 (sk 15) 4 ∧ ivh18 (sk 15) 4 ≤ 500 from W18.int ty58 4) (show ivh18 (sk 15) 4 = ivb1 (sk 15) 4 from fl18.i ty58 rfl 4) (fun ri137 ie198 ri138 ie200 => ?_)
                        exact c_iret C dX11_unreadable_123 rfl (by decide) (rom0 hph pl8 (by decide)) ⟨f18, rfl, Xb1, F17, W18, ⟨by omega, by omega⟩, trivial, (gk11f18.trans hkp11), (gk12f18.trans hkp12), (gk13f18.trans hkp13), (gk14f18.trans hkp14), (gk15f18.trans hkp15), (gk16f18.trans hkp16), (PUR.spent wkob1 ⟨⟨by omega, by omega⟩, by omega, by omega⟩ hU9 (by omega) (by omega) (by omega) ⟨by omega, fun ss hs => (CT.fr (hC4 ss hs) Wb1 ty57 fl18 rfl rfl rfl rfl rfl)⟩), (show rvb1 a0 9 = rv a0 9 from hkr9), (show rvb1 a0 10 = rv a0 10 from hkr10)⟩
              refine hv28 (xl5.ty tsk4) (show ivh5 (sk 4) 2 = iv (sk 4) 2 from fl5.i tsk4 rfl 2) (show 1 ≤ ivh7 a0 11 ∧ ivh7 a0 11 ≤ 100 from W7.int ty2 11) (show ivh7 a0 11 = ivh6 a0 11 from fl7.i ty2 rfl 11) (show ivh6 a0 11 = ivh5 a0 11 from fl6.i ty2 rfl 11) (show ivh5 a0 11 = iv a0 11 from fl5.i t_a0 rfl 11) (show 1 ≤ ivh7 a0 12 ∧ ivh7 a0 12 ≤ 50 from W7.int ty2 12) (show ivh7 a0 12 = ivh6 a0 12 from fl7.i ty2 rfl 12) (show ivh6 a0 12 = ivh5 a0 12 from fl6.i ty2 rfl 12) (show ivh5 a0 12 = iv a0 12 from fl5.i t_a0 rfl 12) (show (-2147483648) ≤ ivh7 a0 13 ∧ ivh7 a0 13 ≤ 2147483647 from W7.int ty2 13) (show ivh7 a0 13 = ivh6 a0 13 from fl7.i ty2 rfl 13) (show ivh6 a0 13 = ivh5 a0 13 from fl6.i ty2 rfl 13) (show ivh5 a0 13 = iv a0 13 from fl5.i t_a0 rfl 13) (show (-2147483648) ≤ ivh7 a0 14 ∧ ivh7 a0 14 ≤ 2147483647 from W7.int ty2 14) (show ivh7 a0 14 = ivh6 a0 14 from fl7.i ty2 rfl 14) (show ivh6 a0 14 = ivh5 a0 14 from fl6.i ty2 rfl 14) (show ivh5 a0 14 = iv a0 14 from fl5.i t_a0 rfl 14) (show (-2147483648) ≤ ivh7 a0 15 ∧ ivh7 a0 15 ≤ 2147483647 from W7.int ty2 15) (show ivh7 a0 15 = ivh6 a0 15 from fl7.i ty2 rfl 15) (show ivh6 a0 15 = ivh5 a0 15 from fl6.i ty2 rfl 15) (show ivh5 a0 15 = iv a0 15 from fl5.i t_a0 rfl 15) (show (-2147483648) ≤ ivh7 a0 16 ∧ ivh7 a0 16 ≤ 2147483647 from W7.int ty2 16) (show ivh7 a0 16 = ivh6 a0 16 from fl7.i ty2 rfl 16) (show ivh6 a0 16 = ivh5 a0 16 from fl6.i ty2 rfl 16) (show ivh5 a0 16 = iv a0 16 from fl5.i t_a0 rfl 16) (xl5.ty tsk15) (show ivh5 (sk 15) 4 = iv (sk 15) 4 from fl5.i tsk15 rfl 4) (fun ty59 ie204 ri140 ie205 ie206 ie207 ri141 ie208 ie209 ie210 ri142 ie211 ie212 ie213 ri143 ie214 ie215 ie216 ri144 ie217 ie218 ie219 ri145 ie220 ie221 ie222 ty60 ie225 => ?_)
              refine hv6 (show 0 ≤ ivh7 (sk 4) 2 ∧ ivh7 (sk 4) 2 ≤ 4000 from W7.int ty59 2) (show ivh7 (sk 4) 2 = ivh6 (sk 4) 2 from fl7.i ty59 rfl 2) (show ivh6 (sk 4) 2 = ivh5 (sk 4) 2 from fl6.i ty59 rfl 2) (show 0 ≤ ivh7 (sk 15) 4 ∧ ivh7 (sk 15) 4 ≤ 500 from W7.int ty60 4) (show ivh7 (sk 15) 4 = ivh6 (sk 15) 4 from fl7.i ty60 rfl 4) (show ivh6 (sk 15) 4 = ivh5 (sk 15) 4 from fl6.i ty60 rfl 4) (fun ri139 ie202 ie203 ri146 ie223 ie224 => ?_)
              refine c_lv (lv2 := [(5, .int (iI f7)), (6, .int (iI 0)), (4, .ref ob1), (0, .ref a0), (1, .int (iI i)), (2, .int (iI n)), (3, .int (iI lim))]) [1, 0, 2, 3, 4, 5, 6] rfl ?_
              exact Lp1 5004 f7 0 _ _ _ _ _ (by omega) X1 W7 F6  (by omega) (by omega) (by omega) (ie202.trans (ie203.trans ie204)) (fun ss hs => (CT.fr (CT.fr (CT.fr hs hW tsk4 fl5 rfl rfl rfl rfl rfl) W5 ty59 fl6 rfl rfl rfl rfl rfl) W6 ty59 fl7 rfl rfl rfl rfl rfl)) us9 (ie205.trans (ie206.trans ie207)) (ie208.trans (ie209.trans ie210)) (ie211.trans (ie212.trans ie213)) (ie214.trans (ie215.trans ie216)) (ie217.trans (ie218.trans ie219)) (ie220.trans (ie221.trans ie222)) (show rvh5 a0 9 = rv a0 9 from (fl5.r t_a0 rfl 9)) (show rvh5 a0 10 = rv a0 10 from (fl5.r t_a0 rfl 10))
            · refine c_iconst C dX11_unreadable_77 ?_
              refine c_goto (tgt := 82) C dX11_unreadable_78 (by decide) ?_
              refine hv4 (xl5.ty tsk14) (xl5.ty tsk16) (show ivh5 (sk 14) 7 = iv (sk 14) 7 from fl5.i tsk14 rfl 7) (Phi.le W5 sk1) (fun ty61 ty62 ie226 pl9 => ?_)
              have ri147 : 0 ≤ ivh5 (sk 14) 7 ∧ ivh5 (sk 14) 7 ≤ 6 := W5.int ty61 7
              refine d_callV (As := [.ref (sk 16), .int (iI 1)]) (rest := []) C hM (G_gatherAlphabet (a0 := (sk 14)) (a1 := (sk 16)) (g := 1) W5 sk1 ty61 ty62 ⟨by decide, by decide⟩ ) dX11_unreadable_82 kV_X11_385 rfl ty61 rfl rfl (by decide) ck_9 rfl (Nat.le_of_ble_eq_true rfl) ⟨(Nat.le_of_ble_eq_true rfl), (Nat.le_of_ble_eq_true rfl)⟩ hph pl9 (show 0 + 0 = 0 from rfl) (by decide) (fun rh19 Lh19 clh19 lnh19 ivh19 rvh19 h19 => ?_)
              obtain ⟨rfl, rfl, rfl, rfl, rfl, fl19, W19, exf19⟩ := h19
              refine hv2 (F4.call X1 fl19 rfl) (MRK.call mr4 W5 sk1 XT.refl fl19 rfl rfl) (fun F18 mr18 => ?_)
              refine c_st (st2 := []) rfl ?_
              refine hv2 (show 0 ≤ ivh19 (sk 14) 7 ∧ ivh19 (sk 14) 7 ≤ 6 from W19.int ty61 7) (show ivh19 (sk 14) 7 = ivh5 (sk 14) 7 ∧ GAX Lh5 clh5 lnh5 ivh5 rvh5 ivh19 (sk 14) (sk 24) (sk 25) (1 : Int) from exf19) (fun ri148 gf19 => ?_)
              refine c_aload_n (j := 1) (x := a0) C dX11_unreadable_85 rfl ?_
              refine c_getr (k := 5) C ck_12 dX11_unreadable_86 w2_49 (by decide) ty2 rfl rfl (by decide) rfl rq3 ?_
              refine c_st (st2 := [.ref (sk 14)]) rfl ?_
              refine c_iload_n (j := 3) C dX11_unreadable_89 rfl ?_
              have ri149 : 0 ≤ ivh19 (sk 14) 5 ∧ ivh19 (sk 14) 5 ≤ 126 := W19.int ty61 5
              refine d_callV (As := [.int (iI n)]) (rest := []) C hM (G_startSpelling (a0 := (sk 14)) (n := n) W19 sk1 ty61 (by omega) ) dX11_unreadable_90 kV_X11_389 rfl ty61 rfl rfl (by decide) ck_9 rfl (Nat.le_of_ble_eq_true rfl) ⟨(Nat.le_of_ble_eq_true rfl), (Nat.le_of_ble_eq_true rfl)⟩ hph pl9 (show 0 + 0 = 0 from rfl) (by decide) (fun rh20 Lh20 clh20 lnh20 ivh20 rvh20 h20 => ?_)
              obtain ⟨f20, rfl, rfl, rfl, rfl, rfl, fl20, W20, rgf20, exf20⟩ := h20
              refine hv2 (F18.call X1 fl20 rfl) (MRK.call mr18 W19 sk1 XT.refl fl20 rfl rfl) (fun F19 mr19 => ?_)
              refine c_st (st2 := [.int (iI f20)]) rfl ?_
              refine hv2 (show 0 ≤ ivh20 (sk 14) 5 ∧ ivh20 (sk 14) 5 ≤ 126 from W20.int ty61 5) (show ivh20 (sk 14) 5 = ivh19 (sk 14) 5 ∧ STXU ivh19 rvh5 ivh20 (sk 14) n f20 from exf20) (fun ri150 gf20 => ?_)
              have us9 := URS.init (t := i) gaxf5 gbxf5 W5 sk1 gf19.2 (by omega) fl19 (QT.of W5 sk1 XT.refl fl19 rfl rfl rfl rfl rfl) W19 rfl rfl rfl rfl rfl rfl rfl rfl fl20 (QT.of W19 sk1 XT.refl fl20 rfl rfl rfl rfl rfl) rfl rfl rfl rfl rfl rfl rfl rfl rfl gf20 (by omega) rfl
              refine c_istore (lv2 := [(5, .int (iI f20)), (4, .ref ob1), (0, .ref a0), (1, .int (iI i)), (2, .int (iI n)), (3, .int (iI lim))]) C dX11_unreadable_93 (by decide) rfl ?_
              refine c_iconst C dX11_unreadable_95 ?_
              refine c_istore (lv2 := [(6, .int (iI 0)), (5, .int (iI f20)), (4, .ref ob1), (0, .ref a0), (1, .int (iI i)), (2, .int (iI n)), (3, .int (iI lim))]) C dX11_unreadable_96 (by decide) rfl ?_
              have Lp2 : ∀ (nn : Nat) (ok k : Int) (Lb2 : List Nat) (clb2 lnb2 : Nat → Nat) (ivb2 : Nat → Nat → Int) (rvb2 : Nat → Nat → Option Nat) , 5002 - k < (nn : Int) → XT L cl ln Lb2 clb2 lnb2 → WT (g0 G) sk Lb2 clb2 lnb2 ivb2 rvb2 → fT [1, 4, 34, 14, 56, 57, 58, 15, 50, 51, 52, 53, 54, 55, 8, 38, 9, 39, 16, 10, 40, 24, 1002, 25, 1003, 6, 36, 7, 37] L cl iv rv ivb2 rvb2 → (ok = 0 ∨ ok = 1) → (0 ≤ k ∧ k ≤ 5001) → (k ≤ lim) → (ivb2 (sk 4) 2 = iv (sk 4) 2) → (∀ ss, CT iv rv (sk 4) ss → CT ivb2 rvb2 (sk 4) ss) → (URS sk ln iv rv ob1 Lb2 clb2 lnb2 ivb2 rvb2 i n ok k) → (ivb2 a0 11 = iv a0 11) → (ivb2 a0 12 = iv a0 12) → (ivb2 a0 13 = iv a0 13) → (ivb2 a0 14 = iv a0 14) → (ivb2 a0 15 = iv a0 15) → (ivb2 a0 16 = iv a0 16) → (rvb2 a0 9 = rv a0 9) → (rvb2 a0 10 = rv a0 10) → cw p l e 10 ((PHM) + 0 - ((Phi (g0 G) sk) ln rv)) s m args below meth c G A 7 (MQ below (Qu G A (Qp G (Phi (g0 G) sk) ((Phi (g0 G) sk) ln rv) 0 (fun v L2 cl2 ln2 iv2 rv2 => ∃ f : Int, v = some (.int (iI f)) ∧ XT L cl ln L2 cl2 ln2 ∧ fT [1, 4, 34, 14, 56, 57, 58, 15, 50, 51, 52, 53, 54, 55, 8, 38, 9, 39, 16, 10, 40, 24, 1002, 25, 1003, 6, 36, 7, 37] L cl iv rv iv2 rv2 ∧ WT (g0 G) sk L2 cl2 ln2 iv2 rv2 ∧ (-2147483648 ≤ f ∧ f ≤ 2147483647) ∧ (True) ∧ iv2 a0 11 = iv a0 11 ∧ iv2 a0 12 = iv a0 12 ∧ iv2 a0 13 = iv a0 13 ∧ iv2 a0 14 = iv a0 14 ∧ iv2 a0 15 = iv a0 15 ∧ iv2 a0 16 = iv a0 16 ∧ (PUR sk ln iv rv iv2 rv2 i n lim f) ∧ rv2 a0 9 = rv a0 9 ∧ rv2 a0 10 = rv a0 10))) args s (((PHM) + 0 - ((Phi (g0 G) sk) ln rv)) / 16) ((PHM) + 0 - ((Phi (g0 G) sk) ln rv)) A) (Phi (g0 G) sk) ((Phi (g0 G) sk) ln rv) Lb2 clb2 lnb2 ivb2 rvb2 0 98 [(5, .int (iI ok)), (6, .int (iI k)), (4, .ref ob1), (0, .ref a0), (1, .int (iI i)), (2, .int (iI n)), (3, .int (iI lim))] [] := by
                intro nn
                induction nn with
                | zero =>
                  intro  ok k Lb2 clb2 lnb2 ivb2 rvb2 hm Xb2 Wb2 Fb2  hok hk hkm h4s hC4 hU9 hkp11 hkp12 hkp13 hkp14 hkp15 hkp16 hkr9 hkr10
                  have skb2 := Xb2.skl hS
                  exact absurd hm (by omega)
                | succ nn ih2 =>
                  intro  ok k Lb2 clb2 lnb2 ivb2 rvb2 hm Xb2 Wb2 Fb2  hok hk hkm h4s hC4 hU9 hkp11 hkp12 hkp13 hkp14 hkp15 hkp16 hkr9 hkr10
                  refine hv2 (Xb2.skl hS) (MRK.call hmr hW hS Xb2 Fb2 rfl rfl) (fun skb2 mrb2 => ?_)
                  refine c_iload (j := 0) C dX11_unreadable_98 rfl ?_
                  refine c_if_eq (tgt := 200) C (r32_01 hok) dX11_unreadable_100 (by decide) (fun c11 => ?_) (fun c11 => ?_)
                  · clear hok
                    refine c_aload_n (j := 3) (x := a0) C dX11_unreadable_200 rfl ?_
                    refine c_iconst C dX11_unreadable_201 ?_
                    refine hv2 (Xb2.ty t_a0) (Phi.le Wb2 skb2) (fun ty63 pl10 => ?_)
                    refine d_callV (As := [.int (iI 0)]) (rest := []) C hM (C_done (a0 := a0) (x := 0) Wb2 skb2 ty63 ⟨by decide, by decide⟩ ) dX11_unreadable_202 kV_X11_109 rfl ty63 rfl rfl (by decide) ck_12 rfl (Nat.le_of_ble_eq_true rfl) ⟨(Nat.le_of_ble_eq_true rfl), (Nat.le_of_ble_eq_true rfl)⟩ hph pl10 (show 0 + 0 = 0 from rfl) (by decide) (fun rh21 Lh21 clh21 lnh21 ivh21 rvh21 h21 => ?_)
                    obtain ⟨f21, rfl, rfl, rfl, rfl, rfl, fl21, W21, rgf21, exf21, kp11f21, kp12f21, kp13f21, kp14f21, kp15f21, kp16f21⟩ := h21
                    refine hv8 (show 1 ≤ ivb2 a0 11 ∧ ivb2 a0 11 ≤ 100 from Wb2.int ty63 11) (show 1 ≤ ivb2 a0 12 ∧ ivb2 a0 12 ≤ 50 from Wb2.int ty63 12) (show (-2147483648) ≤ ivb2 a0 13 ∧ ivb2 a0 13 ≤ 2147483647 from Wb2.int ty63 13) (show (-2147483648) ≤ ivb2 a0 14 ∧ ivb2 a0 14 ≤ 2147483647 from Wb2.int ty63 14) (show (-2147483648) ≤ ivb2 a0 15 ∧ ivb2 a0 15 ≤ 2147483647 from Wb2.int ty63 15) (show (-2147483648) ≤ ivb2 a0 16 ∧ ivb2 a0 16 ≤ 2147483647 from Wb2.int ty63 16) (Fb2.call Xb2 fl21 rfl) (MRK.call mrb2 Wb2 skb2 XT.refl fl21 rfl rfl) (fun ri151 ri152 ri153 ri154 ri155 ri156 F20 mr20 => ?_)
                    refine c_st (st2 := [.int (iI f21)]) rfl ?_
                    refine hv15 (show ivh21 a0 11 = ivb2 a0 11 from kp11f21) (show ivh21 a0 12 = ivb2 a0 12 from kp12f21) (show ivh21 a0 13 = ivb2 a0 13 from kp13f21) (show ivh21 a0 14 = ivb2 a0 14 from kp14f21) (show ivh21 a0 15 = ivb2 a0 15 from kp15f21) (show ivh21 a0 16 = ivb2 a0 16 from kp16f21) (show f21 = (0 : Int) from exf21) (show 1 ≤ ivh21 a0 11 ∧ ivh21 a0 11 ≤ 100 from W21.int ty63 11) (show 1 ≤ ivh21 a0 12 ∧ ivh21 a0 12 ≤ 50 from W21.int ty63 12) (show (-2147483648) ≤ ivh21 a0 13 ∧ ivh21 a0 13 ≤ 2147483647 from W21.int ty63 13) (show (-2147483648) ≤ ivh21 a0 14 ∧ ivh21 a0 14 ≤ 2147483647 from W21.int ty63 14) (show (-2147483648) ≤ ivh21 a0 15 ∧ ivh21 a0 15 ≤ 2147483647 from W21.int ty63 15) (show (-2147483648) ≤ ivh21 a0 16 ∧ ivh21 a0 16 ≤ 2147483647 from W21.int ty63 16) (Xb2.ty tsk4) (Xb2.ty tsk15) (fun gk11f21 gk12f21 gk13f21 gk14f21 gk15f21 gk16f21 gf21 ri157 ri158 ri159 ri160 ri161 ri162 ty64 ty65 => ?_)
                    refine hv4 (show 0 ≤ ivh21 (sk 4) 2 ∧ ivh21 (sk 4) 2 ≤ 4000 from W21.int ty64 2) (show ivh21 (sk 4) 2 = ivb2 (sk 4) 2 from fl21.i ty64 rfl 2) (show 0 ≤ ivh21 (sk 15) 4 ∧ ivh21 (sk 15) 4 ≤ 500 from W21.int ty65 4) (show ivh21 (sk 15) 4 = ivb2 (sk 15) 4 from fl21.i ty65 rfl 4) (fun ri163 ie242 ri164 ie244 => ?_)
                    exact c_iret C dX11_unreadable_205 rfl (by decide) (rom0 hph pl10 (by decide)) ⟨f21, rfl, Xb2, F20, W21, ⟨by omega, by omega⟩, trivial, (gk11f21.trans hkp11), (gk12f21.trans hkp12), (gk13f21.trans hkp13), (gk14f21.trans hkp14), (gk15f21.trans hkp15), (gk16f21.trans hkp16), (PUR.exh wkob1 ⟨⟨by omega, by omega⟩, by omega, by omega⟩ hU9 (by omega) ⟨by omega, by omega⟩ (by omega) ⟨by omega, fun ss hs => (CT.fr (hC4 ss hs) Wb2 ty64 fl21 rfl rfl rfl rfl rfl)⟩), (show rvb2 a0 9 = rv a0 9 from hkr9), (show rvb2 a0 10 = rv a0 10 from hkr10)⟩
                  · replace hok := (hok.resolve_left c11)
                    refine c_iload (j := 1) C dX11_unreadable_103 rfl ?_
                    refine c_sipush (z := 5000) C dX11_unreadable_105 (by decide) ?_
                    refine c_icmp_gt (tgt := 200) C (r32_c (lo := 0) (hi := 5001) hk.1 hk.2 (by decide) (by decide)) ⟨by decide, by decide⟩ dX11_unreadable_108 (by decide) (fun c12 => ?_) (fun c12 => ?_)
                    · refine c_aload_n (j := 3) (x := a0) C dX11_unreadable_200 rfl ?_
                      refine c_iconst C dX11_unreadable_201 ?_
                      refine hv2 (Xb2.ty t_a0) (Phi.le Wb2 skb2) (fun ty66 pl11 => ?_)
                      refine d_callV (As := [.int (iI 0)]) (rest := []) C hM (C_done (a0 := a0) (x := 0) Wb2 skb2 ty66 ⟨by decide, by decide⟩ ) dX11_unreadable_202 kV_X11_109 rfl ty66 rfl rfl (by decide) ck_12 rfl (Nat.le_of_ble_eq_true rfl) ⟨(Nat.le_of_ble_eq_true rfl), (Nat.le_of_ble_eq_true rfl)⟩ hph pl11 (show 0 + 0 = 0 from rfl) (by decide) (fun rh22 Lh22 clh22 lnh22 ivh22 rvh22 h22 => ?_)
                      obtain ⟨f22, rfl, rfl, rfl, rfl, rfl, fl22, W22, rgf22, exf22, kp11f22, kp12f22, kp13f22, kp14f22, kp15f22, kp16f22⟩ := h22
                      refine hv8 (show 1 ≤ ivb2 a0 11 ∧ ivb2 a0 11 ≤ 100 from Wb2.int ty66 11) (show 1 ≤ ivb2 a0 12 ∧ ivb2 a0 12 ≤ 50 from Wb2.int ty66 12) (show (-2147483648) ≤ ivb2 a0 13 ∧ ivb2 a0 13 ≤ 2147483647 from Wb2.int ty66 13) (show (-2147483648) ≤ ivb2 a0 14 ∧ ivb2 a0 14 ≤ 2147483647 from Wb2.int ty66 14) (show (-2147483648) ≤ ivb2 a0 15 ∧ ivb2 a0 15 ≤ 2147483647 from Wb2.int ty66 15) (show (-2147483648) ≤ ivb2 a0 16 ∧ ivb2 a0 16 ≤ 2147483647 from Wb2.int ty66 16) (Fb2.call Xb2 fl22 rfl) (MRK.call mrb2 Wb2 skb2 XT.refl fl22 rfl rfl) (fun ri165 ri166 ri167 ri168 ri169 ri170 F21 mr21 => ?_)
                      refine c_st (st2 := [.int (iI f22)]) rfl ?_
                      refine hv15 (show ivh22 a0 11 = ivb2 a0 11 from kp11f22) (show ivh22 a0 12 = ivb2 a0 12 from kp12f22) (show ivh22 a0 13 = ivb2 a0 13 from kp13f22) (show ivh22 a0 14 = ivb2 a0 14 from kp14f22) (show ivh22 a0 15 = ivb2 a0 15 from kp15f22) (show ivh22 a0 16 = ivb2 a0 16 from kp16f22) (show f22 = (0 : Int) from exf22) (show 1 ≤ ivh22 a0 11 ∧ ivh22 a0 11 ≤ 100 from W22.int ty66 11) (show 1 ≤ ivh22 a0 12 ∧ ivh22 a0 12 ≤ 50 from W22.int ty66 12) (show (-2147483648) ≤ ivh22 a0 13 ∧ ivh22 a0 13 ≤ 2147483647 from W22.int ty66 13) (show (-2147483648) ≤ ivh22 a0 14 ∧ ivh22 a0 14 ≤ 2147483647 from W22.int ty66 14) (show (-2147483648) ≤ ivh22 a0 15 ∧ ivh22 a0 15 ≤ 2147483647 from W22.int ty66 15) (show (-2147483648) ≤ ivh22 a0 16 ∧ ivh22 a0 16 ≤ 2147483647 from W22.int ty66 16) (Xb2.ty tsk4) (Xb2.ty tsk15) (fun gk11f22 gk12f22 gk13f22 gk14f22 gk15f22 gk16f22 gf22 ri171 ri172 ri173 ri174 ri175 ri176 ty67 ty68 => ?_)
                      refine hv4 (show 0 ≤ ivh22 (sk 4) 2 ∧ ivh22 (sk 4) 2 ≤ 4000 from W22.int ty67 2) (show ivh22 (sk 4) 2 = ivb2 (sk 4) 2 from fl22.i ty67 rfl 2) (show 0 ≤ ivh22 (sk 15) 4 ∧ ivh22 (sk 15) 4 ≤ 500 from W22.int ty68 4) (show ivh22 (sk 15) 4 = ivb2 (sk 15) 4 from fl22.i ty68 rfl 4) (fun ri177 ie258 ri178 ie260 => ?_)
                      exact c_iret C dX11_unreadable_205 rfl (by decide) (rom0 hph pl11 (by decide)) ⟨f22, rfl, Xb2, F21, W22, ⟨by omega, by omega⟩, trivial, (gk11f22.trans hkp11), (gk12f22.trans hkp12), (gk13f22.trans hkp13), (gk14f22.trans hkp14), (gk15f22.trans hkp15), (gk16f22.trans hkp16), (PUR.exh wkob1 ⟨⟨by omega, by omega⟩, by omega, by omega⟩ hU9 (by omega) ⟨by omega, by omega⟩ (by omega) ⟨by omega, fun ss hs => (CT.fr (hC4 ss hs) Wb2 ty67 fl22 rfl rfl rfl rfl rfl)⟩), (show rvb2 a0 9 = rv a0 9 from hkr9), (show rvb2 a0 10 = rv a0 10 from hkr10)⟩
                    · refine c_iload (j := 1) C dX11_unreadable_111 rfl ?_
                      refine c_iload_n (j := 6) C dX11_unreadable_113 rfl ?_
                      refine c_icmp_lt (tgt := 124) C (r32_c (lo := 0) (hi := 5001) hk.1 hk.2 (by decide) (by decide)) ⟨by omega, by omega⟩ dX11_unreadable_114 (by decide) (fun c13 => ?_) (fun c13 => ?_)
                      · refine c_aload_n (j := 3) (x := a0) C dX11_unreadable_124 rfl ?_
                        have ty69 := Xb2.ty t_a0
                        obtain ⟨rb7, rq7, trb7⟩ := Wb2.ref ty69 5 rfl rfl rfl
                        have erb7 := Wb2.sk trb7 (by decide) rfl
                        subst erb7
                        refine c_getr (k := 5) C ck_12 dX11_unreadable_125 w2_49 (by decide) ty69 rfl rfl (by decide) rfl rq7 ?_
                        refine c_st (st2 := [.ref (sk 14)]) rfl ?_
                        refine c_aload_n (j := 3) (x := a0) C dX11_unreadable_128 rfl ?_
                        obtain ⟨rb8, rq8, trb8⟩ := Wb2.ref ty69 6 rfl rfl rfl
                        have erb8 := Wb2.sk trb8 (by decide) rfl
                        subst erb8
                        refine c_getr (k := 6) C ck_12 dX11_unreadable_129 w2_50 (by decide) ty69 rfl rfl (by decide) rfl rq8 ?_
                        refine c_st (st2 := [.ref (sk 15), .ref (sk 14)]) rfl ?_
                        refine hv4 (Xb2.ty tsk4) (Xb2.ty tsk15) (Xb2.ty tsk14) (Phi.le Wb2 skb2) (fun ty70 ty71 ty72 pl12 => ?_)
                        refine hv2 (show 0 ≤ ivb2 (sk 4) 2 ∧ ivb2 (sk 4) 2 ≤ 4000 from Wb2.int ty70 2) (show 0 ≤ ivb2 (sk 15) 4 ∧ ivb2 (sk 15) 4 ≤ 500 from Wb2.int ty71 4) (fun ri179 ri180 => ?_)
                        refine d_callV (As := [.ref (sk 15)]) (rest := []) C hM (G_spell (a0 := (sk 14)) (a1 := (sk 15)) Wb2 skb2 ty72 ty71  ) dX11_unreadable_132 kV_X11_392 rfl ty72 rfl rfl (by decide) ck_9 rfl (Nat.le_of_ble_eq_true rfl) ⟨(Nat.le_of_ble_eq_true rfl), (Nat.le_of_ble_eq_true rfl)⟩ hph pl12 (show 0 + 0 = 0 from rfl) (by decide) (fun rh23 Lh23 clh23 lnh23 ivh23 rvh23 h23 => ?_)
                        obtain ⟨rfl, rfl, rfl, rfl, rfl, fl23, W23, exf23⟩ := h23
                        refine hv2 (Fb2.call Xb2 fl23 rfl) (MRK.call mrb2 Wb2 skb2 XT.refl fl23 rfl rfl) (fun F22 mr22 => ?_)
                        refine c_st (st2 := []) rfl ?_
                        refine hv4 (show SPXU ivb2 rvb2 ivh23 (sk 14) (sk 15) from exf23) (show 0 ≤ ivh23 (sk 4) 2 ∧ ivh23 (sk 4) 2 ≤ 4000 from W23.int ty70 2) (show ivh23 (sk 4) 2 = ivb2 (sk 4) 2 from fl23.i ty70 rfl 2) (show 0 ≤ ivh23 (sk 15) 4 ∧ ivh23 (sk 15) 4 ≤ 500 from W23.int ty71 4) (fun gf23 ri181 ie264 ri182 => ?_)
                        have uw9 := URS.spell hU9 (by omega) gf23 (by omega) Wb2 skb2 fl23 (QT.of Wb2 skb2 XT.refl fl23 rfl rfl rfl rfl rfl) rfl rfl rfl rfl rfl rfl rfl rfl rfl rfl rfl
                        refine c_aload_n (j := 3) (x := a0) C dX11_unreadable_135 rfl ?_
                        refine c_getr (k := 6) C ck_12 dX11_unreadable_136 w2_50 (by decide) ty69 rfl rfl (by decide) rfl rq8 ?_
                        refine c_st (st2 := [.ref (sk 15)]) rfl ?_
                        refine c_aload (j := 2) (x := ob1) C dX11_unreadable_139 rfl ?_
                        have ty73 := Xb2.ty tob1
                        refine d_callV (As := [.ref ob1]) (rest := []) C hM (G_setBy (a0 := (sk 15)) (a1 := ob1) W23 skb2 ty71 ty73  ) dX11_unreadable_141 kV_X11_253 rfl ty71 rfl rfl (by decide) ck_7 rfl (Nat.le_of_ble_eq_true rfl) ⟨(Nat.le_of_ble_eq_true rfl), (Nat.le_of_ble_eq_true rfl)⟩ hph pl12 (show 0 + 0 = 0 from rfl) (by decide) (fun rh24 Lh24 clh24 lnh24 ivh24 rvh24 h24 => ?_)
                        obtain ⟨f24, rfl, rfl, rfl, rfl, rfl, fl24, W24, rgf24, exf24⟩ := h24
                        refine hv2 (F22.call Xb2 fl24 rfl) (MRK.call mr22 W23 skb2 XT.refl fl24 rfl rfl) (fun F23 mr23 => ?_)
                        refine c_st (st2 := [.int (iI f24)]) rfl ?_
                        refine hv5 (show 0 ≤ ivh24 (sk 15) 4 ∧ ivh24 (sk 15) 4 ≤ 500 from W24.int ty71 4) (show 0 ≤ ivh24 (sk 15) 7 ∧ ivh24 (sk 15) 7 ≤ 100000 from W24.int ty71 7) (show ((f24 = 0 ∨ f24 = 6 ∨ f24 = 7) ∧ ivh24 (sk 15) 4 = ivh23 (sk 15) 4 ∧ (f24 = 0 → ivh24 (sk 15) 7 ≤ 200)) ∧ SBX sk lnb2 ivh23 rvb2 ivh24 (sk 15) ob1 f24 from exf24) (show 0 ≤ ivh24 (sk 4) 2 ∧ ivh24 (sk 4) 2 ≤ 4000 from W24.int ty70 2) (show ivh24 (sk 4) 2 = ivh23 (sk 4) 2 from fl24.i ty70 rfl 2) (fun ri183 ri184 gf24 ri185 ie268 => ?_)
                        refine c_if_ne (tgt := 184) C (r32_067 gf24.1.1) dX11_unreadable_144 (by decide) (fun c14 => ?_) (fun c14 => ?_)
                        · replace gf24 := (And.intro (And.intro (gf24.1.1.resolve_left c14) (And.intro gf24.1.2.1 trivial)) gf24.2)
                          have un9 := URW.bad uw9 (QT.of hW hS Xb2 F22 rfl rfl rfl rfl rfl) gf24.2 (by omega) W23 skb2 fl24 (QT.of W23 skb2 XT.refl fl24 rfl rfl rfl rfl rfl) rfl rfl rfl rfl rfl rfl rfl rfl rfl rfl rfl
                          refine c_aload_n (j := 3) (x := a0) C dX11_unreadable_184 rfl ?_
                          refine c_getr (k := 5) C ck_12 dX11_unreadable_185 w2_49 (by decide) ty69 rfl rfl (by decide) rfl rq7 ?_
                          refine c_st (st2 := [.ref (sk 14)]) rfl ?_
                          refine c_iload_n (j := 5) C dX11_unreadable_188 rfl ?_
                          refine hv3 (show 0 ≤ ivh24 (sk 14) 5 ∧ ivh24 (sk 14) 5 ≤ 126 from W24.int ty72 5) (show ivh24 (sk 14) 5 = ivh23 (sk 14) 5 from fl24.i ty72 rfl 5) (show ivh23 (sk 14) 5 = ivb2 (sk 14) 5 from fl23.i ty72 rfl 5) (fun ri186 ie269 ie270 => ?_)
                          refine d_callV (As := [.int (iI n)]) (rest := []) C hM (G_spellNext (a0 := (sk 14)) (n := n) W24 skb2 ty72 (by omega) ) dX11_unreadable_189 kV_X11_403 rfl ty72 rfl rfl (by decide) ck_9 rfl (Nat.le_of_ble_eq_true rfl) ⟨(Nat.le_of_ble_eq_true rfl), (Nat.le_of_ble_eq_true rfl)⟩ hph pl12 (show 0 + 0 = 0 from rfl) (by decide) (fun rh25 Lh25 clh25 lnh25 ivh25 rvh25 h25 => ?_)
                          obtain ⟨f25, rfl, rfl, rfl, rfl, rfl, fl25, W25, rgf25, exf25⟩ := h25
                          refine hv2 (F23.call Xb2 fl25 rfl) (MRK.call mr23 W24 skb2 XT.refl fl25 rfl rfl) (fun F24 mr24 => ?_)
                          refine c_st (st2 := [.int (iI f25)]) rfl ?_
                          refine hv6 (show 0 ≤ ivh25 (sk 14) 5 ∧ ivh25 (sk 14) 5 ≤ 126 from W25.int ty72 5) (show ivh25 (sk 14) 5 = ivh24 (sk 14) 5 ∧ NXX ivh24 rvb2 ivh25 (sk 14) n f25 from exf25) (show 0 ≤ ivh25 (sk 4) 2 ∧ ivh25 (sk 4) 2 ≤ 4000 from W25.int ty70 2) (show ivh25 (sk 4) 2 = ivh24 (sk 4) 2 from fl25.i ty70 rfl 2) (show 0 ≤ ivh25 (sk 15) 4 ∧ ivh25 (sk 15) 4 ≤ 500 from W25.int ty71 4) (show ivh25 (sk 15) 4 = ivh24 (sk 15) 4 from fl25.i ty71 rfl 4) (fun ri187 gf25 ri188 ie273 ri189 ie274 => ?_)
                          refine c_istore (lv2 := [(5, .int (iI f25)), (6, .int (iI k)), (4, .ref ob1), (0, .ref a0), (1, .int (iI i)), (2, .int (iI n)), (3, .int (iI lim))]) C dX11_unreadable_192 (by decide) rfl ?_
                          refine c_iinc (z := k) (j := 1) (lv2 := [(6, .int (iI (k + 1))), (5, .int (iI f25)), (4, .ref ob1), (0, .ref a0), (1, .int (iI i)), (2, .int (iI n)), (3, .int (iI lim))]) C dX11_unreadable_194 rfl (by decide) rfl ?_
                          refine c_goto (tgt := 98) C dX11_unreadable_197 (by decide) ?_
                          refine hv24 (show 1 ≤ ivh25 a0 11 ∧ ivh25 a0 11 ≤ 100 from W25.int ty69 11) (show ivh25 a0 11 = ivh24 a0 11 from fl25.i ty69 rfl 11) (show ivh24 a0 11 = ivh23 a0 11 from fl24.i ty69 rfl 11) (show ivh23 a0 11 = ivb2 a0 11 from fl23.i ty69 rfl 11) (show 1 ≤ ivh25 a0 12 ∧ ivh25 a0 12 ≤ 50 from W25.int ty69 12) (show ivh25 a0 12 = ivh24 a0 12 from fl25.i ty69 rfl 12) (show ivh24 a0 12 = ivh23 a0 12 from fl24.i ty69 rfl 12) (show ivh23 a0 12 = ivb2 a0 12 from fl23.i ty69 rfl 12) (show (-2147483648) ≤ ivh25 a0 13 ∧ ivh25 a0 13 ≤ 2147483647 from W25.int ty69 13) (show ivh25 a0 13 = ivh24 a0 13 from fl25.i ty69 rfl 13) (show ivh24 a0 13 = ivh23 a0 13 from fl24.i ty69 rfl 13) (show ivh23 a0 13 = ivb2 a0 13 from fl23.i ty69 rfl 13) (show (-2147483648) ≤ ivh25 a0 14 ∧ ivh25 a0 14 ≤ 2147483647 from W25.int ty69 14) (show ivh25 a0 14 = ivh24 a0 14 from fl25.i ty69 rfl 14) (show ivh24 a0 14 = ivh23 a0 14 from fl24.i ty69 rfl 14) (show ivh23 a0 14 = ivb2 a0 14 from fl23.i ty69 rfl 14) (show (-2147483648) ≤ ivh25 a0 15 ∧ ivh25 a0 15 ≤ 2147483647 from W25.int ty69 15) (show ivh25 a0 15 = ivh24 a0 15 from fl25.i ty69 rfl 15) (show ivh24 a0 15 = ivh23 a0 15 from fl24.i ty69 rfl 15) (show ivh23 a0 15 = ivb2 a0 15 from fl23.i ty69 rfl 15) (show (-2147483648) ≤ ivh25 a0 16 ∧ ivh25 a0 16 ≤ 2147483647 from W25.int ty69 16) (show ivh25 a0 16 = ivh24 a0 16 from fl25.i ty69 rfl 16) (show ivh24 a0 16 = ivh23 a0 16 from fl24.i ty69 rfl 16) (show ivh23 a0 16 = ivb2 a0 16 from fl23.i ty69 rfl 16) (fun ri190 ie275 ie276 ie277 ri191 ie279 ie280 ie281 ri192 ie283 ie284 ie285 ri193 ie287 ie288 ie289 ri194 ie291 ie292 ie293 ri195 ie295 ie296 ie297 => ?_)
                          refine c_lv (lv2 := [(5, .int (iI f25)), (6, .int (iI (k + 1))), (4, .ref ob1), (0, .ref a0), (1, .int (iI i)), (2, .int (iI n)), (3, .int (iI lim))]) [1, 0, 2, 3, 4, 5, 6] rfl ?_
                          exact ih2  f25 (k + 1) _ _ _ _ _ (by omega) Xb2 W25 F24  (by omega) (by omega) (by omega) (ie273.trans (ie268.trans (ie264.trans h4s))) (fun ss hs => (CT.fr (CT.fr (CT.fr (hC4 ss hs) Wb2 ty70 fl23 rfl rfl rfl rfl rfl) W23 ty70 fl24 rfl rfl rfl rfl rfl) W24 ty70 fl25 rfl rfl rfl rfl rfl)) (un9.next gf25 ⟨by omega, by omega⟩ (by omega) rfl W24 skb2 fl25 (QT.of W24 skb2 XT.refl fl25 rfl rfl rfl rfl rfl) rfl rfl rfl rfl rfl rfl rfl rfl rfl) (ie275.trans (ie276.trans (ie277.trans hkp11))) (ie279.trans (ie280.trans (ie281.trans hkp12))) (ie283.trans (ie284.trans (ie285.trans hkp13))) (ie287.trans (ie288.trans (ie289.trans hkp14))) (ie291.trans (ie292.trans (ie293.trans hkp15))) (ie295.trans (ie296.trans (ie297.trans hkp16))) (show rvb2 a0 9 = rv a0 9 from hkr9) (show rvb2 a0 10 = rv a0 10 from hkr10)
                        · replace gf24 := (And.intro (And.intro c14 (And.intro gf24.1.2.1 (gf24.1.2.2 c14))) gf24.2)
                          have uc9 := URW.set uw9 (QT.of hW hS Xb2 F22 rfl rfl rfl rfl rfl) gf24.2 (by omega) (by omega) W23 skb2 fl24 (QT.of W23 skb2 XT.refl fl24 rfl rfl rfl rfl rfl) rfl rfl rfl rfl rfl rfl rfl rfl rfl rfl rfl rfl
                          refine c_aload_n (j := 3) (x := a0) C dX11_unreadable_147 rfl ?_
                          refine d_callV (As := []) (rest := []) C hM (G_isReadBack (a0 := a0) W24 skb2 ty69  (by show ivh24 (sk 15) 7 ≤ 200; omega)) dX11_unreadable_148 kV_X11_396 rfl ty69 rfl rfl (by decide) ck_12 rfl (Nat.le_of_ble_eq_true rfl) ⟨(Nat.le_of_ble_eq_true rfl), (Nat.le_of_ble_eq_true rfl)⟩ hph pl12 (show 0 + 0 = 0 from rfl) (by decide) (fun rh26 Lh26 clh26 lnh26 ivh26 rvh26 h26 => ?_)
                          obtain ⟨f26, rfl, xl26, fl26, W26, rgf26, exf26⟩ := h26
                          refine hv19 (F23.call Xb2 fl26 rfl) (MRK.call mr23 W24 skb2 xl26 fl26 rfl rfl) (Xb2.ty tsk2) (Xb2.ty tsk3) (Xb2.ty tsk5) (Xb2.ty tsk6) (Xb2.ty tsk7) (Xb2.ty tsk8) (Xb2.ty tsk9) (Xb2.ty tsk10) (Xb2.ty tsk13) (Xb2.ty tsk16) (Xb2.ty tsk17) (Xb2.ty tsk22) (Xb2.ty tsk23) (Xb2.ty tsk24) (Xb2.ty tsk25) (Xb2.trans xl26) (xl26.skl skb2) (fun F25 mr25 ty74 ty75 ty76 ty77 ty78 ty79 ty80 ty81 ty82 ty83 ty84 ty85 ty86 ty87 ty88 X4 sk4 => ?_)
                          refine c_st (st2 := [.int (iI f26)]) rfl ?_
                          refine hv5 (show RBX Lb2 clb2 lnb2 ivh24 rvb2 sk f26 from exf26) (xl26.ty ty70) (show ivh26 (sk 4) 2 = ivh24 (sk 4) 2 from fl26.i ty70 rfl 2) (xl26.ty ty71) (show ivh26 (sk 15) 4 = ivh24 (sk 15) 4 from fl26.i ty71 rfl 4) (fun gf26 ty89 ie299 ty90 ie300 => ?_)
                          refine hv2 (show 0 ≤ ivh26 (sk 4) 2 ∧ ivh26 (sk 4) 2 ≤ 4000 from W26.int ty89 2) (show 0 ≤ ivh26 (sk 15) 4 ∧ ivh26 (sk 15) 4 ≤ 500 from W26.int ty90 4) (fun ri196 ri197 => ?_)
                          refine c_if_ne (tgt := 184) C ⟨by omega, by omega⟩ dX11_unreadable_151 (by decide) (fun c15 => ?_) (fun c15 => ?_)
                          · have un9 := URC.back uc9 gf26 (by omega) (by omega) W24 skb2 fl26 (QT.of W24 skb2 xl26 fl26 rfl rfl rfl rfl rfl) rfl rfl rfl rfl rfl rfl rfl rfl rfl rfl rfl
                            refine c_aload_n (j := 3) (x := a0) C dX11_unreadable_184 rfl ?_
                            refine hv2 (xl26.ty ty69) (show rvh26 a0 5 = rvb2 a0 5 from (fl26.r ty69 rfl 5)) (fun ty91 re5 => ?_)
                            rw [rq7] at re5
                            refine c_getr (k := 5) C ck_12 dX11_unreadable_185 w2_49 (by decide) ty91 rfl rfl (by decide) rfl re5 ?_
                            refine c_st (st2 := [.ref (sk 14)]) rfl ?_
                            refine c_iload_n (j := 5) C dX11_unreadable_188 rfl ?_
                            refine hv5 (xl26.ty ty72) (show ivh26 (sk 14) 5 = ivh24 (sk 14) 5 from fl26.i ty72 rfl 5) (show ivh24 (sk 14) 5 = ivh23 (sk 14) 5 from fl24.i ty72 rfl 5) (show ivh23 (sk 14) 5 = ivb2 (sk 14) 5 from fl23.i ty72 rfl 5) (Phi.le W26 sk4) (fun ty92 ie301 ie302 ie303 pl13 => ?_)
                            have ri198 : 0 ≤ ivh26 (sk 14) 5 ∧ ivh26 (sk 14) 5 ≤ 126 := W26.int ty92 5
                            refine d_callV (As := [.int (iI n)]) (rest := []) C hM (G_spellNext (a0 := (sk 14)) (n := n) W26 sk4 ty92 (by omega) ) dX11_unreadable_189 kV_X11_403 rfl ty92 rfl rfl (by decide) ck_9 rfl (Nat.le_of_ble_eq_true rfl) ⟨(Nat.le_of_ble_eq_true rfl), (Nat.le_of_ble_eq_true rfl)⟩ hph pl13 (show 0 + 0 = 0 from rfl) (by decide) (fun rh27 Lh27 clh27 lnh27 ivh27 rvh27 h27 => ?_)
                            obtain ⟨f27, rfl, rfl, rfl, rfl, rfl, fl27, W27, rgf27, exf27⟩ := h27
                            refine hv2 (F25.call X4 fl27 rfl) (MRK.call mr25 W26 sk4 XT.refl fl27 rfl rfl) (fun F26 mr26 => ?_)
                            refine c_st (st2 := [.int (iI f27)]) rfl ?_
                            refine hv6 (show 0 ≤ ivh27 (sk 14) 5 ∧ ivh27 (sk 14) 5 ≤ 126 from W27.int ty92 5) (show ivh27 (sk 14) 5 = ivh26 (sk 14) 5 ∧ NXX ivh26 rvh26 ivh27 (sk 14) n f27 from exf27) (show 0 ≤ ivh27 (sk 4) 2 ∧ ivh27 (sk 4) 2 ≤ 4000 from W27.int ty89 2) (show ivh27 (sk 4) 2 = ivh26 (sk 4) 2 from fl27.i ty89 rfl 2) (show 0 ≤ ivh27 (sk 15) 4 ∧ ivh27 (sk 15) 4 ≤ 500 from W27.int ty90 4) (show ivh27 (sk 15) 4 = ivh26 (sk 15) 4 from fl27.i ty90 rfl 4) (fun ri199 gf27 ri200 ie306 ri201 ie307 => ?_)
                            refine c_istore (lv2 := [(5, .int (iI f27)), (6, .int (iI k)), (4, .ref ob1), (0, .ref a0), (1, .int (iI i)), (2, .int (iI n)), (3, .int (iI lim))]) C dX11_unreadable_192 (by decide) rfl ?_
                            refine c_iinc (z := k) (j := 1) (lv2 := [(6, .int (iI (k + 1))), (5, .int (iI f27)), (4, .ref ob1), (0, .ref a0), (1, .int (iI i)), (2, .int (iI n)), (3, .int (iI lim))]) C dX11_unreadable_194 rfl (by decide) rfl ?_
                            refine c_goto (tgt := 98) C dX11_unreadable_197 (by decide) ?_
                            refine hv30 (show 1 ≤ ivh27 a0 11 ∧ ivh27 a0 11 ≤ 100 from W27.int ty91 11) (show ivh27 a0 11 = ivh26 a0 11 from fl27.i ty91 rfl 11) (show ivh26 a0 11 = ivh24 a0 11 from fl26.i ty69 rfl 11) (show ivh24 a0 11 = ivh23 a0 11 from fl24.i ty69 rfl 11) (show ivh23 a0 11 = ivb2 a0 11 from fl23.i ty69 rfl 11) (show 1 ≤ ivh27 a0 12 ∧ ivh27 a0 12 ≤ 50 from W27.int ty91 12) (show ivh27 a0 12 = ivh26 a0 12 from fl27.i ty91 rfl 12) (show ivh26 a0 12 = ivh24 a0 12 from fl26.i ty69 rfl 12) (show ivh24 a0 12 = ivh23 a0 12 from fl24.i ty69 rfl 12) (show ivh23 a0 12 = ivb2 a0 12 from fl23.i ty69 rfl 12) (show (-2147483648) ≤ ivh27 a0 13 ∧ ivh27 a0 13 ≤ 2147483647 from W27.int ty91 13) (show ivh27 a0 13 = ivh26 a0 13 from fl27.i ty91 rfl 13) (show ivh26 a0 13 = ivh24 a0 13 from fl26.i ty69 rfl 13) (show ivh24 a0 13 = ivh23 a0 13 from fl24.i ty69 rfl 13) (show ivh23 a0 13 = ivb2 a0 13 from fl23.i ty69 rfl 13) (show (-2147483648) ≤ ivh27 a0 14 ∧ ivh27 a0 14 ≤ 2147483647 from W27.int ty91 14) (show ivh27 a0 14 = ivh26 a0 14 from fl27.i ty91 rfl 14) (show ivh26 a0 14 = ivh24 a0 14 from fl26.i ty69 rfl 14) (show ivh24 a0 14 = ivh23 a0 14 from fl24.i ty69 rfl 14) (show ivh23 a0 14 = ivb2 a0 14 from fl23.i ty69 rfl 14) (show (-2147483648) ≤ ivh27 a0 15 ∧ ivh27 a0 15 ≤ 2147483647 from W27.int ty91 15) (show ivh27 a0 15 = ivh26 a0 15 from fl27.i ty91 rfl 15) (show ivh26 a0 15 = ivh24 a0 15 from fl26.i ty69 rfl 15) (show ivh24 a0 15 = ivh23 a0 15 from fl24.i ty69 rfl 15) (show ivh23 a0 15 = ivb2 a0 15 from fl23.i ty69 rfl 15) (show (-2147483648) ≤ ivh27 a0 16 ∧ ivh27 a0 16 ≤ 2147483647 from W27.int ty91 16) (show ivh27 a0 16 = ivh26 a0 16 from fl27.i ty91 rfl 16) (show ivh26 a0 16 = ivh24 a0 16 from fl26.i ty69 rfl 16) (show ivh24 a0 16 = ivh23 a0 16 from fl24.i ty69 rfl 16) (show ivh23 a0 16 = ivb2 a0 16 from fl23.i ty69 rfl 16) (fun ri202 ie308 ie309 ie310 ie311 ri203 ie313 ie314 ie315 ie316 ri204 ie318 ie319 ie320 ie321 ri205 ie323 ie324 ie325 ie326 ri206 ie328 ie329 ie330 ie331 ri207 ie333 ie334 ie335 ie336 => ?_)
                            refine c_lv (lv2 := [(5, .int (iI f27)), (6, .int (iI (k + 1))), (4, .ref ob1), (0, .ref a0), (1, .int (iI i)), (2, .int (iI n)), (3, .int (iI lim))]) [1, 0, 2, 3, 4, 5, 6] rfl ?_
                            exact ih2  f27 (k + 1) _ _ _ _ _ (by omega) X4 W27 F26  (by omega) (by omega) (by omega) (ie306.trans (ie299.trans (ie268.trans (ie264.trans h4s)))) (fun ss hs => (CT.fr (CT.fr (CT.fr (CT.fr (hC4 ss hs) Wb2 ty70 fl23 rfl rfl rfl rfl rfl) W23 ty70 fl24 rfl rfl rfl rfl rfl) W24 ty70 fl26 rfl rfl rfl rfl rfl) W26 ty89 fl27 rfl rfl rfl rfl rfl)) (un9.next gf27 ⟨by omega, by omega⟩ (by omega) rfl W26 sk4 fl27 (QT.of W26 sk4 XT.refl fl27 rfl rfl rfl rfl rfl) rfl rfl rfl rfl rfl rfl rfl rfl rfl) (ie308.trans (ie309.trans (ie310.trans (ie311.trans hkp11)))) (ie313.trans (ie314.trans (ie315.trans (ie316.trans hkp12)))) (ie318.trans (ie319.trans (ie320.trans (ie321.trans hkp13)))) (ie323.trans (ie324.trans (ie325.trans (ie326.trans hkp14)))) (ie328.trans (ie329.trans (ie330.trans (ie331.trans hkp15)))) (ie333.trans (ie334.trans (ie335.trans (ie336.trans hkp16)))) (Eq.trans (show rvh26 a0 9 = rvb2 a0 9 from (fl26.r ty69 rfl 9)) (show rvb2 a0 9 = rv a0 9 from hkr9)) (Eq.trans (show rvh26 a0 10 = rvb2 a0 10 from (fl26.r ty69 rfl 10)) (show rvb2 a0 10 = rv a0 10 from hkr10))
                          · have uf9 := URC.found uc9 gf26 (by omega) (by omega) W24 skb2 fl26 rfl rfl
                            refine c_aload_n (j := 3) (x := a0) C dX11_unreadable_154 rfl ?_
                            have ty93 := xl26.ty ty69
                            obtain ⟨rb9, rq9, trb9⟩ := W26.ref ty93 2 rfl rfl rfl
                            have erb9 := W26.sk trb9 (by decide) rfl
                            subst erb9
                            refine c_getr (k := 2) C ck_12 dX11_unreadable_155 w2_46 (by decide) ty93 rfl rfl (by decide) rfl rq9 ?_
                            refine c_st (st2 := [.ref (sk 4)]) rfl ?_
                            have pl14 := Phi.le W26 sk4
                            refine d_callV (As := []) (rest := []) C hM (C_clear_4 (a0 := (sk 4)) W26 sk4 ty89  ) dX11_unreadable_158 kV_X11_164 rfl ty89 rfl rfl (by decide) ck_2 rfl (Nat.le_of_ble_eq_true rfl) ⟨(Nat.le_of_ble_eq_true rfl), (Nat.le_of_ble_eq_true rfl)⟩ hph pl14 (show 0 + 0 = 0 from rfl) (by decide) (fun rh28 Lh28 clh28 lnh28 ivh28 rvh28 h28 => ?_)
                            obtain ⟨rfl, rfl, rfl, rfl, rfl, fl28, W28, exf28⟩ := h28
                            refine hv2 (F25.call X4 fl28 rfl) (MRK.call mr25 W26 sk4 XT.refl fl28 rfl rfl) (fun F27 mr27 => ?_)
                            refine c_st (st2 := []) rfl ?_
                            refine hv5 (show 0 ≤ ivh28 (sk 4) 2 ∧ ivh28 (sk 4) 2 ≤ 4000 from W28.int ty89 2) (show ivh28 (sk 4) 2 = 0 from exf28) (show 0 ≤ ivh28 (sk 15) 4 ∧ ivh28 (sk 15) 4 ≤ 500 from W28.int ty90 4) (show ivh28 (sk 15) 4 = ivh26 (sk 15) 4 from fl28.i ty90 rfl 4) (URF.mv uf9 W26 sk4 fl28 rfl rfl) (fun ri208 gf28 ri209 ie339 ug9 => ?_)
                            refine c_aload_n (j := 3) (x := a0) C dX11_unreadable_161 rfl ?_
                            have re6 : rvh26 a0 6 = rvb2 a0 6 := (fl26.r ty69 rfl 6)
                            rw [rq8] at re6
                            refine c_getr (k := 6) C ck_12 dX11_unreadable_162 w2_50 (by decide) ty93 rfl rfl (by decide) rfl re6 ?_
                            refine c_st (st2 := [.ref (sk 15)]) rfl ?_
                            refine c_aload_n (j := 3) (x := a0) C dX11_unreadable_165 rfl ?_
                            refine c_getr (k := 2) C ck_12 dX11_unreadable_166 w2_46 (by decide) ty93 rfl rfl (by decide) rfl rq9 ?_
                            refine c_st (st2 := [.ref (sk 4), .ref (sk 15)]) rfl ?_
                            refine d_callV (As := [.ref (sk 4)]) (rest := []) C hM (G_wwl (a0 := (sk 15)) (a1 := (sk 4)) W28 sk4 ty90 ty89  ) dX11_unreadable_169 kV_X11_399 rfl ty90 rfl rfl (by decide) ck_7 rfl (Nat.le_of_ble_eq_true rfl) ⟨(Nat.le_of_ble_eq_true rfl), (Nat.le_of_ble_eq_true rfl)⟩ hph pl14 (show 0 + 0 = 0 from rfl) (by decide) (fun rh29 Lh29 clh29 lnh29 ivh29 rvh29 h29 => ?_)
                            obtain ⟨rfl, xl29, fl29, W29, exf29⟩ := h29
                            refine hv21 (F27.call X4 fl29 rfl) (MRK.call mr27 W28 sk4 xl29 fl29 rfl rfl) (xl26.ty ty74) (xl26.ty ty75) (xl26.ty ty76) (xl26.ty ty77) (xl26.ty ty78) (xl26.ty ty79) (xl26.ty ty80) (xl26.ty ty81) (xl26.ty ty82) (xl26.ty ty72) (xl26.ty ty83) (xl26.ty ty84) (xl26.ty ty85) (xl26.ty ty86) (xl26.ty ty87) (xl26.ty ty88) (xl26.ty ty73) (X4.trans xl29) (xl29.skl sk4) (fun F28 mr28 ty94 ty95 ty96 ty97 ty98 ty99 ty100 ty101 ty102 ty103 ty104 ty105 ty106 ty107 ty108 ty109 ty110 X5 sk5 => ?_)
                            refine c_st (st2 := []) rfl ?_
                            refine hv4 (show WWQ ivh28 rvh26 ivh29 rvh29 (sk 15) (sk 4) from exf29) (xl29.ty ty89) (xl29.ty ty90) (show ivh29 (sk 15) 4 = ivh28 (sk 15) 4 from fl29.i ty90 rfl 4) (fun gf29 ty111 ty112 ie341 => ?_)
                            refine hv2 (show 0 ≤ ivh29 (sk 4) 2 ∧ ivh29 (sk 4) 2 ≤ 4000 from W29.int ty111 2) (show 0 ≤ ivh29 (sk 15) 4 ∧ ivh29 (sk 15) 4 ≤ 500 from W29.int ty112 4) (fun ri210 ri211 => ?_)
                            refine c_aload_n (j := 3) (x := a0) C dX11_unreadable_172 rfl ?_
                            refine c_aload_n (j := 3) (x := a0) C dX11_unreadable_173 rfl ?_
                            refine hv2 (xl29.ty ty93) (show rvh29 a0 6 = rvh26 a0 6 from (fl29.r ty93 rfl 6)) (fun ty113 re7 => ?_)
                            rw [re6] at re7
                            refine c_getr (k := 6) C ck_12 dX11_unreadable_174 w2_50 (by decide) ty113 rfl rfl (by decide) rfl re7 ?_
                            refine c_st (st2 := [.ref (sk 15), .ref a0]) rfl ?_
                            refine c_get (k := 4) C ck_7 dX11_unreadable_177 w1_142 (by decide) ty112 rfl rfl (by decide) rfl ?_
                            have pl15 := Phi.le W29 sk5
                            refine d_callV (As := [.int (iI (ivh29 (sk 15) 4))]) (rest := []) C hM (C_done (a0 := a0) (x := ivh29 (sk 15) 4) W29 sk5 ty113 (by omega) ) dX11_unreadable_180 kV_X11_109 rfl ty113 rfl rfl (by decide) ck_12 rfl (Nat.le_of_ble_eq_true rfl) ⟨(Nat.le_of_ble_eq_true rfl), (Nat.le_of_ble_eq_true rfl)⟩ hph pl15 (show 0 + 0 = 0 from rfl) (by decide) (fun rh30 Lh30 clh30 lnh30 ivh30 rvh30 h30 => ?_)
                            obtain ⟨f30, rfl, rfl, rfl, rfl, rfl, fl30, W30, rgf30, exf30, kp11f30, kp12f30, kp13f30, kp14f30, kp15f30, kp16f30⟩ := h30
                            refine hv38 (show 1 ≤ ivh29 a0 11 ∧ ivh29 a0 11 ≤ 100 from W29.int ty113 11) (show ivh29 a0 11 = ivh28 a0 11 from fl29.i ty93 rfl 11) (show ivh28 a0 11 = ivh26 a0 11 from fl28.i ty93 rfl 11) (show ivh26 a0 11 = ivh24 a0 11 from fl26.i ty69 rfl 11) (show ivh24 a0 11 = ivh23 a0 11 from fl24.i ty69 rfl 11) (show ivh23 a0 11 = ivb2 a0 11 from fl23.i ty69 rfl 11) (show 1 ≤ ivh29 a0 12 ∧ ivh29 a0 12 ≤ 50 from W29.int ty113 12) (show ivh29 a0 12 = ivh28 a0 12 from fl29.i ty93 rfl 12) (show ivh28 a0 12 = ivh26 a0 12 from fl28.i ty93 rfl 12) (show ivh26 a0 12 = ivh24 a0 12 from fl26.i ty69 rfl 12) (show ivh24 a0 12 = ivh23 a0 12 from fl24.i ty69 rfl 12) (show ivh23 a0 12 = ivb2 a0 12 from fl23.i ty69 rfl 12) (show (-2147483648) ≤ ivh29 a0 13 ∧ ivh29 a0 13 ≤ 2147483647 from W29.int ty113 13) (show ivh29 a0 13 = ivh28 a0 13 from fl29.i ty93 rfl 13) (show ivh28 a0 13 = ivh26 a0 13 from fl28.i ty93 rfl 13) (show ivh26 a0 13 = ivh24 a0 13 from fl26.i ty69 rfl 13) (show ivh24 a0 13 = ivh23 a0 13 from fl24.i ty69 rfl 13) (show ivh23 a0 13 = ivb2 a0 13 from fl23.i ty69 rfl 13) (show (-2147483648) ≤ ivh29 a0 14 ∧ ivh29 a0 14 ≤ 2147483647 from W29.int ty113 14) (show ivh29 a0 14 = ivh28 a0 14 from fl29.i ty93 rfl 14) (show ivh28 a0 14 = ivh26 a0 14 from fl28.i ty93 rfl 14) (show ivh26 a0 14 = ivh24 a0 14 from fl26.i ty69 rfl 14) (show ivh24 a0 14 = ivh23 a0 14 from fl24.i ty69 rfl 14) (show ivh23 a0 14 = ivb2 a0 14 from fl23.i ty69 rfl 14) (show (-2147483648) ≤ ivh29 a0 15 ∧ ivh29 a0 15 ≤ 2147483647 from W29.int ty113 15) (show ivh29 a0 15 = ivh28 a0 15 from fl29.i ty93 rfl 15) (show ivh28 a0 15 = ivh26 a0 15 from fl28.i ty93 rfl 15) (show ivh26 a0 15 = ivh24 a0 15 from fl26.i ty69 rfl 15) (show ivh24 a0 15 = ivh23 a0 15 from fl24.i ty69 rfl 15) (show ivh23 a0 15 = ivb2 a0 15 from fl23.i ty69 rfl 15) (show (-2147483648) ≤ ivh29 a0 16 ∧ ivh29 a0 16 ≤ 2147483647 from W29.int ty113 16) (show ivh29 a0 16 = ivh28 a0 16 from fl29.i ty93 rfl 16) (show ivh28 a0 16 = ivh26 a0 16 from fl28.i ty93 rfl 16) (show ivh26 a0 16 = ivh24 a0 16 from fl26.i ty69 rfl 16) (show ivh24 a0 16 = ivh23 a0 16 from fl24.i ty69 rfl 16) (show ivh23 a0 16 = ivb2 a0 16 from fl23.i ty69 rfl 16) (F28.call X5 fl30 rfl) (MRK.call mr28 W29 sk5 XT.refl fl30 rfl rfl) (fun ri212 ie342 ie343 ie344 ie345 ie346 ri213 ie348 ie349 ie350 ie351 ie352 ri214 ie354 ie355 ie356 ie357 ie358 ri215 ie360 ie361 ie362 ie363 ie364 ri216 ie366 ie367 ie368 ie369 ie370 ri217 ie372 ie373 ie374 ie375 ie376 F29 mr29 => ?_)
                            refine c_st (st2 := [.int (iI f30)]) rfl ?_
                            refine hv17 (show ivh30 a0 11 = ivh29 a0 11 from kp11f30) (show ivh30 a0 12 = ivh29 a0 12 from kp12f30) (show ivh30 a0 13 = ivh29 a0 13 from kp13f30) (show ivh30 a0 14 = ivh29 a0 14 from kp14f30) (show ivh30 a0 15 = ivh29 a0 15 from kp15f30) (show ivh30 a0 16 = ivh29 a0 16 from kp16f30) (show f30 = (ivh29 (sk 15) 4) from exf30) (show 1 ≤ ivh30 a0 11 ∧ ivh30 a0 11 ≤ 100 from W30.int ty113 11) (show 1 ≤ ivh30 a0 12 ∧ ivh30 a0 12 ≤ 50 from W30.int ty113 12) (show (-2147483648) ≤ ivh30 a0 13 ∧ ivh30 a0 13 ≤ 2147483647 from W30.int ty113 13) (show (-2147483648) ≤ ivh30 a0 14 ∧ ivh30 a0 14 ≤ 2147483647 from W30.int ty113 14) (show (-2147483648) ≤ ivh30 a0 15 ∧ ivh30 a0 15 ≤ 2147483647 from W30.int ty113 15) (show (-2147483648) ≤ ivh30 a0 16 ∧ ivh30 a0 16 ≤ 2147483647 from W30.int ty113 16) (show 0 ≤ ivh30 (sk 4) 2 ∧ ivh30 (sk 4) 2 ≤ 4000 from W30.int ty111 2) (show ivh30 (sk 4) 2 = ivh29 (sk 4) 2 from fl30.i ty111 rfl 2) (show 0 ≤ ivh30 (sk 15) 4 ∧ ivh30 (sk 15) 4 ≤ 500 from W30.int ty112 4) (show ivh30 (sk 15) 4 = ivh29 (sk 15) 4 from fl30.i ty112 rfl 4) (fun gk11f30 gk12f30 gk13f30 gk14f30 gk15f30 gk16f30 gf30 ri218 ri219 ri220 ri221 ri222 ri223 ri224 ie384 ri225 ie385 => ?_)
                            exact c_iret C dX11_unreadable_183 rfl (by decide) (rom0 hph pl15 (by decide)) ⟨f30, rfl, X5, F29, W30, ⟨by omega, by omega⟩, trivial, (gk11f30.trans (ie342.trans (ie343.trans (ie344.trans (ie345.trans (ie346.trans hkp11)))))), (gk12f30.trans (ie348.trans (ie349.trans (ie350.trans (ie351.trans (ie352.trans hkp12)))))), (gk13f30.trans (ie354.trans (ie355.trans (ie356.trans (ie357.trans (ie358.trans hkp13)))))), (gk14f30.trans (ie360.trans (ie361.trans (ie362.trans (ie363.trans (ie364.trans hkp14)))))), (gk15f30.trans (ie366.trans (ie367.trans (ie368.trans (ie369.trans (ie370.trans hkp15)))))), (gk16f30.trans (ie372.trans (ie373.trans (ie374.trans (ie375.trans (ie376.trans hkp16)))))), (PUR.found wkob1 ⟨⟨by omega, by omega⟩, by omega, by omega⟩ ug9 ⟨by omega, by omega⟩ (by omega) gf29 (by omega) (by omega) (fun ss hc => (CT.fr hc W29 ty111 fl30 rfl rfl rfl rfl rfl))), (Eq.trans (show rvh29 a0 9 = rvh26 a0 9 from (fl29.r ty93 rfl 9)) (Eq.trans (show rvh26 a0 9 = rvb2 a0 9 from (fl26.r ty69 rfl 9)) (show rvb2 a0 9 = rv a0 9 from hkr9))), (Eq.trans (show rvh29 a0 10 = rvh26 a0 10 from (fl29.r ty93 rfl 10)) (Eq.trans (show rvh26 a0 10 = rvb2 a0 10 from (fl26.r ty69 rfl 10)) (show rvb2 a0 10 = rv a0 10 from hkr10)))⟩
                      · refine c_aload_n (j := 3) (x := a0) C dX11_unreadable_117 rfl ?_
                        refine c_bipush (z := 8) C dX11_unreadable_118 (by decide) ?_
                        refine hv2 (Xb2.ty t_a0) (Phi.le Wb2 skb2) (fun ty114 pl16 => ?_)
                        refine d_callV (As := [.int (iI 8)]) (rest := []) C hM (C_refuse (a0 := a0) (x := 8) Wb2 skb2 ty114 ⟨by decide, by decide⟩ ) dX11_unreadable_120 kV_X11_102 rfl ty114 rfl rfl (by decide) ck_12 rfl (Nat.le_of_ble_eq_true rfl) ⟨(Nat.le_of_ble_eq_true rfl), (Nat.le_of_ble_eq_true rfl)⟩ hph pl16 (show 0 + 0 = 0 from rfl) (by decide) (fun rh31 Lh31 clh31 lnh31 ivh31 rvh31 h31 => ?_)
                        obtain ⟨f31, rfl, rfl, rfl, rfl, rfl, fl31, W31, rgf31, exf31, kp11f31, kp12f31, kp13f31, kp14f31, kp15f31, kp16f31⟩ := h31
                        refine hv8 (show 1 ≤ ivb2 a0 11 ∧ ivb2 a0 11 ≤ 100 from Wb2.int ty114 11) (show 1 ≤ ivb2 a0 12 ∧ ivb2 a0 12 ≤ 50 from Wb2.int ty114 12) (show (-2147483648) ≤ ivb2 a0 13 ∧ ivb2 a0 13 ≤ 2147483647 from Wb2.int ty114 13) (show (-2147483648) ≤ ivb2 a0 14 ∧ ivb2 a0 14 ≤ 2147483647 from Wb2.int ty114 14) (show (-2147483648) ≤ ivb2 a0 15 ∧ ivb2 a0 15 ≤ 2147483647 from Wb2.int ty114 15) (show (-2147483648) ≤ ivb2 a0 16 ∧ ivb2 a0 16 ≤ 2147483647 from Wb2.int ty114 16) (Fb2.call Xb2 fl31 rfl) (MRK.call mrb2 Wb2 skb2 XT.refl fl31 rfl rfl) (fun ri226 ri227 ri228 ri229 ri230 ri231 F30 mr30 => ?_)
                        refine c_st (st2 := [.int (iI f31)]) rfl ?_
                        refine hv15 (show ivh31 a0 11 = ivb2 a0 11 from kp11f31) (show ivh31 a0 12 = ivb2 a0 12 from kp12f31) (show ivh31 a0 13 = ivb2 a0 13 from kp13f31) (show ivh31 a0 14 = ivb2 a0 14 from kp14f31) (show ivh31 a0 15 = ivb2 a0 15 from kp15f31) (show ivh31 a0 16 = ivb2 a0 16 from kp16f31) (show f31 = -1 from exf31) (show 1 ≤ ivh31 a0 11 ∧ ivh31 a0 11 ≤ 100 from W31.int ty114 11) (show 1 ≤ ivh31 a0 12 ∧ ivh31 a0 12 ≤ 50 from W31.int ty114 12) (show (-2147483648) ≤ ivh31 a0 13 ∧ ivh31 a0 13 ≤ 2147483647 from W31.int ty114 13) (show (-2147483648) ≤ ivh31 a0 14 ∧ ivh31 a0 14 ≤ 2147483647 from W31.int ty114 14) (show (-2147483648) ≤ ivh31 a0 15 ∧ ivh31 a0 15 ≤ 2147483647 from W31.int ty114 15) (show (-2147483648) ≤ ivh31 a0 16 ∧ ivh31 a0 16 ≤ 2147483647 from W31.int ty114 16) (Xb2.ty tsk4) (Xb2.ty tsk15) (fun gk11f31 gk12f31 gk13f31 gk14f31 gk15f31 gk16f31 gf31 ri232 ri233 ri234 ri235 ri236 ri237 ty115 ty116 => ?_)
                        refine hv4 (show 0 ≤ ivh31 (sk 4) 2 ∧ ivh31 (sk 4) 2 ≤ 4000 from W31.int ty115 2) (show ivh31 (sk 4) 2 = ivb2 (sk 4) 2 from fl31.i ty115 rfl 2) (show 0 ≤ ivh31 (sk 15) 4 ∧ ivh31 (sk 15) 4 ≤ 500 from W31.int ty116 4) (show ivh31 (sk 15) 4 = ivb2 (sk 15) 4 from fl31.i ty116 rfl 4) (fun ri238 ie398 ri239 ie400 => ?_)
                        exact c_iret C dX11_unreadable_123 rfl (by decide) (rom0 hph pl16 (by decide)) ⟨f31, rfl, Xb2, F30, W31, ⟨by omega, by omega⟩, trivial, (gk11f31.trans hkp11), (gk12f31.trans hkp12), (gk13f31.trans hkp13), (gk14f31.trans hkp14), (gk15f31.trans hkp15), (gk16f31.trans hkp16), (PUR.spent wkob1 ⟨⟨by omega, by omega⟩, by omega, by omega⟩ hU9 (by omega) (by omega) (by omega) ⟨by omega, fun ss hs => (CT.fr (hC4 ss hs) Wb2 ty115 fl31 rfl rfl rfl rfl rfl)⟩), (show rvb2 a0 9 = rv a0 9 from hkr9), (show rvb2 a0 10 = rv a0 10 from hkr10)⟩
              refine hv28 (xl5.ty tsk4) (show ivh5 (sk 4) 2 = iv (sk 4) 2 from fl5.i tsk4 rfl 2) (show 1 ≤ ivh20 a0 11 ∧ ivh20 a0 11 ≤ 100 from W20.int ty2 11) (show ivh20 a0 11 = ivh19 a0 11 from fl20.i ty2 rfl 11) (show ivh19 a0 11 = ivh5 a0 11 from fl19.i ty2 rfl 11) (show ivh5 a0 11 = iv a0 11 from fl5.i t_a0 rfl 11) (show 1 ≤ ivh20 a0 12 ∧ ivh20 a0 12 ≤ 50 from W20.int ty2 12) (show ivh20 a0 12 = ivh19 a0 12 from fl20.i ty2 rfl 12) (show ivh19 a0 12 = ivh5 a0 12 from fl19.i ty2 rfl 12) (show ivh5 a0 12 = iv a0 12 from fl5.i t_a0 rfl 12) (show (-2147483648) ≤ ivh20 a0 13 ∧ ivh20 a0 13 ≤ 2147483647 from W20.int ty2 13) (show ivh20 a0 13 = ivh19 a0 13 from fl20.i ty2 rfl 13) (show ivh19 a0 13 = ivh5 a0 13 from fl19.i ty2 rfl 13) (show ivh5 a0 13 = iv a0 13 from fl5.i t_a0 rfl 13) (show (-2147483648) ≤ ivh20 a0 14 ∧ ivh20 a0 14 ≤ 2147483647 from W20.int ty2 14) (show ivh20 a0 14 = ivh19 a0 14 from fl20.i ty2 rfl 14) (show ivh19 a0 14 = ivh5 a0 14 from fl19.i ty2 rfl 14) (show ivh5 a0 14 = iv a0 14 from fl5.i t_a0 rfl 14) (show (-2147483648) ≤ ivh20 a0 15 ∧ ivh20 a0 15 ≤ 2147483647 from W20.int ty2 15) (show ivh20 a0 15 = ivh19 a0 15 from fl20.i ty2 rfl 15) (show ivh19 a0 15 = ivh5 a0 15 from fl19.i ty2 rfl 15) (show ivh5 a0 15 = iv a0 15 from fl5.i t_a0 rfl 15) (show (-2147483648) ≤ ivh20 a0 16 ∧ ivh20 a0 16 ≤ 2147483647 from W20.int ty2 16) (show ivh20 a0 16 = ivh19 a0 16 from fl20.i ty2 rfl 16) (show ivh19 a0 16 = ivh5 a0 16 from fl19.i ty2 rfl 16) (show ivh5 a0 16 = iv a0 16 from fl5.i t_a0 rfl 16) (xl5.ty tsk15) (show ivh5 (sk 15) 4 = iv (sk 15) 4 from fl5.i tsk15 rfl 4) (fun ty117 ie404 ri241 ie405 ie406 ie407 ri242 ie408 ie409 ie410 ri243 ie411 ie412 ie413 ri244 ie414 ie415 ie416 ri245 ie417 ie418 ie419 ri246 ie420 ie421 ie422 ty118 ie425 => ?_)
              refine hv6 (show 0 ≤ ivh20 (sk 4) 2 ∧ ivh20 (sk 4) 2 ≤ 4000 from W20.int ty117 2) (show ivh20 (sk 4) 2 = ivh19 (sk 4) 2 from fl20.i ty117 rfl 2) (show ivh19 (sk 4) 2 = ivh5 (sk 4) 2 from fl19.i ty117 rfl 2) (show 0 ≤ ivh20 (sk 15) 4 ∧ ivh20 (sk 15) 4 ≤ 500 from W20.int ty118 4) (show ivh20 (sk 15) 4 = ivh19 (sk 15) 4 from fl20.i ty118 rfl 4) (show ivh19 (sk 15) 4 = ivh5 (sk 15) 4 from fl19.i ty118 rfl 4) (fun ri240 ie402 ie403 ri247 ie423 ie424 => ?_)
              refine c_lv (lv2 := [(5, .int (iI f20)), (6, .int (iI 0)), (4, .ref ob1), (0, .ref a0), (1, .int (iI i)), (2, .int (iI n)), (3, .int (iI lim))]) [1, 0, 2, 3, 4, 5, 6] rfl ?_
              exact Lp2 5004 f20 0 _ _ _ _ _ (by omega) X1 W20 F19  (by omega) (by omega) (by omega) (ie402.trans (ie403.trans ie404)) (fun ss hs => (CT.fr (CT.fr (CT.fr hs hW tsk4 fl5 rfl rfl rfl rfl rfl) W5 ty117 fl19 rfl rfl rfl rfl rfl) W19 ty117 fl20 rfl rfl rfl rfl rfl)) us9 (ie405.trans (ie406.trans ie407)) (ie408.trans (ie409.trans ie410)) (ie411.trans (ie412.trans ie413)) (ie414.trans (ie415.trans ie416)) (ie417.trans (ie418.trans ie419)) (ie420.trans (ie421.trans ie422)) (show rvh5 a0 9 = rv a0 9 from (fl5.r t_a0 rfl 9)) (show rvh5 a0 10 = rv a0 10 from (fl5.r t_a0 rfl 10))
          · subst oq1
            refine c_lv (lv2 := [(4, .null), (0, .ref a0), (1, .int (iI i)), (2, .int (iI n)), (3, .int (iI lim))]) [0, 1, 2, 3, 4] rfl ?_
            refine c_st (st2 := []) rfl ?_
            refine c_aload_n (j := 1) (x := a0) C dX11_unreadable_45 rfl ?_
            refine c_iconst C dX11_unreadable_46 ?_
            refine d_callV (As := [.int (iI 3)]) (rest := []) C hM (C_refuse (a0 := a0) (x := 3) hW hS t_a0 ⟨by decide, by decide⟩ ) dX11_unreadable_47 kV_X11_102 rfl t_a0 rfl rfl (by decide) ck_12 rfl (Nat.le_of_ble_eq_true rfl) ⟨(Nat.le_of_ble_eq_true rfl), (Nat.le_of_ble_eq_true rfl)⟩ hph hph (show 0 + 0 = 0 from rfl) (by decide) (fun rh32 Lh32 clh32 lnh32 ivh32 rvh32 h32 => ?_)
            obtain ⟨f32, rfl, rfl, rfl, rfl, rfl, fl32, W32, rgf32, exf32, kp11f32, kp12f32, kp13f32, kp14f32, kp15f32, kp16f32⟩ := h32
            refine hv8 (show 1 ≤ iv a0 11 ∧ iv a0 11 ≤ 100 from hW.int t_a0 11) (show 1 ≤ iv a0 12 ∧ iv a0 12 ≤ 50 from hW.int t_a0 12) (show (-2147483648) ≤ iv a0 13 ∧ iv a0 13 ≤ 2147483647 from hW.int t_a0 13) (show (-2147483648) ≤ iv a0 14 ∧ iv a0 14 ≤ 2147483647 from hW.int t_a0 14) (show (-2147483648) ≤ iv a0 15 ∧ iv a0 15 ≤ 2147483647 from hW.int t_a0 15) (show (-2147483648) ≤ iv a0 16 ∧ iv a0 16 ≤ 2147483647 from hW.int t_a0 16) (hF0.call hX0 fl32 rfl) (MRK.call hmr hW hS XT.refl fl32 rfl rfl) (fun ri248 ri249 ri250 ri251 ri252 ri253 F31 mr31 => ?_)
            refine c_st (st2 := [.int (iI f32)]) rfl ?_
            refine hv17 (show ivh32 a0 11 = iv a0 11 from kp11f32) (show ivh32 a0 12 = iv a0 12 from kp12f32) (show ivh32 a0 13 = iv a0 13 from kp13f32) (show ivh32 a0 14 = iv a0 14 from kp14f32) (show ivh32 a0 15 = iv a0 15 from kp15f32) (show ivh32 a0 16 = iv a0 16 from kp16f32) (show f32 = -1 from exf32) (show 1 ≤ ivh32 a0 11 ∧ ivh32 a0 11 ≤ 100 from W32.int t_a0 11) (show 1 ≤ ivh32 a0 12 ∧ ivh32 a0 12 ≤ 50 from W32.int t_a0 12) (show (-2147483648) ≤ ivh32 a0 13 ∧ ivh32 a0 13 ≤ 2147483647 from W32.int t_a0 13) (show (-2147483648) ≤ ivh32 a0 14 ∧ ivh32 a0 14 ≤ 2147483647 from W32.int t_a0 14) (show (-2147483648) ≤ ivh32 a0 15 ∧ ivh32 a0 15 ≤ 2147483647 from W32.int t_a0 15) (show (-2147483648) ≤ ivh32 a0 16 ∧ ivh32 a0 16 ≤ 2147483647 from W32.int t_a0 16) (show 0 ≤ ivh32 (sk 4) 2 ∧ ivh32 (sk 4) 2 ≤ 4000 from W32.int tsk4 2) (show ivh32 (sk 4) 2 = iv (sk 4) 2 from fl32.i tsk4 rfl 2) (show 0 ≤ ivh32 (sk 15) 4 ∧ ivh32 (sk 15) 4 ≤ 500 from W32.int tsk15 4) (show ivh32 (sk 15) 4 = iv (sk 15) 4 from fl32.i tsk15 rfl 4) (fun gk11f32 gk12f32 gk13f32 gk14f32 gk15f32 gk16f32 gf32 ri254 ri255 ri256 ri257 ri258 ri259 ri260 ie432 ri261 ie433 => ?_)
            exact c_iret C dX11_unreadable_50 rfl (by decide) (rom0 hph hph (by decide)) ⟨f32, rfl, hX0, F31, W32, ⟨by omega, by omega⟩, trivial, gk11f32, gk12f32, gk13f32, gk14f32, gk15f32, gk16f32, (PUR.nw gf4 (by omega) ⟨by omega, fun ss hs => (CT.fr hs hW tsk4 fl32 rfl rfl rfl rfl rfl)⟩), rfl, rfl⟩
        · refine c_aload_n (j := 0) (x := a0) C dX11_unreadable_23 rfl ?_
          refine c_bipush (z := 6) C dX11_unreadable_24 (by decide) ?_
          refine d_callV (As := [.int (iI 6)]) (rest := []) C hM (C_refuse (a0 := a0) (x := 6) hW hS t_a0 ⟨by decide, by decide⟩ ) dX11_unreadable_26 kV_X11_102 rfl t_a0 rfl rfl (by decide) ck_12 rfl (Nat.le_of_ble_eq_true rfl) ⟨(Nat.le_of_ble_eq_true rfl), (Nat.le_of_ble_eq_true rfl)⟩ hph hph (show 0 + 0 = 0 from rfl) (by decide) (fun rh33 Lh33 clh33 lnh33 ivh33 rvh33 h33 => ?_)
          obtain ⟨f33, rfl, rfl, rfl, rfl, rfl, fl33, W33, rgf33, exf33, kp11f33, kp12f33, kp13f33, kp14f33, kp15f33, kp16f33⟩ := h33
          refine hv8 (show 1 ≤ iv a0 11 ∧ iv a0 11 ≤ 100 from hW.int t_a0 11) (show 1 ≤ iv a0 12 ∧ iv a0 12 ≤ 50 from hW.int t_a0 12) (show (-2147483648) ≤ iv a0 13 ∧ iv a0 13 ≤ 2147483647 from hW.int t_a0 13) (show (-2147483648) ≤ iv a0 14 ∧ iv a0 14 ≤ 2147483647 from hW.int t_a0 14) (show (-2147483648) ≤ iv a0 15 ∧ iv a0 15 ≤ 2147483647 from hW.int t_a0 15) (show (-2147483648) ≤ iv a0 16 ∧ iv a0 16 ≤ 2147483647 from hW.int t_a0 16) (hF0.call hX0 fl33 rfl) (MRK.call hmr hW hS XT.refl fl33 rfl rfl) (fun ri262 ri263 ri264 ri265 ri266 ri267 F32 mr32 => ?_)
          refine c_st (st2 := [.int (iI f33)]) rfl ?_
          refine hv17 (show ivh33 a0 11 = iv a0 11 from kp11f33) (show ivh33 a0 12 = iv a0 12 from kp12f33) (show ivh33 a0 13 = iv a0 13 from kp13f33) (show ivh33 a0 14 = iv a0 14 from kp14f33) (show ivh33 a0 15 = iv a0 15 from kp15f33) (show ivh33 a0 16 = iv a0 16 from kp16f33) (show f33 = -1 from exf33) (show 1 ≤ ivh33 a0 11 ∧ ivh33 a0 11 ≤ 100 from W33.int t_a0 11) (show 1 ≤ ivh33 a0 12 ∧ ivh33 a0 12 ≤ 50 from W33.int t_a0 12) (show (-2147483648) ≤ ivh33 a0 13 ∧ ivh33 a0 13 ≤ 2147483647 from W33.int t_a0 13) (show (-2147483648) ≤ ivh33 a0 14 ∧ ivh33 a0 14 ≤ 2147483647 from W33.int t_a0 14) (show (-2147483648) ≤ ivh33 a0 15 ∧ ivh33 a0 15 ≤ 2147483647 from W33.int t_a0 15) (show (-2147483648) ≤ ivh33 a0 16 ∧ ivh33 a0 16 ≤ 2147483647 from W33.int t_a0 16) (show 0 ≤ ivh33 (sk 4) 2 ∧ ivh33 (sk 4) 2 ≤ 4000 from W33.int tsk4 2) (show ivh33 (sk 4) 2 = iv (sk 4) 2 from fl33.i tsk4 rfl 2) (show 0 ≤ ivh33 (sk 15) 4 ∧ ivh33 (sk 15) 4 ≤ 500 from W33.int tsk15 4) (show ivh33 (sk 15) 4 = iv (sk 15) 4 from fl33.i tsk15 rfl 4) (fun gk11f33 gk12f33 gk13f33 gk14f33 gk15f33 gk16f33 gf33 ri268 ri269 ri270 ri271 ri272 ri273 ri274 ie440 ri275 ie441 => ?_)
          exact c_iret C dX11_unreadable_29 rfl (by decide) (rom0 hph hph (by decide)) ⟨f33, rfl, hX0, F32, W33, ⟨by omega, by omega⟩, trivial, gk11f33, gk12f33, gk13f33, gk14f33, gk15f33, gk16f33, (PUR.arg (by omega) (by omega) ⟨by omega, fun ss hs => (CT.fr hs hW tsk4 fl33 rfl rfl rfl rfl rfl)⟩), rfl, rfl⟩
end
section
theorem PO2_unreadable {l : Launch} {G : GT} {mi h0 : Nat} {i : Int} {n : Int} {lim : Int} (h_i : -2147483648 ≤ i ∧ i ≤ 2147483647) (h_n : -2147483648 ≤ n ∧ n ≤ 2147483647) (h_lim : -2147483648 ≤ lim ∧ lim ≤ 2147483647) : PressOp l G mi yX11_unreadable cX11_unreadable 7 (some .int) 10 [.int (iI i), .int (iI n), .int (iI lim)] h0 (fun sk L cl ln iv rv L2 cl2 ln2 iv2 rv2 f => ((PUR sk ln iv rv iv2 rv2 i n lim f) ∧ (KSQ h0 iv rv iv2 rv2 ∧ KSC h0 iv rv iv2 rv2 ∧ iv2 h0 15 = iv h0 15 ∧ iv2 h0 16 = iv h0 16 ∧ (iv2 (sk 5) 2 = iv (sk 5) 2 ∧ ∀ ss, CT iv rv (sk 5) ss → CT iv2 rv2 (sk 5) ss) ∧ True ∧ FKP sk iv rv iv2 rv2)) ∧ (iv2 h0 14 = iv h0 14 ∧ iv2 h0 11 = iv h0 11 ∧ iv2 h0 12 = iv h0 12 ∧ iv2 h0 13 = iv h0 13) ∧ (iv2 (sk 2) 2 = iv (sk 2) 2 ∧ (∀ ss, CT iv rv (sk 2) ss → CT iv2 rv2 (sk 2) ss)) ∧ (iv2 (sk 3) 2 = iv (sk 3) 2 ∧ (∀ tt, CT iv rv (sk 3) tt → CT iv2 rv2 (sk 3) tt)) ∧ PSAME sk iv rv iv2 rv2 ∧ (∃ g, WT g sk L cl ln iv rv ∧ WT g sk L2 cl2 ln2 iv2 rv2) ∧ SKL sk L cl ∧ XT L cl ln L2 cl2 ln2 ∧ (KP L cl (fun _ => False) (fun _ => False) (fun _ => False) (fun _ => False) (fun _ _ => False) iv rv iv2 rv2)) := by
  intro n L cl ln iv rv sk hn hp
  obtain ⟨hW, hS, hm, h23, ht⟩ := hp
  refine hv3 (show ty L cl (sk 23) 23 from ⟨(hS 23 rfl).1, by rw [(hS 23 rfl).2]; rfl⟩) (show ty L cl (sk 2) 2 from ⟨(hS 2 rfl).1, by rw [(hS 2 rfl).2]; rfl⟩) (show ty L cl (sk 3) 3 from ⟨(hS 3 rfl).1, by rw [(hS 3 rfl).2]; rfl⟩) (fun t23 t2 t3 => ?_)
  refine ⟨0, _, by decide, G_unreadable hW hS ht h_i h_n h_lim hm, fun v L2 cl2 ln2 iv2 rv2 h => ?_⟩
  obtain ⟨f, rfl, hX, hF, hW2, rg, ex, kp11, kp12, kp13, kp14, kp15, kp16, pur, kr9, kr10⟩ := h
  exact ⟨f, rfl, by omega, hX, hW2, (MRK.call hm hW hS hX hF rfl rfl), (by have q := hF.i t23 rfl 2; omega), ⟨⟨pur, ⟨(KSQ.fr hW ht hF kr9 kr10 rfl rfl rfl), (KSC.fr hW ht hF kr9 kr10 rfl rfl rfl rfl), kp15, kp16, ⟨hF.i (tysq (t := 5) hS rfl rfl) rfl 2, fun ss hs => CT.fr hs hW (tysq (t := 5) hS rfl rfl) hF rfl rfl rfl rfl rfl⟩, trivial, (FKP.fr hW hS hF rfl rfl rfl rfl)⟩⟩, ⟨kp14, kp11, kp12, kp13⟩, ⟨hF.i t2 rfl 2, fun ss hs => CT.fr hs hW t2 hF rfl rfl rfl rfl rfl⟩, ⟨hF.i t3 rfl 2, fun tt ht => CT.fr ht hW t3 hF rfl rfl rfl rfl rfl⟩, (PSAME.fr hW hS hF rfl rfl rfl rfl rfl rfl rfl), ⟨⟨_, hW, hW2⟩, hS, hX, (KP.fr hW hF rfl)⟩⟩⟩
theorem MO2_unreadable {l : Launch} {G : GT} {mm : Nat} {x1 : Int} {x2 : Int} {x3 : Int} (h_x1 : -2147483648 ≤ x1 ∧ x1 ≤ 2147483647) (h_x2 : -2147483648 ≤ x2 ∧ x2 ≤ 2147483647) (h_x3 : -2147483648 ≤ x3 ∧ x3 ≤ 2147483647) : ModelOp l G yX12_unreadable cX12_unreadable 9 (some .int) 67 [.int (iI x1), .int (iI x2), .int (iI x3)] mm 2 262 (fun v a v2 a2 f => (((URX v a v2 a2 x1 x2 x3 f ∧ TBL v a ∧ (∀ j, a 16 j ≤ 4))) ∧ (v2 36 = v 36 ∧ KSA v a v2 a2 ∧ v2 42 = v 42 ∧ v2 43 = v 43 ∧ (v2 41 = v 41 ∧ a2 40 = a 40) ∧ True ∧ (v2 60 = v 60 ∧ v2 61 = v 61 ∧ a2 58 = a 58 ∧ a2 59 = a 59))) ∧ (v2 56 = v 56 ∧ v2 31 = v 31 ∧ v2 32 = v 32 ∧ v2 33 = v 33) ∧ (v2 3 = v 3 ∧ a2 2 = a 2) ∧ (v2 30 = v 30 ∧ a2 29 = a 29) ∧ TSAME v a v2 a2) := by
  intro n ad ln v a L E hn hV hI
  obtain ⟨hB, hT, hS, hR, h19⟩ := hV
  refine ⟨_, N2_unreadable (t := x1) (n1 := x2) (m1 := x3) hB hT hR h_x1 h_x2 h_x3 L E hI, fun r L2 E2 h => ?_⟩
  obtain ⟨v2, a2, hI2, f, rfl, hf, hB2, hx⟩ := h
  exact ⟨f, ad, ln, v2, a2, rfl, hI2, ⟨hB2, (hT.fr hf rfl rfl), (hS.fr hf rfl rfl), hx.1, (by have q := hf.1 19 rfl; push_cast; omega)⟩, ⟨⟨⟨hx.2, hT, fun j => (hB.2 16 j).2⟩, ⟨hf.1 36 rfl, ⟨hf.1 36 rfl, hf.2 34 rfl, hf.2 35 rfl⟩, hf.1 42 rfl, hf.1 43 rfl, ⟨hf.1 41 rfl, hf.2 40 rfl⟩, trivial, ⟨hf.1 60 rfl, hf.1 61 rfl, hf.2 58 rfl, hf.2 59 rfl⟩⟩⟩, ⟨hf.1 56 rfl, hf.1 31 rfl, hf.1 32 rfl, hf.1 33 rfl⟩, ⟨hf.1 3 rfl, hf.2 2 rfl⟩, ⟨hf.1 30 rfl, hf.2 29 rfl⟩, ⟨hf.1 4 rfl, hf.2 5 rfl, hf.2 6 rfl, hf.2 7 rfl, hf.2 10 rfl, hf.1 19 rfl, hf.2 18 rfl, hf.2 11 rfl, hf.2 8 rfl, hf.2 9 rfl, hf.2 12 rfl, hf.2 13 rfl, hf.2 14 rfl, hf.2 15 rfl, hf.2 16 rfl, hf.2 17 rfl⟩⟩⟩
end
section
def LTB (a : Nat → Nat → Int) (l : List Int) : Prop := ∀ (j : Nat) (d : Int), l[j]? = some d → 0 ≤ d → ∀ k : Nat, ((k : Nat) : Int) < a 12 d.toNat → 33 ≤ a 14 (8 * d + ((k : Nat) : Int)).toNat
section GPRD
variable {g0 : Nat} {sk : Nat → Nat} {L L1 L2 : List Nat} {cl ln cl1 ln1 cl2 ln2 : Nat → Nat} {iv iv1 iv2 iv3 : Nat → Nat → Int} {rv rv1 rv2 rv3 : Nat → Nat → Option Nat} {v : Nat → Int} {a : Nat → Nat → Int} {l0 l1 l : List Int} {C : Nat → Int} {F : Int32} {q b h0 sA r eb : Nat} {n p g h d x y z f k i t m u s f2 z1 z2 lx : Int} {ls : List Nat} {K Z : List (List Int)}
theorem mem_fmp {fu : Option Int → List (List Int)} {w : List Int} : ∀ l : List (Option Int), w ∈ fmp fu l → ∃ o ∈ l, w ∈ fu o := by
  intro l
  induction l with
  | nil => intro e; exact absurd e (List.not_mem_nil)
  | cons o l ih =>
    intro e
    have e2 : w ∈ fu o ++ fmp fu l := e
    rcases List.mem_append.mp e2 with e3 | e3
    · exact ⟨o, List.mem_cons_self .., e3⟩
    · obtain ⟨o2, h1, h2⟩ := ih e3
      exact ⟨o2, List.mem_cons_of_mem _ h1, h2⟩
theorem rlt_nn : ∀ (m : Nat), (∀ k : Nat, k < m → 33 ≤ a 14 (8 * d + ((k : Nat) : Int)).toNat) → (h = 1 → 97 ≤ a 14 (8 * d).toNat) → ∀ z, z ∈ rlt a d h m → 0 ≤ z := by
  intro m
  induction m with
  | zero => intro _ _ z e; exact absurd e (List.not_mem_nil)
  | succ m ih =>
    intro hh h9 z e
    have e2 : z ∈ rlt a d h m ++ [a 14 (8 * d + ((m : Nat) : Int)).toNat - (if h = 1 ∧ m = 0 then 32 else 0)] := e
    rcases List.mem_append.mp e2 with e3 | e3
    · exact ih (fun k hk => hh k (by omega)) h9 z e3
    · have e4 := List.mem_singleton.mp e3
      have b := hh m (by omega)
      rw [e4]
      split <;> omega
theorem rdl_nn (hl0 : LTB a l0) (hl1 : LTB a l1) : ∀ (m : Nat) (p g h : Int) (w : List Int), w ∈ rdl a l0 l1 C F n m p g h → ∀ z, z ∈ w → 0 ≤ z := by
  intro m
  induction m with
  | zero => intro p g h w e; exact absurd e (List.not_mem_nil)
  | succ m ih =>
    intro p g h w e z hz
    rw [rdl_s] at e
    by_cases c : p = n
    · rw [if_pos c] at e
      by_cases c2 : h = 1
      · rw [if_pos c2] at e
        exact absurd e (List.not_mem_nil)
      · rw [if_neg c2] at e
        rw [List.mem_singleton.mp e] at hz
        exact absurd hz (List.not_mem_nil)
    · rw [if_neg c] at e
      obtain ⟨o, o1, o2⟩ := mem_fmp _ e
      by_cases my : MYO a C F n p h o
      · rw [cif_t my] at o2
        obtain ⟨u, u1, u2⟩ := List.mem_map.mp o2
        rw [← u2] at hz
        rcases List.mem_append.mp hz with hz | hz
        · cases o with
          | none =>
            have e3 : z ∈ [(32 : Int)] := hz
            rw [List.mem_singleton.mp e3]
            decide
          | some d =>
            refine hv2 (show z ∈ rout a d h from hz) (show MYR a C F n d p h from my) (fun e3 m2 => ?_)
            have dm : ∃ j : Nat, (if g = 0 then l0 else l1)[j]? = some d := by
              rcases List.mem_cons.mp o1 with q1 | q1
              · cases q1
              · obtain ⟨d2, q2, q3⟩ := List.mem_map.mp q1
                cases q3
                exact List.getElem?_of_mem q2
            obtain ⟨j, hj⟩ := dm
            have lt : LTB a (if g = 0 then l0 else l1) := by
              by_cases c3 : g = 0
              · rw [if_pos c3]
                exact hl0
              · rw [if_neg c3]
                exact hl1
            unfold rout at e3
            by_cases hd : 0 ≤ d
            · rw [if_pos hd] at e3
              exact rlt_nn _ (fun k hk => lt j d hj hd k (by omega)) (fun e => (m2.1.2 e).2.1) z e3
            · rw [if_neg hd] at e3
              by_cases r2 : rol d = 2
              · rw [if_pos r2] at e3
                rw [List.mem_singleton.mp e3]
                decide
              · rw [if_neg r2] at e3
                by_cases r3 : rol d = 3
                · rw [if_pos r3] at e3
                  rw [List.mem_singleton.mp e3]
                  decide
                · rw [if_neg r3] at e3
                  exact absurd e3 (List.not_mem_nil)
        · exact ih _ _ _ u u1 z hz
      · rw [cif_f my] at o2
        exact absurd o2 (List.not_mem_nil)
theorem KMQ.nn {W : Nat} (hk : KMQ W (RDC a l0 l1 C F n p g h) K x) (h0 : LTB a l0) (h1 : LTB a l1) : (∀ (k : Nat) (w : List Int), K[k]? = some w → ∀ (j : Nat) (z : Int), w[j]? = some z → 0 ≤ z) := fun k w e j z ez => by
  have e2 := List.mem_of_getElem? e
  rw [hk.1] at e2
  exact rdl_nn h0 h1 _ _ _ _ w (List.mem_of_mem_take e2) z (List.mem_of_getElem? ez)
end GPRD
section GPR2
variable {g0 : Nat} {sk : Nat → Nat} {L : List Nat} {cl ln : Nat → Nat} {iv iv1 : Nat → Nat → Int} {rv rv1 : Nat → Nat → Option Nat} {v : Nat → Int} {a : Nat → Nat → Int} {r sA q : Nat} {xs : List Int} {E : List (Option (List Int))} {t l m : Int} {ls : List Nat} {K : List (List Int)}
end GPR2
end
section
theorem bit8 {i : Nat} (h : ¬ i < 8) : (255#32 : BitVec 32).getLsbD i = false := by
  rw [show (255#32 : BitVec 32) = BitVec.setWidth 32 (255#8) from by decide, BitVec.getLsbD_setWidth, BitVec.getLsbD_of_ge (255#8) i (by omega), Bool.and_false]
theorem shr8 (x : BitVec 32) (n : Nat) (h : n ≤ 24) : (x >>> n) &&& 255#32 = (x.sshiftRight n) &&& 255#32 := by
  apply BitVec.eq_of_getLsbD_eq
  intro i hi
  rw [BitVec.getLsbD_and, BitVec.getLsbD_and]
  by_cases h8 : i < 8
  · rw [BitVec.getLsbD_ushiftRight, BitVec.getLsbD_sshiftRight]
    have h1 : ¬ (32 ≤ i) := by omega
    have h2 : n + i < 32 := by omega
    simp [h1, h2]
  · rw [bit8 h8, Bool.and_false, Bool.and_false]
theorem byx_k (x : Int) (n : Nat) (hn : n ≤ 24) (s1 : UInt32) (e1 : s1.toBitVec = BitVec.ofNat 32 n) (s2 : Int32) (e2 : s2.toBitVec = BitVec.ofNat 32 n) : ((iI x).toUInt32 >>> s1).toInt32 &&& iI 255 = (iI x >>> s2) &&& iI 255 := by
  refine hv2 (show ∀ m : Nat, m ≤ 24 → (BitVec.ofNat 32 m % 32#32).toNat = m from by decide +kernel) (show ∀ m : Nat, m ≤ 24 → ((BitVec.ofNat 32 m).smod 32#32).toNat = m from by decide +kernel) (fun h1 h2 => ?_)
  have b1 : ((iI x).toUInt32 >>> s1).toInt32.toBitVec = (iI x).toBitVec >>> n := by
    show (iI x).toBitVec >>> (s1.toBitVec % 32#32).toNat = _
    rw [e1, h1 n hn]
  have b2 : (iI x >>> s2).toBitVec = (iI x).toBitVec.sshiftRight n := by
    show (iI x).toBitVec.sshiftRight (s2.toBitVec.smod 32#32).toNat = _
    rw [e2, h2 n hn]
  apply Int32.toBitVec_inj.mp
  rw [Int32.toBitVec_and, Int32.toBitVec_and, b1, b2]
  exact shr8 _ n hn
theorem byx_r (x : Int) : byx x 0 = rby x 0 ∧ byx x 1 = rby x 1 ∧ byx x 2 = rby x 2 ∧ byx x 3 = rby x 3 := by
  refine ⟨?_, ?_, ?_, ?_⟩
  · unfold byx rby; exact congrArg Int32.toInt (byx_k x 24 (by decide) _ (by decide +kernel) _ (by decide +kernel))
  · unfold byx rby; exact congrArg Int32.toInt (byx_k x 16 (by decide) _ (by decide +kernel) _ (by decide +kernel))
  · unfold byx rby; exact congrArg Int32.toInt (byx_k x 8 (by decide) _ (by decide +kernel) _ (by decide +kernel))
  · unfold byx rby; exact congrArg Int32.toInt (byx_k x 0 (by decide) _ (by decide +kernel) _ (by decide +kernel))
theorem rby_4 (x : Int) : (rby x 4 = rby x 0 ∧ rby x 8 = rby x 0 ∧ rby x 12 = rby x 0 ∧ rby x 16 = rby x 0) ∧ (rby x 5 = rby x 1 ∧ rby x 9 = rby x 1 ∧ rby x 13 = rby x 1 ∧ rby x 17 = rby x 1) ∧ (rby x 6 = rby x 2 ∧ rby x 10 = rby x 2 ∧ rby x 14 = rby x 2 ∧ rby x 18 = rby x 2) ∧ (rby x 7 = rby x 3 ∧ rby x 11 = rby x 3 ∧ rby x 15 = rby x 3 ∧ rby x 19 = rby x 3) := by
  have k : ∀ i j : Int, (iI i &&& iI 3) = (iI j &&& iI 3) → rby x i = rby x j := fun i j h => by unfold rby; rw [h]
  exact ⟨⟨k _ _ (by decide), k _ _ (by decide), k _ _ (by decide), k _ _ (by decide)⟩, ⟨k _ _ (by decide), k _ _ (by decide), k _ _ (by decide), k _ _ (by decide)⟩, ⟨k _ _ (by decide), k _ _ (by decide), k _ _ (by decide), k _ _ (by decide)⟩, ⟨k _ _ (by decide), k _ _ (by decide), k _ _ (by decide), k _ _ (by decide)⟩⟩
theorem fd_rfd (ss : Nat → Int) (n : Nat) (x1 x2 x3 x4 x5 : Int) : fd5 ss n x1 x2 x3 x4 x5 = rfd ss n x1 x2 x3 x4 x5 20 := by
  have s0 : bsel ((0 : Nat) : Int) x1 x2 x3 x4 x5 = x1 := by unfold bsel; rw [if_pos (by decide)]
  have r1 : rfd ss n x1 x2 x3 x4 x5 1 = (va_up ss (n + 0) (rby x1 0)) := by
    show va_up (rfd ss n x1 x2 x3 x4 x5 0) (n + 0) (rby (bsel ((0 : Nat) : Int) x1 x2 x3 x4 x5) ((0 : Nat) : Int)) = _
    (rw [s0]) <;> rfl
  have s1 : bsel ((1 : Nat) : Int) x1 x2 x3 x4 x5 = x1 := by unfold bsel; rw [if_pos (by decide)]
  have r2 : rfd ss n x1 x2 x3 x4 x5 2 = (va_up (va_up ss (n + 0) (rby x1 0)) (n + 1) (rby x1 1)) := by
    show va_up (rfd ss n x1 x2 x3 x4 x5 1) (n + 1) (rby (bsel ((1 : Nat) : Int) x1 x2 x3 x4 x5) ((1 : Nat) : Int)) = _
    (rw [s1, r1]) <;> rfl
  have s2 : bsel ((2 : Nat) : Int) x1 x2 x3 x4 x5 = x1 := by unfold bsel; rw [if_pos (by decide)]
  have r3 : rfd ss n x1 x2 x3 x4 x5 3 = (va_up (va_up (va_up ss (n + 0) (rby x1 0)) (n + 1) (rby x1 1)) (n + 2) (rby x1 2)) := by
    show va_up (rfd ss n x1 x2 x3 x4 x5 2) (n + 2) (rby (bsel ((2 : Nat) : Int) x1 x2 x3 x4 x5) ((2 : Nat) : Int)) = _
    (rw [s2, r2]) <;> rfl
  have s3 : bsel ((3 : Nat) : Int) x1 x2 x3 x4 x5 = x1 := by unfold bsel; rw [if_pos (by decide)]
  have r4 : rfd ss n x1 x2 x3 x4 x5 4 = (va_up (va_up (va_up (va_up ss (n + 0) (rby x1 0)) (n + 1) (rby x1 1)) (n + 2) (rby x1 2)) (n + 3) (rby x1 3)) := by
    show va_up (rfd ss n x1 x2 x3 x4 x5 3) (n + 3) (rby (bsel ((3 : Nat) : Int) x1 x2 x3 x4 x5) ((3 : Nat) : Int)) = _
    (rw [s3, r3]) <;> rfl
  have s4 : bsel ((4 : Nat) : Int) x1 x2 x3 x4 x5 = x2 := by unfold bsel; rw [if_neg (by decide), if_pos (by decide)]
  have r5 : rfd ss n x1 x2 x3 x4 x5 5 = (va_up (va_up (va_up (va_up (va_up ss (n + 0) (rby x1 0)) (n + 1) (rby x1 1)) (n + 2) (rby x1 2)) (n + 3) (rby x1 3)) (n + 4) (rby x2 4)) := by
    show va_up (rfd ss n x1 x2 x3 x4 x5 4) (n + 4) (rby (bsel ((4 : Nat) : Int) x1 x2 x3 x4 x5) ((4 : Nat) : Int)) = _
    (rw [s4, r4]) <;> rfl
  have s5 : bsel ((5 : Nat) : Int) x1 x2 x3 x4 x5 = x2 := by unfold bsel; rw [if_neg (by decide), if_pos (by decide)]
  have r6 : rfd ss n x1 x2 x3 x4 x5 6 = (va_up (va_up (va_up (va_up (va_up (va_up ss (n + 0) (rby x1 0)) (n + 1) (rby x1 1)) (n + 2) (rby x1 2)) (n + 3) (rby x1 3)) (n + 4) (rby x2 4)) (n + 5) (rby x2 5)) := by
    show va_up (rfd ss n x1 x2 x3 x4 x5 5) (n + 5) (rby (bsel ((5 : Nat) : Int) x1 x2 x3 x4 x5) ((5 : Nat) : Int)) = _
    (rw [s5, r5]) <;> rfl
  have s6 : bsel ((6 : Nat) : Int) x1 x2 x3 x4 x5 = x2 := by unfold bsel; rw [if_neg (by decide), if_pos (by decide)]
  have r7 : rfd ss n x1 x2 x3 x4 x5 7 = (va_up (va_up (va_up (va_up (va_up (va_up (va_up ss (n + 0) (rby x1 0)) (n + 1) (rby x1 1)) (n + 2) (rby x1 2)) (n + 3) (rby x1 3)) (n + 4) (rby x2 4)) (n + 5) (rby x2 5)) (n + 6) (rby x2 6)) := by
    show va_up (rfd ss n x1 x2 x3 x4 x5 6) (n + 6) (rby (bsel ((6 : Nat) : Int) x1 x2 x3 x4 x5) ((6 : Nat) : Int)) = _
    (rw [s6, r6]) <;> rfl
  have s7 : bsel ((7 : Nat) : Int) x1 x2 x3 x4 x5 = x2 := by unfold bsel; rw [if_neg (by decide), if_pos (by decide)]
  have r8 : rfd ss n x1 x2 x3 x4 x5 8 = (va_up (va_up (va_up (va_up (va_up (va_up (va_up (va_up ss (n + 0) (rby x1 0)) (n + 1) (rby x1 1)) (n + 2) (rby x1 2)) (n + 3) (rby x1 3)) (n + 4) (rby x2 4)) (n + 5) (rby x2 5)) (n + 6) (rby x2 6)) (n + 7) (rby x2 7)) := by
    show va_up (rfd ss n x1 x2 x3 x4 x5 7) (n + 7) (rby (bsel ((7 : Nat) : Int) x1 x2 x3 x4 x5) ((7 : Nat) : Int)) = _
    (rw [s7, r7]) <;> rfl
  have s8 : bsel ((8 : Nat) : Int) x1 x2 x3 x4 x5 = x3 := by unfold bsel; rw [if_neg (by decide), if_neg (by decide), if_pos (by decide)]
  have r9 : rfd ss n x1 x2 x3 x4 x5 9 = (va_up (va_up (va_up (va_up (va_up (va_up (va_up (va_up (va_up ss (n + 0) (rby x1 0)) (n + 1) (rby x1 1)) (n + 2) (rby x1 2)) (n + 3) (rby x1 3)) (n + 4) (rby x2 4)) (n + 5) (rby x2 5)) (n + 6) (rby x2 6)) (n + 7) (rby x2 7)) (n + 8) (rby x3 8)) := by
    show va_up (rfd ss n x1 x2 x3 x4 x5 8) (n + 8) (rby (bsel ((8 : Nat) : Int) x1 x2 x3 x4 x5) ((8 : Nat) : Int)) = _
    (rw [s8, r8]) <;> rfl
  have s9 : bsel ((9 : Nat) : Int) x1 x2 x3 x4 x5 = x3 := by unfold bsel; rw [if_neg (by decide), if_neg (by decide), if_pos (by decide)]
  have r10 : rfd ss n x1 x2 x3 x4 x5 10 = (va_up (va_up (va_up (va_up (va_up (va_up (va_up (va_up (va_up (va_up ss (n + 0) (rby x1 0)) (n + 1) (rby x1 1)) (n + 2) (rby x1 2)) (n + 3) (rby x1 3)) (n + 4) (rby x2 4)) (n + 5) (rby x2 5)) (n + 6) (rby x2 6)) (n + 7) (rby x2 7)) (n + 8) (rby x3 8)) (n + 9) (rby x3 9)) := by
    show va_up (rfd ss n x1 x2 x3 x4 x5 9) (n + 9) (rby (bsel ((9 : Nat) : Int) x1 x2 x3 x4 x5) ((9 : Nat) : Int)) = _
    (rw [s9, r9]) <;> rfl
  have s10 : bsel ((10 : Nat) : Int) x1 x2 x3 x4 x5 = x3 := by unfold bsel; rw [if_neg (by decide), if_neg (by decide), if_pos (by decide)]
  have r11 : rfd ss n x1 x2 x3 x4 x5 11 = (va_up (va_up (va_up (va_up (va_up (va_up (va_up (va_up (va_up (va_up (va_up ss (n + 0) (rby x1 0)) (n + 1) (rby x1 1)) (n + 2) (rby x1 2)) (n + 3) (rby x1 3)) (n + 4) (rby x2 4)) (n + 5) (rby x2 5)) (n + 6) (rby x2 6)) (n + 7) (rby x2 7)) (n + 8) (rby x3 8)) (n + 9) (rby x3 9)) (n + 10) (rby x3 10)) := by
    show va_up (rfd ss n x1 x2 x3 x4 x5 10) (n + 10) (rby (bsel ((10 : Nat) : Int) x1 x2 x3 x4 x5) ((10 : Nat) : Int)) = _
    (rw [s10, r10]) <;> rfl
  have s11 : bsel ((11 : Nat) : Int) x1 x2 x3 x4 x5 = x3 := by unfold bsel; rw [if_neg (by decide), if_neg (by decide), if_pos (by decide)]
  have r12 : rfd ss n x1 x2 x3 x4 x5 12 = (va_up (va_up (va_up (va_up (va_up (va_up (va_up (va_up (va_up (va_up (va_up (va_up ss (n + 0) (rby x1 0)) (n + 1) (rby x1 1)) (n + 2) (rby x1 2)) (n + 3) (rby x1 3)) (n + 4) (rby x2 4)) (n + 5) (rby x2 5)) (n + 6) (rby x2 6)) (n + 7) (rby x2 7)) (n + 8) (rby x3 8)) (n + 9) (rby x3 9)) (n + 10) (rby x3 10)) (n + 11) (rby x3 11)) := by
    show va_up (rfd ss n x1 x2 x3 x4 x5 11) (n + 11) (rby (bsel ((11 : Nat) : Int) x1 x2 x3 x4 x5) ((11 : Nat) : Int)) = _
    (rw [s11, r11]) <;> rfl
  have s12 : bsel ((12 : Nat) : Int) x1 x2 x3 x4 x5 = x4 := by unfold bsel; rw [if_neg (by decide), if_neg (by decide), if_neg (by decide), if_pos (by decide)]
  have r13 : rfd ss n x1 x2 x3 x4 x5 13 = (va_up (va_up (va_up (va_up (va_up (va_up (va_up (va_up (va_up (va_up (va_up (va_up (va_up ss (n + 0) (rby x1 0)) (n + 1) (rby x1 1)) (n + 2) (rby x1 2)) (n + 3) (rby x1 3)) (n + 4) (rby x2 4)) (n + 5) (rby x2 5)) (n + 6) (rby x2 6)) (n + 7) (rby x2 7)) (n + 8) (rby x3 8)) (n + 9) (rby x3 9)) (n + 10) (rby x3 10)) (n + 11) (rby x3 11)) (n + 12) (rby x4 12)) := by
    show va_up (rfd ss n x1 x2 x3 x4 x5 12) (n + 12) (rby (bsel ((12 : Nat) : Int) x1 x2 x3 x4 x5) ((12 : Nat) : Int)) = _
    (rw [s12, r12]) <;> rfl
  have s13 : bsel ((13 : Nat) : Int) x1 x2 x3 x4 x5 = x4 := by unfold bsel; rw [if_neg (by decide), if_neg (by decide), if_neg (by decide), if_pos (by decide)]
  have r14 : rfd ss n x1 x2 x3 x4 x5 14 = (va_up (va_up (va_up (va_up (va_up (va_up (va_up (va_up (va_up (va_up (va_up (va_up (va_up (va_up ss (n + 0) (rby x1 0)) (n + 1) (rby x1 1)) (n + 2) (rby x1 2)) (n + 3) (rby x1 3)) (n + 4) (rby x2 4)) (n + 5) (rby x2 5)) (n + 6) (rby x2 6)) (n + 7) (rby x2 7)) (n + 8) (rby x3 8)) (n + 9) (rby x3 9)) (n + 10) (rby x3 10)) (n + 11) (rby x3 11)) (n + 12) (rby x4 12)) (n + 13) (rby x4 13)) := by
    show va_up (rfd ss n x1 x2 x3 x4 x5 13) (n + 13) (rby (bsel ((13 : Nat) : Int) x1 x2 x3 x4 x5) ((13 : Nat) : Int)) = _
    (rw [s13, r13]) <;> rfl
  have s14 : bsel ((14 : Nat) : Int) x1 x2 x3 x4 x5 = x4 := by unfold bsel; rw [if_neg (by decide), if_neg (by decide), if_neg (by decide), if_pos (by decide)]
  have r15 : rfd ss n x1 x2 x3 x4 x5 15 = (va_up (va_up (va_up (va_up (va_up (va_up (va_up (va_up (va_up (va_up (va_up (va_up (va_up (va_up (va_up ss (n + 0) (rby x1 0)) (n + 1) (rby x1 1)) (n + 2) (rby x1 2)) (n + 3) (rby x1 3)) (n + 4) (rby x2 4)) (n + 5) (rby x2 5)) (n + 6) (rby x2 6)) (n + 7) (rby x2 7)) (n + 8) (rby x3 8)) (n + 9) (rby x3 9)) (n + 10) (rby x3 10)) (n + 11) (rby x3 11)) (n + 12) (rby x4 12)) (n + 13) (rby x4 13)) (n + 14) (rby x4 14)) := by
    show va_up (rfd ss n x1 x2 x3 x4 x5 14) (n + 14) (rby (bsel ((14 : Nat) : Int) x1 x2 x3 x4 x5) ((14 : Nat) : Int)) = _
    (rw [s14, r14]) <;> rfl
  have s15 : bsel ((15 : Nat) : Int) x1 x2 x3 x4 x5 = x4 := by unfold bsel; rw [if_neg (by decide), if_neg (by decide), if_neg (by decide), if_pos (by decide)]
  have r16 : rfd ss n x1 x2 x3 x4 x5 16 = (va_up (va_up (va_up (va_up (va_up (va_up (va_up (va_up (va_up (va_up (va_up (va_up (va_up (va_up (va_up (va_up ss (n + 0) (rby x1 0)) (n + 1) (rby x1 1)) (n + 2) (rby x1 2)) (n + 3) (rby x1 3)) (n + 4) (rby x2 4)) (n + 5) (rby x2 5)) (n + 6) (rby x2 6)) (n + 7) (rby x2 7)) (n + 8) (rby x3 8)) (n + 9) (rby x3 9)) (n + 10) (rby x3 10)) (n + 11) (rby x3 11)) (n + 12) (rby x4 12)) (n + 13) (rby x4 13)) (n + 14) (rby x4 14)) (n + 15) (rby x4 15)) := by
    show va_up (rfd ss n x1 x2 x3 x4 x5 15) (n + 15) (rby (bsel ((15 : Nat) : Int) x1 x2 x3 x4 x5) ((15 : Nat) : Int)) = _
    (rw [s15, r15]) <;> rfl
  have s16 : bsel ((16 : Nat) : Int) x1 x2 x3 x4 x5 = x5 := by unfold bsel; rw [if_neg (by decide), if_neg (by decide), if_neg (by decide), if_neg (by decide)]
  have r17 : rfd ss n x1 x2 x3 x4 x5 17 = (va_up (va_up (va_up (va_up (va_up (va_up (va_up (va_up (va_up (va_up (va_up (va_up (va_up (va_up (va_up (va_up (va_up ss (n + 0) (rby x1 0)) (n + 1) (rby x1 1)) (n + 2) (rby x1 2)) (n + 3) (rby x1 3)) (n + 4) (rby x2 4)) (n + 5) (rby x2 5)) (n + 6) (rby x2 6)) (n + 7) (rby x2 7)) (n + 8) (rby x3 8)) (n + 9) (rby x3 9)) (n + 10) (rby x3 10)) (n + 11) (rby x3 11)) (n + 12) (rby x4 12)) (n + 13) (rby x4 13)) (n + 14) (rby x4 14)) (n + 15) (rby x4 15)) (n + 16) (rby x5 16)) := by
    show va_up (rfd ss n x1 x2 x3 x4 x5 16) (n + 16) (rby (bsel ((16 : Nat) : Int) x1 x2 x3 x4 x5) ((16 : Nat) : Int)) = _
    (rw [s16, r16]) <;> rfl
  have s17 : bsel ((17 : Nat) : Int) x1 x2 x3 x4 x5 = x5 := by unfold bsel; rw [if_neg (by decide), if_neg (by decide), if_neg (by decide), if_neg (by decide)]
  have r18 : rfd ss n x1 x2 x3 x4 x5 18 = (va_up (va_up (va_up (va_up (va_up (va_up (va_up (va_up (va_up (va_up (va_up (va_up (va_up (va_up (va_up (va_up (va_up (va_up ss (n + 0) (rby x1 0)) (n + 1) (rby x1 1)) (n + 2) (rby x1 2)) (n + 3) (rby x1 3)) (n + 4) (rby x2 4)) (n + 5) (rby x2 5)) (n + 6) (rby x2 6)) (n + 7) (rby x2 7)) (n + 8) (rby x3 8)) (n + 9) (rby x3 9)) (n + 10) (rby x3 10)) (n + 11) (rby x3 11)) (n + 12) (rby x4 12)) (n + 13) (rby x4 13)) (n + 14) (rby x4 14)) (n + 15) (rby x4 15)) (n + 16) (rby x5 16)) (n + 17) (rby x5 17)) := by
    show va_up (rfd ss n x1 x2 x3 x4 x5 17) (n + 17) (rby (bsel ((17 : Nat) : Int) x1 x2 x3 x4 x5) ((17 : Nat) : Int)) = _
    (rw [s17, r17]) <;> rfl
  have s18 : bsel ((18 : Nat) : Int) x1 x2 x3 x4 x5 = x5 := by unfold bsel; rw [if_neg (by decide), if_neg (by decide), if_neg (by decide), if_neg (by decide)]
  have r19 : rfd ss n x1 x2 x3 x4 x5 19 = (va_up (va_up (va_up (va_up (va_up (va_up (va_up (va_up (va_up (va_up (va_up (va_up (va_up (va_up (va_up (va_up (va_up (va_up (va_up ss (n + 0) (rby x1 0)) (n + 1) (rby x1 1)) (n + 2) (rby x1 2)) (n + 3) (rby x1 3)) (n + 4) (rby x2 4)) (n + 5) (rby x2 5)) (n + 6) (rby x2 6)) (n + 7) (rby x2 7)) (n + 8) (rby x3 8)) (n + 9) (rby x3 9)) (n + 10) (rby x3 10)) (n + 11) (rby x3 11)) (n + 12) (rby x4 12)) (n + 13) (rby x4 13)) (n + 14) (rby x4 14)) (n + 15) (rby x4 15)) (n + 16) (rby x5 16)) (n + 17) (rby x5 17)) (n + 18) (rby x5 18)) := by
    show va_up (rfd ss n x1 x2 x3 x4 x5 18) (n + 18) (rby (bsel ((18 : Nat) : Int) x1 x2 x3 x4 x5) ((18 : Nat) : Int)) = _
    (rw [s18, r18]) <;> rfl
  have s19 : bsel ((19 : Nat) : Int) x1 x2 x3 x4 x5 = x5 := by unfold bsel; rw [if_neg (by decide), if_neg (by decide), if_neg (by decide), if_neg (by decide)]
  have r20 : rfd ss n x1 x2 x3 x4 x5 20 = (va_up (va_up (va_up (va_up (va_up (va_up (va_up (va_up (va_up (va_up (va_up (va_up (va_up (va_up (va_up (va_up (va_up (va_up (va_up (va_up ss (n + 0) (rby x1 0)) (n + 1) (rby x1 1)) (n + 2) (rby x1 2)) (n + 3) (rby x1 3)) (n + 4) (rby x2 4)) (n + 5) (rby x2 5)) (n + 6) (rby x2 6)) (n + 7) (rby x2 7)) (n + 8) (rby x3 8)) (n + 9) (rby x3 9)) (n + 10) (rby x3 10)) (n + 11) (rby x3 11)) (n + 12) (rby x4 12)) (n + 13) (rby x4 13)) (n + 14) (rby x4 14)) (n + 15) (rby x4 15)) (n + 16) (rby x5 16)) (n + 17) (rby x5 17)) (n + 18) (rby x5 18)) (n + 19) (rby x5 19)) := by
    show va_up (rfd ss n x1 x2 x3 x4 x5 19) (n + 19) (rby (bsel ((19 : Nat) : Int) x1 x2 x3 x4 x5) ((19 : Nat) : Int)) = _
    (rw [s19, r19]) <;> rfl
  obtain ⟨y10, y11, y12, y13⟩ := byx_r x1
  obtain ⟨y20, y21, y22, y23⟩ := byx_r x2
  obtain ⟨y30, y31, y32, y33⟩ := byx_r x3
  obtain ⟨y40, y41, y42, y43⟩ := byx_r x4
  obtain ⟨y50, y51, y52, y53⟩ := byx_r x5
  obtain ⟨⟨f4, _, _, _⟩, ⟨f5, _, _, _⟩, ⟨f6, _, _, _⟩, ⟨f7, _, _, _⟩⟩ := rby_4 x2
  obtain ⟨⟨_, f8, _, _⟩, ⟨_, f9, _, _⟩, ⟨_, f10, _, _⟩, ⟨_, f11, _, _⟩⟩ := rby_4 x3
  obtain ⟨⟨_, _, f12, _⟩, ⟨_, _, f13, _⟩, ⟨_, _, f14, _⟩, ⟨_, _, f15, _⟩⟩ := rby_4 x4
  obtain ⟨⟨_, _, _, f16⟩, ⟨_, _, _, f17⟩, ⟨_, _, _, f18⟩, ⟨_, _, _, f19⟩⟩ := rby_4 x5
  have lh : fd5 ss n x1 x2 x3 x4 x5 = (va_up (va_up (va_up (va_up (va_up (va_up (va_up (va_up (va_up (va_up (va_up (va_up (va_up (va_up (va_up (va_up (va_up (va_up (va_up (va_up ss (n + 0) (byx x1 0)) (n + 1) (byx x1 1)) (n + 2) (byx x1 2)) (n + 3) (byx x1 3)) (n + 4) (byx x2 0)) (n + 5) (byx x2 1)) (n + 6) (byx x2 2)) (n + 7) (byx x2 3)) (n + 8) (byx x3 0)) (n + 9) (byx x3 1)) (n + 10) (byx x3 2)) (n + 11) (byx x3 3)) (n + 12) (byx x4 0)) (n + 13) (byx x4 1)) (n + 14) (byx x4 2)) (n + 15) (byx x4 3)) (n + 16) (byx x5 0)) (n + 17) (byx x5 1)) (n + 18) (byx x5 2)) (n + 19) (byx x5 3)) := rfl
  rw [lh, r20, f4, f5, f6, f7, f8, f9, f10, f11, f12, f13, f14, f15, f16, f17, f18, f19, y10, y11, y12, y13, y20, y21, y22, y23, y30, y31, y32, y33, y40, y41, y42, y43, y50, y51, y52, y53]
def REL (h0 : Nat) (sk : Nat → Nat) (_L : List Nat) (_cl ln : Nat → Nat) (iv : Nat → Nat → Int) (rv : Nat → Nat → Option Nat) (v : Nat → Int) (a : Nat → Nat → Int) : Prop := (iI (iv h0 14) = iI (v 56) ∧ iv h0 11 = v 31 ∧ iv h0 12 = v 32 ∧ iv h0 13 = v 33) ∧ (iv (sk 2) 2 = v 3 ∧ CT iv rv (sk 2) (a 2)) ∧ (iv (sk 3) 2 = v 30 ∧ CT iv rv (sk 3) (a 29)) ∧ TABR sk iv rv v a ∧ (∃ o, RP2 o sk ln iv rv v a) ∧ SEC v a
theorem sec_keep {v v2 : Nat → Int} {a a2 : Nat → Nat → Int} (h : SEC v a) (h4 : v2 4 ≤ v 4) (h6 : a2 6 = a 6) (h9 : a2 9 = a 9) : SEC v2 a2 := fun i hi => by rw [h6, h9]; exact h i (by omega)
theorem sec_same {v v2 : Nat → Int} {a a2 : Nat → Nat → Int} (h : SEC v a) (hq : TSAME v a v2 a2) : SEC v2 a2 := by
  obtain ⟨q4, q5, q6, q7, q10, q19, q18, q11, q8, q9, -⟩ := hq
  exact sec_keep h (Int.le_of_eq q4) q6 q9
theorem sec_new {k s : Int} {v v2 : Nat → Int} {a a2 : Nat → Nat → Int} (h : SEC v a) (h0 : 0 ≤ v 4) (q1 : v2 4 = v 4 + 1) (q3 : a2 6 = va_up (a 6) (v 4).toNat k) (q9 : a2 9 = va_up (a 9) (v 4).toNat s) (hs : k ≠ 5 → s = -1) : SEC v2 a2 := by
  intro i hi
  rw [q3, q9]
  by_cases e : i = (v 4).toNat
  · rw [e, va_up_self, va_up_self]; exact hs
  · rw [va_up_ne _ _ e, va_up_ne _ _ e]; exact h i (by omega)
theorem tbl_sec {x y i : Int} {f2 : Int} {v v2 : Nat → Int} {a a2 : Nat → Nat → Int} (h : SEC v a) (h0 : 0 ≤ v 4) (hq : ((f2 = -1 ∧ TSAME v a v2 a2 ∧ ¬ (0 ≤ x ∧ x ≤ 4 ∧ (y = 6 ∨ y = 8) ∧ v 4 ≠ 30 ∧ (x < 1 ∨ 3 < x ∨ (0 ≤ i ∧ i < v 4 ∧ a 5 i.toNat = 1 ∧ a 6 i.toNat ≤ 3)))) ∨ (f2 = v 4 ∧ (0 ≤ x ∧ x ≤ 4 ∧ (y = 6 ∨ y = 8) ∧ v 4 ≠ 30 ∧ (x < 1 ∨ 3 < x ∨ (0 ≤ i ∧ i < v 4 ∧ a 5 i.toNat = 1 ∧ a 6 i.toNat ≤ 3))) ∧ TNEW x y (if x < 1 ∨ 3 < x then -1 else i) (-1) v a v2 a2))) : SEC v2 a2 := by
  rcases hq with ⟨-, q, -⟩ | ⟨-, -, ⟨q1, q2, q3, q4, q5, q6, q7, q8, q9, -⟩⟩
  · exact sec_same h q
  · exact sec_new h h0 q1 q3 q9 (fun _ => rfl)
theorem joi_sec {i j : Int} {f2 : Int} {v v2 : Nat → Int} {a a2 : Nat → Nat → Int} (h : SEC v a) (h0 : 0 ≤ v 4) (hq : ((f2 = -1 ∧ TSAME v a v2 a2 ∧ ¬ (0 ≤ i ∧ i < v 4 ∧ a 5 i.toNat = 1 ∧ a 6 i.toNat ≤ 3 ∧ 0 ≤ j ∧ j < v 4 ∧ a 5 j.toNat = 1 ∧ a 6 j.toNat ≤ 3 ∧ v 4 ≠ 30)) ∨ (f2 = v 4 ∧ (0 ≤ i ∧ i < v 4 ∧ a 5 i.toNat = 1 ∧ a 6 i.toNat ≤ 3 ∧ 0 ≤ j ∧ j < v 4 ∧ a 5 j.toNat = 1 ∧ a 6 j.toNat ≤ 3 ∧ v 4 ≠ 30) ∧ TNEW 5 (max (a 7 i.toNat) (a 7 j.toNat)) i j v a v2 a2))) : SEC v2 a2 := by
  rcases hq with ⟨-, q, -⟩ | ⟨-, -, ⟨q1, q2, q3, q4, q5, q6, q7, q8, q9, -⟩⟩
  · exact sec_same h q
  · exact sec_new h h0 q1 q3 q9 (fun e => absurd rfl e)
theorem drp_sec {i : Int} {f2 : Int} {v v2 : Nat → Int} {a a2 : Nat → Nat → Int} (h : SEC v a) (h0 : 0 ≤ v 4) (hq : ((f2 = -1 ∧ TSAME v a v2 a2 ∧ ¬ (0 ≤ i ∧ i < v 4 ∧ a 5 i.toNat = 1)) ∨ (f2 = 1 ∧ (0 ≤ i ∧ i < v 4 ∧ a 5 i.toNat = 1) ∧ TDRP i v a v2 a2))) : SEC v2 a2 := by
  rcases hq with ⟨-, q, -⟩ | ⟨-, -, ⟨q4, q5, q6, q7, q10, qs, q11, q8, q9, -⟩⟩
  · exact sec_same h q
  · exact sec_keep h (Int.le_of_eq q4) q6 q9
theorem rul_sec {i x n : Int} {f2 : Int} {v v2 : Nat → Int} {a a2 : Nat → Nat → Int} (h : SEC v a) (h0 : 0 ≤ v 4) (hq : ((f2 = -1 ∧ TSAME v a v2 a2 ∧ ¬ ((0 ≤ i ∧ i < v 4 ∧ a 5 i.toNat = 1 ∧ a 6 i.toNat ≠ 5 ∧ 0 ≤ x ∧ x ≤ 5 ∧ 1 ≤ n ∧ n ≤ 8 ∧ 1 ≤ v 3 - n ∧ v 3 - n ≤ 4 ∧ a 10 i.toNat ≠ 200) ∧ ACL (a 2) n (v 3 - n) (DC (a 7 i.toNat)) ∧ LTK (a 2) n)) ∨ (f2 = a 10 i.toNat ∧ ((0 ≤ i ∧ i < v 4 ∧ a 5 i.toNat = 1 ∧ a 6 i.toNat ≠ 5 ∧ 0 ≤ x ∧ x ≤ 5 ∧ 1 ≤ n ∧ n ≤ 8 ∧ 1 ≤ v 3 - n ∧ v 3 - n ≤ 4 ∧ a 10 i.toNat ≠ 200) ∧ ACL (a 2) n (v 3 - n) (DC (a 7 i.toNat)) ∧ LTK (a 2) n) ∧ TRUL i x n v a v2 a2))) : SEC v2 a2 := by
  rcases hq with ⟨-, q, -⟩ | ⟨-, -, ⟨q4, q5, q6, q7, q10, qs, q11, q8, q9, -⟩⟩
  · exact sec_same h q
  · exact sec_keep h (Int.le_of_eq q4) q6 q9
theorem ind_sec {i x : Int} {f2 : Int} {v v2 : Nat → Int} {a a2 : Nat → Nat → Int} (h : SEC v a) (h0 : 0 ≤ v 4) (hq : ((f2 = -1 ∧ TSAME v a v2 a2 ∧ ¬ ((0 ≤ x ∧ x ≤ 3 ∧ 0 ≤ i ∧ i < v 4 ∧ a 5 i.toNat = 1 ∧ ((x = 0 ∧ a 6 i.toNat ≤ 2) ∨ (x = 1 ∧ a 6 i.toNat = 2) ∨ (x ≠ 0 ∧ x ≠ 1 ∧ a 6 i.toNat = 5)) ∧ v 3 ≤ 4) ∧ ACL (a 2) 0 (v 3) (DC (a 7 i.toNat)) ∧ True)) ∨ (f2 = v 3 ∧ ((0 ≤ x ∧ x ≤ 3 ∧ 0 ≤ i ∧ i < v 4 ∧ a 5 i.toNat = 1 ∧ ((x = 0 ∧ a 6 i.toNat ≤ 2) ∨ (x = 1 ∧ a 6 i.toNat = 2) ∨ (x ≠ 0 ∧ x ≠ 1 ∧ a 6 i.toNat = 5)) ∧ v 3 ≤ 4) ∧ ACL (a 2) 0 (v 3) (DC (a 7 i.toNat)) ∧ True) ∧ TIND i x v a v2 a2))) : SEC v2 a2 := by
  rcases hq with ⟨-, q, -⟩ | ⟨-, -, ⟨⟨q4, q5, q6, -⟩, q11, q8, q9, -⟩⟩
  · exact sec_same h q
  · exact sec_keep h (Int.le_of_eq q4) q6 q9
theorem und_sec  {f2 : Int} {v v2 : Nat → Int} {a a2 : Nat → Nat → Int} (h : SEC v a) (h0 : 0 ≤ v 4) (hq : (∃ ln, STK ln v a) ∧ (∃ ln, STK ln v2 a2) ∧ ((v 19 = 0 ∧ f2 = 0 ∧ TSAME v a v2 a2) ∨ (v 19 ≠ 0 ∧ f2 = 1 ∧ TUND v a v2 a2))) : SEC v2 a2 := by
  rcases hq.2.2 with ⟨-, -, q⟩ | ⟨-, -, ⟨q19, q18, q6, q7, ⟨q8, q9, -⟩, q5⟩⟩
  · exact sec_same h q
  · exact sec_keep h (by rcases q5 with q | q | q | q | q <;> omega) q6 q9
theorem cnd_sec {i r x : Int} {f2 : Int} {v v2 : Nat → Int} {a a2 : Nat → Nat → Int} (h : SEC v a) (h0 : 0 ≤ v 4) (hq : ((f2 = -1 ∧ TSAME v a v2 a2 ∧ ¬ (0 ≤ i ∧ i < v 4 ∧ a 5 i.toNat = 1 ∧ a 6 i.toNat ≠ 5 ∧ 0 ≤ r ∧ r < a 10 i.toNat ∧ 0 ≤ x ∧ x ≤ 5)) ∨ (f2 = a 11 (200 * i + r).toNat ∧ (0 ≤ i ∧ i < v 4 ∧ a 5 i.toNat = 1 ∧ a 6 i.toNat ≠ 5 ∧ 0 ≤ r ∧ r < a 10 i.toNat ∧ 0 ≤ x ∧ x ≤ 5) ∧ TCND i r x v a v2 a2))) : SEC v2 a2 := by
  rcases hq with ⟨-, q, -⟩ | ⟨-, -, ⟨⟨q4, q5, q6, -⟩, q11, q8, q9, -⟩⟩
  · exact sec_same h q
  · exact sec_keep h (Int.le_of_eq q4) q6 q9
section RELS
variable {h0 : Nat} {L L2 : List Nat} {cl ln cl2 ln2 sk : Nat → Nat} {iv iv2 : Nat → Nat → Int} {rv rv2 : Nat → Nat → Option Nat} {v v2 : Nat → Int} {a a2 : Nat → Nat → Int}
theorem fd_keep (hr : iI (iv h0 14) = iI (v 56) ∧ iv h0 11 = v 31 ∧ iv h0 12 = v 32 ∧ iv h0 13 = v 33) (hp : iv2 h0 14 = iv h0 14 ∧ iv2 h0 11 = iv h0 11 ∧ iv2 h0 12 = iv h0 12 ∧ iv2 h0 13 = iv h0 13) (hq : v2 56 = v 56 ∧ v2 31 = v 31 ∧ v2 32 = v 32 ∧ v2 33 = v 33) : iI (iv2 h0 14) = iI (v2 56) ∧ iv2 h0 11 = v2 31 ∧ iv2 h0 12 = v2 32 ∧ iv2 h0 13 = v2 33 := ⟨by rw [hp.1, hq.1]; exact hr.1, by have h1 := hr.2; have h2 := hp.2; have h3 := hq.2; omega⟩
theorem tx_keep (hr : iv (sk 3) 2 = v 30 ∧ CT iv rv (sk 3) (a 29)) (hp : iv2 (sk 3) 2 = iv (sk 3) 2 ∧ (∀ tt, CT iv rv (sk 3) tt → CT iv2 rv2 (sk 3) tt)) (hq : v2 30 = v 30 ∧ a2 29 = a 29) : iv2 (sk 3) 2 = v2 30 ∧ CT iv2 rv2 (sk 3) (a2 29) := ⟨by have h1 := hr.1; have h2 := hp.1; have h3 := hq.1; omega, by rw [hq.2]; exact hp.2 _ hr.2⟩
theorem tp_keep (hr : iv (sk 2) 2 = v 3 ∧ CT iv rv (sk 2) (a 2)) (hp : (iv2 (sk 2) 2 = iv (sk 2) 2 ∧ (∀ ss, CT iv rv (sk 2) ss → CT iv2 rv2 (sk 2) ss))) (hq : (v2 3 = v 3 ∧ a2 2 = a 2)) : iv2 (sk 2) 2 = v2 3 ∧ CT iv2 rv2 (sk 2) (a2 2) := ⟨by omega, by rw [hq.2]; exact hp.2 _ hr.2⟩
theorem rel_keep {P1 P2 : Prop} (hr : REL h0 sk L cl ln iv rv v a) (hp : P1 ∧ (iv2 h0 14 = iv h0 14 ∧ iv2 h0 11 = iv h0 11 ∧ iv2 h0 12 = iv h0 12 ∧ iv2 h0 13 = iv h0 13) ∧ ((iv2 (sk 2) 2 = iv (sk 2) 2 ∧ (∀ ss, CT iv rv (sk 2) ss → CT iv2 rv2 (sk 2) ss))) ∧ (iv2 (sk 3) 2 = iv (sk 3) 2 ∧ (∀ tt, CT iv rv (sk 3) tt → CT iv2 rv2 (sk 3) tt)) ∧ (PSAME sk iv rv iv2 rv2) ∧ (∃ g, WT g sk L cl ln iv rv ∧ WT g sk L2 cl2 ln2 iv2 rv2) ∧ SKL sk L cl ∧ XT L cl ln L2 cl2 ln2 ∧ (KP L cl (fun _ => False) (fun _ => False) (fun _ => False) (fun _ => False) (fun _ _ => False) iv rv iv2 rv2)) (hq : P2 ∧ (v2 56 = v 56 ∧ v2 31 = v 31 ∧ v2 32 = v 32 ∧ v2 33 = v 33) ∧ ((v2 3 = v 3 ∧ a2 2 = a 2)) ∧ (v2 30 = v 30 ∧ a2 29 = a 29) ∧ (TSAME v a v2 a2)) : REL h0 sk L2 cl2 ln2 iv2 rv2 v2 a2 := ⟨fd_keep hr.1 hp.2.1 hq.2.1, tp_keep hr.2.1 hp.2.2.1 hq.2.2.1, tx_keep hr.2.2.1 hp.2.2.2.1 hq.2.2.2.1, tab_same hr.2.2.2.1 hp.2.2.2.2.1 hq.2.2.2.2, rps_same ⟨hr.2.2.2.1, hr.2.2.2.2.1⟩ hp.2.2.2.2 hq.2.2.2.2, sec_same hr.2.2.2.2.2 hq.2.2.2.2⟩
theorem rel_zero {P1 P2 : Prop} (hr : REL h0 sk L cl ln iv rv v a) (hp : P1 ∧ (iv2 h0 14 = iv h0 14 ∧ iv2 h0 11 = iv h0 11 ∧ iv2 h0 12 = iv h0 12 ∧ iv2 h0 13 = iv h0 13) ∧ (iv2 (sk 2) 2 = 0) ∧ (iv2 (sk 3) 2 = iv (sk 3) 2 ∧ (∀ tt, CT iv rv (sk 3) tt → CT iv2 rv2 (sk 3) tt)) ∧ (PSAME sk iv rv iv2 rv2) ∧ (∃ g, WT g sk L cl ln iv rv ∧ WT g sk L2 cl2 ln2 iv2 rv2) ∧ SKL sk L cl ∧ XT L cl ln L2 cl2 ln2 ∧ (KP L cl (fun _ => False) (fun _ => False) (fun _ => False) (fun _ => False) (fun _ _ => False) iv rv iv2 rv2)) (hq : P2 ∧ (v2 56 = v 56 ∧ v2 31 = v 31 ∧ v2 32 = v 32 ∧ v2 33 = v 33) ∧ (v2 3 = 0) ∧ (v2 30 = v 30 ∧ a2 29 = a 29) ∧ (TSAME v a v2 a2)) : REL h0 sk L2 cl2 ln2 iv2 rv2 v2 a2 := ⟨fd_keep hr.1 hp.2.1 hq.2.1, ⟨by have h2 := hp.2.2.1; have h3 := hq.2.2.1; omega, CT.zero hp.2.2.1⟩, tx_keep hr.2.2.1 hp.2.2.2.1 hq.2.2.2.1, tab_same hr.2.2.2.1 hp.2.2.2.2.1 hq.2.2.2.2, rps_same ⟨hr.2.2.2.1, hr.2.2.2.2.1⟩ hp.2.2.2.2 hq.2.2.2.2, sec_same hr.2.2.2.2.2 hq.2.2.2.2⟩
theorem rel_feed {P1 P2 : Prop} {x1 x2 x3 x4 x5 f1 f2 : Int} (hr : REL h0 sk L cl ln iv rv v a) (hp : P1 ∧ (iv2 h0 14 = iv h0 14 ∧ iv2 h0 11 = iv h0 11 ∧ iv2 h0 12 = iv h0 12 ∧ iv2 h0 13 = iv h0 13) ∧ (((f1 = -1 ∧ 3000 < iv (sk 2) 2 + 20 ∧ iv2 (sk 2) 2 = iv (sk 2) 2) ∨ (f1 = iv2 (sk 2) 2 ∧ iv2 (sk 2) 2 = iv (sk 2) 2 + 20 ∧ iv (sk 2) 2 ≤ 2980)) ∧ ∀ ss, CT iv rv (sk 2) ss → (iv (sk 2) 2 ≤ 2980 → CT iv2 rv2 (sk 2) (fd5 ss (iv (sk 2) 2).toNat x1 x2 x3 x4 x5)) ∧ (2980 < iv (sk 2) 2 → CT iv2 rv2 (sk 2) ss)) ∧ (iv2 (sk 3) 2 = iv (sk 3) 2 ∧ (∀ tt, CT iv rv (sk 3) tt → CT iv2 rv2 (sk 3) tt)) ∧ (PSAME sk iv rv iv2 rv2) ∧ (∃ g, WT g sk L cl ln iv rv ∧ WT g sk L2 cl2 ln2 iv2 rv2) ∧ SKL sk L cl ∧ XT L cl ln L2 cl2 ln2 ∧ (KP L cl (fun _ => False) (fun _ => False) (fun _ => False) (fun _ => False) (fun _ _ => False) iv rv iv2 rv2)) (hq : P2 ∧ (v2 56 = v 56 ∧ v2 31 = v 31 ∧ v2 32 = v 32 ∧ v2 33 = v 33) ∧ ((f2 = -1 ∧ v2 3 = v 3 ∧ 2980 < v 3 ∧ a2 2 = a 2) ∨ (f2 = v 3 + 20 ∧ v2 3 = v 3 + 20 ∧ v 3 ≤ 2980 ∧ a2 2 = rfd (a 2) (v 3).toNat x1 x2 x3 x4 x5 20)) ∧ (v2 30 = v 30 ∧ a2 29 = a 29) ∧ (TSAME v a v2 a2)) : REL h0 sk L2 cl2 ln2 iv2 rv2 v2 a2 := by
  refine ⟨fd_keep hr.1 hp.2.1 hq.2.1, ?_, tx_keep hr.2.2.1 hp.2.2.2.1 hq.2.2.2.1, tab_same hr.2.2.2.1 hp.2.2.2.2.1 hq.2.2.2.2, rps_same ⟨hr.2.2.2.1, hr.2.2.2.2.1⟩ hp.2.2.2.2 hq.2.2.2.2, sec_same hr.2.2.2.2.2 hq.2.2.2.2⟩
  have h1 := hr.2.1.1; have h2 := hp.2.2.1.1; have h4 := hp.2.2.1.2 _ hr.2.1.2
  rcases hq.2.2.1 with ⟨g1, g2, g3, g4⟩ | ⟨g1, g2, g3, g4⟩
  · exact ⟨by omega, by rw [g4]; exact h4.2 (by omega)⟩
  · refine ⟨by omega, ?_⟩
    have h5 := h4.1 (by omega)
    rw [h1, fd_rfd] at h5
    rw [g4]; exact h5
theorem rel_end {n : Int} {P1 P2 : Prop} {f1 f2 : Int} (hr : REL h0 sk L cl ln iv rv v a) (hp : P1 ∧ (iv2 h0 14 = iv h0 14 ∧ iv2 h0 11 = iv h0 11 ∧ iv2 h0 12 = iv h0 12 ∧ iv2 h0 13 = iv h0 13) ∧ (((f1 = -1 ∧ iv2 (sk 2) 2 = iv (sk 2) 2 ∧ (n < 0 ∨ iv (sk 2) 2 < n)) ∨ (f1 = n ∧ iv2 (sk 2) 2 = n ∧ 0 ≤ n ∧ n ≤ iv (sk 2) 2)) ∧ (∀ ss, CT iv rv (sk 2) ss → CT iv2 rv2 (sk 2) ss)) ∧ (iv2 (sk 3) 2 = iv (sk 3) 2 ∧ (∀ tt, CT iv rv (sk 3) tt → CT iv2 rv2 (sk 3) tt)) ∧ (PSAME sk iv rv iv2 rv2) ∧ (∃ g, WT g sk L cl ln iv rv ∧ WT g sk L2 cl2 ln2 iv2 rv2) ∧ SKL sk L cl ∧ XT L cl ln L2 cl2 ln2 ∧ (KP L cl (fun _ => False) (fun _ => False) (fun _ => False) (fun _ => False) (fun _ _ => False) iv rv iv2 rv2)) (hq : P2 ∧ (v2 56 = v 56 ∧ v2 31 = v 31 ∧ v2 32 = v 32 ∧ v2 33 = v 33) ∧ (((f2 = -1 ∧ v2 3 = v 3 ∧ (n < 0 ∨ v 3 < n)) ∨ (f2 = n ∧ v2 3 = n ∧ 0 ≤ n ∧ n ≤ v 3)) ∧ a2 2 = a 2) ∧ (v2 30 = v 30 ∧ a2 29 = a 29) ∧ (TSAME v a v2 a2)) : REL h0 sk L2 cl2 ln2 iv2 rv2 v2 a2 := ⟨fd_keep hr.1 hp.2.1 hq.2.1, ⟨by have h1 := hr.2.1.1; have h2 := hp.2.2.1.1; have h3 := hq.2.2.1.1; omega, by rw [hq.2.2.1.2]; exact hp.2.2.1.2 _ hr.2.1.2⟩, tx_keep hr.2.2.1 hp.2.2.2.1 hq.2.2.2.1, tab_same hr.2.2.2.1 hp.2.2.2.2.1 hq.2.2.2.2, rps_same ⟨hr.2.2.2.1, hr.2.2.2.2.1⟩ hp.2.2.2.2 hq.2.2.2.2, sec_same hr.2.2.2.2.2 hq.2.2.2.2⟩
theorem tx_both {f1 f2 : Int} (hr : REL h0 sk L cl ln iv rv v a) (hp : (∀ ss, CT iv rv (sk 2) ss → ((f1 = -1 ∧ iv2 (sk 3) 2 = iv (sk 3) 2 ∧ ¬ (TOK ss (iv (sk 2) 2) ∧ iv (sk 3) 2 + iv (sk 2) 2 ≤ 500)) ∨ (f1 = iv2 (sk 3) 2 ∧ TOK ss (iv (sk 2) 2) ∧ iv (sk 3) 2 + iv (sk 2) 2 ≤ 500 ∧ ((iv (sk 2) 2 = 0 ∧ iv2 (sk 3) 2 = 0) ∨ (iv (sk 2) 2 ≠ 0 ∧ iv2 (sk 3) 2 = iv (sk 3) 2 + iv (sk 2) 2))))) ∧ (∀ ss tt, CT iv rv (sk 2) ss → CT iv rv (sk 3) tt → (f1 = -1 → CT iv2 rv2 (sk 3) tt) ∧ (f1 ≠ -1 → CT iv2 rv2 (sk 3) (apd tt (iv (sk 3) 2).toNat ss)))) (hq : (((f2 = -1 ∧ v2 30 = v 30 ∧ ¬ (TOK (a 2) (v 3) ∧ v 30 + v 3 ≤ 500)) ∨ (f2 = v2 30 ∧ TOK (a 2) (v 3) ∧ v 30 + v 3 ≤ 500 ∧ ((v 3 = 0 ∧ v2 30 = 0) ∨ (v 3 ≠ 0 ∧ v2 30 = v 30 + v 3))))) ∧ TXR v a v2 a2 f2) : f1 = f2 ∧ iv2 (sk 3) 2 = v2 30 ∧ CT iv2 rv2 (sk 3) (a2 29) := by
  have h1 := hr.2.1.1; have h2 := hr.2.2.1.1
  have k1 := hp.2 _ _ hr.2.1.2 hr.2.2.1.2
  rw [h2] at k1
  rcases hp.1 _ hr.2.1.2 with ⟨p1, p2, p3⟩ | ⟨p1, p2, p3, p4⟩ <;> rcases hq.1 with ⟨q1, q2, q3⟩ | ⟨q1, q2, q3, q4⟩
  · exact ⟨by omega, by omega, by rw [hq.2.1 q1]; exact k1.1 p1⟩
  · rw [h1, h2] at p3; exact absurd ⟨q2, q3⟩ p3
  · rw [h1, h2] at p3; rw [h1] at p2; exact absurd ⟨p2, p3⟩ q3
  · have e : iv2 (sk 3) 2 = v2 30 := by omega
    refine ⟨by omega, e, fun b hb j hj => ?_⟩
    by_cases c : f1 = -1
    · omega
    · by_cases c2 : f2 = -1
      · omega
      · rw [k1.2 c b hb j hj, hq.2.2 c2 j (by omega)]
theorem rel_text {P1 P2 : Prop} {f1 f2 : Int} (hr : REL h0 sk L cl ln iv rv v a) (hp : P1 ∧ (iv2 h0 14 = iv h0 14 ∧ iv2 h0 11 = iv h0 11 ∧ iv2 h0 12 = iv h0 12 ∧ iv2 h0 13 = iv h0 13) ∧ (iv2 (sk 2) 2 = 0) ∧ ((∀ ss, CT iv rv (sk 2) ss → ((f1 = -1 ∧ iv2 (sk 3) 2 = iv (sk 3) 2 ∧ ¬ (TOK ss (iv (sk 2) 2) ∧ iv (sk 3) 2 + iv (sk 2) 2 ≤ 500)) ∨ (f1 = iv2 (sk 3) 2 ∧ TOK ss (iv (sk 2) 2) ∧ iv (sk 3) 2 + iv (sk 2) 2 ≤ 500 ∧ ((iv (sk 2) 2 = 0 ∧ iv2 (sk 3) 2 = 0) ∨ (iv (sk 2) 2 ≠ 0 ∧ iv2 (sk 3) 2 = iv (sk 3) 2 + iv (sk 2) 2))))) ∧ (∀ ss tt, CT iv rv (sk 2) ss → CT iv rv (sk 3) tt → (f1 = -1 → CT iv2 rv2 (sk 3) tt) ∧ (f1 ≠ -1 → CT iv2 rv2 (sk 3) (apd tt (iv (sk 3) 2).toNat ss)))) ∧ (PSAME sk iv rv iv2 rv2) ∧ (∃ g, WT g sk L cl ln iv rv ∧ WT g sk L2 cl2 ln2 iv2 rv2) ∧ SKL sk L cl ∧ XT L cl ln L2 cl2 ln2 ∧ (KP L cl (fun _ => False) (fun _ => False) (fun _ => False) (fun _ => False) (fun _ _ => False) iv rv iv2 rv2)) (hq : P2 ∧ (v2 56 = v 56 ∧ v2 31 = v 31 ∧ v2 32 = v 32 ∧ v2 33 = v 33) ∧ (v2 3 = 0) ∧ ((((f2 = -1 ∧ v2 30 = v 30 ∧ ¬ (TOK (a 2) (v 3) ∧ v 30 + v 3 ≤ 500)) ∨ (f2 = v2 30 ∧ TOK (a 2) (v 3) ∧ v 30 + v 3 ≤ 500 ∧ ((v 3 = 0 ∧ v2 30 = 0) ∨ (v 3 ≠ 0 ∧ v2 30 = v 30 + v 3))))) ∧ TXR v a v2 a2 f2) ∧ (TSAME v a v2 a2)) : REL h0 sk L2 cl2 ln2 iv2 rv2 v2 a2 := ⟨fd_keep hr.1 hp.2.1 hq.2.1, ⟨by have h2 := hp.2.2.1; have h3 := hq.2.2.1; omega, CT.zero hp.2.2.1⟩, (tx_both hr hp.2.2.2.1 hq.2.2.2.1).2, tab_same hr.2.2.2.1 hp.2.2.2.2.1 hq.2.2.2.2, rps_same ⟨hr.2.2.2.1, hr.2.2.2.2.1⟩ hp.2.2.2.2 hq.2.2.2.2, sec_same hr.2.2.2.2.2 hq.2.2.2.2⟩
theorem rel_failed {i x : Int} {P1 P2 : Prop} {f1 f2 : Int} (hr : REL h0 sk L cl ln iv rv v a) (hp : P1 ∧ ((((i < 0 ∨ 7 < i) ∧ f1 = -1 ∧ iv2 h0 14 = iv h0 14) ∨ (0 ≤ i ∧ i ≤ 7 ∧ iI (iv2 h0 14) = fdv (iI (iv h0 14)) i x ∧ iI f1 = bcn (iI (iv2 h0 14)))) ∧ iv2 h0 11 = iv h0 11 ∧ iv2 h0 12 = iv h0 12 ∧ iv2 h0 13 = iv h0 13) ∧ ((iv2 (sk 2) 2 = iv (sk 2) 2 ∧ (∀ ss, CT iv rv (sk 2) ss → CT iv2 rv2 (sk 2) ss))) ∧ (iv2 (sk 3) 2 = iv (sk 3) 2 ∧ (∀ tt, CT iv rv (sk 3) tt → CT iv2 rv2 (sk 3) tt)) ∧ (PSAME sk iv rv iv2 rv2) ∧ (∃ g, WT g sk L cl ln iv rv ∧ WT g sk L2 cl2 ln2 iv2 rv2) ∧ SKL sk L cl ∧ XT L cl ln L2 cl2 ln2 ∧ (KP L cl (fun _ => False) (fun _ => False) (fun _ => False) (fun _ => False) (fun _ _ => False) iv rv iv2 rv2)) (hq : P2 ∧ ((((i < 0 ∨ 7 < i) ∧ f2 = -1 ∧ v2 56 = v 56) ∨ (0 ≤ i ∧ i ≤ 7 ∧ iI (v2 56) = fdv (iI (v 56)) i x ∧ iI f2 = bcn (iI (v2 56)))) ∧ v2 31 = v 31 ∧ v2 32 = v 32 ∧ v2 33 = v 33) ∧ ((v2 3 = v 3 ∧ a2 2 = a 2)) ∧ (v2 30 = v 30 ∧ a2 29 = a 29) ∧ (TSAME v a v2 a2)) : REL h0 sk L2 cl2 ln2 iv2 rv2 v2 a2 := by
  refine ⟨⟨?_, by have h1 := hr.1.2; have h2 := hp.2.1.2; have h3 := hq.2.1.2; omega⟩, tp_keep hr.2.1 hp.2.2.1 hq.2.2.1, tx_keep hr.2.2.1 hp.2.2.2.1 hq.2.2.2.1, tab_same hr.2.2.2.1 hp.2.2.2.2.1 hq.2.2.2.2, rps_same ⟨hr.2.2.2.1, hr.2.2.2.2.1⟩ hp.2.2.2.2 hq.2.2.2.2, sec_same hr.2.2.2.2.2 hq.2.2.2.2⟩
  have r1 := hr.1.1
  rcases hp.2.1.1 with ⟨p1, p2, p3⟩ | ⟨p1, p2, p3, p4⟩ <;> rcases hq.2.1.1 with ⟨q1, q2, q3⟩ | ⟨q1, q2, q3, q4⟩
  · rw [p3, q3]; exact r1
  · exact absurd p1 (by omega)
  · exact absurd q1 (by omega)
  · rw [p3, q3, r1]
theorem rel_measure {x y h : Int} {f1 f2 : Int} (hr : REL h0 sk L cl ln iv rv v a) (hp : ((f1 = 1 ∧ 1 ≤ x ∧ x ≤ 100 ∧ 1 ≤ y ∧ y ≤ 50 ∧ 1 ≤ h ∧ h ≤ 255) ∨ (f1 = -1 ∧ ¬ (1 ≤ x ∧ x ≤ 100 ∧ 1 ≤ y ∧ y ≤ 50 ∧ 1 ≤ h ∧ h ≤ 255))) ∧ (iv2 h0 14 = iv h0 14 ∧ ((f1 = 1 ∧ iv2 h0 11 = x ∧ iv2 h0 12 = y ∧ iv2 h0 13 = h) ∨ (f1 = -1 ∧ iv2 h0 11 = iv h0 11 ∧ iv2 h0 12 = iv h0 12 ∧ iv2 h0 13 = iv h0 13))) ∧ (iv2 (sk 2) 2 = iv (sk 2) 2 ∧ (∀ ss, CT iv rv (sk 2) ss → CT iv2 rv2 (sk 2) ss)) ∧ (iv2 (sk 3) 2 = iv (sk 3) 2 ∧ (∀ tt, CT iv rv (sk 3) tt → CT iv2 rv2 (sk 3) tt)) ∧ (PSAME sk iv rv iv2 rv2) ∧ (∃ g, WT g sk L cl ln iv rv ∧ WT g sk L2 cl2 ln2 iv2 rv2) ∧ SKL sk L cl ∧ XT L cl ln L2 cl2 ln2 ∧ (KP L cl (fun _ => False) (fun _ => False) (fun _ => False) (fun _ => False) (fun _ _ => False) iv rv iv2 rv2)) (hq : ((f2 = 1 ∧ 1 ≤ x ∧ x ≤ 100 ∧ 1 ≤ y ∧ y ≤ 50 ∧ 1 ≤ h ∧ h ≤ 255) ∨ (f2 = -1 ∧ ¬ (1 ≤ x ∧ x ≤ 100 ∧ 1 ≤ y ∧ y ≤ 50 ∧ 1 ≤ h ∧ h ≤ 255))) ∧ (v2 56 = v 56 ∧ ((f2 = 1 ∧ v2 31 = x ∧ v2 32 = y ∧ v2 33 = h) ∨ (f2 = -1 ∧ v2 31 = v 31 ∧ v2 32 = v 32 ∧ v2 33 = v 33))) ∧ (v2 3 = v 3 ∧ a2 2 = a 2) ∧ (v2 30 = v 30 ∧ a2 29 = a 29) ∧ (TSAME v a v2 a2)) : REL h0 sk L2 cl2 ln2 iv2 rv2 v2 a2 := by
  refine ⟨⟨by rw [hp.2.1.1, hq.2.1.1]; exact hr.1.1, ?_⟩, tp_keep hr.2.1 hp.2.2.1 hq.2.2.1, tx_keep hr.2.2.1 hp.2.2.2.1 hq.2.2.2.1, tab_same hr.2.2.2.1 hp.2.2.2.2.1 hq.2.2.2.2, rps_same ⟨hr.2.2.2.1, hr.2.2.2.2.1⟩ hp.2.2.2.2 hq.2.2.2.2, sec_same hr.2.2.2.2.2 hq.2.2.2.2⟩
  have h1 := hp.1; have h2 := hq.1; have h3 := hp.2.1.2; have h4 := hq.2.1.2; have h5 := hr.1.2
  clear hr hp hq
  omega
theorem rel_table {x y i : Int} {P1 P2 : Prop} {f1 f2 : Int} (hr : REL h0 sk L cl ln iv rv v a) (hp : P1 ∧ (iv2 h0 14 = iv h0 14 ∧ iv2 h0 11 = iv h0 11 ∧ iv2 h0 12 = iv h0 12 ∧ iv2 h0 13 = iv h0 13) ∧ ((iv2 (sk 2) 2 = iv (sk 2) 2 ∧ (∀ ss, CT iv rv (sk 2) ss → CT iv2 rv2 (sk 2) ss))) ∧ (iv2 (sk 3) 2 = iv (sk 3) 2 ∧ (∀ tt, CT iv rv (sk 3) tt → CT iv2 rv2 (sk 3) tt)) ∧ (PTBL x y i f1 sk iv rv iv2 rv2) ∧ (∃ g, WT g sk L cl ln iv rv ∧ WT g sk L2 cl2 ln2 iv2 rv2) ∧ SKL sk L cl ∧ XT L cl ln L2 cl2 ln2 ∧ ((f1 = -1 ∧ KP L cl (fun _ => False) (fun _ => False) (fun _ => False) (fun _ => False) (fun _ _ => False) iv rv iv2 rv2) ∨ (f1 ≠ -1 ∧ KP L cl (fun _ => False) (fun _ => False) (fun _ => False) (fun _ => False) (fun _ _ => False) iv rv iv2 rv2 ∧ ∃ b, (((x < 1 ∨ 3 < x) ∧ b = none) ∨ ((1 ≤ x ∧ x ≤ 3) ∧ ∃ t, ALV sk iv rv i t ∧ b = some t)) ∧ KNW L sk b none iv iv2 rv2))) (hq : P2 ∧ (v2 56 = v 56 ∧ v2 31 = v 31 ∧ v2 32 = v 32 ∧ v2 33 = v 33) ∧ ((v2 3 = v 3 ∧ a2 2 = a 2)) ∧ (v2 30 = v 30 ∧ a2 29 = a 29) ∧ (((f2 = -1 ∧ TSAME v a v2 a2 ∧ ¬ (0 ≤ x ∧ x ≤ 4 ∧ (y = 6 ∨ y = 8) ∧ v 4 ≠ 30 ∧ (x < 1 ∨ 3 < x ∨ (0 ≤ i ∧ i < v 4 ∧ a 5 i.toNat = 1 ∧ a 6 i.toNat ≤ 3)))) ∨ (f2 = v 4 ∧ (0 ≤ x ∧ x ≤ 4 ∧ (y = 6 ∨ y = 8) ∧ v 4 ≠ 30 ∧ (x < 1 ∨ 3 < x ∨ (0 ≤ i ∧ i < v 4 ∧ a 5 i.toNat = 1 ∧ a 6 i.toNat ≤ 3))) ∧ TNEW x y (if x < 1 ∨ 3 < x then -1 else i) (-1) v a v2 a2)))) : REL h0 sk L2 cl2 ln2 iv2 rv2 v2 a2 := ⟨fd_keep hr.1 hp.2.1 hq.2.1, tp_keep hr.2.1 hp.2.2.1 hq.2.2.1, tx_keep hr.2.2.1 hp.2.2.2.1 hq.2.2.2.1, (tbl_both hr.2.2.2.1 hp.2.2.2.2.1 hq.2.2.2.2).2, tbl_rp hr.2.2.2.1 hr.2.2.2.2.1 hp.2.2.2.2.1 hp.2.2.2.2.2 hq.2.2.2.2, tbl_sec hr.2.2.2.2.2 hr.2.2.2.1.2.2.2.2.2.1.1 hq.2.2.2.2⟩
theorem rel_join {i j : Int} {P1 P2 : Prop} {f1 f2 : Int} (hr : REL h0 sk L cl ln iv rv v a) (hp : P1 ∧ (iv2 h0 14 = iv h0 14 ∧ iv2 h0 11 = iv h0 11 ∧ iv2 h0 12 = iv h0 12 ∧ iv2 h0 13 = iv h0 13) ∧ ((iv2 (sk 2) 2 = iv (sk 2) 2 ∧ (∀ ss, CT iv rv (sk 2) ss → CT iv2 rv2 (sk 2) ss))) ∧ (iv2 (sk 3) 2 = iv (sk 3) 2 ∧ (∀ tt, CT iv rv (sk 3) tt → CT iv2 rv2 (sk 3) tt)) ∧ (PJOI i j f1 sk iv rv iv2 rv2) ∧ (∃ g, WT g sk L cl ln iv rv ∧ WT g sk L2 cl2 ln2 iv2 rv2) ∧ SKL sk L cl ∧ XT L cl ln L2 cl2 ln2 ∧ ((f1 = -1 ∧ KP L cl (fun _ => False) (fun _ => False) (fun _ => False) (fun _ => False) (fun _ _ => False) iv rv iv2 rv2) ∨ (f1 ≠ -1 ∧ KP L cl (fun _ => False) (fun _ => False) (fun _ => False) (fun _ => False) (fun _ _ => False) iv rv iv2 rv2 ∧ ∃ t u, ALV sk iv rv i t ∧ ALV sk iv rv j u ∧ KNW L sk (some t) (some u) iv iv2 rv2))) (hq : P2 ∧ (v2 56 = v 56 ∧ v2 31 = v 31 ∧ v2 32 = v 32 ∧ v2 33 = v 33) ∧ ((v2 3 = v 3 ∧ a2 2 = a 2)) ∧ (v2 30 = v 30 ∧ a2 29 = a 29) ∧ (((f2 = -1 ∧ TSAME v a v2 a2 ∧ ¬ (0 ≤ i ∧ i < v 4 ∧ a 5 i.toNat = 1 ∧ a 6 i.toNat ≤ 3 ∧ 0 ≤ j ∧ j < v 4 ∧ a 5 j.toNat = 1 ∧ a 6 j.toNat ≤ 3 ∧ v 4 ≠ 30)) ∨ (f2 = v 4 ∧ (0 ≤ i ∧ i < v 4 ∧ a 5 i.toNat = 1 ∧ a 6 i.toNat ≤ 3 ∧ 0 ≤ j ∧ j < v 4 ∧ a 5 j.toNat = 1 ∧ a 6 j.toNat ≤ 3 ∧ v 4 ≠ 30) ∧ TNEW 5 (max (a 7 i.toNat) (a 7 j.toNat)) i j v a v2 a2)))) : REL h0 sk L2 cl2 ln2 iv2 rv2 v2 a2 := ⟨fd_keep hr.1 hp.2.1 hq.2.1, tp_keep hr.2.1 hp.2.2.1 hq.2.2.1, tx_keep hr.2.2.1 hp.2.2.2.1 hq.2.2.2.1, (joi_both hr.2.2.2.1 hp.2.2.2.2.1 hq.2.2.2.2).2, joi_rp hr.2.2.2.1 hr.2.2.2.2.1 hp.2.2.2.2.1 hp.2.2.2.2.2 hq.2.2.2.2, joi_sec hr.2.2.2.2.2 hr.2.2.2.1.2.2.2.2.2.1.1 hq.2.2.2.2⟩
theorem rel_drop {i : Int} {P1 P2 : Prop} {f1 f2 : Int} (hr : REL h0 sk L cl ln iv rv v a) (hp : P1 ∧ (iv2 h0 14 = iv h0 14 ∧ iv2 h0 11 = iv h0 11 ∧ iv2 h0 12 = iv h0 12 ∧ iv2 h0 13 = iv h0 13) ∧ ((iv2 (sk 2) 2 = iv (sk 2) 2 ∧ (∀ ss, CT iv rv (sk 2) ss → CT iv2 rv2 (sk 2) ss))) ∧ (iv2 (sk 3) 2 = iv (sk 3) 2 ∧ (∀ tt, CT iv rv (sk 3) tt → CT iv2 rv2 (sk 3) tt)) ∧ (PDRP i f1 sk iv rv iv2 rv2) ∧ (∃ g, WT g sk L cl ln iv rv ∧ WT g sk L2 cl2 ln2 iv2 rv2) ∧ SKL sk L cl ∧ XT L cl ln L2 cl2 ln2 ∧ (KP L cl (fun _ => False) (fun _ => False) (fun _ => False) (fun _ => False) (fun _ _ => False) iv rv iv2 rv2)) (hq : P2 ∧ (v2 56 = v 56 ∧ v2 31 = v 31 ∧ v2 32 = v 32 ∧ v2 33 = v 33) ∧ ((v2 3 = v 3 ∧ a2 2 = a 2)) ∧ (v2 30 = v 30 ∧ a2 29 = a 29) ∧ (((f2 = -1 ∧ TSAME v a v2 a2 ∧ ¬ (0 ≤ i ∧ i < v 4 ∧ a 5 i.toNat = 1)) ∨ (f2 = 1 ∧ (0 ≤ i ∧ i < v 4 ∧ a 5 i.toNat = 1) ∧ TDRP i v a v2 a2)))) : REL h0 sk L2 cl2 ln2 iv2 rv2 v2 a2 := ⟨fd_keep hr.1 hp.2.1 hq.2.1, tp_keep hr.2.1 hp.2.2.1 hq.2.2.1, tx_keep hr.2.2.1 hp.2.2.2.1 hq.2.2.2.1, (drp_both hr.2.2.2.1 hp.2.2.2.2.1 hq.2.2.2.2).2, drp_rp hr.2.2.2.1 hr.2.2.2.2.1 hp.2.2.2.2.1 hp.2.2.2.2.2 hq.2.2.2.2, drp_sec hr.2.2.2.2.2 hr.2.2.2.1.2.2.2.2.2.1.1 hq.2.2.2.2⟩
theorem rel_rule {i x n : Int} {P1 P2 : Prop} {f1 f2 : Int} (hr : REL h0 sk L cl ln iv rv v a) (hp : P1 ∧ (iv2 h0 14 = iv h0 14 ∧ iv2 h0 11 = iv h0 11 ∧ iv2 h0 12 = iv h0 12 ∧ iv2 h0 13 = iv h0 13) ∧ (iv2 (sk 2) 2 = 0) ∧ (iv2 (sk 3) 2 = iv (sk 3) 2 ∧ (∀ tt, CT iv rv (sk 3) tt → CT iv2 rv2 (sk 3) tt)) ∧ (PRUL i x n f1 sk iv rv iv2 rv2) ∧ (∃ g, WT g sk L cl ln iv rv ∧ WT g sk L2 cl2 ln2 iv2 rv2) ∧ SKL sk L cl ∧ XT L cl ln L2 cl2 ln2 ∧ (KRU L cl sk iv rv L2 cl2 ln2 iv2 rv2 i x n f1)) (hq : P2 ∧ (v2 56 = v 56 ∧ v2 31 = v 31 ∧ v2 32 = v 32 ∧ v2 33 = v 33) ∧ (v2 3 = 0) ∧ (v2 30 = v 30 ∧ a2 29 = a 29) ∧ (((f2 = -1 ∧ TSAME v a v2 a2 ∧ ¬ ((0 ≤ i ∧ i < v 4 ∧ a 5 i.toNat = 1 ∧ a 6 i.toNat ≠ 5 ∧ 0 ≤ x ∧ x ≤ 5 ∧ 1 ≤ n ∧ n ≤ 8 ∧ 1 ≤ v 3 - n ∧ v 3 - n ≤ 4 ∧ a 10 i.toNat ≠ 200) ∧ ACL (a 2) n (v 3 - n) (DC (a 7 i.toNat)) ∧ LTK (a 2) n)) ∨ (f2 = a 10 i.toNat ∧ ((0 ≤ i ∧ i < v 4 ∧ a 5 i.toNat = 1 ∧ a 6 i.toNat ≠ 5 ∧ 0 ≤ x ∧ x ≤ 5 ∧ 1 ≤ n ∧ n ≤ 8 ∧ 1 ≤ v 3 - n ∧ v 3 - n ≤ 4 ∧ a 10 i.toNat ≠ 200) ∧ ACL (a 2) n (v 3 - n) (DC (a 7 i.toNat)) ∧ LTK (a 2) n) ∧ TRUL i x n v a v2 a2)))) : REL h0 sk L2 cl2 ln2 iv2 rv2 v2 a2 := ⟨fd_keep hr.1 hp.2.1 hq.2.1, ⟨by have h2 := hp.2.2.1; have h3 := hq.2.2.1; omega, CT.zero hp.2.2.1⟩, tx_keep hr.2.2.1 hp.2.2.2.1 hq.2.2.2.1, (rul_both hr.2.2.2.1 hr.2.1.1 hr.2.1.2 hp.2.2.2.2.1 hq.2.2.2.2).2, rul_rp hr.2.2.2.1 hr.2.2.2.2.1 hr.2.1.1 hr.2.1.2 hp.2.2.2.2.1 hp.2.2.2.2.2 hq.2.2.2.2, rul_sec hr.2.2.2.2.2 hr.2.2.2.1.2.2.2.2.2.1.1 hq.2.2.2.2⟩
theorem rel_indicator {i x : Int} {P1 P2 : Prop} {f1 f2 : Int} (hr : REL h0 sk L cl ln iv rv v a) (hp : P1 ∧ (iv2 h0 14 = iv h0 14 ∧ iv2 h0 11 = iv h0 11 ∧ iv2 h0 12 = iv h0 12 ∧ iv2 h0 13 = iv h0 13) ∧ (iv2 (sk 2) 2 = 0) ∧ (iv2 (sk 3) 2 = iv (sk 3) 2 ∧ (∀ tt, CT iv rv (sk 3) tt → CT iv2 rv2 (sk 3) tt)) ∧ (PIND i x f1 sk iv rv iv2 rv2) ∧ (∃ g, WT g sk L cl ln iv rv ∧ WT g sk L2 cl2 ln2 iv2 rv2) ∧ SKL sk L cl ∧ XT L cl ln L2 cl2 ln2 ∧ (KIN L cl sk iv rv L2 cl2 ln2 iv2 rv2 i x f1)) (hq : P2 ∧ (v2 56 = v 56 ∧ v2 31 = v 31 ∧ v2 32 = v 32 ∧ v2 33 = v 33) ∧ (v2 3 = 0) ∧ (v2 30 = v 30 ∧ a2 29 = a 29) ∧ (((f2 = -1 ∧ TSAME v a v2 a2 ∧ ¬ ((0 ≤ x ∧ x ≤ 3 ∧ 0 ≤ i ∧ i < v 4 ∧ a 5 i.toNat = 1 ∧ ((x = 0 ∧ a 6 i.toNat ≤ 2) ∨ (x = 1 ∧ a 6 i.toNat = 2) ∨ (x ≠ 0 ∧ x ≠ 1 ∧ a 6 i.toNat = 5)) ∧ v 3 ≤ 4) ∧ ACL (a 2) 0 (v 3) (DC (a 7 i.toNat)) ∧ True)) ∨ (f2 = v 3 ∧ ((0 ≤ x ∧ x ≤ 3 ∧ 0 ≤ i ∧ i < v 4 ∧ a 5 i.toNat = 1 ∧ ((x = 0 ∧ a 6 i.toNat ≤ 2) ∨ (x = 1 ∧ a 6 i.toNat = 2) ∨ (x ≠ 0 ∧ x ≠ 1 ∧ a 6 i.toNat = 5)) ∧ v 3 ≤ 4) ∧ ACL (a 2) 0 (v 3) (DC (a 7 i.toNat)) ∧ True) ∧ TIND i x v a v2 a2)))) : REL h0 sk L2 cl2 ln2 iv2 rv2 v2 a2 := ⟨fd_keep hr.1 hp.2.1 hq.2.1, ⟨by have h2 := hp.2.2.1; have h3 := hq.2.2.1; omega, CT.zero hp.2.2.1⟩, tx_keep hr.2.2.1 hp.2.2.2.1 hq.2.2.2.1, (ind_both hr.2.2.2.1 hr.2.1.1 hr.2.1.2 hp.2.2.2.2.1 hq.2.2.2.2).2, ind_rp hr.2.2.2.1 hr.2.2.2.2.1 hr.2.1.1 hr.2.1.2 hp.2.2.2.2.1 hp.2.2.2.2.2 hq.2.2.2.2, ind_sec hr.2.2.2.2.2 hr.2.2.2.1.2.2.2.2.2.1.1 hq.2.2.2.2⟩
theorem rel_undo  {P1 P2 : Prop} {f1 f2 : Int} (hr : REL h0 sk L cl ln iv rv v a) (hp : P1 ∧ (iv2 h0 14 = iv h0 14 ∧ iv2 h0 11 = iv h0 11 ∧ iv2 h0 12 = iv h0 12 ∧ iv2 h0 13 = iv h0 13) ∧ ((iv2 (sk 2) 2 = iv (sk 2) 2 ∧ (∀ ss, CT iv rv (sk 2) ss → CT iv2 rv2 (sk 2) ss))) ∧ (iv2 (sk 3) 2 = iv (sk 3) 2 ∧ (∀ tt, CT iv rv (sk 3) tt → CT iv2 rv2 (sk 3) tt)) ∧ (PUNX f1 sk iv rv iv2 rv2) ∧ (∃ g, WT g sk L cl ln iv rv ∧ WT g sk L2 cl2 ln2 iv2 rv2) ∧ SKL sk L cl ∧ XT L cl ln L2 cl2 ln2 ∧ ((f1 = 0 ∧ KP L cl (fun _ => False) (fun _ => False) (fun _ => False) (fun _ => False) (fun _ _ => False) iv rv iv2 rv2) ∨ (f1 = 1 ∧ ∃ ch, el rv (sk 23) (iv (sk 23) 2 - 1).toNat = some ch ∧ UKP L cl ch iv rv iv2 rv2))) (hq : P2 ∧ (v2 56 = v 56 ∧ v2 31 = v 31 ∧ v2 32 = v 32 ∧ v2 33 = v 33) ∧ ((v2 3 = v 3 ∧ a2 2 = a 2)) ∧ (v2 30 = v 30 ∧ a2 29 = a 29) ∧ ((∃ ln, STK ln v a) ∧ (∃ ln, STK ln v2 a2) ∧ ((v 19 = 0 ∧ f2 = 0 ∧ TSAME v a v2 a2) ∨ (v 19 ≠ 0 ∧ f2 = 1 ∧ TUND v a v2 a2)))) : REL h0 sk L2 cl2 ln2 iv2 rv2 v2 a2 := ⟨fd_keep hr.1 hp.2.1 hq.2.1, tp_keep hr.2.1 hp.2.2.1 hq.2.2.1, tx_keep hr.2.2.1 hp.2.2.2.1 hq.2.2.2.1, (und_both hr.2.2.2.1 hp.2.2.2.2.1 hq.2.2.2.2).2, und_rp hr.2.2.2.1 hr.2.2.2.2.1 hp.2.2.2.2.1 hp.2.2.2.2.2 hq.2.2.2.2, und_sec hr.2.2.2.2.2 hr.2.2.2.1.2.2.2.2.2.1.1 hq.2.2.2.2⟩
theorem rel_condition {i r x : Int} {P1 P2 : Prop} {f1 f2 : Int} (hr : REL h0 sk L cl ln iv rv v a) (hp : P1 ∧ (iv2 h0 14 = iv h0 14 ∧ iv2 h0 11 = iv h0 11 ∧ iv2 h0 12 = iv h0 12 ∧ iv2 h0 13 = iv h0 13) ∧ ((iv2 (sk 2) 2 = iv (sk 2) 2 ∧ (∀ ss, CT iv rv (sk 2) ss → CT iv2 rv2 (sk 2) ss))) ∧ (iv2 (sk 3) 2 = iv (sk 3) 2 ∧ (∀ tt, CT iv rv (sk 3) tt → CT iv2 rv2 (sk 3) tt)) ∧ (PCND i r x f1 sk iv rv iv2 rv2) ∧ (∃ g, WT g sk L cl ln iv rv ∧ WT g sk L2 cl2 ln2 iv2 rv2) ∧ SKL sk L cl ∧ XT L cl ln L2 cl2 ln2 ∧ (KCN L cl sk iv rv iv2 rv2 i r x f1)) (hq : P2 ∧ (v2 56 = v 56 ∧ v2 31 = v 31 ∧ v2 32 = v 32 ∧ v2 33 = v 33) ∧ ((v2 3 = v 3 ∧ a2 2 = a 2)) ∧ (v2 30 = v 30 ∧ a2 29 = a 29) ∧ (((f2 = -1 ∧ TSAME v a v2 a2 ∧ ¬ (0 ≤ i ∧ i < v 4 ∧ a 5 i.toNat = 1 ∧ a 6 i.toNat ≠ 5 ∧ 0 ≤ r ∧ r < a 10 i.toNat ∧ 0 ≤ x ∧ x ≤ 5)) ∨ (f2 = a 11 (200 * i + r).toNat ∧ (0 ≤ i ∧ i < v 4 ∧ a 5 i.toNat = 1 ∧ a 6 i.toNat ≠ 5 ∧ 0 ≤ r ∧ r < a 10 i.toNat ∧ 0 ≤ x ∧ x ≤ 5) ∧ TCND i r x v a v2 a2)))) : REL h0 sk L2 cl2 ln2 iv2 rv2 v2 a2 := ⟨fd_keep hr.1 hp.2.1 hq.2.1, tp_keep hr.2.1 hp.2.2.1 hq.2.2.1, tx_keep hr.2.2.1 hp.2.2.2.1 hq.2.2.2.1, cnd_both hr.2.2.2.1 hp.2.2.2.2.1 hq.2.2.2.2, (cnd_rp hr.2.2.2.1 hr.2.2.2.2.1 hp.2.2.2.2.1 hp.2.2.2.2.2 hq.2.2.2.2).2, cnd_sec hr.2.2.2.2.2 hr.2.2.2.1.2.2.2.2.2.1.1 hq.2.2.2.2⟩
end RELS
section RLSS
variable {h0 : Nat} {L L2 : List Nat} {cl ln cl2 ln2 sk : Nat → Nat} {iv iv2 : Nat → Nat → Int} {rv rv2 : Nat → Nat → Option Nat} {v v2 : Nat → Int} {a a2 : Nat → Nat → Int}
end RLSS
def SHB (h0 : Nat) (iv : Nat → Nat → Int) (rv : Nat → Nat → Option Nat) (v : Nat → Int) (a : Nat → Nat → Int) : Prop := ∃ sA sB E, rv h0 9 = some sA ∧ rv h0 10 = some sB ∧ LNK rv sB sA ∧ SHT iv rv sA E ∧ SHA v a E
def RLC (h0 : Nat) (sk : Nat → Nat) (L : List Nat) (cl ln : Nat → Nat) (iv : Nat → Nat → Int) (rv : Nat → Nat → Option Nat) (v : Nat → Int) (a : Nat → Nat → Int) : Prop := REL h0 sk L cl ln iv rv v a ∧ (iv h0 15 = v 42 ∧ iI (iv h0 16) = iI (v 43)) ∧ SHB h0 iv rv v a
section RLCS
variable {h0 : Nat} {L L2 : List Nat} {cl ln cl2 ln2 sk : Nat → Nat} {iv iv2 : Nat → Nat → Int} {rv rv2 : Nat → Nat → Option Nat} {v v2 : Nat → Int} {a a2 : Nat → Nat → Int}
theorem shb_keep (hr : SHB h0 iv rv v a) (hp : KSC h0 iv rv iv2 rv2) (hq : KSA v a v2 a2) : SHB h0 iv2 rv2 v2 a2 := by
  obtain ⟨sA, sB, E, q1, q2, q3, q4, q5⟩ := hr
  obtain ⟨p1, p2, p3, p4⟩ := hp sA sB q1 q2 q3
  exact ⟨sA, sB, E, p1, p2, p3, q4.sam p4, q5.cg hq⟩
theorem tch_both {A : Int → List (Option (List Int)) → List (Option (List Int)) → Prop} {f1 f2 : Int} (hu : ∀ f g E E1 E2, A f E E1 → A g E E2 → f = g ∧ E1 = E2) (hr : SHB h0 iv rv v a) (hp : TCH iv rv iv2 h0 (A f1) ∧ rv2 = rv) (hq : ∀ E, SHA v a E → ∃ E2, A f2 E E2 ∧ SHA v2 a2 E2) : f1 = f2 ∧ SHB h0 iv2 rv2 v2 a2 := by
  obtain ⟨sA, sB, E, q1, q2, q3, q4, q5⟩ := hr
  obtain ⟨E1, p1, p2⟩ := hp.1 sA sB q1 q2 q3 E q4
  obtain ⟨E2, r1, r2⟩ := hq E q5
  obtain ⟨e1, e2⟩ := hu f1 f2 E E1 E2 p1 r1
  subst e2
  rw [hp.2]
  exact ⟨e1, sA, sB, E1, q1, q2, q3, p2, r2⟩
theorem lose_both {i f1 f2 : Int} (hr : SHB h0 iv rv v a) (hp : TCH iv rv iv2 h0 (fun E E2 => LOSX E i f1 E2) ∧ rv2 = rv) (hq : LSA v a v2 a2 i f2) : f1 = f2 ∧ SHB h0 iv2 rv2 v2 a2 := tch_both (A := fun f E E2 => LOSX E i f E2) (fun _ _ _ _ _ g1 g2 => LOSX.uni g1 g2) hr hp hq
theorem cut_both {i n f1 f2 : Int} (hr : SHB h0 iv rv v a) (hp : TCH iv rv iv2 h0 (fun E E2 => CUTX E i n f1 E2) ∧ rv2 = rv) (hq : CTA v a v2 a2 i n f2) : f1 = f2 ∧ SHB h0 iv2 rv2 v2 a2 := tch_both (A := fun f E E2 => CUTX E i n f E2) (fun _ _ _ _ _ g1 g2 => CUTX.uni g1 g2) hr hp hq
theorem copyRow_both {q w u x n f1 f2 : Int} (hr : SHB h0 iv rv v a) (hp : TCH iv rv iv2 h0 (fun E E2 => CPRX E q w u x n f1 E2) ∧ rv2 = rv) (hq : CRA v a v2 a2 q w u x n f2) : f1 = f2 ∧ SHB h0 iv2 rv2 v2 a2 := tch_both (A := fun f E E2 => CPRX E q w u x n f E2) (fun _ _ _ _ _ g1 g2 => CPRX.uni g1 g2) hr hp hq
theorem copyLines_both {q u n f1 f2 : Int} (h15 : iv h0 15 = v 42) (hr : SHB h0 iv rv v a) (hp : TCH iv rv iv2 h0 (fun E E2 => CPLX E q u n (iv h0 15) f1 E2 (iv2 h0 15)) ∧ rv2 = rv) (hq : CPA v a v2 a2 q u n f2) : f1 = f2 ∧ iv2 h0 15 = v2 42 ∧ SHB h0 iv2 rv2 v2 a2 := by
  obtain ⟨sA, sB, E, q1, q2, q3, q4, q5⟩ := hr
  obtain ⟨E1, p1, p2⟩ := hp.1 sA sB q1 q2 q3 E q4
  obtain ⟨E2, r1, r2⟩ := hq E q5
  have p3 : CPLX E q u n (iv h0 15) f1 E1 (iv2 h0 15) := p1
  rw [h15] at p3
  obtain ⟨e1, e2, e3⟩ := CPLX.uni p3 r1
  subst e2
  rw [hp.2]
  exact ⟨e1, e3, sA, sB, E1, q1, q2, q3, p2, r2⟩
theorem setc_both {i f1 f2 : Int} (hr : RLC h0 sk L cl ln iv rv v a) (hp : PSX sk ln iv rv iv2 rv2 h0 (iv h0 11) (iv h0 13) i f1) (hq : SETX v a v2 a2 i f2 ∧ TBL v a ∧ ∀ j, a 10 j ≤ 200) : f1 = f2 ∧ SHB h0 iv2 rv2 v2 a2 := by
  obtain ⟨hr, _, sA, sB, E, q1, q2, q3, q4, q5⟩ := hr
  obtain ⟨hX, hT, h10⟩ := hq
  have ph : PHY sk ln iv rv sA sB (iv h0 11) (iv h0 13) v a := ⟨⟨hr.2.2.2.1, hr.2.2.2.2.1, hT, hr.2.2.2.2.2⟩, h10, hr.2.2.1, ⟨hr.1.2.1, hr.1.2.2.2⟩, q3⟩
  rcases hp sA sB q1 q2 v a ph with ⟨n1, n2, n3, n4⟩ | ⟨D, d1, d2, d3, d4, d5⟩ <;> rcases hX with ⟨m1, m2⟩ | ⟨D2, e1, e2⟩
  · exact ⟨n1.1.trans m1.1.symm, sA, sB, E, n2, n3, n4.1, q4.sam n4.2.1, q5.cg m2⟩
  · exact (SETN.no n1 e1).elim
  · exact (SETN.no m1 d1).elim
  · obtain ⟨u1, u2⟩ := SETD.uni hT d1 e1
    subst u2
    have gm : ∀ (l : Nat) (x : Option (List Int)), (D.map some)[l]? = some x → ∃ xs, x = some xs ∧ D[l]? = some xs := fun l x e => by
      rw [List.getElem?_map] at e
      cases hd : D[l]? with
      | none => rw [hd] at e; cases e
      | some xs => rw [hd] at e; cases e; exact ⟨xs, rfl, rfl⟩
    refine ⟨u1, sB, sA, D.map some, d2, d3, d4, ⟨by rw [List.length_map]; exact d5.1, fun l x e => ?_⟩, by rw [List.length_map]; exact e2.1, fun l x e => ?_⟩
    · obtain ⟨xs, g1, g2⟩ := gm l x e
      obtain ⟨rb, r, k1, k2, k3, k4⟩ := d5.2 l xs g2
      exact ⟨rb, r, k1, k2, Or.inr ⟨xs, g1, k3, k4⟩⟩
    · obtain ⟨xs, g1, g2⟩ := gm l x e
      obtain ⟨k1, k2⟩ := e2.2 l xs g2
      exact Or.inr ⟨xs, g1, k1, k2⟩
theorem emboss_both {i n f1 f2 : Int} (h16 : iI (iv h0 16) = iI (v 43)) (h11 : iv h0 11 = v 31) (hr : SHB h0 iv rv v a) (hp : EPX iv rv iv2 h0 i n (iv h0 11) f1) (hq : EMA v a v2 i n f2) : iI f1 = iI f2 ∧ iI (iv2 h0 16) = iI (v2 43) := by
  obtain ⟨sA, sB, E, q1, q2, q3, q4, q5⟩ := hr
  have p := hp sA q1 E q4
  rw [h16, h11] at p
  exact EMBX.uni p (hq E q5)
theorem shb_zero (hz : SHZ h0 iv rv) (h36 : v 36 = 0) : SHB h0 iv rv v a := by
  obtain ⟨sA, sB, q1, q2, q3, q4⟩ := hz.mk h36
  exact ⟨sA, sB, [], q1, q2, q3, ⟨by rw [q4, h36]; rfl, fun l x e => by simp at e⟩, by rw [h36]; rfl, fun l x e => by simp at e⟩
end RLCS
section RLHS
variable {h0 : Nat} {L L2 : List Nat} {cl ln cl2 ln2 sk : Nat → Nat} {iv iv2 : Nat → Nat → Int} {rv rv2 : Nat → Nat → Option Nat} {v v2 : Nat → Int} {a a2 : Nat → Nat → Int}
end RLHS
def BRL (sk : Nat → Nat) (iv : Nat → Nat → Int) (rv : Nat → Nat → Option Nat) (v : Nat → Int) (a : Nat → Nat → Int) : Prop := ∃ bs : List Int, OUTL v a bs ∧ BYS iv rv (sk 4) bs
def RLB (h0 : Nat) (sk : Nat → Nat) (L : List Nat) (cl ln : Nat → Nat) (iv : Nat → Nat → Int) (rv : Nat → Nat → Option Nat) (v : Nat → Int) (a : Nat → Nat → Int) : Prop := RLC h0 sk L cl ln iv rv v a ∧ BRL sk iv rv v a
section RLBS
variable {h0 : Nat} {L L2 : List Nat} {cl ln cl2 ln2 sk : Nat → Nat} {iv iv2 : Nat → Nat → Int} {rv rv2 : Nat → Nat → Option Nat} {v v2 : Nat → Int} {a a2 : Nat → Nat → Int}
theorem brq_keep (hr : BRL sk iv rv v a) (hp : (iv2 (sk 4) 2 = iv (sk 4) 2 ∧ ∀ ss, CT iv rv (sk 4) ss → CT iv2 rv2 (sk 4) ss)) (hq : v2 52 = v 52 ∧ a2 51 = a 51) : BRL sk iv2 rv2 v2 a2 := by
  obtain ⟨bs, b1, b2, b3⟩ := hr
  exact ⟨bs, b1.fr hq.1 hq.2, hp.1.trans b2, hp.2 _ b3⟩
theorem read_brq {t x n f1 f2 : Int} (hr : RLB h0 sk L cl ln iv rv v a) (hp : PRD sk ln iv rv iv2 rv2 h0 (iv h0 13) t x n f1) (hq : RDR v a v2 a2 t x n f2 ∧ TBL v a ∧ (∀ j, a 16 j ≤ 4) ∧ v 36 ≤ 200) : BRL sk iv2 rv2 v2 a2 := by
  obtain ⟨⟨hr, _, sA, sB, E, q1, q2, q3, q4, q5⟩, b0, b1, b2, b3⟩ := hr
  obtain ⟨g1, hT, h16, h36⟩ := hq
  have tr : TRL sk ln iv rv v a := ⟨hr.2.2.2.1, hr.2.2.2.2.1, hT, hr.2.2.2.2.2⟩
  have hl : E.length ≤ 200 := by have := q5.1; omega
  rcases hp v a tr hr.1.2.2.2 h16 sA q1 E q4 hl with ⟨p1, _, p2, p3⟩ | ⟨p1, bs, p2, p3, p4⟩ <;> rcases g1 E q5 with ⟨g2, _, g3, g4⟩ | ⟨g2, g3⟩
  · exact ⟨b0, b1.fr g3 g4, p2.trans b2, p3 _ b3⟩
  · exact absurd g2 p1
  · exact absurd p1 g2
  · have wt := WHL.tr p1.1
    have nz := tr.nzl h16 wt.1 wt.2.1
    obtain ⟨cs, c1, c2⟩ := g3 nz.1.1 nz.1.2
    have e := (RDA.uni nz.1.1 nz.1.2 p2 c1).2
    subst e
    exact ⟨bs, c2, p3, p4⟩
theorem unr_both {t n m f1 f2 : Int} (hr : RLB h0 sk L cl ln iv rv v a) (hp : PUR sk ln iv rv iv2 rv2 t n m f1) (hq : URX v a v2 a2 t n m f2 ∧ TBL v a ∧ (∀ j, a 16 j ≤ 4)) : f1 = f2 ∧ BRL sk iv2 rv2 v2 a2 := by
  obtain ⟨⟨hr, _⟩, b0, b1, b2⟩ := hr
  obtain ⟨g1, hT, h16⟩ := hq
  have tr : TRL sk ln iv rv v a := ⟨hr.2.2.2.1, hr.2.2.2.2.1, hT, hr.2.2.2.2.2⟩
  rcases hp v a tr h16 b0 b2 with ⟨p1, p2, p3⟩ | ⟨p1, h, o, p2, p3, p4⟩ <;> rcases g1 b0 b1 with ⟨g2, g3, g4⟩ | ⟨g2, g3⟩
  · exact ⟨p2.trans g3.symm, b0, g4, p3⟩
  · exact absurd g2 p1
  · exact absurd p1 g2
  · have wt := WHL.tr p1.1
    have nz := tr.nzl h16 wt.1 wt.2.1
    obtain ⟨h', o', c1, c2, c3⟩ := g3 nz.1.1 nz.1.2
    rw [HSS.uni c1 p2] at c2
    obtain ⟨e1, e2⟩ := URD.uni p3 c2
    subst e2
    exact ⟨e1, _, c3, p4⟩
theorem brq_zero (h4 : iv (sk 4) 2 = 0) (h52 : v 52 = 0) : BRL sk iv rv v a := ⟨[], ⟨by rw [h52]; rfl, fun j x e => by simp at e⟩, by rw [h4]; rfl, CT.zero h4⟩
end RLBS
section RLFS
variable {h0 : Nat} {L L2 : List Nat} {cl ln cl2 ln2 sk : Nat → Nat} {iv iv2 : Nat → Nat → Int} {rv rv2 : Nat → Nat → Option Nat} {v v2 : Nat → Int} {a a2 : Nat → Nat → Int}
end RLFS
end
