def SAP (ln : Nat → Nat) (iv : Nat → Nat → Int) (rv : Nat → Nat → Option Nat) (w q : Nat) (i f : Int) : Prop := ∀ c b, rv w 2 = some c → rv q 1 = some b → (f = 1 ↔ (i + ((ln c : Nat) : Int) ≤ iv q 2 ∧ ∀ k : Nat, k < ln c → iv c k = iv b (i + ((k : Nat) : Int)).toNat))
def SAI (iv : Nat → Nat → Int) (rv : Nat → Nat → Option Nat) (w q : Nat) (i k : Int) : Prop := ∀ c b, rv w 2 = some c → rv q 1 = some b → ∀ j : Nat, ((j : Nat) : Int) < k → iv c j = iv b (i + ((j : Nat) : Int)).toNat
def RCT (iv : Nat → Nat → Int) (rv : Nat → Nat → Option Nat) (q : Nat) (R : Nat → Int) : Prop := CT iv rv q R ∧ ∀ j : Nat, iv q 2 ≤ ((j : Nat) : Int) → R j = 0
def BGL (iv : Nat → Nat → Int) (rv : Nat → Nat → Option Nat) (a : Nat → Nat → Int) (q b : Nat) (l : List Int) : Prop := iv b 2 = iv q 2 ∧ ∃ ss, CT iv rv b ss ∧ ∀ (r : Nat) (d : Int), l[r]? = some d → ss r = dcl a d 0
def LAC (L : List Nat) (cl ln : Nat → Nat) (iv : Nat → Nat → Int) (rv : Nat → Nat → Option Nat) (a : Nat → Nat → Int) (q b u : Nat) (i : Int) (l : List Int) (R : Nat → Int) : Prop := HL L cl ln iv rv a q l ∧ NZL a l ∧ BGL iv rv a q b l ∧ RCT iv rv u R ∧ 0 ≤ i ∧ i < iv u 2
def LAI (L : List Nat) (cl ln : Nat → Nat) (iv : Nat → Nat → Int) (rv : Nat → Nat → Option Nat) (q b u : Nat) (i k lg : Int) (r : Option Nat) : Prop := ∀ a l R, LAC L cl ln iv rv a q b u i l R → ∃ x, BSI a R i l k x ∧ ((x = -1 ∧ r = none ∧ lg = 0) ∨ (0 ≤ x ∧ ∃ w d, r = some w ∧ l[x.toNat]? = some d ∧ RWD ln iv rv a w d ∧ ty L cl w 20 ∧ lg = rlen a d))
def LAX4 (L : List Nat) (cl ln : Nat → Nat) (iv : Nat → Nat → Int) (rv : Nat → Nat → Option Nat) (q b u : Nat) (i : Int) (r : Option Nat) : Prop := ∀ a l R, LAC L cl ln iv rv a q b u i l R → (r = none ∧ BSQ a R i l none) ∨ ∃ w d, r = some w ∧ ty L cl w 20 ∧ RWD ln iv rv a w d ∧ BSQ a R i l (some d)
section RDRW
variable {h : Nat} {sk : Nat → Nat} {L : List Nat} {cl ln : Nat → Nat} {iv : Nat → Nat → Int} {rv : Nat → Nat → Option Nat} {a : Nat → Nat → Int} {q b u w c cb x0 T : Nat} {i k lg f d z y : Int} {r : Option Nat} {l : List Int} {R : Nat → Int}
theorem SAI.zero : SAI iv rv w q i 0 := fun c b _ _ j hj => absurd hj (by omega)
theorem SAI.step (hs : SAI iv rv w q i k) (hc : rv w 2 = some c) (hb : rv q 1 = some b) (hk : 0 ≤ k) (e : iv c k.toNat = iv b (i + k).toNat) : SAI iv rv w q i (k + 1) := fun c' b' h1 h2 j hj => by
  rw [hc] at h1; cases h1
  rw [hb] at h2; cases h2
  by_cases g : ((j : Nat) : Int) < k
  · exact hs c b hc hb j g
  · rw [show j = k.toNat by omega, show (((k.toNat : Nat) : Int)) = k by omega]
    exact e
theorem SAP.short (hc : rv w 2 = some c) (hn : iv q 2 < i + ((ln c : Nat) : Int)) (hf : f = 0) : SAP ln iv rv w q i f := fun c' b' h1 _ => by
  rw [hc] at h1; cases h1
  exact ⟨fun e => absurd e (by omega), fun e => absurd e.1 (by omega)⟩
theorem SAP.no (hc : rv w 2 = some c) (hb : rv q 1 = some b) (hk : 0 ≤ k ∧ k < ((ln c : Nat) : Int)) (hn : iv c k.toNat ≠ iv b (i + k).toNat) (hf : f = 0) : SAP ln iv rv w q i f := fun c' b' h1 h2 => by
  rw [hc] at h1; cases h1
  rw [hb] at h2; cases h2
  refine ⟨fun e => absurd e (by omega), fun e => ?_⟩
  have g := e.2 k.toNat (by omega)
  rw [show (((k.toNat : Nat) : Int)) = k by omega] at g
  exact absurd g hn
theorem SAP.yes (hs : SAI iv rv w q i k) (hc : rv w 2 = some c) (hk : ((ln c : Nat) : Int) ≤ k) (hn : i + ((ln c : Nat) : Int) ≤ iv q 2) (hf : f = 1) : SAP ln iv rv w q i f := fun c' b' h1 h2 => by
  rw [hc] at h1; cases h1
  exact ⟨fun _ => ⟨hn, fun j hj => hs c b' hc h2 j (by omega)⟩, fun _ => hf⟩
theorem SAP.std (hs : SAP ln iv rv w q i f) (hw : RWD ln iv rv a w d) (hb : rv q 1 = some b) (hd : (1 ≤ rlen a d ∧ rlen a d ≤ 4) ∧ ∀ k : Int, 0 ≤ k → k < rlen a d → dcl a d k ≠ 0) (hR : RCT iv rv q R) (hi : 0 ≤ i) : f = 1 ↔ STD a R i d := by
  obtain ⟨c, c1, c2, c3⟩ := hw.c
  rw [hs c b c1 hb]
  refine ⟨fun e k h1 h2 => ?_, fun e => ?_⟩
  · have g := e.2 k.toNat (by omega)
    rw [c3 k.toNat (by omega), show (((k.toNat : Nat) : Int)) = k by omega, hR.1 b hb (i + k).toNat (by omega)] at g
    exact g
  · have le : i + ((ln c : Nat) : Int) ≤ iv q 2 := by
      by_cases g : i + ((ln c : Nat) : Int) ≤ iv q 2
      · exact g
      · by_cases g2 : i ≤ iv q 2
        · have e2 := e (iv q 2 - i) (by omega) (by omega)
          rw [show i + (iv q 2 - i) = iv q 2 by omega, hR.2 (iv q 2).toNat (by omega)] at e2
          exact absurd e2 (hd.2 _ (by omega) (by omega))
        · have e2 := e 0 (by omega) (by omega)
          rw [show i + 0 = i by omega, hR.2 i.toNat (by omega)] at e2
          exact absurd e2 (hd.2 _ (by omega) (by omega))
    refine ⟨le, fun k hk => ?_⟩
    have e2 := e ((k : Nat) : Int) (by omega) (by omega)
    rw [c3 k hk, e2, hR.1 b hb (i + ((k : Nat) : Int)).toNat (by omega)]
theorem LAI.init : LAI L cl ln iv rv q b u i 0 0 none := fun a l R _ => ⟨-1, BSI.zero, Or.inl ⟨rfl, rfl, rfl⟩⟩
theorem LAC.get (hc : LAC L cl ln iv rv a q b u i l R) (hk : 0 ≤ k ∧ k < iv q 2) : ∃ w d, el rv q k.toNat = some w ∧ l[k.toNat]? = some d ∧ ty L cl w 20 ∧ RWD ln iv rv a w d := by
  obtain ⟨⟨g1, g2⟩, _⟩ := hc
  have lt : k.toNat < l.length := by omega
  have e := List.getElem?_eq_getElem lt
  obtain ⟨w, p1, p2, p3⟩ := g2 _ _ e
  exact ⟨w, _, p1, e, p2, p3⟩
theorem LAI.pass (hI : LAI L cl ln iv rv q b u i k lg r) (hb : rv b 1 = some x0) (hk : 0 ≤ k ∧ k < iv b 2) (hz : z = iv x0 k.toNat) (hu : ∀ R, CT iv rv u R → 0 ≤ i → i < iv u 2 → y = R i.toNat) (hn : z ≠ y) : LAI L cl ln iv rv q b u i (k + 1) lg r := fun a l R hc => by
  obtain ⟨x, g1, g2⟩ := hI a l R hc
  have e0 := hc.2.2.1.1
  obtain ⟨w, d, w1, w2, w3, w4⟩ := hc.get (k := k) ⟨hk.1, by omega⟩
  refine ⟨x, g1.skip hk.1 w2 (fun s => ?_), g2⟩
  obtain ⟨_, nz, ⟨_, ss, s1, s2⟩, rc, i0, i1⟩ := hc
  have n1 := nz _ _ w2
  have e1 := s 0 (by omega) (by omega)
  rw [show i + 0 = i by omega, ← hu R rc.1 i0 i1, ← s2 _ _ w2, ← s1 x0 hb k.toNat (by omega), ← hz] at e1
  exact hn e1
theorem LAI.less (hI : LAI L cl ln iv rv q b u i k lg r) (hk : 0 ≤ k ∧ k < iv q 2) (he : el rv q k.toNat = some w) (hc2 : rv w 2 = some c) (hn : ((ln c : Nat) : Int) ≤ lg) : LAI L cl ln iv rv q b u i (k + 1) lg r := fun a l R hc => by
  obtain ⟨x, g1, g2⟩ := hI a l R hc
  obtain ⟨w', d, w1, w2, w3, w4⟩ := hc.get hk
  rw [he] at w1; cases w1
  obtain ⟨c', d1, d2, _⟩ := w4.c
  rw [hc2] at d1; cases d1
  have nz := hc.2.1 _ _ w2
  rcases g2 with ⟨p1, p2, p3⟩ | ⟨p1, w5, e, p2, p3, p4, p5, p6⟩
  · omega
  · exact ⟨x, g1.less hk.1 w2 p1 p3 (by omega), Or.inr ⟨p1, w5, e, p2, p3, p4, p5, p6⟩⟩
theorem LAI.skip (hI : LAI L cl ln iv rv q b u i k lg r) (hk : 0 ≤ k ∧ k < iv q 2) (he : el rv q k.toNat = some w) (hs : SAP ln iv rv w u i f) (hb : rv u 1 = some cb) (hf : f ≠ 1) : LAI L cl ln iv rv q b u i (k + 1) lg r := fun a l R hc => by
  obtain ⟨x, g1, g2⟩ := hI a l R hc
  obtain ⟨w', d, w1, w2, w3, w4⟩ := hc.get hk
  rw [he] at w1; cases w1
  exact ⟨x, g1.skip hk.1 w2 (fun s => hf ((hs.std w4 hb (hc.2.1 _ _ w2) hc.2.2.2.1 hc.2.2.2.2.1).mpr s)), g2⟩
theorem LAI.take (hI : LAI L cl ln iv rv q b u i k lg r) (hk : 0 ≤ k ∧ k < iv q 2) (he : el rv q k.toNat = some w) (hs : SAP ln iv rv w u i f) (hb : rv u 1 = some cb) (hf : f = 1) (hc2 : rv w 2 = some c) (hl : lg < ((ln c : Nat) : Int)) (hz : z = ((ln c : Nat) : Int)) : LAI L cl ln iv rv q b u i (k + 1) z (some w) := fun a l R hc => by
  obtain ⟨x, g1, g2⟩ := hI a l R hc
  obtain ⟨w', d, w1, w2, w3, w4⟩ := hc.get hk
  rw [he] at w1; cases w1
  obtain ⟨c', d1, d2, _⟩ := w4.c
  rw [hc2] at d1; cases d1
  refine ⟨k, g1.take hk.1 w2 ((hs.std w4 hb (hc.2.1 _ _ w2) hc.2.2.2.1 hc.2.2.2.2.1).mp hf) ?_, Or.inr ⟨hk.1, w, d, rfl, w2, w4, w3, by omega⟩⟩
  rcases g2 with ⟨p1, _⟩ | ⟨p1, w5, e, p2, p3, p4, p5, p6⟩
  · exact Or.inl p1
  · exact Or.inr ⟨e, p3, by omega⟩
theorem LAI.fin (hI : LAI L cl ln iv rv q b u i k lg r) (hk : iv q 2 ≤ k ∨ iv b 2 ≤ k) (hk2 : k ≤ iv q 2) : LAX4 L cl ln iv rv q b u i r := fun a l R hc => by
  obtain ⟨x, g1, g2⟩ := hI a l R hc
  have e0 := hc.2.2.1.1
  have e1 := hc.1.1
  rw [show k = ((l.length : Nat) : Int) by omega] at g1
  rcases g2 with ⟨p1, p2, p3⟩ | ⟨p1, w5, e, p2, p3, p4, p5, p6⟩
  · exact Or.inl ⟨p2, g1.none (by omega)⟩
  · exact Or.inr ⟨w5, e, p2, p5, p4, g1.some p1 p3⟩
end RDRW
