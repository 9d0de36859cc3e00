def MRK (sk cl : Nat → Nat) (iv : Nat → Nat → Int) (rv : Nat → Nat → Option Nat) : Prop := ∀ i : Nat, (i : Int) < iv (sk 22) 2 → ∀ t, el rv (sk 22) i = some t → cl t ≤ 100 + i
section MRKS
variable {g : Nat} {sk : Nat → Nat} {L L2 : List Nat} {cl ln cl2 ln2 : Nat → Nat} {iv iv2 : Nat → Nat → Int} {rv rv2 : Nat → Nat → Option Nat} {a k T q t x : Nat} {z : Int} {ls : List Nat} {y : Option Nat}
theorem tysk22 (hS : SKL sk L cl) : ty L cl (sk 22) 22 := ⟨(hS 22 rfl).1, by rw [(hS 22 rfl).2]; rfl⟩
theorem MRK.ed (h : WT g sk L cl ln iv rv) (hS : SKL sk L cl) {i : Nat} (hi : (i : Int) < iv (sk 22) 2) (he : el rv (sk 22) i = some t) : ∃ b, rv (sk 22) 1 = some b ∧ ty L cl b 1000 ∧ rv b i = some t ∧ ty L cl t 100 := by
  obtain ⟨b, q1, q2, q3, q4⟩ := h.ed2 (tysk22 hS) rfl rfl (by omega)
  rw [el_of q1] at he
  obtain ⟨c, w1, w2⟩ := h.elem (tysk22 hS) rfl q1 q2 rfl rfl hi
  rw [he] at w1; cases w1
  exact ⟨b, q1, q2, he, w2⟩
theorem MRK.call (h : MRK sk cl iv rv) (hW : WT g sk L cl ln iv rv) (hS : SKL sk L cl) (hX : XT L cl ln L2 cl2 ln2) (hF : fT ls L cl iv rv iv2 rv2) (h1 : ls.contains 22 = false) (h2 : ls.contains 1000 = false) : MRK sk cl2 iv2 rv2 := by
  intro i hi t he
  have ei := hF.i (tysk22 hS) h1 2
  have er := hF.r (tysk22 hS) h1 1
  rw [ei] at hi
  obtain ⟨b, q1, q2, q3, q4⟩ := hW.ed2 (tysk22 hS) rfl rfl (by omega)
  have eb := hF.r q2 h2 i
  rw [el_of (er.trans q1), eb] at he
  have he2 : el rv (sk 22) i = some t := by rw [el_of q1]; exact he
  obtain ⟨b2, w1, w2, w3, w4⟩ := MRK.ed hW hS hi he2
  rw [(hX t w4.1).2.1]
  exact h i hi t he2
theorem MRK.puti (h : MRK sk cl iv rv) (hS : SKL sk L cl) (he : iv2 = up2 iv a k z) (ha : ty L cl a T) (hT : T ≠ 22) : MRK sk cl iv2 rv := by
  intro i hi
  rw [he, up2_k (ne_ty (tysk22 hS) ha (Ne.symm hT))] at hi
  exact h i hi
theorem MRK.putr (h : MRK sk cl iv rv) (hW : WT g sk L cl ln iv rv) (hS : SKL sk L cl) (he : rv2 = upr rv a k y) (ha : ty L cl a T) (hT : T ≠ 22) (hT2 : T ≠ 1000) : MRK sk cl iv rv2 := by
  intro i hi t ht
  obtain ⟨b, q1, q2, q3, q4⟩ := hW.ed2 (tysk22 hS) rfl rfl (by omega)
  have er : rv2 (sk 22) 1 = some b := by rw [he, upr_a (ne_ty (tysk22 hS) ha (Ne.symm hT))]; exact q1
  rw [el_of er, he, upr_a (ne_ty q2 ha (Ne.symm hT2))] at ht
  exact h i hi t (by rw [el_of q1]; exact ht)
theorem MRK.add (h : MRK sk cl iv rv) (hW : WT g sk L cl ln iv rv) (hS : SKL sk L cl) (hX : XT L cl ln L2 cl2 ln2) (h0 : 0 ≤ iv (sk 22) 2) (hn : iv2 (sk 22) 2 = iv (sk 22) 2 + 1) (hx : el rv2 (sk 22) (iv (sk 22) 2).toNat = some x) (ho : ∀ i : Nat, (i : Int) < iv (sk 22) 2 → el rv2 (sk 22) i = el rv (sk 22) i) (hr : ((cl2 x : Nat) : Int) ≤ 100 + iv (sk 22) 2) : MRK sk cl2 iv2 rv2 := by
  intro i hi t ht
  by_cases e : (i : Int) < iv (sk 22) 2
  · rw [ho i e] at ht
    obtain ⟨b, w1, w2, w3, w4⟩ := MRK.ed hW hS e ht
    rw [(hX t w4.1).2.1]
    exact h i e t ht
  · have ei : i = (iv (sk 22) 2).toNat := by omega
    rw [ei, hx] at ht
    cases ht
    omega
theorem tysk23 (hS : SKL sk L cl) : ty L cl (sk 23) 23 := ⟨(hS 23 rfl).1, by rw [(hS 23 rfl).2]; rfl⟩
theorem el23 (h : WT g sk L cl ln iv rv) (hS : SKL sk L cl) {i : Nat} (hi : (i : Int) < iv (sk 23) 2) (he : el rv (sk 23) i = some t) : ty L cl t 21 := by
  obtain ⟨b, q1, q2, q3, q4⟩ := h.ed2 (tysk23 hS) rfl rfl (by omega)
  rw [el_of q1] at he
  obtain ⟨c, w1, w2⟩ := h.elem (tysk23 hS) rfl q1 q2 rfl rfl hi
  rw [he] at w1; cases w1
  exact w2
theorem el22 (h : WT g sk L cl ln iv rv) (hS : SKL sk L cl) {i : Nat} (hi : (i : Int) < iv (sk 22) 2) (he : el rv (sk 22) i = some t) : ty L cl t 100 := by
  obtain ⟨b, q1, q2, q3, q4⟩ := MRK.ed h hS hi he
  exact q4
def ALV (sk : Nat → Nat) (iv : Nat → Nat → Int) (rv : Nat → Nat → Option Nat) (i : Int) (t : Nat) : Prop := 0 ≤ i ∧ i < iv (sk 22) 2 ∧ el rv (sk 22) i.toNat = some t ∧ iv t 7 = 0
def TS0 (sk : Nat → Nat) (iv : Nat → Nat → Int) (rv rv2 : Nat → Nat → Option Nat) : Prop := ∀ i : Nat, (i : Int) < iv (sk 22) 2 → el rv2 (sk 22) i = el rv (sk 22) i
def TSF (P : Nat → Prop) (sk : Nat → Nat) (iv : Nat → Nat → Int) (rv : Nat → Nat → Option Nat) (iv2 : Nat → Nat → Int) (rv2 : Nat → Nat → Option Nat) : Prop := ∀ i t : Nat, (i : Int) < iv (sk 22) 2 → el rv (sk 22) i = some t → (P t → iv2 t 7 = iv t 7) ∧ iv2 t 0 = iv t 0 ∧ iv2 t 1 = iv t 1 ∧ rv2 t 4 = rv t 4
def TSQ (P : Nat → Prop) (sk : Nat → Nat) (iv : Nat → Nat → Int) (rv : Nat → Nat → Option Nat) (iv2 : Nat → Nat → Int) : Prop := ∀ i t q : Nat, (i : Int) < iv (sk 22) 2 → el rv (sk 22) i = some t → rv t 4 = some q → P q → iv2 q 2 = iv q 2
def CS0 (n : Int) (sk : Nat → Nat) (iv : Nat → Nat → Int) (rv : Nat → Nat → Option Nat) (iv2 : Nat → Nat → Int) (rv2 : Nat → Nat → Option Nat) : Prop := ∀ k : Nat, (k : Int) < n → el rv2 (sk 23) k = el rv (sk 23) k ∧ ∀ ch, el rv (sk 23) k = some ch → iv2 ch 0 = iv ch 0 ∧ rv2 ch 1 = rv ch 1
def PPSH (w : Int) (x : Option Nat) (sk : Nat → Nat) (iv : Nat → Nat → Int) (rv : Nat → Nat → Option Nat) (iv2 : Nat → Nat → Int) (rv2 : Nat → Nat → Option Nat) : Prop := iv2 (sk 23) 2 = iv (sk 23) 2 + 1 ∧ CS0 (iv (sk 23) 2) sk iv rv iv2 rv2 ∧ ∃ ch, el rv2 (sk 23) (iv (sk 23) 2).toNat = some ch ∧ iv2 ch 0 = w ∧ rv2 ch 1 = x
def PTAB (P Q : Nat → Prop) (sk : Nat → Nat) (iv : Nat → Nat → Int) (rv : Nat → Nat → Option Nat) (iv2 : Nat → Nat → Int) (rv2 : Nat → Nat → Option Nat) : Prop := TS0 sk iv rv rv2 ∧ TSF P sk iv rv iv2 rv2 ∧ TSQ Q sk iv rv iv2
def PSAME (sk : Nat → Nat) (iv : Nat → Nat → Int) (rv : Nat → Nat → Option Nat) (iv2 : Nat → Nat → Int) (rv2 : Nat → Nat → Option Nat) : Prop := iv2 (sk 22) 2 = iv (sk 22) 2 ∧ iv2 (sk 23) 2 = iv (sk 23) 2 ∧ PTAB (fun _ => True) (fun _ => True) sk iv rv iv2 rv2 ∧ CS0 (iv (sk 23) 2) sk iv rv iv2 rv2
theorem TSF.of {P : Nat → Prop} (h : WT g sk L cl ln iv rv) (hS : SKL sk L cl) (h7 : ∀ bb, ty L cl bb 100 → P bb → iv2 bb 7 = iv bb 7) (h0 : ∀ bb, ty L cl bb 100 → iv2 bb 0 = iv bb 0) (h1 : ∀ bb, ty L cl bb 100 → iv2 bb 1 = iv bb 1) (h4 : ∀ bb, ty L cl bb 100 → rv2 bb 4 = rv bb 4) : TSF P sk iv rv iv2 rv2 := fun i t hi ht => ⟨h7 t (el22 h hS hi ht), h0 t (el22 h hS hi ht), h1 t (el22 h hS hi ht), h4 t (el22 h hS hi ht)⟩
theorem TSQ.of {P : Nat → Prop} (h : WT g sk L cl ln iv rv) (hS : SKL sk L cl) (h2 : ∀ bb, ty L cl bb 26 → P bb → iv2 bb 2 = iv bb 2) : TSQ P sk iv rv iv2 := fun i t q hi ht hq hp => by
  obtain ⟨b, w1, w2⟩ := h.ref (el22 h hS hi ht) 4 rfl rfl rfl
  rw [w1] at hq; cases hq
  exact h2 q w2 hp
theorem CS0.of {n : Int} (h : WT g sk L cl ln iv rv) (hS : SKL sk L cl) (hn : n ≤ iv (sk 23) 2) (he : ∀ i : Nat, (i : Int) < n → el rv2 (sk 23) i = el rv (sk 23) i) (h0 : ∀ bb, ty L cl bb 21 → iv2 bb 0 = iv bb 0) (h1 : ∀ bb, ty L cl bb 21 → rv2 bb 1 = rv bb 1) : CS0 n sk iv rv iv2 rv2 := fun k hk => ⟨he k hk, fun ch hc => ⟨h0 ch (el23 h hS (by omega) hc), h1 ch (el23 h hS (by omega) hc)⟩⟩
theorem el_fr {a1 T1 : Nat} (h : WT g sk L cl ln iv rv) (ha : ty L cl a1 T1) (hl : lst T1 = true) (hn : nul T1 1 = false) (hF : fT ls L cl iv rv iv2 rv2) (h1 : ls.contains T1 = false) (h2 : ls.contains (1000 + (T1 - 22)) = false) {i : Nat} (hi : (i : Int) < iv a1 2) : el rv2 a1 i = el rv a1 i := by
  obtain ⟨b, q1, q2, q3, q4⟩ := h.ed2 ha hl hn (by omega)
  rw [el_of ((hF.r ha h1 1).trans q1), el_of q1, hF.r q2 h2 i]
def PNEW (k d : Int) (sk : Nat → Nat) (iv : Nat → Nat → Int) (rv : Nat → Nat → Option Nat) (iv2 : Nat → Nat → Int) (rv2 : Nat → Nat → Option Nat) : Prop := ∃ q r, el rv2 (sk 22) (iv (sk 22) 2).toNat = some q ∧ iv2 q 0 = k ∧ iv2 q 1 = d ∧ iv2 q 7 = 0 ∧ rv2 q 4 = some r ∧ iv2 r 2 = 0 ∧ (∀ i t : Nat, (i : Int) < iv (sk 22) 2 → el rv (sk 22) i = some t → rv t 4 ≠ some r) ∧ iv2 (sk 22) 2 = iv (sk 22) 2 + 1 ∧ PTAB (fun _ => True) (fun _ => True) sk iv rv iv2 rv2 ∧ PPSH 0 (some q) sk iv rv iv2 rv2
def PPS2 (sk : Nat → Nat) (x y : Option Nat) (z : Int) (iv : Nat → Nat → Int) (iv2 : Nat → Nat → Int) (rv2 : Nat → Nat → Option Nat) : Prop := iv2 (sk 23) 2 = iv (sk 23) 2 + 1 ∧ ∃ ch, el rv2 (sk 23) (iv (sk 23) 2).toNat = some ch ∧ rv2 ch 1 = x ∧ rv2 ch 2 = y ∧ iv2 ch 3 = z
def UKP (L : List Nat) (cl : Nat → Nat) (ch : Nat) (iv : Nat → Nat → Int) (rv : Nat → Nat → Option Nat) (iv2 : Nat → Nat → Int) (rv2 : Nat → Nat → Option Nat) : Prop := (iv ch 0 = 0 → KP L cl (fun _ => False) (fun _ => False) (fun _ => False) (fun _ => False) (fun _ _ => False) iv rv iv2 rv2) ∧ (iv ch 0 = 1 → KP L cl (fun _ => False) (fun _ => False) (fun _ => False) (fun _ => False) (fun _ _ => False) iv rv iv2 rv2) ∧ (iv ch 0 = 2 → ∀ t q s, rv ch 1 = some t → rv t 4 = some q → rv t 5 = some s → KP L cl (fun _ => False) (fun b => b = q) (fun b => b = s) (fun _ => False) (fun _ _ => False) iv rv iv2 rv2 ∧ (∀ r : Nat, (r : Int) < iv2 q 2 → el rv2 q r = el rv q r) ∧ (iv s 2 = iv q 2 → iv2 s 2 = iv2 q 2) ∧ rv2 s 1 = rv s 1) ∧ (iv ch 0 = 3 → ∀ w, rv ch 2 = some w → KP L cl (fun b => b = w) (fun _ => False) (fun _ => False) (fun _ => False) (fun _ _ => False) iv rv iv2 rv2 ∧ iv2 w 3 = iv ch 3) ∧ (iv ch 0 = 4 → (0 ≤ iv ch 3 ∧ iv ch 3 ≤ 3) → ∀ t n, rv ch 1 = some t → rv t 6 = some n → KP L cl (fun _ => False) (fun _ => False) (fun _ => False) (fun _ => False) (fun b k => b = n ∧ k = (iv ch 3).toNat) iv rv iv2 rv2 ∧ rv2 n (iv ch 3).toNat = rv ch 2)
def U0 (sk : Nat → Nat) (iv : Nat → Nat → Int) (rv : Nat → Nat → Option Nat) (iv2 : Nat → Nat → Int) (rv2 : Nat → Nat → Option Nat) : Prop := ((iv (sk 22) 2 = 0 ∧ iv2 (sk 22) 2 = 0) ∨ (iv (sk 22) 2 ≠ 0 ∧ iv2 (sk 22) 2 = iv (sk 22) 2 - 1)) ∧ (∀ i : Nat, (i : Int) < iv2 (sk 22) 2 → el rv2 (sk 22) i = el rv (sk 22) i) ∧ TSF (fun _ => True) sk iv rv iv2 rv2 ∧ TSQ (fun _ => True) sk iv rv iv2
def U1 (ch : Nat) (sk : Nat → Nat) (iv : Nat → Nat → Int) (rv : Nat → Nat → Option Nat) (iv2 : Nat → Nat → Int) (rv2 : Nat → Nat → Option Nat) : Prop := ∃ t, rv ch 1 = some t ∧ iv2 (sk 22) 2 = iv (sk 22) 2 ∧ PTAB (fun b => b ≠ t) (fun _ => True) sk iv rv iv2 rv2 ∧ iv2 t 7 = 0
def U2 (ch : Nat) (sk : Nat → Nat) (iv : Nat → Nat → Int) (rv : Nat → Nat → Option Nat) (iv2 : Nat → Nat → Int) (rv2 : Nat → Nat → Option Nat) : Prop := ∃ t q, rv ch 1 = some t ∧ rv t 4 = some q ∧ iv2 (sk 22) 2 = iv (sk 22) 2 ∧ PTAB (fun _ => True) (fun b => b ≠ q) sk iv rv iv2 rv2 ∧ ((iv q 2 = 0 ∧ iv2 q 2 = 0) ∨ (iv q 2 ≠ 0 ∧ iv2 q 2 = iv q 2 - 1))
def U3 (sk : Nat → Nat) (iv : Nat → Nat → Int) (rv : Nat → Nat → Option Nat) (iv2 : Nat → Nat → Int) (rv2 : Nat → Nat → Option Nat) : Prop := iv2 (sk 22) 2 = iv (sk 22) 2 ∧ PTAB (fun _ => True) (fun _ => True) sk iv rv iv2 rv2
def PUND (ch : Nat) (sk : Nat → Nat) (iv : Nat → Nat → Int) (rv : Nat → Nat → Option Nat) (iv2 : Nat → Nat → Int) (rv2 : Nat → Nat → Option Nat) : Prop := iv2 (sk 23) 2 = iv (sk 23) 2 - 1 ∧ CS0 (iv (sk 23) 2 - 1) sk iv rv iv2 rv2 ∧ ((iv ch 0 = 0 ∧ U0 sk iv rv iv2 rv2) ∨ (iv ch 0 = 1 ∧ U1 ch sk iv rv iv2 rv2) ∨ (iv ch 0 = 2 ∧ U2 ch sk iv rv iv2 rv2) ∨ ((iv ch 0 < 0 ∨ 2 < iv ch 0) ∧ U3 sk iv rv iv2 rv2))
theorem PPSH.pre {w : Int} {x : Option Nat} {iv3 : Nat → Nat → Int} {rv3 : Nat → Nat → Option Nat} (h : PPSH w x sk iv2 rv2 iv3 rv3) (e1 : iv2 (sk 23) 2 = iv (sk 23) 2) (c : CS0 (iv (sk 23) 2) sk iv rv iv2 rv2) : PPSH w x sk iv rv iv3 rv3 := by
  obtain ⟨h1, h2, ch, h3, h4⟩ := h
  refine ⟨by omega, fun k hk => ?_, ch, by rw [← e1]; exact h3, h4⟩
  obtain ⟨c1, c2⟩ := c k hk
  obtain ⟨d1, d2⟩ := h2 k (by omega)
  refine ⟨d1.trans c1, fun q hq => ?_⟩
  have d3 := d2 q (c1.trans hq)
  have c3 := c2 q hq
  exact ⟨d3.1.trans c3.1, d3.2.trans c3.2⟩
theorem PSAME.fr (h : WT g sk L cl ln iv rv) (hS : SKL sk L cl) (hF : fT ls L cl iv rv iv2 rv2) (a1 : ls.contains 22 = false) (a2 : ls.contains 1000 = false) (a3 : ls.contains 23 = false) (a4 : ls.contains 1001 = false) (a5 : ls.contains 100 = false) (a6 : ls.contains 26 = false) (a7 : ls.contains 21 = false) : PSAME sk iv rv iv2 rv2 :=
  ⟨hF.i (tysk22 hS) a1 2, hF.i (tysk23 hS) a3 2, ⟨fun _ hi => el_fr h (tysk22 hS) rfl rfl hF a1 a2 hi, TSF.of h hS (fun bb tb _ => hF.i tb a5 7) (fun bb tb => hF.i tb a5 0) (fun bb tb => hF.i tb a5 1) (fun bb tb => hF.r tb a5 4), TSQ.of h hS (fun bb tb _ => hF.i tb a6 2)⟩, CS0.of h hS (Int.le_refl _) (fun _ hi => el_fr h (tysk23 hS) rfl rfl hF a3 a4 hi) (fun bb tb => hF.i tb a7 0) (fun bb tb => hF.r tb a7 1)⟩
theorem PSAME.refl : PSAME sk iv rv iv rv := ⟨rfl, rfl, ⟨fun _ _ => rfl, fun _ _ _ _ => ⟨fun _ => rfl, rfl, rfl, rfl⟩, fun _ _ _ _ _ _ _ => rfl⟩, fun _ _ => ⟨rfl, fun _ _ => ⟨rfl, rfl⟩⟩⟩
theorem PSAME.trans {iv3 : Nat → Nat → Int} {rv3 : Nat → Nat → Option Nat} (h : PSAME sk iv rv iv2 rv2) (h2 : PSAME sk iv2 rv2 iv3 rv3) : PSAME sk iv rv iv3 rv3 := by
  obtain ⟨a1, a2, ⟨a3, a4, a5⟩, a6⟩ := h
  obtain ⟨b1, b2, ⟨b3, b4, b5⟩, b6⟩ := h2
  refine ⟨b1.trans a1, b2.trans a2, ⟨fun i hi => (b3 i (by omega)).trans (a3 i hi), fun i t hi ht => ?_, fun i t q hi ht hq _ => ?_⟩, fun k hk => ?_⟩
  · have c1 := a4 i t hi ht
    have c2 := b4 i t (by omega) ((a3 i hi).trans ht)
    exact ⟨fun _ => (c2.1 trivial).trans (c1.1 trivial), c2.2.1.trans c1.2.1, c2.2.2.1.trans c1.2.2.1, c2.2.2.2.trans c1.2.2.2⟩
  · have c1 := a4 i t hi ht
    exact (b5 i t q (by omega) ((a3 i hi).trans ht) (c1.2.2.2.trans hq) trivial).trans (a5 i t q hi ht hq trivial)
  · have c1 := a6 k hk
    have c2 := b6 k (by omega)
    exact ⟨c2.1.trans c1.1, fun ch hc => ⟨(c2.2 ch (c1.1.trans hc)).1.trans (c1.2 ch hc).1, (c2.2 ch (c1.1.trans hc)).2.trans (c1.2 ch hc).2⟩⟩
def PTBL (x y i f : Int) (sk : Nat → Nat) (iv : Nat → Nat → Int) (rv : Nat → Nat → Option Nat) (iv2 : Nat → Nat → Int) (rv2 : Nat → Nat → Option Nat) : Prop := (f = -1 ∧ PSAME sk iv rv iv2 rv2 ∧ ¬ ((0 ≤ x ∧ x ≤ 4 ∧ (y = 6 ∨ y = 8) ∧ iv (sk 22) 2 < 30) ∧ (x < 1 ∨ 3 < x ∨ ∃ t, ALV sk iv rv i t ∧ iv t 0 ≤ 3))) ∨ (f = iv (sk 22) 2 ∧ ((0 ≤ x ∧ x ≤ 4 ∧ (y = 6 ∨ y = 8) ∧ iv (sk 22) 2 < 30) ∧ (x < 1 ∨ 3 < x ∨ ∃ t, ALV sk iv rv i t ∧ iv t 0 ≤ 3)) ∧ PNEW x y sk iv rv iv2 rv2)
def PJOI (i j f : Int) (sk : Nat → Nat) (iv : Nat → Nat → Int) (rv : Nat → Nat → Option Nat) (iv2 : Nat → Nat → Int) (rv2 : Nat → Nat → Option Nat) : Prop := (f = -1 ∧ PSAME sk iv rv iv2 rv2 ∧ ¬ (iv (sk 22) 2 < 30 ∧ (∃ t, ALV sk iv rv i t ∧ iv t 0 ≤ 3) ∧ (∃ t, ALV sk iv rv j t ∧ iv t 0 ≤ 3))) ∨ (f = iv (sk 22) 2 ∧ iv (sk 22) 2 < 30 ∧ ∃ t u, (ALV sk iv rv i t ∧ iv t 0 ≤ 3) ∧ (ALV sk iv rv j u ∧ iv u 0 ≤ 3) ∧ PNEW 5 (max (iv t 1) (iv u 1)) sk iv rv iv2 rv2)
def PDRP (i f : Int) (sk : Nat → Nat) (iv : Nat → Nat → Int) (rv : Nat → Nat → Option Nat) (iv2 : Nat → Nat → Int) (rv2 : Nat → Nat → Option Nat) : Prop := (f = -1 ∧ PSAME sk iv rv iv2 rv2 ∧ ∀ t, ¬ ALV sk iv rv i t) ∨ (f = 1 ∧ ∃ t, ALV sk iv rv i t ∧ iv2 (sk 22) 2 = iv (sk 22) 2 ∧ PTAB (fun b => b ≠ t) (fun _ => True) sk iv rv iv2 rv2 ∧ iv2 t 7 = 1 ∧ PPSH 1 (some t) sk iv rv iv2 rv2)
def RUA (t q : Nat) (cnd n : Int) (sk : Nat → Nat) (iv : Nat → Nat → Int) : Prop := iv t 0 ≠ 5 ∧ 0 ≤ cnd ∧ cnd ≤ 5 ∧ 1 ≤ n ∧ n ≤ 8 ∧ 1 ≤ iv (sk 2) 2 - n ∧ iv (sk 2) 2 - n ≤ 4 ∧ iv q 2 < 200
def PRUL (i cnd n f : Int) (sk : Nat → Nat) (iv : Nat → Nat → Int) (rv : Nat → Nat → Option Nat) (iv2 : Nat → Nat → Int) (rv2 : Nat → Nat → Option Nat) : Prop := (f = -1 ∧ PSAME sk iv rv iv2 rv2 ∧ ∀ ss t q, CT iv rv (sk 2) ss → ALV sk iv rv i t → rv t 4 = some q → (iv t 1 = 6 ∨ iv t 1 = 8) → ¬ (RUA t q cnd n sk iv ∧ ACL ss n (iv (sk 2) 2 - n) (DC (iv t 1)) ∧ LTK ss n)) ∨ (∃ t q, ALV sk iv rv i t ∧ rv t 4 = some q ∧ f = iv q 2 ∧ (∀ ss, CT iv rv (sk 2) ss → (iv t 1 = 6 ∨ iv t 1 = 8) → (RUA t q cnd n sk iv ∧ ACL ss n (iv (sk 2) 2 - n) (DC (iv t 1)) ∧ LTK ss n)) ∧ iv2 (sk 22) 2 = iv (sk 22) 2 ∧ PTAB (fun _ => True) (fun b => b ≠ q) sk iv rv iv2 rv2 ∧ iv2 q 2 = iv q 2 + 1 ∧ PPSH 2 (some t) sk iv rv iv2 rv2)
def PCND (i j cnd f : Int) (sk : Nat → Nat) (iv : Nat → Nat → Int) (rv : Nat → Nat → Option Nat) (iv2 : Nat → Nat → Int) (rv2 : Nat → Nat → Option Nat) : Prop := (f = -1 ∧ PSAME sk iv rv iv2 rv2 ∧ ∀ t q, ALV sk iv rv i t → rv t 4 = some q → ¬ (iv t 0 ≠ 5 ∧ 0 ≤ j ∧ j < iv q 2 ∧ 0 ≤ cnd ∧ cnd ≤ 5)) ∨ (∃ t q, ALV sk iv rv i t ∧ rv t 4 = some q ∧ (iv t 0 ≠ 5 ∧ 0 ≤ j ∧ j < iv q 2 ∧ 0 ≤ cnd ∧ cnd ≤ 5) ∧ iv2 (sk 22) 2 = iv (sk 22) 2 ∧ PTAB (fun _ => True) (fun _ => True) sk iv rv iv2 rv2 ∧ PPSH 3 (some t) sk iv rv iv2 rv2)
def INA (t : Nat) (j : Int) (sk : Nat → Nat) (iv : Nat → Nat → Int) : Prop := 0 ≤ j ∧ j ≤ 3 ∧ ((j = 0 ∧ iv t 0 ≤ 2) ∨ (j = 1 ∧ iv t 0 = 2) ∨ (j ≠ 0 ∧ j ≠ 1 ∧ iv t 0 = 5)) ∧ iv (sk 2) 2 ≤ 4
def PIND (i j f : Int) (sk : Nat → Nat) (iv : Nat → Nat → Int) (rv : Nat → Nat → Option Nat) (iv2 : Nat → Nat → Int) (rv2 : Nat → Nat → Option Nat) : Prop := (f = -1 ∧ PSAME sk iv rv iv2 rv2 ∧ ∀ ss t, CT iv rv (sk 2) ss → ALV sk iv rv i t → (iv t 1 = 6 ∨ iv t 1 = 8) → ¬ (INA t j sk iv ∧ ACL ss 0 (iv (sk 2) 2) (DC (iv t 1)))) ∨ (f = iv (sk 2) 2 ∧ ∃ t, ALV sk iv rv i t ∧ (∀ ss, CT iv rv (sk 2) ss → (iv t 1 = 6 ∨ iv t 1 = 8) → (INA t j sk iv ∧ ACL ss 0 (iv (sk 2) 2) (DC (iv t 1)))) ∧ iv2 (sk 22) 2 = iv (sk 22) 2 ∧ PTAB (fun _ => True) (fun _ => True) sk iv rv iv2 rv2 ∧ PPSH 4 (some t) sk iv rv iv2 rv2)
def PUNX (f : Int) (sk : Nat → Nat) (iv : Nat → Nat → Int) (rv : Nat → Nat → Option Nat) (iv2 : Nat → Nat → Int) (rv2 : Nat → Nat → Option Nat) : Prop := (f = 0 ∧ iv (sk 23) 2 = 0 ∧ PSAME sk iv rv iv2 rv2) ∨ (f = 1 ∧ iv (sk 23) 2 ≠ 0 ∧ ∃ ch, el rv (sk 23) (iv (sk 23) 2 - 1).toNat = some ch ∧ PUND ch sk iv rv iv2 rv2)
theorem ALV.uni {i : Int} {u : Nat} (h : ALV sk iv rv i t) (h2 : ALV sk iv rv i u) : t = u := by
  have e := h.2.2.1.symm.trans h2.2.2.1
  cases e; rfl
end MRKS
set_option maxHeartbeats 4000000 in
set_option maxRecDepth 100000 in
theorem C_alive {l : Launch} {G : GT} {mi : Nat} {sk : Nat → Nat} {L : List Nat} {cl ln : Nat → Nat} {iv : Nat → Nat → Int} {rv : Nat → Nat → Option Nat}  {a0 : Nat} {i : Int} (hW : WT (g0 G) sk L cl ln iv rv) (hS : SKL sk L cl) (t_a0 : ty L cl a0 13) (h_i : -2147483648 ≤ i ∧ i ≤ 2147483647) (hmr : MRK sk cl iv rv) : Mc l G mi (Phi (g0 G) sk) PHM yX10_alive cX10_alive 3 (some (.object "DotPress$Table")) 3 [.ref a0, .int (iI i)] L cl ln iv rv 0 (fun v L2 cl2 ln2 iv2 rv2 => ∃ f : Option Nat, v = some ((va_rf f)) ∧ L = L2 ∧ cl = cl2 ∧ ln = ln2 ∧ iv = iv2 ∧ rv = rv2 ∧ (∀ b, f = some b → ty L2 cl2 b 100) ∧ ((∀ b, f = some b → ((cl b : Nat) : Int) < 100 + iv (sk 22) 2 ∧ ALV sk iv rv i b) ∧ (f = none → ∀ b, ¬ ALV sk iv rv i b))) := by
  refine Mc.mk (by decide) (Nat.le_of_ble_eq_true rfl) ?_
  intro p e s m args below meth c A C hM
  have hph := Phi.le hW hS
  have tsk22 : ty L cl (sk 22) 22 := ⟨(hS 22 rfl).1, by rw [(hS 22 rfl).2]; rfl⟩
  have tsk23 : ty L cl (sk 23) 23 := ⟨(hS 23 rfl).1, by rw [(hS 23 rfl).2]; rfl⟩
  have hX0 : XT L cl ln L cl ln := XT.refl
  have hF0 : fT [] L cl iv rv iv rv := fT.refl
  refine c_iload_n (j := 1) C dX10_alive_0 rfl ?_
  refine c_if_lt (tgt := 15) C ⟨by omega, by omega⟩ dX10_alive_1 (by decide) (fun c1 => ?_) (fun c1 => ?_)
  · refine c_null C dX10_alive_15 ?_
    exact c_aret (x := none) C dX10_alive_16 rfl (Or.inl ⟨_, rfl⟩) (by decide) (rom0 hph hph (by decide)) ⟨none, rfl, rfl, rfl, rfl, rfl, rfl, (fun _ q => by cases q), ⟨(fun _ q => by cases q), fun _ b q => by have q1 := q.1; have q2 := q.2.1; omega⟩⟩
  · refine c_iload_n (j := 1) C dX10_alive_4 rfl ?_
    refine c_aload_n (j := 0) (x := a0) C dX10_alive_5 rfl ?_
    obtain ⟨rb1, rq1, trb1⟩ := hW.ref t_a0 0 rfl rfl rfl
    have erb1 := hW.sk trb1 (by decide) rfl
    subst erb1
    refine c_getr (k := 0) C ck_11 dX10_alive_6 w1_90 (by decide) t_a0 rfl rfl (by decide) rfl rq1 ?_
    refine c_st (st2 := [.ref (sk 22), .int (iI i)]) rfl ?_
    have ri1 : 0 ≤ iv (sk 22) 2 ∧ iv (sk 22) 2 ≤ 30 := hW.int tsk22 2
    refine d_callV (As := []) (rest := [.int (iI i)]) C hM (C_size_22 (a0 := (sk 22)) hW hS tsk22  ) dX10_alive_9 kV_X10_21 rfl tsk22 rfl rfl (by decide) ck_0 rfl (Nat.le_of_ble_eq_true rfl) ⟨(Nat.le_of_ble_eq_true rfl), (Nat.le_of_ble_eq_true rfl)⟩ hph hph (show 0 + 0 = 0 from rfl) (by decide) (fun rh1 Lh1 clh1 lnh1 ivh1 rvh1 h1 => ?_)
    obtain ⟨f1, rfl, rfl, rfl, rfl, rfl, rfl, rgf1, exf1⟩ := h1
    refine c_st (st2 := [.int (iI f1), .int (iI i)]) rfl ?_
    have gf1 : f1 = iv (sk 22) 2 := exf1
    refine c_icmp_lt (tgt := 17) C ⟨by omega, by omega⟩ ⟨by omega, by omega⟩ dX10_alive_12 (by decide) (fun c2 => ?_) (fun c2 => ?_)
    · refine c_aload_n (j := 0) (x := a0) C dX10_alive_17 rfl ?_
      refine c_getr (k := 0) C ck_11 dX10_alive_18 w1_90 (by decide) t_a0 rfl rfl (by decide) rfl rq1 ?_
      refine c_st (st2 := [.ref (sk 22)]) rfl ?_
      refine c_iload_n (j := 1) C dX10_alive_21 rfl ?_
      refine d_callV (As := [.int (iI i)]) (rest := []) C hM (C_get_22 (a0 := (sk 22)) (i := i) hW hS tsk22 (by omega) (by show 0 ≤ i ∧ i < iv (sk 22) 2; omega)) dX10_alive_22 kV_X10_25 rfl tsk22 rfl rfl (by decide) ck_0 rfl (Nat.le_of_ble_eq_true rfl) ⟨(Nat.le_of_ble_eq_true rfl), (Nat.le_of_ble_eq_true rfl)⟩ hph hph (show 0 + 0 = 0 from rfl) (by decide) (fun rh2 Lh2 clh2 lnh2 ivh2 rvh2 h2 => ?_)
      obtain ⟨f2, rfl, rfl, rfl, rfl, rfl, rfl, rgf2, exf2⟩ := h2
      refine c_st (st2 := [.ref f2]) rfl ?_
      have gf2 : el rv (sk 22) i.toNat = some f2 := exf2
      refine c_cast C ck_10 dX10_alive_25 w3_88 w8_168t rgf2 rfl rfl (by decide) ?_
      refine c_astore_n (lv2 := [(2, .ref f2), (0, .ref a0), (1, .int (iI i))]) C dX10_alive_28 (by decide) rfl ?_
      refine c_aload_n (j := 0) (x := f2) C dX10_alive_29 rfl ?_
      have ri2 : 0 ≤ iv f2 7 ∧ iv f2 7 ≤ 1 := hW.int rgf2 7
      refine c_get (k := 7) C ck_10 dX10_alive_30 w2_198 (by decide) rgf2 rfl rfl (by decide) rfl ?_
      refine c_if_eq (tgt := 40) C ⟨by omega, by omega⟩ dX10_alive_33 (by decide) (fun c3 => ?_) (fun c3 => ?_)
      · refine c_aload_n (j := 0) (x := f2) C dX10_alive_40 rfl ?_
        exact c_aret (x := some f2) C dX10_alive_41 rfl (Or.inl ⟨_, rfl⟩) (by decide) (rom0 hph hph (by decide)) ⟨(some f2), rfl, rfl, rfl, rfl, rfl, rfl, (fun _ q => by cases q; exact rgf2), ⟨fun _ q => by cases q; have q2 := hmr i.toNat (by omega) _ exf2; exact ⟨by omega, by omega, by omega, exf2, by omega⟩, fun q => by cases q⟩⟩
      · refine c_null C dX10_alive_36 ?_
        refine c_goto (tgt := 41) C dX10_alive_37 (by decide) ?_
        exact c_aret (x := none) C dX10_alive_41 rfl (Or.inl ⟨_, rfl⟩) (by decide) (rom0 hph hph (by decide)) ⟨none, rfl, rfl, rfl, rfl, rfl, rfl, (fun _ q => by cases q), ⟨(fun _ q => by cases q), fun _ b q => by have q3 := q.2.2.1; rw [exf2] at q3; cases q3; have q4 := q.2.2.2; omega⟩⟩
    · refine c_null C dX10_alive_15 ?_
      exact c_aret (x := none) C dX10_alive_16 rfl (Or.inl ⟨_, rfl⟩) (by decide) (rom0 hph hph (by decide)) ⟨none, rfl, rfl, rfl, rfl, rfl, rfl, (fun _ q => by cases q), ⟨(fun _ q => by cases q), fun _ b q => by have q1 := q.1; have q2 := q.2.1; omega⟩⟩
