def LNK (rv : Nat → Nat → Option Nat) (s1 s2 : Nat) : Prop := s1 ≠ s2 ∧ (∀ c, rv s1 0 = some c → rv s2 0 ≠ some c) ∧ ∀ x y, (x = s1 ∨ x = s2) → (y = s1 ∨ y = s2) → ∀ (rb rb' l l' r r' c : Nat), rv x 0 = some rb → rv y 0 = some rb' → rv rb l = some r → rv rb' l' = some r' → rv r 0 = some c → rv r' 0 = some c → x = y ∧ l = l'
def SAM (iv : Nat → Nat → Int) (rv : Nat → Nat → Option Nat) (iv2 : Nat → Nat → Int) (rv2 : Nat → Nat → Option Nat) (s : Nat) : Prop := iv2 s = iv s ∧ rv2 s = rv s ∧ ∀ rb, rv s 0 = some rb → rv2 rb = rv rb ∧ ∀ (l r : Nat), rv rb l = some r → iv2 r = iv r ∧ rv2 r = rv r ∧ ∀ cb, rv r 0 = some cb → iv2 cb = iv cb
def SHQ (h0 : Nat) (iv : Nat → Nat → Int) (rv : Nat → Nat → Option Nat) (v : Nat → Int) : Prop := ∃ sA sB, rv h0 9 = some sA ∧ rv h0 10 = some sB ∧ LNK rv sB sA ∧ iv sA 1 = v 36
def KSQ (h0 : Nat) (iv : Nat → Nat → Int) (rv : Nat → Nat → Option Nat) (iv2 : Nat → Nat → Int) (rv2 : Nat → Nat → Option Nat) : Prop := ∀ v, SHQ h0 iv rv v → SHQ h0 iv2 rv2 v
def KSC (h0 : Nat) (iv : Nat → Nat → Int) (rv : Nat → Nat → Option Nat) (iv2 : Nat → Nat → Int) (rv2 : Nat → Nat → Option Nat) : Prop := ∀ sA sB, rv h0 9 = some sA → rv h0 10 = some sB → LNK rv sB sA → rv2 h0 9 = some sA ∧ rv2 h0 10 = some sB ∧ LNK rv2 sB sA ∧ SAM iv rv iv2 rv2 sA
def FKP (sk : Nat → Nat) (iv : Nat → Nat → Int) (rv : Nat → Nat → Option Nat) (iv2 : Nat → Nat → Int) (rv2 : Nat → Nat → Option Nat) : Prop := iv2 (sk 17) = iv (sk 17) ∧ rv2 (sk 17) = rv (sk 17) ∧ iv2 (sk 11) 2 = iv (sk 11) 2 ∧ (∀ ss, CT iv rv (sk 11) ss → CT iv2 rv2 (sk 11) ss) ∧ ∀ eb, rv (sk 17) 3 = some eb → iv2 eb = iv eb
section SHQS
variable {h : Nat} {sk : Nat → Nat} {L L2 : List Nat} {cl ln cl2 ln2 : Nat → Nat} {iv iv1 iv2 : Nat → Nat → Int} {rv rv1 rv2 : Nat → Nat → Option Nat} {s s2 rb r cb l h0 : Nat} {v v2 : Nat → Int} {a a2 : Nat → Nat → Int} {ls : List Nat}
theorem SAM.refl : SAM iv rv iv rv s := ⟨rfl, rfl, fun _ _ => ⟨rfl, fun _ _ _ => ⟨rfl, rfl, fun _ _ => rfl⟩⟩⟩
theorem SAM.trans (h1 : SAM iv rv iv1 rv1 s) (h2 : SAM iv1 rv1 iv2 rv2 s) : SAM iv rv iv2 rv2 s := by
  obtain ⟨a1, a2, a3⟩ := h1
  obtain ⟨b1, b2, b3⟩ := h2
  refine ⟨b1.trans a1, b2.trans a2, fun rb hb => ?_⟩
  obtain ⟨c1, c2⟩ := a3 rb hb
  obtain ⟨d1, d2⟩ := b3 rb (by rw [a2]; exact hb)
  refine ⟨d1.trans c1, fun l r hr => ?_⟩
  obtain ⟨e1, e2, e3⟩ := c2 l r hr
  obtain ⟨f1, f2, f3⟩ := d2 l r (by rw [c1]; exact hr)
  refine ⟨f1.trans e1, f2.trans e2, fun cb hc => ?_⟩
  rw [f3 cb (by rw [e2]; exact hc)]
  exact e3 cb hc
theorem LNK.sym (hK : LNK rv s s2) : LNK rv s2 s := ⟨fun e => hK.1 e.symm, fun c h1 h2 => hK.2.1 c h2 h1, fun x y hx hy => hK.2.2 x y hx.symm hy.symm⟩
theorem sh67 (hW : WT h sk L cl ln iv rv) (ts : ty L cl s 18) (h0 : rv s 0 = some rb) : ty L cl rb 67 := by
  obtain ⟨b', q1, t3⟩ := hW.ref ts 0 rfl rfl rfl
  rw [h0] at q1; cases q1
  exact t3
theorem ro19 (hW : WT h sk L cl ln iv rv) (tb : ty L cl rb 67) (h0 : rv rb l = some r) : ty L cl r 19 := by
  rcases hW.opt tb l rfl rfl with ⟨q1, _⟩ | ⟨b', q1, t3⟩
  · rw [h0] at q1; cases q1
  · rw [h0] at q1; cases q1
    exact t3
theorem li64 (hW : WT h sk L cl ln iv rv) (tr : ty L cl r 19) (h0 : rv r 0 = some cb) : ty L cl cb 64 := by
  obtain ⟨b', q1, t3⟩ := hW.ref tr 0 rfl rfl rfl
  rw [h0] at q1; cases q1
  exact t3
theorem SAM.frm (hW : WT h sk L cl ln iv rv) (ts : ty L cl s 18) (hF : fT ls L cl iv rv iv2 rv2) (a18 : ls.contains 18 = false) (a19 : ls.contains 19 = false) (a64 : ls.contains 64 = false) (a67 : ls.contains 67 = false) : SAM iv rv iv2 rv2 s := by
  refine ⟨funext fun j => hF.i ts a18 j, funext fun j => hF.r ts a18 j, fun rb h0 => ?_⟩
  have tb := sh67 hW ts h0
  refine ⟨funext fun j => hF.r tb a67 j, fun l r hr => ?_⟩
  have tr := ro19 hW tb hr
  exact ⟨funext fun j => hF.i tr a19 j, funext fun j => hF.r tr a19 j, fun cb hc => funext fun j => hF.i (li64 hW tr hc) a64 j⟩
theorem LNK.frm (hK : LNK rv s s2) (hW : WT h sk L cl ln iv rv) (ts : ty L cl s 18) (ts2 : ty L cl s2 18) (hF : fT ls L cl iv rv iv2 rv2) (a18 : ls.contains 18 = false) (a19 : ls.contains 19 = false) (a67 : ls.contains 67 = false) : LNK rv2 s s2 := by
  have k : ∀ x, (x = s ∨ x = s2) → ty L cl x 18 := fun x hx => by
    rcases hx with e | e
    · rw [e]; exact ts
    · rw [e]; exact ts2
  have o : ∀ x rb l r e, (x = s ∨ x = s2) → rv2 x 0 = some rb → rv2 rb l = some r → rv2 r 0 = some e → rv x 0 = some rb ∧ rv rb l = some r ∧ rv r 0 = some e := fun x rb l r e hx h0 h1 h2 => by
    rw [hF.r (k x hx) a18 0] at h0
    have tb := sh67 hW (k x hx) h0
    rw [hF.r tb a67 l] at h1
    have tr := ro19 hW tb h1
    rw [hF.r tr a19 0] at h2
    exact ⟨h0, h1, h2⟩
  refine ⟨hK.1, fun e h1 h2 => hK.2.1 e (by rw [← hF.r ts a18 0]; exact h1) (by rw [← hF.r ts2 a18 0]; exact h2), fun x y hx hy rb rb' l l' r r' e a1 a2 a3 a4 a5 a6 => ?_⟩
  obtain ⟨o1, o2, o3⟩ := o x rb l r e hx a1 a3 a5
  obtain ⟨p1, p2, p3⟩ := o y rb' l' r' e hy a2 a4 a6
  exact hK.2.2 x y hx hy rb rb' l l' r r' e o1 p1 o2 p2 o3 p3
theorem KSQ.refl : KSQ h0 iv rv iv rv := fun _ q => q
theorem KSQ.ni (hW : WT h sk L cl ln iv rv) (ht : ty L cl h0 1) (hF : fT ls L cl iv rv iv2 rv) (a18 : ls.contains 18 = false) : KSQ h0 iv rv iv2 rv := fun v hq => by
  obtain ⟨sA, sB, q1, q2, q3, q4⟩ := hq
  obtain ⟨b1, e1, t1⟩ := hW.ref ht 9 rfl rfl rfl
  rw [q1] at e1; cases e1
  have tA : ty L cl sA 18 := t1
  exact ⟨sA, sB, q1, q2, q3, (hF.i tA a18 1).trans q4⟩
theorem KSQ.fr (hW : WT h sk L cl ln iv rv) (ht : ty L cl h0 1) (hF : fT ls L cl iv rv iv2 rv2) (h9 : rv2 h0 9 = rv h0 9) (h10 : rv2 h0 10 = rv h0 10) (a18 : ls.contains 18 = false) (a19 : ls.contains 19 = false) (a67 : ls.contains 67 = false) : KSQ h0 iv rv iv2 rv2 := fun v hq => by
  obtain ⟨sA, sB, q1, q2, q3, q4⟩ := hq
  obtain ⟨b1, e1, t1⟩ := hW.ref ht 9 rfl rfl rfl
  obtain ⟨b2, e2, t2⟩ := hW.ref ht 10 rfl rfl rfl
  rw [q1] at e1; cases e1
  rw [q2] at e2; cases e2
  refine hv2 (show ty L cl sA 18 from t1) (show ty L cl sB 18 from t2) (fun tA tB => ?_)
  exact ⟨sA, sB, h9.trans q1, h10.trans q2, q3.frm hW tB tA hF a18 a19 a67, (hF.i tA a18 1).trans q4⟩
theorem KSC.refl : KSC h0 iv rv iv rv := fun _ _ q1 q2 q3 => ⟨q1, q2, q3, SAM.refl⟩
theorem KSC.fr (hW : WT h sk L cl ln iv rv) (ht : ty L cl h0 1) (hF : fT ls L cl iv rv iv2 rv2) (h9 : rv2 h0 9 = rv h0 9) (h10 : rv2 h0 10 = rv h0 10) (a18 : ls.contains 18 = false) (a19 : ls.contains 19 = false) (a64 : ls.contains 64 = false) (a67 : ls.contains 67 = false) : KSC h0 iv rv iv2 rv2 := fun sA sB q1 q2 q3 => by
  obtain ⟨b1, e1, t1⟩ := hW.ref ht 9 rfl rfl rfl
  obtain ⟨b2, e2, t2⟩ := hW.ref ht 10 rfl rfl rfl
  rw [q1] at e1; cases e1
  rw [q2] at e2; cases e2
  refine hv2 (show ty L cl sA 18 from t1) (show ty L cl sB 18 from t2) (fun tA tB => ?_)
  exact ⟨h9.trans q1, h10.trans q2, q3.frm hW tB tA hF a18 a19 a67, SAM.frm hW tA hF a18 a19 a64 a67⟩
theorem SHQ.cg (hq : SHQ h0 iv rv v) (h36 : v2 36 = v 36) : SHQ h0 iv rv v2 := by
  obtain ⟨sA, sB, q1, q2, q3, q4⟩ := hq
  exact ⟨sA, sB, q1, q2, q3, q4.trans h36.symm⟩
theorem SHZ.mk (hz : SHZ h0 iv rv) (h36 : v 36 = 0) : SHQ h0 iv rv v := by
  obtain ⟨sA, sB, bA, bB, q1, q2, q3, q4, q5, q6, q7, q8, q9⟩ := hz
  have no : ∀ x rb l r, (x = sB ∨ x = sA) → rv x 0 = some rb → rv rb l = some r → False := fun x rb l r hx e1 e2 => by
    rcases hx with e | e
    · rw [e, q5] at e1
      cases e1
      rw [q8 l] at e2
      cases e2
    · rw [e, q4] at e1
      cases e1
      rw [q7 l] at e2
      cases e2
  refine ⟨sA, sB, q1, q2, ⟨fun e => q3 e.symm, fun c e1 e2 => ?_, fun x y hx hy rb rb' l l' r r' c a1 a2 a3 a4 a5 a6 => (no x rb l r hx a1 a3).elim⟩, by omega⟩
  rw [q5] at e1
  rw [q4] at e2
  cases e1
  cases e2
  exact q6 rfl
theorem tysq {t : Nat} (hS : SKL sk L cl) (hu : uq t = true) (hb : bt t = t) : ty L cl (sk t) t := ⟨(hS t hu).1, by rw [(hS t hu).2]; exact hb⟩
theorem FKP.refl : FKP sk iv rv iv rv := ⟨rfl, rfl, rfl, fun _ h => h, fun _ _ => rfl⟩
theorem FKP.fr (hW : WT h sk L cl ln iv rv) (hS : SKL sk L cl) (hF : fT ls L cl iv rv iv2 rv2) (a17 : ls.contains 17 = false) (a11 : ls.contains 11 = false) (a41 : ls.contains 41 = false) (a62 : ls.contains 62 = false) : FKP sk iv rv iv2 rv2 := by
  refine hv2 (show ty L cl (sk 17) 17 from tysq hS rfl rfl) (show ty L cl (sk 11) 11 from tysq hS rfl rfl) (fun t17 t11 => ?_)
  refine ⟨funext fun j => hF.i t17 a17 j, funext fun j => hF.r t17 a17 j, hF.i t11 a11 2, fun ss hs => CT.fr hs hW t11 hF a11 a41 rfl rfl rfl, fun eb he => ?_⟩
  obtain ⟨b1, e1, t1⟩ := hW.ref t17 3 rfl rfl rfl
  rw [he] at e1; cases e1
  exact funext fun j => hF.i t1 a62 j
end SHQS
