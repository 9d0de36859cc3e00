section
def LNK (rv : Nat → Nat → Option Nat) (s1 s2 : Nat) : Prop := s1 ≠ s2 ∧ (∀ c, rv s1 0 = some c → rv s2 0 ≠ some c) ∧ ∀ x y, (x = s1 ∨ x = s2) → (y = s1 ∨ y = s2) → ∀ (rb rb' l l' r r' c : Nat), rv x 0 = some rb → rv y 0 = some rb' → rv rb l = some r → rv rb' l' = some r' → rv r 0 = some c → rv r' 0 = some c → x = y ∧ l = l'
def SAM (iv : Nat → Nat → Int) (rv : Nat → Nat → Option Nat) (iv2 : Nat → Nat → Int) (rv2 : Nat → Nat → Option Nat) (s : Nat) : Prop := iv2 s = iv s ∧ rv2 s = rv s ∧ ∀ rb, rv s 0 = some rb → rv2 rb = rv rb ∧ ∀ (l r : Nat), rv rb l = some r → iv2 r = iv r ∧ rv2 r = rv r ∧ ∀ cb, rv r 0 = some cb → iv2 cb = iv cb
def SHQ (h0 : Nat) (iv : Nat → Nat → Int) (rv : Nat → Nat → Option Nat) (v : Nat → Int) : Prop := ∃ sA sB, rv h0 9 = some sA ∧ rv h0 10 = some sB ∧ LNK rv sB sA ∧ iv sA 1 = v 36
def KSQ (h0 : Nat) (iv : Nat → Nat → Int) (rv : Nat → Nat → Option Nat) (iv2 : Nat → Nat → Int) (rv2 : Nat → Nat → Option Nat) : Prop := ∀ v, SHQ h0 iv rv v → SHQ h0 iv2 rv2 v
def KSC (h0 : Nat) (iv : Nat → Nat → Int) (rv : Nat → Nat → Option Nat) (iv2 : Nat → Nat → Int) (rv2 : Nat → Nat → Option Nat) : Prop := ∀ sA sB, rv h0 9 = some sA → rv h0 10 = some sB → LNK rv sB sA → rv2 h0 9 = some sA ∧ rv2 h0 10 = some sB ∧ LNK rv2 sB sA ∧ SAM iv rv iv2 rv2 sA
def FKP (sk : Nat → Nat) (iv : Nat → Nat → Int) (rv : Nat → Nat → Option Nat) (iv2 : Nat → Nat → Int) (rv2 : Nat → Nat → Option Nat) : Prop := iv2 (sk 17) = iv (sk 17) ∧ rv2 (sk 17) = rv (sk 17) ∧ iv2 (sk 11) 2 = iv (sk 11) 2 ∧ (∀ ss, CT iv rv (sk 11) ss → CT iv2 rv2 (sk 11) ss) ∧ ∀ eb, rv (sk 17) 3 = some eb → iv2 eb = iv eb
section SHQS
variable {h : Nat} {sk : Nat → Nat} {L L2 : List Nat} {cl ln cl2 ln2 : Nat → Nat} {iv iv1 iv2 : Nat → Nat → Int} {rv rv1 rv2 : Nat → Nat → Option Nat} {s s2 rb r cb l h0 : Nat} {v v2 : Nat → Int} {a a2 : Nat → Nat → Int} {ls : List Nat}
theorem SAM.refl : SAM iv rv iv rv s := ⟨rfl, rfl, fun _ _ => ⟨rfl, fun _ _ _ => ⟨rfl, rfl, fun _ _ => rfl⟩⟩⟩
theorem SAM.trans (h1 : SAM iv rv iv1 rv1 s) (h2 : SAM iv1 rv1 iv2 rv2 s) : SAM iv rv iv2 rv2 s := by
  obtain ⟨a1, a2, a3⟩ := h1
  obtain ⟨b1, b2, b3⟩ := h2
  refine ⟨b1.trans a1, b2.trans a2, fun rb hb => ?_⟩
  obtain ⟨c1, c2⟩ := a3 rb hb
  obtain ⟨d1, d2⟩ := b3 rb (by rw [a2]; exact hb)
  refine ⟨d1.trans c1, fun l r hr => ?_⟩
  obtain ⟨e1, e2, e3⟩ := c2 l r hr
  obtain ⟨f1, f2, f3⟩ := d2 l r (by rw [c1]; exact hr)
  refine ⟨f1.trans e1, f2.trans e2, fun cb hc => ?_⟩
  rw [f3 cb (by rw [e2]; exact hc)]
  exact e3 cb hc
theorem LNK.sym (hK : LNK rv s s2) : LNK rv s2 s := ⟨fun e => hK.1 e.symm, fun c h1 h2 => hK.2.1 c h2 h1, fun x y hx hy => hK.2.2 x y hx.symm hy.symm⟩
theorem sh67 (hW : WT h sk L cl ln iv rv) (ts : ty L cl s 18) (h0 : rv s 0 = some rb) : ty L cl rb 67 := by
  obtain ⟨b', q1, t3⟩ := hW.ref ts 0 rfl rfl rfl
  rw [h0] at q1; cases q1
  exact t3
theorem ro19 (hW : WT h sk L cl ln iv rv) (tb : ty L cl rb 67) (h0 : rv rb l = some r) : ty L cl r 19 := by
  rcases hW.opt tb l rfl rfl with ⟨q1, _⟩ | ⟨b', q1, t3⟩
  · rw [h0] at q1; cases q1
  · rw [h0] at q1; cases q1
    exact t3
theorem li64 (hW : WT h sk L cl ln iv rv) (tr : ty L cl r 19) (h0 : rv r 0 = some cb) : ty L cl cb 64 := by
  obtain ⟨b', q1, t3⟩ := hW.ref tr 0 rfl rfl rfl
  rw [h0] at q1; cases q1
  exact t3
theorem SAM.frm (hW : WT h sk L cl ln iv rv) (ts : ty L cl s 18) (hF : fT ls L cl iv rv iv2 rv2) (a18 : ls.contains 18 = false) (a19 : ls.contains 19 = false) (a64 : ls.contains 64 = false) (a67 : ls.contains 67 = false) : SAM iv rv iv2 rv2 s := by
  refine ⟨funext fun j => hF.i ts a18 j, funext fun j => hF.r ts a18 j, fun rb h0 => ?_⟩
  have tb := sh67 hW ts h0
  refine ⟨funext fun j => hF.r tb a67 j, fun l r hr => ?_⟩
  have tr := ro19 hW tb hr
  exact ⟨funext fun j => hF.i tr a19 j, funext fun j => hF.r tr a19 j, fun cb hc => funext fun j => hF.i (li64 hW tr hc) a64 j⟩
theorem LNK.frm (hK : LNK rv s s2) (hW : WT h sk L cl ln iv rv) (ts : ty L cl s 18) (ts2 : ty L cl s2 18) (hF : fT ls L cl iv rv iv2 rv2) (a18 : ls.contains 18 = false) (a19 : ls.contains 19 = false) (a67 : ls.contains 67 = false) : LNK rv2 s s2 := by
  have k : ∀ x, (x = s ∨ x = s2) → ty L cl x 18 := fun x hx => by
    rcases hx with e | e
    · rw [e]; exact ts
    · rw [e]; exact ts2
  have o : ∀ x rb l r e, (x = s ∨ x = s2) → rv2 x 0 = some rb → rv2 rb l = some r → rv2 r 0 = some e → rv x 0 = some rb ∧ rv rb l = some r ∧ rv r 0 = some e := fun x rb l r e hx h0 h1 h2 => by
    rw [hF.r (k x hx) a18 0] at h0
    have tb := sh67 hW (k x hx) h0
    rw [hF.r tb a67 l] at h1
    have tr := ro19 hW tb h1
    rw [hF.r tr a19 0] at h2
    exact ⟨h0, h1, h2⟩
  refine ⟨hK.1, fun e h1 h2 => hK.2.1 e (by rw [← hF.r ts a18 0]; exact h1) (by rw [← hF.r ts2 a18 0]; exact h2), fun x y hx hy rb rb' l l' r r' e a1 a2 a3 a4 a5 a6 => ?_⟩
  obtain ⟨o1, o2, o3⟩ := o x rb l r e hx a1 a3 a5
  obtain ⟨p1, p2, p3⟩ := o y rb' l' r' e hy a2 a4 a6
  exact hK.2.2 x y hx hy rb rb' l l' r r' e o1 p1 o2 p2 o3 p3
theorem KSQ.refl : KSQ h0 iv rv iv rv := fun _ q => q
theorem KSQ.ni (hW : WT h sk L cl ln iv rv) (ht : ty L cl h0 1) (hF : fT ls L cl iv rv iv2 rv) (a18 : ls.contains 18 = false) : KSQ h0 iv rv iv2 rv := fun v hq => by
  obtain ⟨sA, sB, q1, q2, q3, q4⟩ := hq
  obtain ⟨b1, e1, t1⟩ := hW.ref ht 9 rfl rfl rfl
  rw [q1] at e1; cases e1
  have tA : ty L cl sA 18 := t1
  exact ⟨sA, sB, q1, q2, q3, (hF.i tA a18 1).trans q4⟩
theorem KSQ.fr (hW : WT h sk L cl ln iv rv) (ht : ty L cl h0 1) (hF : fT ls L cl iv rv iv2 rv2) (h9 : rv2 h0 9 = rv h0 9) (h10 : rv2 h0 10 = rv h0 10) (a18 : ls.contains 18 = false) (a19 : ls.contains 19 = false) (a67 : ls.contains 67 = false) : KSQ h0 iv rv iv2 rv2 := fun v hq => by
  obtain ⟨sA, sB, q1, q2, q3, q4⟩ := hq
  obtain ⟨b1, e1, t1⟩ := hW.ref ht 9 rfl rfl rfl
  obtain ⟨b2, e2, t2⟩ := hW.ref ht 10 rfl rfl rfl
  rw [q1] at e1; cases e1
  rw [q2] at e2; cases e2
  refine hv2 (show ty L cl sA 18 from t1) (show ty L cl sB 18 from t2) (fun tA tB => ?_)
  exact ⟨sA, sB, h9.trans q1, h10.trans q2, q3.frm hW tB tA hF a18 a19 a67, (hF.i tA a18 1).trans q4⟩
theorem KSC.refl : KSC h0 iv rv iv rv := fun _ _ q1 q2 q3 => ⟨q1, q2, q3, SAM.refl⟩
theorem KSC.fr (hW : WT h sk L cl ln iv rv) (ht : ty L cl h0 1) (hF : fT ls L cl iv rv iv2 rv2) (h9 : rv2 h0 9 = rv h0 9) (h10 : rv2 h0 10 = rv h0 10) (a18 : ls.contains 18 = false) (a19 : ls.contains 19 = false) (a64 : ls.contains 64 = false) (a67 : ls.contains 67 = false) : KSC h0 iv rv iv2 rv2 := fun sA sB q1 q2 q3 => by
  obtain ⟨b1, e1, t1⟩ := hW.ref ht 9 rfl rfl rfl
  obtain ⟨b2, e2, t2⟩ := hW.ref ht 10 rfl rfl rfl
  rw [q1] at e1; cases e1
  rw [q2] at e2; cases e2
  refine hv2 (show ty L cl sA 18 from t1) (show ty L cl sB 18 from t2) (fun tA tB => ?_)
  exact ⟨h9.trans q1, h10.trans q2, q3.frm hW tB tA hF a18 a19 a67, SAM.frm hW tA hF a18 a19 a64 a67⟩
theorem SHQ.cg (hq : SHQ h0 iv rv v) (h36 : v2 36 = v 36) : SHQ h0 iv rv v2 := by
  obtain ⟨sA, sB, q1, q2, q3, q4⟩ := hq
  exact ⟨sA, sB, q1, q2, q3, q4.trans h36.symm⟩
theorem SHZ.mk (hz : SHZ h0 iv rv) (h36 : v 36 = 0) : SHQ h0 iv rv v := by
  obtain ⟨sA, sB, bA, bB, q1, q2, q3, q4, q5, q6, q7, q8, q9⟩ := hz
  have no : ∀ x rb l r, (x = sB ∨ x = sA) → rv x 0 = some rb → rv rb l = some r → False := fun x rb l r hx e1 e2 => by
    rcases hx with e | e
    · rw [e, q5] at e1
      cases e1
      rw [q8 l] at e2
      cases e2
    · rw [e, q4] at e1
      cases e1
      rw [q7 l] at e2
      cases e2
  refine ⟨sA, sB, q1, q2, ⟨fun e => q3 e.symm, fun c e1 e2 => ?_, fun x y hx hy rb rb' l l' r r' c a1 a2 a3 a4 a5 a6 => (no x rb l r hx a1 a3).elim⟩, by omega⟩
  rw [q5] at e1
  rw [q4] at e2
  cases e1
  cases e2
  exact q6 rfl
theorem tysq {t : Nat} (hS : SKL sk L cl) (hu : uq t = true) (hb : bt t = t) : ty L cl (sk t) t := ⟨(hS t hu).1, by rw [(hS t hu).2]; exact hb⟩
theorem FKP.refl : FKP sk iv rv iv rv := ⟨rfl, rfl, rfl, fun _ h => h, fun _ _ => rfl⟩
theorem FKP.fr (hW : WT h sk L cl ln iv rv) (hS : SKL sk L cl) (hF : fT ls L cl iv rv iv2 rv2) (a17 : ls.contains 17 = false) (a11 : ls.contains 11 = false) (a41 : ls.contains 41 = false) (a62 : ls.contains 62 = false) : FKP sk iv rv iv2 rv2 := by
  refine hv2 (show ty L cl (sk 17) 17 from tysq hS rfl rfl) (show ty L cl (sk 11) 11 from tysq hS rfl rfl) (fun t17 t11 => ?_)
  refine ⟨funext fun j => hF.i t17 a17 j, funext fun j => hF.r t17 a17 j, hF.i t11 a11 2, fun ss hs => CT.fr hs hW t11 hF a11 a41 rfl rfl rfl, fun eb he => ?_⟩
  obtain ⟨b1, e1, t1⟩ := hW.ref t17 3 rfl rfl rfl
  rw [he] at e1; cases e1
  exact funext fun j => hF.i t1 a62 j
end SHQS
end
section
set_option maxHeartbeats 4000000 in
set_option maxRecDepth 100000 in
theorem C_measure2 {l : Launch} {G : GT} {mi : Nat} {sk : Nat → Nat} {L : List Nat} {cl ln : Nat → Nat} {iv : Nat → Nat → Int} {rv : Nat → Nat → Option Nat}  {a0 : Nat} {x : Int} {y : Int} {h : Int} (hW : WT (g0 G) sk L cl ln iv rv) (hS : SKL sk L cl) (t_a0 : ty L cl a0 1) (h_x : -2147483648 ≤ x ∧ x ≤ 2147483647) (h_y : -2147483648 ≤ y ∧ y ≤ 2147483647) (h_h : -2147483648 ≤ h ∧ h ≤ 2147483647)  : Mc l G mi (Phi (g0 G) sk) PHM yX11_measure cX11_measure 4 (some .int) 1 [.ref a0, .int (iI x), .int (iI y), .int (iI h)] L cl ln iv rv 0 (fun v L2 cl2 ln2 iv2 rv2 => ∃ f : Int, v = some (.int (iI f)) ∧ L = L2 ∧ cl = cl2 ∧ ln = ln2 ∧ rv = rv2 ∧ fT [1] L cl iv rv iv2 rv2 ∧ WT (g0 G) sk L2 cl2 ln2 iv2 rv2 ∧ (-2147483648 ≤ f ∧ f ≤ 2147483647) ∧ (((f = 1 ∧ 1 ≤ x ∧ x ≤ 100 ∧ 1 ≤ y ∧ y ≤ 50 ∧ 1 ≤ h ∧ h ≤ 255) ∨ (f = -1 ∧ ¬ (1 ≤ x ∧ x ≤ 100 ∧ 1 ≤ y ∧ y ≤ 50 ∧ 1 ≤ h ∧ h ≤ 255))) ∧ ((f = 1 ∧ iv2 a0 11 = x ∧ iv2 a0 12 = y ∧ iv2 a0 13 = h) ∨ (f = -1 ∧ iv2 a0 11 = iv a0 11 ∧ iv2 a0 12 = iv a0 12 ∧ iv2 a0 13 = iv a0 13))) ∧ iv2 a0 14 = iv a0 14 ∧ iv2 a0 15 = iv a0 15 ∧ iv2 a0 16 = iv a0 16) := by
  refine Mc.mk (by decide) (Nat.le_of_ble_eq_true rfl) ?_
  intro p e s m args below meth c A C hM
  refine hv3 (Phi.le hW hS) (show XT L cl ln L cl ln from XT.refl) (show fT [1] L cl iv rv iv rv from fT.refl) (fun hph hX0 hF0 => ?_)
  refine c_iload_n (j := 1) C dX11_measure_0 rfl ?_
  refine c_iconst C dX11_measure_1 ?_
  refine c_icmp_lt (tgt := 34) C ⟨by omega, by omega⟩ ⟨by decide, by decide⟩ dX11_measure_2 (by decide) (fun c1 => ?_) (fun c1 => ?_)
  · refine c_aload_n (j := 0) (x := a0) C dX11_measure_34 rfl ?_
    refine c_bipush (z := 6) C dX11_measure_35 (by decide) ?_
    refine d_callV (As := [.int (iI 6)]) (rest := []) C hM (C_refuse (a0 := a0) (x := 6) hW hS t_a0 ⟨by decide, by decide⟩ ) dX11_measure_37 kV_X11_102 rfl t_a0 rfl rfl (by decide) ck_12 rfl (Nat.le_of_ble_eq_true rfl) ⟨(Nat.le_of_ble_eq_true rfl), (Nat.le_of_ble_eq_true rfl)⟩ hph hph (show 0 + 0 = 0 from rfl) (by decide) (fun rh1 Lh1 clh1 lnh1 ivh1 rvh1 h1 => ?_)
    obtain ⟨f1, rfl, rfl, rfl, rfl, rfl, fl1, W1, rgf1, exf1, kp11f1, kp12f1, kp13f1, kp14f1, kp15f1, kp16f1⟩ := h1
    refine hv7 (show 1 ≤ iv a0 11 ∧ iv a0 11 ≤ 100 from hW.int t_a0 11) (show 1 ≤ iv a0 12 ∧ iv a0 12 ≤ 50 from hW.int t_a0 12) (show (-2147483648) ≤ iv a0 13 ∧ iv a0 13 ≤ 2147483647 from hW.int t_a0 13) (show (-2147483648) ≤ iv a0 14 ∧ iv a0 14 ≤ 2147483647 from hW.int t_a0 14) (show (-2147483648) ≤ iv a0 15 ∧ iv a0 15 ≤ 2147483647 from hW.int t_a0 15) (show (-2147483648) ≤ iv a0 16 ∧ iv a0 16 ≤ 2147483647 from hW.int t_a0 16) (hF0.call hX0 fl1 rfl) (fun ri1 ri2 ri3 ri4 ri5 ri6 F1 => ?_)
    refine c_st (st2 := [.int (iI f1)]) rfl ?_
    refine hv13 (show ivh1 a0 11 = iv a0 11 from kp11f1) (show ivh1 a0 12 = iv a0 12 from kp12f1) (show ivh1 a0 13 = iv a0 13 from kp13f1) (show ivh1 a0 14 = iv a0 14 from kp14f1) (show ivh1 a0 15 = iv a0 15 from kp15f1) (show ivh1 a0 16 = iv a0 16 from kp16f1) (show f1 = -1 from exf1) (show (-2147483648) ≤ ivh1 a0 14 ∧ ivh1 a0 14 ≤ 2147483647 from W1.int t_a0 14) (show (-2147483648) ≤ ivh1 a0 15 ∧ ivh1 a0 15 ≤ 2147483647 from W1.int t_a0 15) (show (-2147483648) ≤ ivh1 a0 16 ∧ ivh1 a0 16 ≤ 2147483647 from W1.int t_a0 16) (show 1 ≤ ivh1 a0 11 ∧ ivh1 a0 11 ≤ 100 from W1.int t_a0 11) (show 1 ≤ ivh1 a0 12 ∧ ivh1 a0 12 ≤ 50 from W1.int t_a0 12) (show (-2147483648) ≤ ivh1 a0 13 ∧ ivh1 a0 13 ≤ 2147483647 from W1.int t_a0 13) (fun gk11f1 gk12f1 gk13f1 gk14f1 gk15f1 gk16f1 gf1 ri7 ri8 ri9 ri10 ri11 ri12 => ?_)
    exact c_iret C dX11_measure_40 rfl (by decide) (rom0 hph hph (by decide)) ⟨f1, rfl, rfl, rfl, rfl, rfl, F1, W1, ⟨by omega, by omega⟩, ⟨by omega, by omega⟩, gk14f1, gk15f1, gk16f1⟩
  · refine c_iload_n (j := 1) C dX11_measure_5 rfl ?_
    refine c_bipush (z := 100) C dX11_measure_6 (by decide) ?_
    refine c_icmp_gt (tgt := 34) C ⟨by omega, by omega⟩ ⟨by decide, by decide⟩ dX11_measure_8 (by decide) (fun c2 => ?_) (fun c2 => ?_)
    · refine c_aload_n (j := 0) (x := a0) C dX11_measure_34 rfl ?_
      refine c_bipush (z := 6) C dX11_measure_35 (by decide) ?_
      refine d_callV (As := [.int (iI 6)]) (rest := []) C hM (C_refuse (a0 := a0) (x := 6) hW hS t_a0 ⟨by decide, by decide⟩ ) dX11_measure_37 kV_X11_102 rfl t_a0 rfl rfl (by decide) ck_12 rfl (Nat.le_of_ble_eq_true rfl) ⟨(Nat.le_of_ble_eq_true rfl), (Nat.le_of_ble_eq_true rfl)⟩ hph hph (show 0 + 0 = 0 from rfl) (by decide) (fun rh2 Lh2 clh2 lnh2 ivh2 rvh2 h2 => ?_)
      obtain ⟨f2, rfl, rfl, rfl, rfl, rfl, fl2, W2, rgf2, exf2, kp11f2, kp12f2, kp13f2, kp14f2, kp15f2, kp16f2⟩ := h2
      refine hv7 (show 1 ≤ iv a0 11 ∧ iv a0 11 ≤ 100 from hW.int t_a0 11) (show 1 ≤ iv a0 12 ∧ iv a0 12 ≤ 50 from hW.int t_a0 12) (show (-2147483648) ≤ iv a0 13 ∧ iv a0 13 ≤ 2147483647 from hW.int t_a0 13) (show (-2147483648) ≤ iv a0 14 ∧ iv a0 14 ≤ 2147483647 from hW.int t_a0 14) (show (-2147483648) ≤ iv a0 15 ∧ iv a0 15 ≤ 2147483647 from hW.int t_a0 15) (show (-2147483648) ≤ iv a0 16 ∧ iv a0 16 ≤ 2147483647 from hW.int t_a0 16) (hF0.call hX0 fl2 rfl) (fun ri13 ri14 ri15 ri16 ri17 ri18 F2 => ?_)
      refine c_st (st2 := [.int (iI f2)]) rfl ?_
      refine hv13 (show ivh2 a0 11 = iv a0 11 from kp11f2) (show ivh2 a0 12 = iv a0 12 from kp12f2) (show ivh2 a0 13 = iv a0 13 from kp13f2) (show ivh2 a0 14 = iv a0 14 from kp14f2) (show ivh2 a0 15 = iv a0 15 from kp15f2) (show ivh2 a0 16 = iv a0 16 from kp16f2) (show f2 = -1 from exf2) (show (-2147483648) ≤ ivh2 a0 14 ∧ ivh2 a0 14 ≤ 2147483647 from W2.int t_a0 14) (show (-2147483648) ≤ ivh2 a0 15 ∧ ivh2 a0 15 ≤ 2147483647 from W2.int t_a0 15) (show (-2147483648) ≤ ivh2 a0 16 ∧ ivh2 a0 16 ≤ 2147483647 from W2.int t_a0 16) (show 1 ≤ ivh2 a0 11 ∧ ivh2 a0 11 ≤ 100 from W2.int t_a0 11) (show 1 ≤ ivh2 a0 12 ∧ ivh2 a0 12 ≤ 50 from W2.int t_a0 12) (show (-2147483648) ≤ ivh2 a0 13 ∧ ivh2 a0 13 ≤ 2147483647 from W2.int t_a0 13) (fun gk11f2 gk12f2 gk13f2 gk14f2 gk15f2 gk16f2 gf2 ri19 ri20 ri21 ri22 ri23 ri24 => ?_)
      exact c_iret C dX11_measure_40 rfl (by decide) (rom0 hph hph (by decide)) ⟨f2, rfl, rfl, rfl, rfl, rfl, F2, W2, ⟨by omega, by omega⟩, ⟨by omega, by omega⟩, gk14f2, gk15f2, gk16f2⟩
    · refine c_iload_n (j := 2) C dX11_measure_11 rfl ?_
      refine c_iconst C dX11_measure_12 ?_
      refine c_icmp_lt (tgt := 34) C ⟨by omega, by omega⟩ ⟨by decide, by decide⟩ dX11_measure_13 (by decide) (fun c3 => ?_) (fun c3 => ?_)
      · refine c_aload_n (j := 0) (x := a0) C dX11_measure_34 rfl ?_
        refine c_bipush (z := 6) C dX11_measure_35 (by decide) ?_
        refine d_callV (As := [.int (iI 6)]) (rest := []) C hM (C_refuse (a0 := a0) (x := 6) hW hS t_a0 ⟨by decide, by decide⟩ ) dX11_measure_37 kV_X11_102 rfl t_a0 rfl rfl (by decide) ck_12 rfl (Nat.le_of_ble_eq_true rfl) ⟨(Nat.le_of_ble_eq_true rfl), (Nat.le_of_ble_eq_true rfl)⟩ hph hph (show 0 + 0 = 0 from rfl) (by decide) (fun rh3 Lh3 clh3 lnh3 ivh3 rvh3 h3 => ?_)
        obtain ⟨f3, rfl, rfl, rfl, rfl, rfl, fl3, W3, rgf3, exf3, kp11f3, kp12f3, kp13f3, kp14f3, kp15f3, kp16f3⟩ := h3
        refine hv7 (show 1 ≤ iv a0 11 ∧ iv a0 11 ≤ 100 from hW.int t_a0 11) (show 1 ≤ iv a0 12 ∧ iv a0 12 ≤ 50 from hW.int t_a0 12) (show (-2147483648) ≤ iv a0 13 ∧ iv a0 13 ≤ 2147483647 from hW.int t_a0 13) (show (-2147483648) ≤ iv a0 14 ∧ iv a0 14 ≤ 2147483647 from hW.int t_a0 14) (show (-2147483648) ≤ iv a0 15 ∧ iv a0 15 ≤ 2147483647 from hW.int t_a0 15) (show (-2147483648) ≤ iv a0 16 ∧ iv a0 16 ≤ 2147483647 from hW.int t_a0 16) (hF0.call hX0 fl3 rfl) (fun ri25 ri26 ri27 ri28 ri29 ri30 F3 => ?_)
        refine c_st (st2 := [.int (iI f3)]) rfl ?_
        refine hv13 (show ivh3 a0 11 = iv a0 11 from kp11f3) (show ivh3 a0 12 = iv a0 12 from kp12f3) (show ivh3 a0 13 = iv a0 13 from kp13f3) (show ivh3 a0 14 = iv a0 14 from kp14f3) (show ivh3 a0 15 = iv a0 15 from kp15f3) (show ivh3 a0 16 = iv a0 16 from kp16f3) (show f3 = -1 from exf3) (show (-2147483648) ≤ ivh3 a0 14 ∧ ivh3 a0 14 ≤ 2147483647 from W3.int t_a0 14) (show (-2147483648) ≤ ivh3 a0 15 ∧ ivh3 a0 15 ≤ 2147483647 from W3.int t_a0 15) (show (-2147483648) ≤ ivh3 a0 16 ∧ ivh3 a0 16 ≤ 2147483647 from W3.int t_a0 16) (show 1 ≤ ivh3 a0 11 ∧ ivh3 a0 11 ≤ 100 from W3.int t_a0 11) (show 1 ≤ ivh3 a0 12 ∧ ivh3 a0 12 ≤ 50 from W3.int t_a0 12) (show (-2147483648) ≤ ivh3 a0 13 ∧ ivh3 a0 13 ≤ 2147483647 from W3.int t_a0 13) (fun gk11f3 gk12f3 gk13f3 gk14f3 gk15f3 gk16f3 gf3 ri31 ri32 ri33 ri34 ri35 ri36 => ?_)
        exact c_iret C dX11_measure_40 rfl (by decide) (rom0 hph hph (by decide)) ⟨f3, rfl, rfl, rfl, rfl, rfl, F3, W3, ⟨by omega, by omega⟩, ⟨by omega, by omega⟩, gk14f3, gk15f3, gk16f3⟩
      · refine c_iload_n (j := 2) C dX11_measure_16 rfl ?_
        refine c_bipush (z := 50) C dX11_measure_17 (by decide) ?_
        refine c_icmp_gt (tgt := 34) C ⟨by omega, by omega⟩ ⟨by decide, by decide⟩ dX11_measure_19 (by decide) (fun c4 => ?_) (fun c4 => ?_)
        · refine c_aload_n (j := 0) (x := a0) C dX11_measure_34 rfl ?_
          refine c_bipush (z := 6) C dX11_measure_35 (by decide) ?_
          refine d_callV (As := [.int (iI 6)]) (rest := []) C hM (C_refuse (a0 := a0) (x := 6) hW hS t_a0 ⟨by decide, by decide⟩ ) dX11_measure_37 kV_X11_102 rfl t_a0 rfl rfl (by decide) ck_12 rfl (Nat.le_of_ble_eq_true rfl) ⟨(Nat.le_of_ble_eq_true rfl), (Nat.le_of_ble_eq_true rfl)⟩ hph hph (show 0 + 0 = 0 from rfl) (by decide) (fun rh4 Lh4 clh4 lnh4 ivh4 rvh4 h4 => ?_)
          obtain ⟨f4, rfl, rfl, rfl, rfl, rfl, fl4, W4, rgf4, exf4, kp11f4, kp12f4, kp13f4, kp14f4, kp15f4, kp16f4⟩ := h4
          refine hv7 (show 1 ≤ iv a0 11 ∧ iv a0 11 ≤ 100 from hW.int t_a0 11) (show 1 ≤ iv a0 12 ∧ iv a0 12 ≤ 50 from hW.int t_a0 12) (show (-2147483648) ≤ iv a0 13 ∧ iv a0 13 ≤ 2147483647 from hW.int t_a0 13) (show (-2147483648) ≤ iv a0 14 ∧ iv a0 14 ≤ 2147483647 from hW.int t_a0 14) (show (-2147483648) ≤ iv a0 15 ∧ iv a0 15 ≤ 2147483647 from hW.int t_a0 15) (show (-2147483648) ≤ iv a0 16 ∧ iv a0 16 ≤ 2147483647 from hW.int t_a0 16) (hF0.call hX0 fl4 rfl) (fun ri37 ri38 ri39 ri40 ri41 ri42 F4 => ?_)
          refine c_st (st2 := [.int (iI f4)]) rfl ?_
          refine hv13 (show ivh4 a0 11 = iv a0 11 from kp11f4) (show ivh4 a0 12 = iv a0 12 from kp12f4) (show ivh4 a0 13 = iv a0 13 from kp13f4) (show ivh4 a0 14 = iv a0 14 from kp14f4) (show ivh4 a0 15 = iv a0 15 from kp15f4) (show ivh4 a0 16 = iv a0 16 from kp16f4) (show f4 = -1 from exf4) (show (-2147483648) ≤ ivh4 a0 14 ∧ ivh4 a0 14 ≤ 2147483647 from W4.int t_a0 14) (show (-2147483648) ≤ ivh4 a0 15 ∧ ivh4 a0 15 ≤ 2147483647 from W4.int t_a0 15) (show (-2147483648) ≤ ivh4 a0 16 ∧ ivh4 a0 16 ≤ 2147483647 from W4.int t_a0 16) (show 1 ≤ ivh4 a0 11 ∧ ivh4 a0 11 ≤ 100 from W4.int t_a0 11) (show 1 ≤ ivh4 a0 12 ∧ ivh4 a0 12 ≤ 50 from W4.int t_a0 12) (show (-2147483648) ≤ ivh4 a0 13 ∧ ivh4 a0 13 ≤ 2147483647 from W4.int t_a0 13) (fun gk11f4 gk12f4 gk13f4 gk14f4 gk15f4 gk16f4 gf4 ri43 ri44 ri45 ri46 ri47 ri48 => ?_)
          exact c_iret C dX11_measure_40 rfl (by decide) (rom0 hph hph (by decide)) ⟨f4, rfl, rfl, rfl, rfl, rfl, F4, W4, ⟨by omega, by omega⟩, ⟨by omega, by omega⟩, gk14f4, gk15f4, gk16f4⟩
        · refine c_iload_n (j := 3) C dX11_measure_22 rfl ?_
          refine c_iconst C dX11_measure_23 ?_
          refine c_icmp_lt (tgt := 34) C ⟨by omega, by omega⟩ ⟨by decide, by decide⟩ dX11_measure_24 (by decide) (fun c5 => ?_) (fun c5 => ?_)
          · refine c_aload_n (j := 0) (x := a0) C dX11_measure_34 rfl ?_
            refine c_bipush (z := 6) C dX11_measure_35 (by decide) ?_
            refine d_callV (As := [.int (iI 6)]) (rest := []) C hM (C_refuse (a0 := a0) (x := 6) hW hS t_a0 ⟨by decide, by decide⟩ ) dX11_measure_37 kV_X11_102 rfl t_a0 rfl rfl (by decide) ck_12 rfl (Nat.le_of_ble_eq_true rfl) ⟨(Nat.le_of_ble_eq_true rfl), (Nat.le_of_ble_eq_true rfl)⟩ hph hph (show 0 + 0 = 0 from rfl) (by decide) (fun rh5 Lh5 clh5 lnh5 ivh5 rvh5 h5 => ?_)
            obtain ⟨f5, rfl, rfl, rfl, rfl, rfl, fl5, W5, rgf5, exf5, kp11f5, kp12f5, kp13f5, kp14f5, kp15f5, kp16f5⟩ := h5
            refine hv7 (show 1 ≤ iv a0 11 ∧ iv a0 11 ≤ 100 from hW.int t_a0 11) (show 1 ≤ iv a0 12 ∧ iv a0 12 ≤ 50 from hW.int t_a0 12) (show (-2147483648) ≤ iv a0 13 ∧ iv a0 13 ≤ 2147483647 from hW.int t_a0 13) (show (-2147483648) ≤ iv a0 14 ∧ iv a0 14 ≤ 2147483647 from hW.int t_a0 14) (show (-2147483648) ≤ iv a0 15 ∧ iv a0 15 ≤ 2147483647 from hW.int t_a0 15) (show (-2147483648) ≤ iv a0 16 ∧ iv a0 16 ≤ 2147483647 from hW.int t_a0 16) (hF0.call hX0 fl5 rfl) (fun ri49 ri50 ri51 ri52 ri53 ri54 F5 => ?_)
            refine c_st (st2 := [.int (iI f5)]) rfl ?_
            refine hv13 (show ivh5 a0 11 = iv a0 11 from kp11f5) (show ivh5 a0 12 = iv a0 12 from kp12f5) (show ivh5 a0 13 = iv a0 13 from kp13f5) (show ivh5 a0 14 = iv a0 14 from kp14f5) (show ivh5 a0 15 = iv a0 15 from kp15f5) (show ivh5 a0 16 = iv a0 16 from kp16f5) (show f5 = -1 from exf5) (show (-2147483648) ≤ ivh5 a0 14 ∧ ivh5 a0 14 ≤ 2147483647 from W5.int t_a0 14) (show (-2147483648) ≤ ivh5 a0 15 ∧ ivh5 a0 15 ≤ 2147483647 from W5.int t_a0 15) (show (-2147483648) ≤ ivh5 a0 16 ∧ ivh5 a0 16 ≤ 2147483647 from W5.int t_a0 16) (show 1 ≤ ivh5 a0 11 ∧ ivh5 a0 11 ≤ 100 from W5.int t_a0 11) (show 1 ≤ ivh5 a0 12 ∧ ivh5 a0 12 ≤ 50 from W5.int t_a0 12) (show (-2147483648) ≤ ivh5 a0 13 ∧ ivh5 a0 13 ≤ 2147483647 from W5.int t_a0 13) (fun gk11f5 gk12f5 gk13f5 gk14f5 gk15f5 gk16f5 gf5 ri55 ri56 ri57 ri58 ri59 ri60 => ?_)
            exact c_iret C dX11_measure_40 rfl (by decide) (rom0 hph hph (by decide)) ⟨f5, rfl, rfl, rfl, rfl, rfl, F5, W5, ⟨by omega, by omega⟩, ⟨by omega, by omega⟩, gk14f5, gk15f5, gk16f5⟩
          · refine c_iload_n (j := 3) C dX11_measure_27 rfl ?_
            refine c_sipush (z := 255) C dX11_measure_28 (by decide) ?_
            refine c_icmp_le (tgt := 41) C ⟨by omega, by omega⟩ ⟨by decide, by decide⟩ dX11_measure_31 (by decide) (fun c6 => ?_) (fun c6 => ?_)
            · refine c_aload_n (j := 0) (x := a0) C dX11_measure_41 rfl ?_
              refine c_iload_n (j := 1) C dX11_measure_42 rfl ?_
              refine c_put (z := x) (k := 11) C ck_12 dX11_measure_43 w2_55 (by decide) rfl t_a0 rfl rfl (by decide) rfl (by rfl) (by rfl) (fun iv1 pq1 => ?_)
              refine hv2 (hW.puti pq1 t_a0 (show 1 ≤ x ∧ x ≤ 100 by omega) rfl) (hF0.puti hX0 pq1 t_a0 rfl) (fun W6 F6 => ?_)
              refine c_aload_n (j := 0) (x := a0) C dX11_measure_46 rfl ?_
              refine c_iload_n (j := 2) C dX11_measure_47 rfl ?_
              refine c_put (z := y) (k := 12) C ck_12 dX11_measure_48 w2_56 (by decide) rfl t_a0 rfl rfl (by decide) rfl (by rfl) (by rfl) (fun iv2 pq2 => ?_)
              refine hv2 (W6.puti pq2 t_a0 (show 1 ≤ y ∧ y ≤ 50 by omega) rfl) (F6.puti hX0 pq2 t_a0 rfl) (fun W7 F7 => ?_)
              refine c_aload_n (j := 0) (x := a0) C dX11_measure_51 rfl ?_
              refine c_iload_n (j := 3) C dX11_measure_52 rfl ?_
              refine c_put (z := h) (k := 13) C ck_12 dX11_measure_53 w2_57 (by decide) rfl t_a0 rfl rfl (by decide) rfl (by rfl) (by rfl) (fun iv3 pq3 => ?_)
              refine hv2 (W7.puti pq3 t_a0 (show (-2147483648) ≤ h ∧ h ≤ 2147483647 by omega) rfl) (F7.puti hX0 pq3 t_a0 rfl) (fun W8 F8 => ?_)
              refine c_aload_n (j := 0) (x := a0) C dX11_measure_56 rfl ?_
              refine c_iconst C dX11_measure_57 ?_
              refine d_callV (As := [.int (iI 1)]) (rest := []) C hM (C_done (a0 := a0) (x := 1) W8 hS t_a0 ⟨by decide, by decide⟩ ) dX11_measure_58 kV_X11_109 rfl t_a0 rfl rfl (by decide) ck_12 rfl (Nat.le_of_ble_eq_true rfl) ⟨(Nat.le_of_ble_eq_true rfl), (Nat.le_of_ble_eq_true rfl)⟩ hph hph (show 0 + 0 = 0 from rfl) (by decide) (fun rh6 Lh6 clh6 lnh6 ivh6 rvh6 h6 => ?_)
              obtain ⟨f6, rfl, rfl, rfl, rfl, rfl, fl6, W9, rgf6, exf6, kp11f6, kp12f6, kp13f6, kp14f6, kp15f6, kp16f6⟩ := h6
              refine hv22 (show 1 ≤ iv3 a0 11 ∧ iv3 a0 11 ≤ 100 from W8.int t_a0 11) (show iv3 a0 11 = iv2 a0 11 from by rw [pq3]; exact up2_j (by decide)) (show iv2 a0 11 = iv1 a0 11 from by rw [pq2]; exact up2_j (by decide)) (show iv1 a0 11 = x from by rw [pq1]; exact up2_s) (show 1 ≤ iv3 a0 12 ∧ iv3 a0 12 ≤ 50 from W8.int t_a0 12) (show iv3 a0 12 = iv2 a0 12 from by rw [pq3]; exact up2_j (by decide)) (show iv2 a0 12 = y from by rw [pq2]; exact up2_s) (show (-2147483648) ≤ iv3 a0 13 ∧ iv3 a0 13 ≤ 2147483647 from W8.int t_a0 13) (show iv3 a0 13 = h from by rw [pq3]; exact up2_s) (show (-2147483648) ≤ iv3 a0 14 ∧ iv3 a0 14 ≤ 2147483647 from W8.int t_a0 14) (show iv3 a0 14 = iv2 a0 14 from by rw [pq3]; exact up2_j (by decide)) (show iv2 a0 14 = iv1 a0 14 from by rw [pq2]; exact up2_j (by decide)) (show iv1 a0 14 = iv a0 14 from by rw [pq1]; exact up2_j (by decide)) (show (-2147483648) ≤ iv3 a0 15 ∧ iv3 a0 15 ≤ 2147483647 from W8.int t_a0 15) (show iv3 a0 15 = iv2 a0 15 from by rw [pq3]; exact up2_j (by decide)) (show iv2 a0 15 = iv1 a0 15 from by rw [pq2]; exact up2_j (by decide)) (show iv1 a0 15 = iv a0 15 from by rw [pq1]; exact up2_j (by decide)) (show (-2147483648) ≤ iv3 a0 16 ∧ iv3 a0 16 ≤ 2147483647 from W8.int t_a0 16) (show iv3 a0 16 = iv2 a0 16 from by rw [pq3]; exact up2_j (by decide)) (show iv2 a0 16 = iv1 a0 16 from by rw [pq2]; exact up2_j (by decide)) (show iv1 a0 16 = iv a0 16 from by rw [pq1]; exact up2_j (by decide)) (F8.call hX0 fl6 rfl) (fun ri61 ie31 ie32 ie33 ri62 ie34 ie35 ri63 ie36 ri64 ie37 ie38 ie39 ri65 ie40 ie41 ie42 ri66 ie43 ie44 ie45 F9 => ?_)
              refine c_st (st2 := [.int (iI f6)]) rfl ?_
              refine hv13 (show ivh6 a0 11 = iv3 a0 11 from kp11f6) (show ivh6 a0 12 = iv3 a0 12 from kp12f6) (show ivh6 a0 13 = iv3 a0 13 from kp13f6) (show ivh6 a0 14 = iv3 a0 14 from kp14f6) (show ivh6 a0 15 = iv3 a0 15 from kp15f6) (show ivh6 a0 16 = iv3 a0 16 from kp16f6) (show f6 = (1 : Int) from exf6) (show (-2147483648) ≤ ivh6 a0 14 ∧ ivh6 a0 14 ≤ 2147483647 from W9.int t_a0 14) (show (-2147483648) ≤ ivh6 a0 15 ∧ ivh6 a0 15 ≤ 2147483647 from W9.int t_a0 15) (show (-2147483648) ≤ ivh6 a0 16 ∧ ivh6 a0 16 ≤ 2147483647 from W9.int t_a0 16) (show 1 ≤ ivh6 a0 11 ∧ ivh6 a0 11 ≤ 100 from W9.int t_a0 11) (show 1 ≤ ivh6 a0 12 ∧ ivh6 a0 12 ≤ 50 from W9.int t_a0 12) (show (-2147483648) ≤ ivh6 a0 13 ∧ ivh6 a0 13 ≤ 2147483647 from W9.int t_a0 13) (fun gk11f6 gk12f6 gk13f6 gk14f6 gk15f6 gk16f6 gf6 ri67 ri68 ri69 ri70 ri71 ri72 => ?_)
              exact c_iret C dX11_measure_61 rfl (by decide) (rom0 hph hph (by decide)) ⟨f6, rfl, rfl, rfl, rfl, rfl, F9, W9, ⟨by omega, by omega⟩, ⟨by omega, by omega⟩, (gk14f6.trans (ie37.trans (ie38.trans ie39))), (gk15f6.trans (ie40.trans (ie41.trans ie42))), (gk16f6.trans (ie43.trans (ie44.trans ie45)))⟩
            · refine c_aload_n (j := 0) (x := a0) C dX11_measure_34 rfl ?_
              refine c_bipush (z := 6) C dX11_measure_35 (by decide) ?_
              refine d_callV (As := [.int (iI 6)]) (rest := []) C hM (C_refuse (a0 := a0) (x := 6) hW hS t_a0 ⟨by decide, by decide⟩ ) dX11_measure_37 kV_X11_102 rfl t_a0 rfl rfl (by decide) ck_12 rfl (Nat.le_of_ble_eq_true rfl) ⟨(Nat.le_of_ble_eq_true rfl), (Nat.le_of_ble_eq_true rfl)⟩ hph hph (show 0 + 0 = 0 from rfl) (by decide) (fun rh7 Lh7 clh7 lnh7 ivh7 rvh7 h7 => ?_)
              obtain ⟨f7, rfl, rfl, rfl, rfl, rfl, fl7, W10, rgf7, exf7, kp11f7, kp12f7, kp13f7, kp14f7, kp15f7, kp16f7⟩ := h7
              refine hv7 (show 1 ≤ iv a0 11 ∧ iv a0 11 ≤ 100 from hW.int t_a0 11) (show 1 ≤ iv a0 12 ∧ iv a0 12 ≤ 50 from hW.int t_a0 12) (show (-2147483648) ≤ iv a0 13 ∧ iv a0 13 ≤ 2147483647 from hW.int t_a0 13) (show (-2147483648) ≤ iv a0 14 ∧ iv a0 14 ≤ 2147483647 from hW.int t_a0 14) (show (-2147483648) ≤ iv a0 15 ∧ iv a0 15 ≤ 2147483647 from hW.int t_a0 15) (show (-2147483648) ≤ iv a0 16 ∧ iv a0 16 ≤ 2147483647 from hW.int t_a0 16) (hF0.call hX0 fl7 rfl) (fun ri73 ri74 ri75 ri76 ri77 ri78 F10 => ?_)
              refine c_st (st2 := [.int (iI f7)]) rfl ?_
              refine hv13 (show ivh7 a0 11 = iv a0 11 from kp11f7) (show ivh7 a0 12 = iv a0 12 from kp12f7) (show ivh7 a0 13 = iv a0 13 from kp13f7) (show ivh7 a0 14 = iv a0 14 from kp14f7) (show ivh7 a0 15 = iv a0 15 from kp15f7) (show ivh7 a0 16 = iv a0 16 from kp16f7) (show f7 = -1 from exf7) (show (-2147483648) ≤ ivh7 a0 14 ∧ ivh7 a0 14 ≤ 2147483647 from W10.int t_a0 14) (show (-2147483648) ≤ ivh7 a0 15 ∧ ivh7 a0 15 ≤ 2147483647 from W10.int t_a0 15) (show (-2147483648) ≤ ivh7 a0 16 ∧ ivh7 a0 16 ≤ 2147483647 from W10.int t_a0 16) (show 1 ≤ ivh7 a0 11 ∧ ivh7 a0 11 ≤ 100 from W10.int t_a0 11) (show 1 ≤ ivh7 a0 12 ∧ ivh7 a0 12 ≤ 50 from W10.int t_a0 12) (show (-2147483648) ≤ ivh7 a0 13 ∧ ivh7 a0 13 ≤ 2147483647 from W10.int t_a0 13) (fun gk11f7 gk12f7 gk13f7 gk14f7 gk15f7 gk16f7 gf7 ri79 ri80 ri81 ri82 ri83 ri84 => ?_)
              exact c_iret C dX11_measure_40 rfl (by decide) (rom0 hph hph (by decide)) ⟨f7, rfl, rfl, rfl, rfl, rfl, F10, W10, ⟨by omega, by omega⟩, ⟨by omega, by omega⟩, gk14f7, gk15f7, gk16f7⟩
set_option maxHeartbeats 4000000 in
set_option maxRecDepth 100000 in
theorem C_failed2 {l : Launch} {G : GT} {mi : Nat} {sk : Nat → Nat} {L : List Nat} {cl ln : Nat → Nat} {iv : Nat → Nat → Int} {rv : Nat → Nat → Option Nat}  {a0 : Nat} {i : Int} {x : Int} (hW : WT (g0 G) sk L cl ln iv rv) (hS : SKL sk L cl) (t_a0 : ty L cl a0 1) (h_i : -2147483648 ≤ i ∧ i ≤ 2147483647) (h_x : -2147483648 ≤ x ∧ x ≤ 2147483647)  : Mc l G mi (Phi (g0 G) sk) PHM yX11_failed cX11_failed 4 (some .int) 1 [.ref a0, .int (iI i), .int (iI x)] L cl ln iv rv 0 (fun v L2 cl2 ln2 iv2 rv2 => ∃ f : Int, v = some (.int (iI f)) ∧ L = L2 ∧ cl = cl2 ∧ ln = ln2 ∧ rv = rv2 ∧ fT [1] L cl iv rv iv2 rv2 ∧ WT (g0 G) sk L2 cl2 ln2 iv2 rv2 ∧ (-2147483648 ≤ f ∧ f ≤ 2147483647) ∧ (((i < 0 ∨ 7 < i) ∧ f = -1 ∧ iv2 a0 14 = iv a0 14) ∨ (0 ≤ i ∧ i ≤ 7 ∧ iI (iv2 a0 14) = fdv (iI (iv a0 14)) i x ∧ iI f = bcn (iI (iv2 a0 14)))) ∧ iv2 a0 11 = iv a0 11 ∧ iv2 a0 12 = iv a0 12 ∧ iv2 a0 13 = iv a0 13 ∧ iv2 a0 15 = iv a0 15 ∧ iv2 a0 16 = iv a0 16) := by
  refine Mc.mk (by decide) (Nat.le_of_ble_eq_true rfl) ?_
  intro p e s m args below meth c A C hM
  refine hv3 (Phi.le hW hS) (show XT L cl ln L cl ln from XT.refl) (show fT [1] L cl iv rv iv rv from fT.refl) (fun hph hX0 hF0 => ?_)
  refine c_iload_n (j := 1) C dX11_failed_0 rfl ?_
  refine c_if_lt (tgt := 10) C ⟨by omega, by omega⟩ dX11_failed_1 (by decide) (fun c1 => ?_) (fun c1 => ?_)
  · refine c_aload_n (j := 0) (x := a0) C dX11_failed_10 rfl ?_
    refine c_bipush (z := 6) C dX11_failed_11 (by decide) ?_
    refine d_callV (As := [.int (iI 6)]) (rest := []) C hM (C_refuse (a0 := a0) (x := 6) hW hS t_a0 ⟨by decide, by decide⟩ ) dX11_failed_13 kV_X11_102 rfl t_a0 rfl rfl (by decide) ck_12 rfl (Nat.le_of_ble_eq_true rfl) ⟨(Nat.le_of_ble_eq_true rfl), (Nat.le_of_ble_eq_true rfl)⟩ hph hph (show 0 + 0 = 0 from rfl) (by decide) (fun rh1 Lh1 clh1 lnh1 ivh1 rvh1 h1 => ?_)
    obtain ⟨f1, rfl, rfl, rfl, rfl, rfl, fl1, W1, rgf1, exf1, kp11f1, kp12f1, kp13f1, kp14f1, kp15f1, kp16f1⟩ := h1
    refine hv7 (show 1 ≤ iv a0 11 ∧ iv a0 11 ≤ 100 from hW.int t_a0 11) (show 1 ≤ iv a0 12 ∧ iv a0 12 ≤ 50 from hW.int t_a0 12) (show (-2147483648) ≤ iv a0 13 ∧ iv a0 13 ≤ 2147483647 from hW.int t_a0 13) (show (-2147483648) ≤ iv a0 14 ∧ iv a0 14 ≤ 2147483647 from hW.int t_a0 14) (show (-2147483648) ≤ iv a0 15 ∧ iv a0 15 ≤ 2147483647 from hW.int t_a0 15) (show (-2147483648) ≤ iv a0 16 ∧ iv a0 16 ≤ 2147483647 from hW.int t_a0 16) (hF0.call hX0 fl1 rfl) (fun ri1 ri2 ri3 ri4 ri5 ri6 F1 => ?_)
    refine c_st (st2 := [.int (iI f1)]) rfl ?_
    refine hv13 (show ivh1 a0 11 = iv a0 11 from kp11f1) (show ivh1 a0 12 = iv a0 12 from kp12f1) (show ivh1 a0 13 = iv a0 13 from kp13f1) (show ivh1 a0 14 = iv a0 14 from kp14f1) (show ivh1 a0 15 = iv a0 15 from kp15f1) (show ivh1 a0 16 = iv a0 16 from kp16f1) (show f1 = -1 from exf1) (show 1 ≤ ivh1 a0 11 ∧ ivh1 a0 11 ≤ 100 from W1.int t_a0 11) (show 1 ≤ ivh1 a0 12 ∧ ivh1 a0 12 ≤ 50 from W1.int t_a0 12) (show (-2147483648) ≤ ivh1 a0 13 ∧ ivh1 a0 13 ≤ 2147483647 from W1.int t_a0 13) (show (-2147483648) ≤ ivh1 a0 15 ∧ ivh1 a0 15 ≤ 2147483647 from W1.int t_a0 15) (show (-2147483648) ≤ ivh1 a0 16 ∧ ivh1 a0 16 ≤ 2147483647 from W1.int t_a0 16) (show (-2147483648) ≤ ivh1 a0 14 ∧ ivh1 a0 14 ≤ 2147483647 from W1.int t_a0 14) (fun gk11f1 gk12f1 gk13f1 gk14f1 gk15f1 gk16f1 gf1 ri7 ri8 ri9 ri10 ri11 ri12 => ?_)
    exact c_iret C dX11_failed_16 rfl (by decide) (rom0 hph hph (by decide)) ⟨f1, rfl, rfl, rfl, rfl, rfl, F1, W1, ⟨by omega, by omega⟩, (Or.inl ⟨by omega, by omega, by omega⟩), gk11f1, gk12f1, gk13f1, gk15f1, gk16f1⟩
  · refine c_iload_n (j := 1) C dX11_failed_4 rfl ?_
    refine c_bipush (z := 7) C dX11_failed_5 (by decide) ?_
    refine c_icmp_le (tgt := 17) C ⟨by omega, by omega⟩ ⟨by decide, by decide⟩ dX11_failed_7 (by decide) (fun c2 => ?_) (fun c2 => ?_)
    · refine c_iconst C dX11_failed_17 ?_
      refine c_iload_n (j := 1) C dX11_failed_18 rfl ?_
      obtain ⟨zz1, hzz1, ezz1⟩ := iI_of (iI 1 <<< (iI i &&& 31))
      refine c_ishl (w := iI zz1) C dX11_failed_19 ezz1 ?_
      refine c_istore_n (lv2 := [(3, .int (iI zz1)), (0, .ref a0), (1, .int (iI i)), (2, .int (iI x))]) C dX11_failed_20 (by decide) rfl ?_
      refine c_aload_n (j := 1) (x := a0) C dX11_failed_21 rfl ?_
      refine c_iload_n (j := 3) C dX11_failed_22 rfl ?_
      refine c_if_eq (tgt := 35) C ⟨by omega, by omega⟩ dX11_failed_23 (by decide) (fun c3 => ?_) (fun c3 => ?_)
      · refine c_aload_n (j := 1) (x := a0) C dX11_failed_35 rfl ?_
        have ri13 : (-2147483648) ≤ iv a0 14 ∧ iv a0 14 ≤ 2147483647 := hW.int t_a0 14
        refine c_get (k := 14) C ck_12 dX11_failed_36 w2_58 (by decide) t_a0 rfl rfl (by decide) rfl ?_
        refine c_iload_n (j := 0) C dX11_failed_39 rfl ?_
        refine c_iconst C dX11_failed_40 ?_
        obtain ⟨zz2, hzz2, ezz2⟩ := iI_of (iI zz1 ^^^ iI (-1))
        refine c_ixor (w := iI zz2) C dX11_failed_41 ezz2 ?_
        obtain ⟨zz3, hzz3, ezz3⟩ := iI_of (iI (iv a0 14) &&& iI zz2)
        refine c_iand (w := iI zz3) C dX11_failed_42 ezz3 ?_
        refine c_put (z := zz3) (k := 14) C ck_12 dX11_failed_43 w2_58 (by decide) rfl t_a0 rfl rfl (by decide) rfl (by rfl) (by rfl) (fun iv1 pq1 => ?_)
        refine hv2 (hW.puti pq1 t_a0 (show (-2147483648) ≤ zz3 ∧ zz3 ≤ 2147483647 by omega) rfl) (hF0.puti hX0 pq1 t_a0 rfl) (fun W2 F2 => ?_)
        refine c_aload_n (j := 1) (x := a0) C dX11_failed_46 rfl ?_
        refine c_aload_n (j := 1) (x := a0) C dX11_failed_47 rfl ?_
        refine hv2 (show (-2147483648) ≤ iv1 a0 14 ∧ iv1 a0 14 ≤ 2147483647 from W2.int t_a0 14) (show iv1 a0 14 = zz3 from by rw [pq1]; exact up2_s) (fun ri14 ie7 => ?_)
        refine c_get (k := 14) C ck_12 dX11_failed_48 w2_58 (by decide) t_a0 rfl rfl (by decide) rfl ?_
        refine c_callS0 (As := [.int (iI (iv1 a0 14))]) (rest := [.ref a0]) C (fun L E => s_bitCount (iI (iv1 a0 14))) dX11_failed_51 kS_X11_351 rfl rfl (Nat.le_of_ble_eq_true rfl) ⟨(Nat.le_of_ble_eq_true rfl), (Nat.le_of_ble_eq_true rfl)⟩ (rom0 hph hph (by decide)) ?_
        obtain ⟨zz4, hzz4, ezz4⟩ := iI_of (bcn (iI (iv1 a0 14)))
        refine c_st (st2 := [.int (iI zz4), .ref a0]) (by rw [ezz4]) ?_
        refine d_callV (As := [.int (iI zz4)]) (rest := []) C hM (C_done (a0 := a0) (x := zz4) W2 hS t_a0 (by omega) ) dX11_failed_54 kV_X11_109 rfl t_a0 rfl rfl (by decide) ck_12 rfl (Nat.le_of_ble_eq_true rfl) ⟨(Nat.le_of_ble_eq_true rfl), (Nat.le_of_ble_eq_true rfl)⟩ hph hph (show 0 + 0 = 0 from rfl) (by decide) (fun rh2 Lh2 clh2 lnh2 ivh2 rvh2 h2 => ?_)
        obtain ⟨f2, rfl, rfl, rfl, rfl, rfl, fl2, W3, rgf2, exf2, kp11f2, kp12f2, kp13f2, kp14f2, kp15f2, kp16f2⟩ := h2
        refine hv11 (show 1 ≤ iv1 a0 11 ∧ iv1 a0 11 ≤ 100 from W2.int t_a0 11) (show iv1 a0 11 = iv a0 11 from by rw [pq1]; exact up2_j (by decide)) (show 1 ≤ iv1 a0 12 ∧ iv1 a0 12 ≤ 50 from W2.int t_a0 12) (show iv1 a0 12 = iv a0 12 from by rw [pq1]; exact up2_j (by decide)) (show (-2147483648) ≤ iv1 a0 13 ∧ iv1 a0 13 ≤ 2147483647 from W2.int t_a0 13) (show iv1 a0 13 = iv a0 13 from by rw [pq1]; exact up2_j (by decide)) (show (-2147483648) ≤ iv1 a0 15 ∧ iv1 a0 15 ≤ 2147483647 from W2.int t_a0 15) (show iv1 a0 15 = iv a0 15 from by rw [pq1]; exact up2_j (by decide)) (show (-2147483648) ≤ iv1 a0 16 ∧ iv1 a0 16 ≤ 2147483647 from W2.int t_a0 16) (show iv1 a0 16 = iv a0 16 from by rw [pq1]; exact up2_j (by decide)) (F2.call hX0 fl2 rfl) (fun ri15 ie8 ri16 ie9 ri17 ie10 ri18 ie11 ri19 ie12 F3 => ?_)
        refine c_st (st2 := [.int (iI f2)]) rfl ?_
        refine hv13 (show ivh2 a0 11 = iv1 a0 11 from kp11f2) (show ivh2 a0 12 = iv1 a0 12 from kp12f2) (show ivh2 a0 13 = iv1 a0 13 from kp13f2) (show ivh2 a0 14 = iv1 a0 14 from kp14f2) (show ivh2 a0 15 = iv1 a0 15 from kp15f2) (show ivh2 a0 16 = iv1 a0 16 from kp16f2) (show f2 = zz4 from exf2) (show 1 ≤ ivh2 a0 11 ∧ ivh2 a0 11 ≤ 100 from W3.int t_a0 11) (show 1 ≤ ivh2 a0 12 ∧ ivh2 a0 12 ≤ 50 from W3.int t_a0 12) (show (-2147483648) ≤ ivh2 a0 13 ∧ ivh2 a0 13 ≤ 2147483647 from W3.int t_a0 13) (show (-2147483648) ≤ ivh2 a0 15 ∧ ivh2 a0 15 ≤ 2147483647 from W3.int t_a0 15) (show (-2147483648) ≤ ivh2 a0 16 ∧ ivh2 a0 16 ≤ 2147483647 from W3.int t_a0 16) (show (-2147483648) ≤ ivh2 a0 14 ∧ ivh2 a0 14 ≤ 2147483647 from W3.int t_a0 14) (fun gk11f2 gk12f2 gk13f2 gk14f2 gk15f2 gk16f2 gf2 ri20 ri21 ri22 ri23 ri24 ri25 => ?_)
        exact c_iret C dX11_failed_57 rfl (by decide) (rom0 hph hph (by decide)) ⟨f2, rfl, rfl, rfl, rfl, rfl, F3, W3, ⟨by omega, by omega⟩, (Or.inr ⟨by omega, by omega, by rw [show ivh2 a0 14 = zz3 by omega]; unfold fdv; rw [if_pos (show x = 0 by omega), ← ezz3, ← ezz2, ← ezz1], by rw [show f2 = zz4 by omega, ← ezz4]; exact congrArg (fun q => bcn (iI q)) (by omega)⟩), (gk11f2.trans ie8), (gk12f2.trans ie9), (gk13f2.trans ie10), (gk15f2.trans ie11), (gk16f2.trans ie12)⟩
      · refine c_aload_n (j := 1) (x := a0) C dX11_failed_26 rfl ?_
        have ri26 : (-2147483648) ≤ iv a0 14 ∧ iv a0 14 ≤ 2147483647 := hW.int t_a0 14
        refine c_get (k := 14) C ck_12 dX11_failed_27 w2_58 (by decide) t_a0 rfl rfl (by decide) rfl ?_
        refine c_iload_n (j := 0) C dX11_failed_30 rfl ?_
        obtain ⟨zz5, hzz5, ezz5⟩ := iI_of (iI (iv a0 14) ||| iI zz1)
        refine c_ior (w := iI zz5) C dX11_failed_31 ezz5 ?_
        refine c_goto (tgt := 43) C dX11_failed_32 (by decide) ?_
        refine c_put (z := zz5) (k := 14) C ck_12 dX11_failed_43 w2_58 (by decide) rfl t_a0 rfl rfl (by decide) rfl (by rfl) (by rfl) (fun iv2 pq2 => ?_)
        refine hv2 (hW.puti pq2 t_a0 (show (-2147483648) ≤ zz5 ∧ zz5 ≤ 2147483647 by omega) rfl) (hF0.puti hX0 pq2 t_a0 rfl) (fun W4 F4 => ?_)
        refine c_aload_n (j := 1) (x := a0) C dX11_failed_46 rfl ?_
        refine c_aload_n (j := 1) (x := a0) C dX11_failed_47 rfl ?_
        refine hv2 (show (-2147483648) ≤ iv2 a0 14 ∧ iv2 a0 14 ≤ 2147483647 from W4.int t_a0 14) (show iv2 a0 14 = zz5 from by rw [pq2]; exact up2_s) (fun ri27 ie19 => ?_)
        refine c_get (k := 14) C ck_12 dX11_failed_48 w2_58 (by decide) t_a0 rfl rfl (by decide) rfl ?_
        refine c_callS0 (As := [.int (iI (iv2 a0 14))]) (rest := [.ref a0]) C (fun L E => s_bitCount (iI (iv2 a0 14))) dX11_failed_51 kS_X11_351 rfl rfl (Nat.le_of_ble_eq_true rfl) ⟨(Nat.le_of_ble_eq_true rfl), (Nat.le_of_ble_eq_true rfl)⟩ (rom0 hph hph (by decide)) ?_
        obtain ⟨zz6, hzz6, ezz6⟩ := iI_of (bcn (iI (iv2 a0 14)))
        refine c_st (st2 := [.int (iI zz6), .ref a0]) (by rw [ezz6]) ?_
        refine d_callV (As := [.int (iI zz6)]) (rest := []) C hM (C_done (a0 := a0) (x := zz6) W4 hS t_a0 (by omega) ) dX11_failed_54 kV_X11_109 rfl t_a0 rfl rfl (by decide) ck_12 rfl (Nat.le_of_ble_eq_true rfl) ⟨(Nat.le_of_ble_eq_true rfl), (Nat.le_of_ble_eq_true rfl)⟩ hph hph (show 0 + 0 = 0 from rfl) (by decide) (fun rh3 Lh3 clh3 lnh3 ivh3 rvh3 h3 => ?_)
        obtain ⟨f3, rfl, rfl, rfl, rfl, rfl, fl3, W5, rgf3, exf3, kp11f3, kp12f3, kp13f3, kp14f3, kp15f3, kp16f3⟩ := h3
        refine hv11 (show 1 ≤ iv2 a0 11 ∧ iv2 a0 11 ≤ 100 from W4.int t_a0 11) (show iv2 a0 11 = iv a0 11 from by rw [pq2]; exact up2_j (by decide)) (show 1 ≤ iv2 a0 12 ∧ iv2 a0 12 ≤ 50 from W4.int t_a0 12) (show iv2 a0 12 = iv a0 12 from by rw [pq2]; exact up2_j (by decide)) (show (-2147483648) ≤ iv2 a0 13 ∧ iv2 a0 13 ≤ 2147483647 from W4.int t_a0 13) (show iv2 a0 13 = iv a0 13 from by rw [pq2]; exact up2_j (by decide)) (show (-2147483648) ≤ iv2 a0 15 ∧ iv2 a0 15 ≤ 2147483647 from W4.int t_a0 15) (show iv2 a0 15 = iv a0 15 from by rw [pq2]; exact up2_j (by decide)) (show (-2147483648) ≤ iv2 a0 16 ∧ iv2 a0 16 ≤ 2147483647 from W4.int t_a0 16) (show iv2 a0 16 = iv a0 16 from by rw [pq2]; exact up2_j (by decide)) (F4.call hX0 fl3 rfl) (fun ri28 ie20 ri29 ie21 ri30 ie22 ri31 ie23 ri32 ie24 F5 => ?_)
        refine c_st (st2 := [.int (iI f3)]) rfl ?_
        refine hv13 (show ivh3 a0 11 = iv2 a0 11 from kp11f3) (show ivh3 a0 12 = iv2 a0 12 from kp12f3) (show ivh3 a0 13 = iv2 a0 13 from kp13f3) (show ivh3 a0 14 = iv2 a0 14 from kp14f3) (show ivh3 a0 15 = iv2 a0 15 from kp15f3) (show ivh3 a0 16 = iv2 a0 16 from kp16f3) (show f3 = zz6 from exf3) (show 1 ≤ ivh3 a0 11 ∧ ivh3 a0 11 ≤ 100 from W5.int t_a0 11) (show 1 ≤ ivh3 a0 12 ∧ ivh3 a0 12 ≤ 50 from W5.int t_a0 12) (show (-2147483648) ≤ ivh3 a0 13 ∧ ivh3 a0 13 ≤ 2147483647 from W5.int t_a0 13) (show (-2147483648) ≤ ivh3 a0 15 ∧ ivh3 a0 15 ≤ 2147483647 from W5.int t_a0 15) (show (-2147483648) ≤ ivh3 a0 16 ∧ ivh3 a0 16 ≤ 2147483647 from W5.int t_a0 16) (show (-2147483648) ≤ ivh3 a0 14 ∧ ivh3 a0 14 ≤ 2147483647 from W5.int t_a0 14) (fun gk11f3 gk12f3 gk13f3 gk14f3 gk15f3 gk16f3 gf3 ri33 ri34 ri35 ri36 ri37 ri38 => ?_)
        exact c_iret C dX11_failed_57 rfl (by decide) (rom0 hph hph (by decide)) ⟨f3, rfl, rfl, rfl, rfl, rfl, F5, W5, ⟨by omega, by omega⟩, (Or.inr ⟨by omega, by omega, by rw [show ivh3 a0 14 = zz5 by omega]; unfold fdv; rw [if_neg (show ¬ x = 0 by omega), ← ezz5, ← ezz1], by rw [show f3 = zz6 by omega, ← ezz6]; exact congrArg (fun q => bcn (iI q)) (by omega)⟩), (gk11f3.trans ie20), (gk12f3.trans ie21), (gk13f3.trans ie22), (gk15f3.trans ie23), (gk16f3.trans ie24)⟩
    · refine c_aload_n (j := 0) (x := a0) C dX11_failed_10 rfl ?_
      refine c_bipush (z := 6) C dX11_failed_11 (by decide) ?_
      refine d_callV (As := [.int (iI 6)]) (rest := []) C hM (C_refuse (a0 := a0) (x := 6) hW hS t_a0 ⟨by decide, by decide⟩ ) dX11_failed_13 kV_X11_102 rfl t_a0 rfl rfl (by decide) ck_12 rfl (Nat.le_of_ble_eq_true rfl) ⟨(Nat.le_of_ble_eq_true rfl), (Nat.le_of_ble_eq_true rfl)⟩ hph hph (show 0 + 0 = 0 from rfl) (by decide) (fun rh4 Lh4 clh4 lnh4 ivh4 rvh4 h4 => ?_)
      obtain ⟨f4, rfl, rfl, rfl, rfl, rfl, fl4, W6, rgf4, exf4, kp11f4, kp12f4, kp13f4, kp14f4, kp15f4, kp16f4⟩ := h4
      refine hv7 (show 1 ≤ iv a0 11 ∧ iv a0 11 ≤ 100 from hW.int t_a0 11) (show 1 ≤ iv a0 12 ∧ iv a0 12 ≤ 50 from hW.int t_a0 12) (show (-2147483648) ≤ iv a0 13 ∧ iv a0 13 ≤ 2147483647 from hW.int t_a0 13) (show (-2147483648) ≤ iv a0 14 ∧ iv a0 14 ≤ 2147483647 from hW.int t_a0 14) (show (-2147483648) ≤ iv a0 15 ∧ iv a0 15 ≤ 2147483647 from hW.int t_a0 15) (show (-2147483648) ≤ iv a0 16 ∧ iv a0 16 ≤ 2147483647 from hW.int t_a0 16) (hF0.call hX0 fl4 rfl) (fun ri39 ri40 ri41 ri42 ri43 ri44 F6 => ?_)
      refine c_st (st2 := [.int (iI f4)]) rfl ?_
      refine hv13 (show ivh4 a0 11 = iv a0 11 from kp11f4) (show ivh4 a0 12 = iv a0 12 from kp12f4) (show ivh4 a0 13 = iv a0 13 from kp13f4) (show ivh4 a0 14 = iv a0 14 from kp14f4) (show ivh4 a0 15 = iv a0 15 from kp15f4) (show ivh4 a0 16 = iv a0 16 from kp16f4) (show f4 = -1 from exf4) (show 1 ≤ ivh4 a0 11 ∧ ivh4 a0 11 ≤ 100 from W6.int t_a0 11) (show 1 ≤ ivh4 a0 12 ∧ ivh4 a0 12 ≤ 50 from W6.int t_a0 12) (show (-2147483648) ≤ ivh4 a0 13 ∧ ivh4 a0 13 ≤ 2147483647 from W6.int t_a0 13) (show (-2147483648) ≤ ivh4 a0 15 ∧ ivh4 a0 15 ≤ 2147483647 from W6.int t_a0 15) (show (-2147483648) ≤ ivh4 a0 16 ∧ ivh4 a0 16 ≤ 2147483647 from W6.int t_a0 16) (show (-2147483648) ≤ ivh4 a0 14 ∧ ivh4 a0 14 ≤ 2147483647 from W6.int t_a0 14) (fun gk11f4 gk12f4 gk13f4 gk14f4 gk15f4 gk16f4 gf4 ri45 ri46 ri47 ri48 ri49 ri50 => ?_)
      exact c_iret C dX11_failed_16 rfl (by decide) (rom0 hph hph (by decide)) ⟨f4, rfl, rfl, rfl, rfl, rfl, F6, W6, ⟨by omega, by omega⟩, (Or.inl ⟨by omega, by omega, by omega⟩), gk11f4, gk12f4, gk13f4, gk15f4, gk16f4⟩
def PRS (G : GT) (h0 n : Nat) (L : List Nat) (cl ln : Nat → Nat) (iv : Nat → Nat → Int) (rv : Nat → Nat → Option Nat) (sk : Nat → Nat) : Prop := WT (g0 G) sk L cl ln iv rv ∧ SKL sk L cl ∧ MRK sk cl iv rv ∧ iv (sk 23) 2 ≤ n ∧ ty L cl h0 1
def POSTN (G : GT) (sk : Nat → Nat) (L : List Nat) (cl ln : Nat → Nat) (iv : Nat → Nat → Int) (rv : Nat → Nat → Option Nat) (EX : (Nat → Nat) → List Nat → (Nat → Nat) → (Nat → Nat) → (Nat → Nat → Int) → (Nat → Nat → Option Nat) → List Nat → (Nat → Nat) → (Nat → Nat) → (Nat → Nat → Int) → (Nat → Nat → Option Nat) → Int → Prop) : PC := fun r L2 cl2 ln2 iv2 rv2 => ∃ f : Int, r = some (.int (iI f)) ∧ (-2147483648 ≤ f ∧ f ≤ 2147483647) ∧ XT L cl ln L2 cl2 ln2 ∧ WT (g0 G) sk L2 cl2 ln2 iv2 rv2 ∧ MRK sk cl2 iv2 rv2 ∧ iv2 (sk 23) 2 ≤ iv (sk 23) 2 + 1 ∧ EX sk L cl ln iv rv L2 cl2 ln2 iv2 rv2 f
def PressOp (l : Launch) (G : GT) (mi : Nat) (y2 : MethodName) (cc2 : ByteArray) (n2 : Nat) (ret2 : Option FieldType) (d2 : Nat) (As : List Value) (h0 : Nat) (EX : (Nat → Nat) → List Nat → (Nat → Nat) → (Nat → Nat) → (Nat → Nat → Int) → (Nat → Nat → Option Nat) → List Nat → (Nat → Nat) → (Nat → Nat) → (Nat → Nat → Int) → (Nat → Nat → Option Nat) → Int → Prop) : Prop := ∀ (n : Nat) (L : List Nat) (cl ln : Nat → Nat) (iv : Nat → Nat → Int) (rv : Nat → Nat → Option Nat) (sk : Nat → Nat), n ≤ 511 → PRS G h0 n L cl ln iv rv sk → ∃ (c0 : Nat) (P2 : PC), c0 ≤ 2330 ∧ Mc l G mi (Phi (g0 G) sk) PHM y2 cc2 n2 ret2 d2 (.ref h0 :: As) L cl ln iv rv c0 P2 ∧ ∀ v L2 cl2 ln2 iv2 rv2, P2 v L2 cl2 ln2 iv2 rv2 → POSTN G sk L cl ln iv rv EX v L2 cl2 ln2 iv2 rv2
theorem PO_feed {l : Launch} {G : GT} {mi h0 : Nat} {x1 : Int} {x2 : Int} {x3 : Int} {x4 : Int} {x5 : Int} (h_x1 : -2147483648 ≤ x1 ∧ x1 ≤ 2147483647) (h_x2 : -2147483648 ≤ x2 ∧ x2 ≤ 2147483647) (h_x3 : -2147483648 ≤ x3 ∧ x3 ≤ 2147483647) (h_x4 : -2147483648 ≤ x4 ∧ x4 ≤ 2147483647) (h_x5 : -2147483648 ≤ x5 ∧ x5 ≤ 2147483647) : PressOp l G mi yX11_feed cX11_feed 6 (some .int) 4 [.int (iI x1), .int (iI x2), .int (iI x3), .int (iI x4), .int (iI x5)] h0 (fun sk L cl ln iv rv L2 cl2 ln2 iv2 rv2 f => (True ∧ (KSQ h0 iv rv iv2 rv2 ∧ KSC h0 iv rv iv2 rv2 ∧ iv2 h0 15 = iv h0 15 ∧ iv2 h0 16 = iv h0 16 ∧ (iv2 (sk 5) 2 = iv (sk 5) 2 ∧ ∀ ss, CT iv rv (sk 5) ss → CT iv2 rv2 (sk 5) ss) ∧ (iv2 (sk 4) 2 = iv (sk 4) 2 ∧ ∀ ss, CT iv rv (sk 4) ss → CT iv2 rv2 (sk 4) ss) ∧ FKP sk iv rv iv2 rv2)) ∧ (iv2 h0 14 = iv h0 14 ∧ iv2 h0 11 = iv h0 11 ∧ iv2 h0 12 = iv h0 12 ∧ iv2 h0 13 = iv h0 13) ∧ (((f = -1 ∧ 3000 < iv (sk 2) 2 + 20 ∧ iv2 (sk 2) 2 = iv (sk 2) 2) ∨ (f = iv2 (sk 2) 2 ∧ iv2 (sk 2) 2 = iv (sk 2) 2 + 20 ∧ iv (sk 2) 2 ≤ 2980)) ∧ ∀ ss, CT iv rv (sk 2) ss → (iv (sk 2) 2 ≤ 2980 → CT iv2 rv2 (sk 2) (fd5 ss (iv (sk 2) 2).toNat x1 x2 x3 x4 x5)) ∧ (2980 < iv (sk 2) 2 → CT iv2 rv2 (sk 2) ss)) ∧ (iv2 (sk 3) 2 = iv (sk 3) 2 ∧ (∀ tt, CT iv rv (sk 3) tt → CT iv2 rv2 (sk 3) tt)) ∧ PSAME sk iv rv iv2 rv2 ∧ (∃ g, WT g sk L cl ln iv rv ∧ WT g sk L2 cl2 ln2 iv2 rv2) ∧ SKL sk L cl ∧ XT L cl ln L2 cl2 ln2 ∧ (KP L cl (fun _ => False) (fun _ => False) (fun _ => False) (fun _ => False) (fun _ _ => False) iv rv iv2 rv2)) := by
  intro n L cl ln iv rv sk hn hp
  obtain ⟨hW, hS, hm, h23, ht⟩ := hp
  refine hv3 (show ty L cl (sk 23) 23 from ⟨(hS 23 rfl).1, by rw [(hS 23 rfl).2]; rfl⟩) (show ty L cl (sk 2) 2 from ⟨(hS 2 rfl).1, by rw [(hS 2 rfl).2]; rfl⟩) (show ty L cl (sk 3) 3 from ⟨(hS 3 rfl).1, by rw [(hS 3 rfl).2]; rfl⟩) (fun t23 t2 t3 => ?_)
  refine ⟨0, _, by decide, C_feed hW hS ht h_x1 h_x2 h_x3 h_x4 h_x5 , fun v L2 cl2 ln2 iv2 rv2 h => ?_⟩
  obtain ⟨f, rfl, hX, hF, hW2, rg, ex, kp11, kp12, kp13, kp14, kp15, kp16, kr9, kr10⟩ := h
  exact ⟨f, rfl, by omega, hX, hW2, (MRK.call hm hW hS hX hF rfl rfl), (by have q := hF.i t23 rfl 2; omega), ⟨⟨trivial, ⟨(KSQ.fr hW ht hF kr9 kr10 rfl rfl rfl), (KSC.fr hW ht hF kr9 kr10 rfl rfl rfl rfl), kp15, kp16, ⟨hF.i (tysq (t := 5) hS rfl rfl) rfl 2, fun ss hs => CT.fr hs hW (tysq (t := 5) hS rfl rfl) hF rfl rfl rfl rfl rfl⟩, ⟨hF.i (tysq (t := 4) hS rfl rfl) rfl 2, fun ss hs => CT.fr hs hW (tysq (t := 4) hS rfl rfl) hF rfl rfl rfl rfl rfl⟩, (FKP.fr hW hS hF rfl rfl rfl rfl)⟩⟩, ⟨kp14, kp11, kp12, kp13⟩, ⟨by have q : iv2 (sk 2) 2 ≤ 3000 := (hW2.int (hX.ty t2) 2).2; have w := ex.1; omega, ex.2⟩, ⟨hF.i t3 rfl 2, fun tt ht => CT.fr ht hW t3 hF rfl rfl rfl rfl rfl⟩, (PSAME.fr hW hS hF rfl rfl rfl rfl rfl rfl rfl), ⟨⟨_, hW, hW2⟩, hS, hX, (KP.fr hW hF rfl)⟩⟩⟩
theorem PO_end {l : Launch} {G : GT} {mi h0 : Nat} {n : Int} (h_n : -2147483648 ≤ n ∧ n ≤ 2147483647) : PressOp l G mi yX11_end cX11_end 2 (some .int) 2 [.int (iI n)] h0 (fun sk L cl ln iv rv L2 cl2 ln2 iv2 rv2 f => (True ∧ (KSQ h0 iv rv iv2 rv2 ∧ KSC h0 iv rv iv2 rv2 ∧ iv2 h0 15 = iv h0 15 ∧ iv2 h0 16 = iv h0 16 ∧ (iv2 (sk 5) 2 = iv (sk 5) 2 ∧ ∀ ss, CT iv rv (sk 5) ss → CT iv2 rv2 (sk 5) ss) ∧ (iv2 (sk 4) 2 = iv (sk 4) 2 ∧ ∀ ss, CT iv rv (sk 4) ss → CT iv2 rv2 (sk 4) ss) ∧ FKP sk iv rv iv2 rv2)) ∧ (iv2 h0 14 = iv h0 14 ∧ iv2 h0 11 = iv h0 11 ∧ iv2 h0 12 = iv h0 12 ∧ iv2 h0 13 = iv h0 13) ∧ (((f = -1 ∧ iv2 (sk 2) 2 = iv (sk 2) 2 ∧ (n < 0 ∨ iv (sk 2) 2 < n)) ∨ (f = n ∧ iv2 (sk 2) 2 = n ∧ 0 ≤ n ∧ n ≤ iv (sk 2) 2)) ∧ (∀ ss, CT iv rv (sk 2) ss → CT iv2 rv2 (sk 2) ss)) ∧ (iv2 (sk 3) 2 = iv (sk 3) 2 ∧ (∀ tt, CT iv rv (sk 3) tt → CT iv2 rv2 (sk 3) tt)) ∧ PSAME sk iv rv iv2 rv2 ∧ (∃ g, WT g sk L cl ln iv rv ∧ WT g sk L2 cl2 ln2 iv2 rv2) ∧ SKL sk L cl ∧ XT L cl ln L2 cl2 ln2 ∧ (KP L cl (fun _ => False) (fun _ => False) (fun _ => False) (fun _ => False) (fun _ _ => False) iv rv iv2 rv2)) := by
  intro n L cl ln iv rv sk hn hp
  obtain ⟨hW, hS, hm, h23, ht⟩ := hp
  refine hv3 (show ty L cl (sk 23) 23 from ⟨(hS 23 rfl).1, by rw [(hS 23 rfl).2]; rfl⟩) (show ty L cl (sk 2) 2 from ⟨(hS 2 rfl).1, by rw [(hS 2 rfl).2]; rfl⟩) (show ty L cl (sk 3) 3 from ⟨(hS 3 rfl).1, by rw [(hS 3 rfl).2]; rfl⟩) (fun t23 t2 t3 => ?_)
  refine ⟨0, _, by decide, C_end hW hS ht h_n , fun v L2 cl2 ln2 iv2 rv2 h => ?_⟩
  obtain ⟨f, rfl, rfl, rfl, rfl, rfl, hF, hW2, rg, ex, kp11, kp12, kp13, kp14, kp15, kp16⟩ := h
  exact ⟨f, rfl, by omega, XT.refl, hW2, (MRK.call hm hW hS XT.refl hF rfl rfl), (by have q := hF.i t23 rfl 2; omega), ⟨⟨trivial, ⟨(KSQ.ni hW ht hF rfl), (KSC.fr hW ht hF rfl rfl rfl rfl rfl rfl), kp15, kp16, ⟨hF.i (tysq (t := 5) hS rfl rfl) rfl 2, fun ss hs => CT.fr hs hW (tysq (t := 5) hS rfl rfl) hF rfl rfl rfl rfl rfl⟩, ⟨hF.i (tysq (t := 4) hS rfl rfl) rfl 2, fun ss hs => CT.fr hs hW (tysq (t := 4) hS rfl rfl) hF rfl rfl rfl rfl rfl⟩, (FKP.fr hW hS hF rfl rfl rfl rfl)⟩⟩, ⟨kp14, kp11, kp12, kp13⟩, ⟨ex, fun ss hs => CT.cut hs hW t2 hF rfl rfl rfl rfl rfl (by omega)⟩, ⟨hF.i t3 rfl 2, fun tt ht => CT.fr ht hW t3 hF rfl rfl rfl rfl rfl⟩, (PSAME.fr hW hS hF rfl rfl rfl rfl rfl rfl rfl), ⟨⟨_, hW, hW2⟩, hS, XT.refl, (KP.fr hW hF rfl)⟩⟩⟩
theorem PO_table {l : Launch} {G : GT} {mi h0 : Nat} {x : Int} {y : Int} {i : Int} (h_x : -2147483648 ≤ x ∧ x ≤ 2147483647) (h_y : -2147483648 ≤ y ∧ y ≤ 2147483647) (h_i : -2147483648 ≤ i ∧ i ≤ 2147483647) : PressOp l G mi yX11_table cX11_table 5 (some .int) 9 [.int (iI x), .int (iI y), .int (iI i)] h0 (fun sk L cl ln iv rv L2 cl2 ln2 iv2 rv2 f => (True ∧ (KSQ h0 iv rv iv2 rv2 ∧ KSC h0 iv rv iv2 rv2 ∧ iv2 h0 15 = iv h0 15 ∧ iv2 h0 16 = iv h0 16 ∧ (iv2 (sk 5) 2 = iv (sk 5) 2 ∧ ∀ ss, CT iv rv (sk 5) ss → CT iv2 rv2 (sk 5) ss) ∧ (iv2 (sk 4) 2 = iv (sk 4) 2 ∧ ∀ ss, CT iv rv (sk 4) ss → CT iv2 rv2 (sk 4) ss) ∧ FKP sk iv rv iv2 rv2)) ∧ (iv2 h0 14 = iv h0 14 ∧ iv2 h0 11 = iv h0 11 ∧ iv2 h0 12 = iv h0 12 ∧ iv2 h0 13 = iv h0 13) ∧ (iv2 (sk 2) 2 = iv (sk 2) 2 ∧ (∀ ss, CT iv rv (sk 2) ss → CT iv2 rv2 (sk 2) ss)) ∧ (iv2 (sk 3) 2 = iv (sk 3) 2 ∧ (∀ tt, CT iv rv (sk 3) tt → CT iv2 rv2 (sk 3) tt)) ∧ PTBL x y i f sk iv rv iv2 rv2 ∧ (∃ g, WT g sk L cl ln iv rv ∧ WT g sk L2 cl2 ln2 iv2 rv2) ∧ SKL sk L cl ∧ XT L cl ln L2 cl2 ln2 ∧ ((f = -1 ∧ KP L cl (fun _ => False) (fun _ => False) (fun _ => False) (fun _ => False) (fun _ _ => False) iv rv iv2 rv2) ∨ (f ≠ -1 ∧ KP L cl (fun _ => False) (fun _ => False) (fun _ => False) (fun _ => False) (fun _ _ => False) iv rv iv2 rv2 ∧ ∃ b, (((x < 1 ∨ 3 < x) ∧ b = none) ∨ ((1 ≤ x ∧ x ≤ 3) ∧ ∃ t, ALV sk iv rv i t ∧ b = some t)) ∧ KNW L sk b none iv iv2 rv2))) := by
  intro n L cl ln iv rv sk hn hp
  obtain ⟨hW, hS, hm, h23, ht⟩ := hp
  refine hv3 (show ty L cl (sk 23) 23 from ⟨(hS 23 rfl).1, by rw [(hS 23 rfl).2]; rfl⟩) (show ty L cl (sk 2) 2 from ⟨(hS 2 rfl).1, by rw [(hS 2 rfl).2]; rfl⟩) (show ty L cl (sk 3) 3 from ⟨(hS 3 rfl).1, by rw [(hS 3 rfl).2]; rfl⟩) (fun t23 t2 t3 => ?_)
  refine ⟨1434, _, by decide, C_table hW hS ht h_x h_y h_i hm (by omega), fun v L2 cl2 ln2 iv2 rv2 h => ?_⟩
  obtain ⟨f, rfl, hX, hF, hW2, rg, ex, kp11, kp12, kp13, kp14, kp15, kp16, tbx, kbx, kr9, kr10⟩ := h
  exact ⟨f, rfl, by omega, hX, hW2, ex.2, ex.1, ⟨⟨trivial, ⟨(KSQ.fr hW ht hF kr9 kr10 rfl rfl rfl), (KSC.fr hW ht hF kr9 kr10 rfl rfl rfl rfl), kp15, kp16, ⟨hF.i (tysq (t := 5) hS rfl rfl) rfl 2, fun ss hs => CT.fr hs hW (tysq (t := 5) hS rfl rfl) hF rfl rfl rfl rfl rfl⟩, ⟨hF.i (tysq (t := 4) hS rfl rfl) rfl 2, fun ss hs => CT.fr hs hW (tysq (t := 4) hS rfl rfl) hF rfl rfl rfl rfl rfl⟩, (FKP.fr hW hS hF rfl rfl rfl rfl)⟩⟩, ⟨kp14, kp11, kp12, kp13⟩, ⟨hF.i t2 rfl 2, fun ss hs => CT.fr hs hW t2 hF rfl rfl rfl rfl rfl⟩, ⟨hF.i t3 rfl 2, fun tt ht => CT.fr ht hW t3 hF rfl rfl rfl rfl rfl⟩, tbx, ⟨⟨_, hW, hW2⟩, hS, hX, kbx⟩⟩⟩
theorem PO_join {l : Launch} {G : GT} {mi h0 : Nat} {i : Int} {j : Int} (h_i : -2147483648 ≤ i ∧ i ≤ 2147483647) (h_j : -2147483648 ≤ j ∧ j ≤ 2147483647) : PressOp l G mi yX11_join cX11_join 5 (some .int) 9 [.int (iI i), .int (iI j)] h0 (fun sk L cl ln iv rv L2 cl2 ln2 iv2 rv2 f => (True ∧ (KSQ h0 iv rv iv2 rv2 ∧ KSC h0 iv rv iv2 rv2 ∧ iv2 h0 15 = iv h0 15 ∧ iv2 h0 16 = iv h0 16 ∧ (iv2 (sk 5) 2 = iv (sk 5) 2 ∧ ∀ ss, CT iv rv (sk 5) ss → CT iv2 rv2 (sk 5) ss) ∧ (iv2 (sk 4) 2 = iv (sk 4) 2 ∧ ∀ ss, CT iv rv (sk 4) ss → CT iv2 rv2 (sk 4) ss) ∧ FKP sk iv rv iv2 rv2)) ∧ (iv2 h0 14 = iv h0 14 ∧ iv2 h0 11 = iv h0 11 ∧ iv2 h0 12 = iv h0 12 ∧ iv2 h0 13 = iv h0 13) ∧ (iv2 (sk 2) 2 = iv (sk 2) 2 ∧ (∀ ss, CT iv rv (sk 2) ss → CT iv2 rv2 (sk 2) ss)) ∧ (iv2 (sk 3) 2 = iv (sk 3) 2 ∧ (∀ tt, CT iv rv (sk 3) tt → CT iv2 rv2 (sk 3) tt)) ∧ PJOI i j f sk iv rv iv2 rv2 ∧ (∃ g, WT g sk L cl ln iv rv ∧ WT g sk L2 cl2 ln2 iv2 rv2) ∧ SKL sk L cl ∧ XT L cl ln L2 cl2 ln2 ∧ ((f = -1 ∧ KP L cl (fun _ => False) (fun _ => False) (fun _ => False) (fun _ => False) (fun _ _ => False) iv rv iv2 rv2) ∨ (f ≠ -1 ∧ KP L cl (fun _ => False) (fun _ => False) (fun _ => False) (fun _ => False) (fun _ _ => False) iv rv iv2 rv2 ∧ ∃ t u, ALV sk iv rv i t ∧ ALV sk iv rv j u ∧ KNW L sk (some t) (some u) iv iv2 rv2))) := by
  intro n L cl ln iv rv sk hn hp
  obtain ⟨hW, hS, hm, h23, ht⟩ := hp
  refine hv3 (show ty L cl (sk 23) 23 from ⟨(hS 23 rfl).1, by rw [(hS 23 rfl).2]; rfl⟩) (show ty L cl (sk 2) 2 from ⟨(hS 2 rfl).1, by rw [(hS 2 rfl).2]; rfl⟩) (show ty L cl (sk 3) 3 from ⟨(hS 3 rfl).1, by rw [(hS 3 rfl).2]; rfl⟩) (fun t23 t2 t3 => ?_)
  refine ⟨1434, _, by decide, C_join hW hS ht h_i h_j hm (by omega), fun v L2 cl2 ln2 iv2 rv2 h => ?_⟩
  obtain ⟨f, rfl, hX, hF, hW2, rg, ex, kp11, kp12, kp13, kp14, kp15, kp16, tbx, kbx, kr9, kr10⟩ := h
  exact ⟨f, rfl, by omega, hX, hW2, ex.2, ex.1, ⟨⟨trivial, ⟨(KSQ.fr hW ht hF kr9 kr10 rfl rfl rfl), (KSC.fr hW ht hF kr9 kr10 rfl rfl rfl rfl), kp15, kp16, ⟨hF.i (tysq (t := 5) hS rfl rfl) rfl 2, fun ss hs => CT.fr hs hW (tysq (t := 5) hS rfl rfl) hF rfl rfl rfl rfl rfl⟩, ⟨hF.i (tysq (t := 4) hS rfl rfl) rfl 2, fun ss hs => CT.fr hs hW (tysq (t := 4) hS rfl rfl) hF rfl rfl rfl rfl rfl⟩, (FKP.fr hW hS hF rfl rfl rfl rfl)⟩⟩, ⟨kp14, kp11, kp12, kp13⟩, ⟨hF.i t2 rfl 2, fun ss hs => CT.fr hs hW t2 hF rfl rfl rfl rfl rfl⟩, ⟨hF.i t3 rfl 2, fun tt ht => CT.fr ht hW t3 hF rfl rfl rfl rfl rfl⟩, tbx, ⟨⟨_, hW, hW2⟩, hS, hX, kbx⟩⟩⟩
theorem PO_drop {l : Launch} {G : GT} {mi h0 : Nat} {i : Int} (h_i : -2147483648 ≤ i ∧ i ≤ 2147483647) : PressOp l G mi yX11_drop cX11_drop 3 (some .int) 8 [.int (iI i)] h0 (fun sk L cl ln iv rv L2 cl2 ln2 iv2 rv2 f => (True ∧ (KSQ h0 iv rv iv2 rv2 ∧ KSC h0 iv rv iv2 rv2 ∧ iv2 h0 15 = iv h0 15 ∧ iv2 h0 16 = iv h0 16 ∧ (iv2 (sk 5) 2 = iv (sk 5) 2 ∧ ∀ ss, CT iv rv (sk 5) ss → CT iv2 rv2 (sk 5) ss) ∧ (iv2 (sk 4) 2 = iv (sk 4) 2 ∧ ∀ ss, CT iv rv (sk 4) ss → CT iv2 rv2 (sk 4) ss) ∧ FKP sk iv rv iv2 rv2)) ∧ (iv2 h0 14 = iv h0 14 ∧ iv2 h0 11 = iv h0 11 ∧ iv2 h0 12 = iv h0 12 ∧ iv2 h0 13 = iv h0 13) ∧ (iv2 (sk 2) 2 = iv (sk 2) 2 ∧ (∀ ss, CT iv rv (sk 2) ss → CT iv2 rv2 (sk 2) ss)) ∧ (iv2 (sk 3) 2 = iv (sk 3) 2 ∧ (∀ tt, CT iv rv (sk 3) tt → CT iv2 rv2 (sk 3) tt)) ∧ PDRP i f sk iv rv iv2 rv2 ∧ (∃ g, WT g sk L cl ln iv rv ∧ WT g sk L2 cl2 ln2 iv2 rv2) ∧ SKL sk L cl ∧ XT L cl ln L2 cl2 ln2 ∧ (KP L cl (fun _ => False) (fun _ => False) (fun _ => False) (fun _ => False) (fun _ _ => False) iv rv iv2 rv2)) := by
  intro n L cl ln iv rv sk hn hp
  obtain ⟨hW, hS, hm, h23, ht⟩ := hp
  refine hv3 (show ty L cl (sk 23) 23 from ⟨(hS 23 rfl).1, by rw [(hS 23 rfl).2]; rfl⟩) (show ty L cl (sk 2) 2 from ⟨(hS 2 rfl).1, by rw [(hS 2 rfl).2]; rfl⟩) (show ty L cl (sk 3) 3 from ⟨(hS 3 rfl).1, by rw [(hS 3 rfl).2]; rfl⟩) (fun t23 t2 t3 => ?_)
  refine ⟨1236, _, by decide, C_drop hW hS ht h_i hm (by omega), fun v L2 cl2 ln2 iv2 rv2 h => ?_⟩
  obtain ⟨f, rfl, hX, hF, hW2, rg, ex, kp11, kp12, kp13, kp14, kp15, kp16, tbx, kbx, kr9, kr10⟩ := h
  exact ⟨f, rfl, by omega, hX, hW2, ex.2, ex.1, ⟨⟨trivial, ⟨(KSQ.fr hW ht hF kr9 kr10 rfl rfl rfl), (KSC.fr hW ht hF kr9 kr10 rfl rfl rfl rfl), kp15, kp16, ⟨hF.i (tysq (t := 5) hS rfl rfl) rfl 2, fun ss hs => CT.fr hs hW (tysq (t := 5) hS rfl rfl) hF rfl rfl rfl rfl rfl⟩, ⟨hF.i (tysq (t := 4) hS rfl rfl) rfl 2, fun ss hs => CT.fr hs hW (tysq (t := 4) hS rfl rfl) hF rfl rfl rfl rfl rfl⟩, (FKP.fr hW hS hF rfl rfl rfl rfl)⟩⟩, ⟨kp14, kp11, kp12, kp13⟩, ⟨hF.i t2 rfl 2, fun ss hs => CT.fr hs hW t2 hF rfl rfl rfl rfl rfl⟩, ⟨hF.i t3 rfl 2, fun tt ht => CT.fr ht hW t3 hF rfl rfl rfl rfl rfl⟩, tbx, ⟨⟨_, hW, hW2⟩, hS, hX, kbx⟩⟩⟩
theorem PO_rule {l : Launch} {G : GT} {mi h0 : Nat} {i : Int} {cnd : Int} {n : Int} (h_i : -2147483648 ≤ i ∧ i ≤ 2147483647) (h_cnd : -2147483648 ≤ cnd ∧ cnd ≤ 2147483647) (h_n : -2147483648 ≤ n ∧ n ≤ 2147483647) : PressOp l G mi yX11_rule cX11_rule 5 (some .int) 9 [.int (iI i), .int (iI cnd), .int (iI n)] h0 (fun sk L cl ln iv rv L2 cl2 ln2 iv2 rv2 f => (True ∧ (KSQ h0 iv rv iv2 rv2 ∧ KSC h0 iv rv iv2 rv2 ∧ iv2 h0 15 = iv h0 15 ∧ iv2 h0 16 = iv h0 16 ∧ (iv2 (sk 5) 2 = iv (sk 5) 2 ∧ ∀ ss, CT iv rv (sk 5) ss → CT iv2 rv2 (sk 5) ss) ∧ (iv2 (sk 4) 2 = iv (sk 4) 2 ∧ ∀ ss, CT iv rv (sk 4) ss → CT iv2 rv2 (sk 4) ss) ∧ FKP sk iv rv iv2 rv2)) ∧ (iv2 h0 14 = iv h0 14 ∧ iv2 h0 11 = iv h0 11 ∧ iv2 h0 12 = iv h0 12 ∧ iv2 h0 13 = iv h0 13) ∧ iv2 (sk 2) 2 = 0 ∧ (iv2 (sk 3) 2 = iv (sk 3) 2 ∧ (∀ tt, CT iv rv (sk 3) tt → CT iv2 rv2 (sk 3) tt)) ∧ PRUL i cnd n f sk iv rv iv2 rv2 ∧ (∃ g, WT g sk L cl ln iv rv ∧ WT g sk L2 cl2 ln2 iv2 rv2) ∧ SKL sk L cl ∧ XT L cl ln L2 cl2 ln2 ∧ (KRU L cl sk iv rv L2 cl2 ln2 iv2 rv2 i cnd n f)) := by
  intro n L cl ln iv rv sk hn hp
  obtain ⟨hW, hS, hm, h23, ht⟩ := hp
  refine hv3 (show ty L cl (sk 23) 23 from ⟨(hS 23 rfl).1, by rw [(hS 23 rfl).2]; rfl⟩) (show ty L cl (sk 2) 2 from ⟨(hS 2 rfl).1, by rw [(hS 2 rfl).2]; rfl⟩) (show ty L cl (sk 3) 3 from ⟨(hS 3 rfl).1, by rw [(hS 3 rfl).2]; rfl⟩) (fun t23 t2 t3 => ?_)
  refine ⟨2320, _, by decide, C_rule hW hS ht h_i h_cnd h_n hm (by omega), fun v L2 cl2 ln2 iv2 rv2 h => ?_⟩
  obtain ⟨f, rfl, hX, hF, hW2, rg, ex, kp11, kp12, kp13, kp14, kp15, kp16, ktz, tbx, kbx, kr9, kr10⟩ := h
  exact ⟨f, rfl, by omega, hX, hW2, ex.2, ex.1, ⟨⟨trivial, ⟨(KSQ.fr hW ht hF kr9 kr10 rfl rfl rfl), (KSC.fr hW ht hF kr9 kr10 rfl rfl rfl rfl), kp15, kp16, ⟨hF.i (tysq (t := 5) hS rfl rfl) rfl 2, fun ss hs => CT.fr hs hW (tysq (t := 5) hS rfl rfl) hF rfl rfl rfl rfl rfl⟩, ⟨hF.i (tysq (t := 4) hS rfl rfl) rfl 2, fun ss hs => CT.fr hs hW (tysq (t := 4) hS rfl rfl) hF rfl rfl rfl rfl rfl⟩, (FKP.fr hW hS hF rfl rfl rfl rfl)⟩⟩, ⟨kp14, kp11, kp12, kp13⟩, ktz, ⟨hF.i t3 rfl 2, fun tt ht => CT.fr ht hW t3 hF rfl rfl rfl rfl rfl⟩, tbx, ⟨⟨_, hW, hW2⟩, hS, hX, kbx⟩⟩⟩
theorem PO_condition {l : Launch} {G : GT} {mi h0 : Nat} {i : Int} {j : Int} {cnd : Int} (h_i : -2147483648 ≤ i ∧ i ≤ 2147483647) (h_j : -2147483648 ≤ j ∧ j ≤ 2147483647) (h_cnd : -2147483648 ≤ cnd ∧ cnd ≤ 2147483647) : PressOp l G mi yX11_condition cX11_condition 7 (some .int) 8 [.int (iI i), .int (iI j), .int (iI cnd)] h0 (fun sk L cl ln iv rv L2 cl2 ln2 iv2 rv2 f => (True ∧ (KSQ h0 iv rv iv2 rv2 ∧ KSC h0 iv rv iv2 rv2 ∧ iv2 h0 15 = iv h0 15 ∧ iv2 h0 16 = iv h0 16 ∧ (iv2 (sk 5) 2 = iv (sk 5) 2 ∧ ∀ ss, CT iv rv (sk 5) ss → CT iv2 rv2 (sk 5) ss) ∧ (iv2 (sk 4) 2 = iv (sk 4) 2 ∧ ∀ ss, CT iv rv (sk 4) ss → CT iv2 rv2 (sk 4) ss) ∧ FKP sk iv rv iv2 rv2)) ∧ (iv2 h0 14 = iv h0 14 ∧ iv2 h0 11 = iv h0 11 ∧ iv2 h0 12 = iv h0 12 ∧ iv2 h0 13 = iv h0 13) ∧ (iv2 (sk 2) 2 = iv (sk 2) 2 ∧ (∀ ss, CT iv rv (sk 2) ss → CT iv2 rv2 (sk 2) ss)) ∧ (iv2 (sk 3) 2 = iv (sk 3) 2 ∧ (∀ tt, CT iv rv (sk 3) tt → CT iv2 rv2 (sk 3) tt)) ∧ PCND i j cnd f sk iv rv iv2 rv2 ∧ (∃ g, WT g sk L cl ln iv rv ∧ WT g sk L2 cl2 ln2 iv2 rv2) ∧ SKL sk L cl ∧ XT L cl ln L2 cl2 ln2 ∧ (KCN L cl sk iv rv iv2 rv2 i j cnd f)) := by
  intro n L cl ln iv rv sk hn hp
  obtain ⟨hW, hS, hm, h23, ht⟩ := hp
  refine hv3 (show ty L cl (sk 23) 23 from ⟨(hS 23 rfl).1, by rw [(hS 23 rfl).2]; rfl⟩) (show ty L cl (sk 2) 2 from ⟨(hS 2 rfl).1, by rw [(hS 2 rfl).2]; rfl⟩) (show ty L cl (sk 3) 3 from ⟨(hS 3 rfl).1, by rw [(hS 3 rfl).2]; rfl⟩) (fun t23 t2 t3 => ?_)
  refine ⟨1236, _, by decide, C_condition hW hS ht h_i h_j h_cnd hm (by omega), fun v L2 cl2 ln2 iv2 rv2 h => ?_⟩
  obtain ⟨f, rfl, hX, hF, hW2, rg, ex, kp11, kp12, kp13, kp14, kp15, kp16, tbx, kbx, kr9, kr10⟩ := h
  exact ⟨f, rfl, by omega, hX, hW2, ex.2, ex.1, ⟨⟨trivial, ⟨(KSQ.fr hW ht hF kr9 kr10 rfl rfl rfl), (KSC.fr hW ht hF kr9 kr10 rfl rfl rfl rfl), kp15, kp16, ⟨hF.i (tysq (t := 5) hS rfl rfl) rfl 2, fun ss hs => CT.fr hs hW (tysq (t := 5) hS rfl rfl) hF rfl rfl rfl rfl rfl⟩, ⟨hF.i (tysq (t := 4) hS rfl rfl) rfl 2, fun ss hs => CT.fr hs hW (tysq (t := 4) hS rfl rfl) hF rfl rfl rfl rfl rfl⟩, (FKP.fr hW hS hF rfl rfl rfl rfl)⟩⟩, ⟨kp14, kp11, kp12, kp13⟩, ⟨hF.i t2 rfl 2, fun ss hs => CT.fr hs hW t2 hF rfl rfl rfl rfl rfl⟩, ⟨hF.i t3 rfl 2, fun tt ht => CT.fr ht hW t3 hF rfl rfl rfl rfl rfl⟩, tbx, ⟨⟨_, hW, hW2⟩, hS, hX, kbx⟩⟩⟩
theorem PO_indicator {l : Launch} {G : GT} {mi h0 : Nat} {i : Int} {j : Int} (h_i : -2147483648 ≤ i ∧ i ≤ 2147483647) (h_j : -2147483648 ≤ j ∧ j ≤ 2147483647) : PressOp l G mi yX11_indicator cX11_indicator 4 (some .int) 9 [.int (iI i), .int (iI j)] h0 (fun sk L cl ln iv rv L2 cl2 ln2 iv2 rv2 f => (True ∧ (KSQ h0 iv rv iv2 rv2 ∧ KSC h0 iv rv iv2 rv2 ∧ iv2 h0 15 = iv h0 15 ∧ iv2 h0 16 = iv h0 16 ∧ (iv2 (sk 5) 2 = iv (sk 5) 2 ∧ ∀ ss, CT iv rv (sk 5) ss → CT iv2 rv2 (sk 5) ss) ∧ (iv2 (sk 4) 2 = iv (sk 4) 2 ∧ ∀ ss, CT iv rv (sk 4) ss → CT iv2 rv2 (sk 4) ss) ∧ FKP sk iv rv iv2 rv2)) ∧ (iv2 h0 14 = iv h0 14 ∧ iv2 h0 11 = iv h0 11 ∧ iv2 h0 12 = iv h0 12 ∧ iv2 h0 13 = iv h0 13) ∧ iv2 (sk 2) 2 = 0 ∧ (iv2 (sk 3) 2 = iv (sk 3) 2 ∧ (∀ tt, CT iv rv (sk 3) tt → CT iv2 rv2 (sk 3) tt)) ∧ PIND i j f sk iv rv iv2 rv2 ∧ (∃ g, WT g sk L cl ln iv rv ∧ WT g sk L2 cl2 ln2 iv2 rv2) ∧ SKL sk L cl ∧ XT L cl ln L2 cl2 ln2 ∧ (KIN L cl sk iv rv L2 cl2 ln2 iv2 rv2 i j f)) := by
  intro n L cl ln iv rv sk hn hp
  obtain ⟨hW, hS, hm, h23, ht⟩ := hp
  refine hv3 (show ty L cl (sk 23) 23 from ⟨(hS 23 rfl).1, by rw [(hS 23 rfl).2]; rfl⟩) (show ty L cl (sk 2) 2 from ⟨(hS 2 rfl).1, by rw [(hS 2 rfl).2]; rfl⟩) (show ty L cl (sk 3) 3 from ⟨(hS 3 rfl).1, by rw [(hS 3 rfl).2]; rfl⟩) (fun t23 t2 t3 => ?_)
  refine ⟨1300, _, by decide, C_indicator hW hS ht h_i h_j hm (by omega), fun v L2 cl2 ln2 iv2 rv2 h => ?_⟩
  obtain ⟨f, rfl, hX, hF, hW2, rg, ex, kp11, kp12, kp13, kp14, kp15, kp16, ktz, tbx, kbx, kr9, kr10⟩ := h
  exact ⟨f, rfl, by omega, hX, hW2, ex.2, ex.1, ⟨⟨trivial, ⟨(KSQ.fr hW ht hF kr9 kr10 rfl rfl rfl), (KSC.fr hW ht hF kr9 kr10 rfl rfl rfl rfl), kp15, kp16, ⟨hF.i (tysq (t := 5) hS rfl rfl) rfl 2, fun ss hs => CT.fr hs hW (tysq (t := 5) hS rfl rfl) hF rfl rfl rfl rfl rfl⟩, ⟨hF.i (tysq (t := 4) hS rfl rfl) rfl 2, fun ss hs => CT.fr hs hW (tysq (t := 4) hS rfl rfl) hF rfl rfl rfl rfl rfl⟩, (FKP.fr hW hS hF rfl rfl rfl rfl)⟩⟩, ⟨kp14, kp11, kp12, kp13⟩, ktz, ⟨hF.i t3 rfl 2, fun tt ht => CT.fr ht hW t3 hF rfl rfl rfl rfl rfl⟩, tbx, ⟨⟨_, hW, hW2⟩, hS, hX, kbx⟩⟩⟩
theorem PO_undo {l : Launch} {G : GT} {mi h0 : Nat} : PressOp l G mi yX11_undo cX11_undo 1 (some .int) 5 [] h0 (fun sk L cl ln iv rv L2 cl2 ln2 iv2 rv2 f => (True ∧ (KSQ h0 iv rv iv2 rv2 ∧ KSC h0 iv rv iv2 rv2 ∧ iv2 h0 15 = iv h0 15 ∧ iv2 h0 16 = iv h0 16 ∧ (iv2 (sk 5) 2 = iv (sk 5) 2 ∧ ∀ ss, CT iv rv (sk 5) ss → CT iv2 rv2 (sk 5) ss) ∧ (iv2 (sk 4) 2 = iv (sk 4) 2 ∧ ∀ ss, CT iv rv (sk 4) ss → CT iv2 rv2 (sk 4) ss) ∧ FKP sk iv rv iv2 rv2)) ∧ (iv2 h0 14 = iv h0 14 ∧ iv2 h0 11 = iv h0 11 ∧ iv2 h0 12 = iv h0 12 ∧ iv2 h0 13 = iv h0 13) ∧ (iv2 (sk 2) 2 = iv (sk 2) 2 ∧ (∀ ss, CT iv rv (sk 2) ss → CT iv2 rv2 (sk 2) ss)) ∧ (iv2 (sk 3) 2 = iv (sk 3) 2 ∧ (∀ tt, CT iv rv (sk 3) tt → CT iv2 rv2 (sk 3) tt)) ∧ PUNX f sk iv rv iv2 rv2 ∧ (∃ g, WT g sk L cl ln iv rv ∧ WT g sk L2 cl2 ln2 iv2 rv2) ∧ SKL sk L cl ∧ XT L cl ln L2 cl2 ln2 ∧ ((f = 0 ∧ KP L cl (fun _ => False) (fun _ => False) (fun _ => False) (fun _ => False) (fun _ _ => False) iv rv iv2 rv2) ∨ (f = 1 ∧ ∃ ch, el rv (sk 23) (iv (sk 23) 2 - 1).toNat = some ch ∧ UKP L cl ch iv rv iv2 rv2))) := by
  intro n L cl ln iv rv sk hn hp
  obtain ⟨hW, hS, hm, h23, ht⟩ := hp
  refine hv3 (show ty L cl (sk 23) 23 from ⟨(hS 23 rfl).1, by rw [(hS 23 rfl).2]; rfl⟩) (show ty L cl (sk 2) 2 from ⟨(hS 2 rfl).1, by rw [(hS 2 rfl).2]; rfl⟩) (show ty L cl (sk 3) 3 from ⟨(hS 3 rfl).1, by rw [(hS 3 rfl).2]; rfl⟩) (fun t23 t2 t3 => ?_)
  refine ⟨0, _, by decide, C_undo hW hS ht  hm, fun v L2 cl2 ln2 iv2 rv2 h => ?_⟩
  obtain ⟨f, rfl, rfl, rfl, rfl, hF, hW2, rg, ex, kp11, kp12, kp13, kp14, kp15, kp16, tbx, kbx, kr9, kr10⟩ := h
  exact ⟨f, rfl, by omega, XT.refl, hW2, ex.2, ex.1, ⟨⟨trivial, ⟨(KSQ.fr hW ht hF kr9 kr10 rfl rfl rfl), (KSC.fr hW ht hF kr9 kr10 rfl rfl rfl rfl), kp15, kp16, ⟨hF.i (tysq (t := 5) hS rfl rfl) rfl 2, fun ss hs => CT.fr hs hW (tysq (t := 5) hS rfl rfl) hF rfl rfl rfl rfl rfl⟩, ⟨hF.i (tysq (t := 4) hS rfl rfl) rfl 2, fun ss hs => CT.fr hs hW (tysq (t := 4) hS rfl rfl) hF rfl rfl rfl rfl rfl⟩, (FKP.fr hW hS hF rfl rfl rfl rfl)⟩⟩, ⟨kp14, kp11, kp12, kp13⟩, ⟨hF.i t2 rfl 2, fun ss hs => CT.fr hs hW t2 hF rfl rfl rfl rfl rfl⟩, ⟨hF.i t3 rfl 2, fun tt ht => CT.fr ht hW t3 hF rfl rfl rfl rfl rfl⟩, tbx, ⟨⟨_, hW, hW2⟩, hS, XT.refl, kbx⟩⟩⟩
theorem PO_text {l : Launch} {G : GT} {mi h0 : Nat} : PressOp l G mi yX11_text cX11_text 2 (some .int) 5 [] h0 (fun sk L cl ln iv rv L2 cl2 ln2 iv2 rv2 f => (True ∧ (KSQ h0 iv rv iv2 rv2 ∧ KSC h0 iv rv iv2 rv2 ∧ iv2 h0 15 = iv h0 15 ∧ iv2 h0 16 = iv h0 16 ∧ (iv2 (sk 5) 2 = iv (sk 5) 2 ∧ ∀ ss, CT iv rv (sk 5) ss → CT iv2 rv2 (sk 5) ss) ∧ (iv2 (sk 4) 2 = iv (sk 4) 2 ∧ ∀ ss, CT iv rv (sk 4) ss → CT iv2 rv2 (sk 4) ss) ∧ FKP sk iv rv iv2 rv2)) ∧ (iv2 h0 14 = iv h0 14 ∧ iv2 h0 11 = iv h0 11 ∧ iv2 h0 12 = iv h0 12 ∧ iv2 h0 13 = iv h0 13) ∧ iv2 (sk 2) 2 = 0 ∧ ((∀ ss, CT iv rv (sk 2) ss → ((f = -1 ∧ iv2 (sk 3) 2 = iv (sk 3) 2 ∧ ¬ (TOK ss (iv (sk 2) 2) ∧ iv (sk 3) 2 + iv (sk 2) 2 ≤ 500)) ∨ (f = iv2 (sk 3) 2 ∧ TOK ss (iv (sk 2) 2) ∧ iv (sk 3) 2 + iv (sk 2) 2 ≤ 500 ∧ ((iv (sk 2) 2 = 0 ∧ iv2 (sk 3) 2 = 0) ∨ (iv (sk 2) 2 ≠ 0 ∧ iv2 (sk 3) 2 = iv (sk 3) 2 + iv (sk 2) 2))))) ∧ (∀ ss tt, CT iv rv (sk 2) ss → CT iv rv (sk 3) tt → (f = -1 → CT iv2 rv2 (sk 3) tt) ∧ (f ≠ -1 → CT iv2 rv2 (sk 3) (apd tt (iv (sk 3) 2).toNat ss)))) ∧ PSAME sk iv rv iv2 rv2 ∧ (∃ g, WT g sk L cl ln iv rv ∧ WT g sk L2 cl2 ln2 iv2 rv2) ∧ SKL sk L cl ∧ XT L cl ln L2 cl2 ln2 ∧ (KP L cl (fun _ => False) (fun _ => False) (fun _ => False) (fun _ => False) (fun _ _ => False) iv rv iv2 rv2)) := by
  intro n L cl ln iv rv sk hn hp
  obtain ⟨hW, hS, hm, h23, ht⟩ := hp
  refine hv3 (show ty L cl (sk 23) 23 from ⟨(hS 23 rfl).1, by rw [(hS 23 rfl).2]; rfl⟩) (show ty L cl (sk 2) 2 from ⟨(hS 2 rfl).1, by rw [(hS 2 rfl).2]; rfl⟩) (show ty L cl (sk 3) 3 from ⟨(hS 3 rfl).1, by rw [(hS 3 rfl).2]; rfl⟩) (fun t23 t2 t3 => ?_)
  refine ⟨0, _, by decide, C_text hW hS ht  , fun v L2 cl2 ln2 iv2 rv2 h => ?_⟩
  obtain ⟨f, rfl, hX, hF, hW2, rg, ex, kp11, kp12, kp13, kp14, kp15, kp16, ktz, txk, kr9, kr10⟩ := h
  exact ⟨f, rfl, by omega, hX, hW2, (MRK.call hm hW hS hX hF rfl rfl), (by have q := hF.i t23 rfl 2; omega), ⟨⟨trivial, ⟨(KSQ.fr hW ht hF kr9 kr10 rfl rfl rfl), (KSC.fr hW ht hF kr9 kr10 rfl rfl rfl rfl), kp15, kp16, ⟨hF.i (tysq (t := 5) hS rfl rfl) rfl 2, fun ss hs => CT.fr hs hW (tysq (t := 5) hS rfl rfl) hF rfl rfl rfl rfl rfl⟩, ⟨hF.i (tysq (t := 4) hS rfl rfl) rfl 2, fun ss hs => CT.fr hs hW (tysq (t := 4) hS rfl rfl) hF rfl rfl rfl rfl rfl⟩, (FKP.fr hW hS hF rfl rfl rfl rfl)⟩⟩, ⟨kp14, kp11, kp12, kp13⟩, ktz, ⟨ex, txk⟩, (PSAME.fr hW hS hF rfl rfl rfl rfl rfl rfl rfl), ⟨⟨_, hW, hW2⟩, hS, hX, (KP.fr hW hF rfl)⟩⟩⟩
theorem PO_measure {l : Launch} {G : GT} {mi h0 : Nat} {x : Int} {y : Int} {h : Int} (h_x : -2147483648 ≤ x ∧ x ≤ 2147483647) (h_y : -2147483648 ≤ y ∧ y ≤ 2147483647) (h_h : -2147483648 ≤ h ∧ h ≤ 2147483647) : PressOp l G mi yX11_measure cX11_measure 4 (some .int) 1 [.int (iI x), .int (iI y), .int (iI h)] h0 (fun sk L cl ln iv rv L2 cl2 ln2 iv2 rv2 f => (((f = 1 ∧ 1 ≤ x ∧ x ≤ 100 ∧ 1 ≤ y ∧ y ≤ 50 ∧ 1 ≤ h ∧ h ≤ 255) ∨ (f = -1 ∧ ¬ (1 ≤ x ∧ x ≤ 100 ∧ 1 ≤ y ∧ y ≤ 50 ∧ 1 ≤ h ∧ h ≤ 255))) ∧ (KSQ h0 iv rv iv2 rv2 ∧ KSC h0 iv rv iv2 rv2 ∧ iv2 h0 15 = iv h0 15 ∧ iv2 h0 16 = iv h0 16 ∧ (iv2 (sk 5) 2 = iv (sk 5) 2 ∧ ∀ ss, CT iv rv (sk 5) ss → CT iv2 rv2 (sk 5) ss) ∧ (iv2 (sk 4) 2 = iv (sk 4) 2 ∧ ∀ ss, CT iv rv (sk 4) ss → CT iv2 rv2 (sk 4) ss) ∧ FKP sk iv rv iv2 rv2)) ∧ (iv2 h0 14 = iv h0 14 ∧ ((f = 1 ∧ iv2 h0 11 = x ∧ iv2 h0 12 = y ∧ iv2 h0 13 = h) ∨ (f = -1 ∧ iv2 h0 11 = iv h0 11 ∧ iv2 h0 12 = iv h0 12 ∧ iv2 h0 13 = iv h0 13))) ∧ (iv2 (sk 2) 2 = iv (sk 2) 2 ∧ (∀ ss, CT iv rv (sk 2) ss → CT iv2 rv2 (sk 2) ss)) ∧ (iv2 (sk 3) 2 = iv (sk 3) 2 ∧ (∀ tt, CT iv rv (sk 3) tt → CT iv2 rv2 (sk 3) tt)) ∧ PSAME sk iv rv iv2 rv2 ∧ (∃ g, WT g sk L cl ln iv rv ∧ WT g sk L2 cl2 ln2 iv2 rv2) ∧ SKL sk L cl ∧ XT L cl ln L2 cl2 ln2 ∧ (KP L cl (fun _ => False) (fun _ => False) (fun _ => False) (fun _ => False) (fun _ _ => False) iv rv iv2 rv2)) := by
  intro n L cl ln iv rv sk hn hp
  obtain ⟨hW, hS, hm, h23, ht⟩ := hp
  refine hv3 (show ty L cl (sk 23) 23 from ⟨(hS 23 rfl).1, by rw [(hS 23 rfl).2]; rfl⟩) (show ty L cl (sk 2) 2 from ⟨(hS 2 rfl).1, by rw [(hS 2 rfl).2]; rfl⟩) (show ty L cl (sk 3) 3 from ⟨(hS 3 rfl).1, by rw [(hS 3 rfl).2]; rfl⟩) (fun t23 t2 t3 => ?_)
  refine ⟨0, _, by decide, C_measure2 hW hS ht h_x h_y h_h , fun v L2 cl2 ln2 iv2 rv2 h => ?_⟩
  obtain ⟨f, rfl, rfl, rfl, rfl, rfl, hF, hW2, rg, ex, kp14, kp15, kp16⟩ := h
  exact ⟨f, rfl, by omega, XT.refl, hW2, (MRK.call hm hW hS XT.refl hF rfl rfl), (by have q := hF.i t23 rfl 2; omega), ⟨⟨ex.1, ⟨(KSQ.ni hW ht hF rfl), (KSC.fr hW ht hF rfl rfl rfl rfl rfl rfl), kp15, kp16, ⟨hF.i (tysq (t := 5) hS rfl rfl) rfl 2, fun ss hs => CT.fr hs hW (tysq (t := 5) hS rfl rfl) hF rfl rfl rfl rfl rfl⟩, ⟨hF.i (tysq (t := 4) hS rfl rfl) rfl 2, fun ss hs => CT.fr hs hW (tysq (t := 4) hS rfl rfl) hF rfl rfl rfl rfl rfl⟩, (FKP.fr hW hS hF rfl rfl rfl rfl)⟩⟩, ⟨kp14, ex.2⟩, ⟨hF.i t2 rfl 2, fun ss hs => CT.fr hs hW t2 hF rfl rfl rfl rfl rfl⟩, ⟨hF.i t3 rfl 2, fun tt ht => CT.fr ht hW t3 hF rfl rfl rfl rfl rfl⟩, (PSAME.fr hW hS hF rfl rfl rfl rfl rfl rfl rfl), ⟨⟨_, hW, hW2⟩, hS, XT.refl, (KP.fr hW hF rfl)⟩⟩⟩
theorem PO_head {l : Launch} {G : GT} {mi h0 : Nat} {i : Int} (h_i : -2147483648 ≤ i ∧ i ≤ 2147483647) : PressOp l G mi yX11_head cX11_head 6 (some .int) 8 [.int (iI i)] h0 (fun sk L cl ln iv rv L2 cl2 ln2 iv2 rv2 f => (True ∧ (KSQ h0 iv rv iv2 rv2 ∧ KSC h0 iv rv iv2 rv2 ∧ iv2 h0 15 = iv h0 15 ∧ iv2 h0 16 = iv h0 16 ∧ True ∧ (iv2 (sk 4) 2 = iv (sk 4) 2 ∧ ∀ ss, CT iv rv (sk 4) ss → CT iv2 rv2 (sk 4) ss) ∧ FKP sk iv rv iv2 rv2)) ∧ (iv2 h0 14 = iv h0 14 ∧ iv2 h0 11 = iv h0 11 ∧ iv2 h0 12 = iv h0 12 ∧ iv2 h0 13 = iv h0 13) ∧ iv2 (sk 2) 2 = 0 ∧ (iv2 (sk 3) 2 = iv (sk 3) 2 ∧ (∀ tt, CT iv rv (sk 3) tt → CT iv2 rv2 (sk 3) tt)) ∧ PSAME sk iv rv iv2 rv2 ∧ (∃ g, WT g sk L cl ln iv rv ∧ WT g sk L2 cl2 ln2 iv2 rv2) ∧ SKL sk L cl ∧ XT L cl ln L2 cl2 ln2 ∧ (KP L cl (fun _ => False) (fun _ => False) (fun _ => False) (fun _ => False) (fun _ _ => False) iv rv iv2 rv2)) := by
  intro n L cl ln iv rv sk hn hp
  obtain ⟨hW, hS, hm, h23, ht⟩ := hp
  refine hv3 (show ty L cl (sk 23) 23 from ⟨(hS 23 rfl).1, by rw [(hS 23 rfl).2]; rfl⟩) (show ty L cl (sk 2) 2 from ⟨(hS 2 rfl).1, by rw [(hS 2 rfl).2]; rfl⟩) (show ty L cl (sk 3) 3 from ⟨(hS 3 rfl).1, by rw [(hS 3 rfl).2]; rfl⟩) (fun t23 t2 t3 => ?_)
  refine ⟨0, _, by decide, C_head hW hS ht h_i hm, fun v L2 cl2 ln2 iv2 rv2 h => ?_⟩
  obtain ⟨f, rfl, hX, hF, hW2, rg, ex, kp11, kp12, kp13, kp14, kp15, kp16, ktz, kr9, kr10⟩ := h
  exact ⟨f, rfl, by omega, hX, hW2, (MRK.call hm hW hS hX hF rfl rfl), (by have q := hF.i t23 rfl 2; omega), ⟨⟨trivial, ⟨(KSQ.fr hW ht hF kr9 kr10 rfl rfl rfl), (KSC.fr hW ht hF kr9 kr10 rfl rfl rfl rfl), kp15, kp16, trivial, ⟨hF.i (tysq (t := 4) hS rfl rfl) rfl 2, fun ss hs => CT.fr hs hW (tysq (t := 4) hS rfl rfl) hF rfl rfl rfl rfl rfl⟩, (FKP.fr hW hS hF rfl rfl rfl rfl)⟩⟩, ⟨kp14, kp11, kp12, kp13⟩, ktz, ⟨hF.i t3 rfl 2, fun tt ht => CT.fr ht hW t3 hF rfl rfl rfl rfl rfl⟩, (PSAME.fr hW hS hF rfl rfl rfl rfl rfl rfl rfl), ⟨⟨_, hW, hW2⟩, hS, hX, (KP.fr hW hF rfl)⟩⟩⟩
theorem PO_lines {l : Launch} {G : GT} {mi h0 : Nat} : PressOp l G mi yX11_lines cX11_lines 1 (some .int) 0 [] h0 (fun sk L cl ln iv rv L2 cl2 ln2 iv2 rv2 f => (True ∧ (KSQ h0 iv rv iv2 rv2 ∧ KSC h0 iv rv iv2 rv2 ∧ iv2 h0 15 = iv h0 15 ∧ iv2 h0 16 = iv h0 16 ∧ (iv2 (sk 5) 2 = iv (sk 5) 2 ∧ ∀ ss, CT iv rv (sk 5) ss → CT iv2 rv2 (sk 5) ss) ∧ (iv2 (sk 4) 2 = iv (sk 4) 2 ∧ ∀ ss, CT iv rv (sk 4) ss → CT iv2 rv2 (sk 4) ss) ∧ FKP sk iv rv iv2 rv2)) ∧ (iv2 h0 14 = iv h0 14 ∧ iv2 h0 11 = iv h0 11 ∧ iv2 h0 12 = iv h0 12 ∧ iv2 h0 13 = iv h0 13) ∧ (iv2 (sk 2) 2 = iv (sk 2) 2 ∧ (∀ ss, CT iv rv (sk 2) ss → CT iv2 rv2 (sk 2) ss)) ∧ (iv2 (sk 3) 2 = iv (sk 3) 2 ∧ (∀ tt, CT iv rv (sk 3) tt → CT iv2 rv2 (sk 3) tt)) ∧ PSAME sk iv rv iv2 rv2 ∧ (∃ g, WT g sk L cl ln iv rv ∧ WT g sk L2 cl2 ln2 iv2 rv2) ∧ SKL sk L cl ∧ XT L cl ln L2 cl2 ln2 ∧ (KP L cl (fun _ => False) (fun _ => False) (fun _ => False) (fun _ => False) (fun _ _ => False) iv rv iv2 rv2)) := by
  intro n L cl ln iv rv sk hn hp
  obtain ⟨hW, hS, hm, h23, ht⟩ := hp
  refine hv3 (show ty L cl (sk 23) 23 from ⟨(hS 23 rfl).1, by rw [(hS 23 rfl).2]; rfl⟩) (show ty L cl (sk 2) 2 from ⟨(hS 2 rfl).1, by rw [(hS 2 rfl).2]; rfl⟩) (show ty L cl (sk 3) 3 from ⟨(hS 3 rfl).1, by rw [(hS 3 rfl).2]; rfl⟩) (fun t23 t2 t3 => ?_)
  refine ⟨0, _, by decide, C_lines hW hS ht  , fun v L2 cl2 ln2 iv2 rv2 h => ?_⟩
  obtain ⟨f, rfl, rfl, rfl, rfl, rfl, rfl, rg, ex⟩ := h
  exact ⟨f, rfl, by omega, XT.refl, hW, hm, (by omega), ⟨⟨trivial, ⟨KSQ.refl, KSC.refl, rfl, rfl, ⟨rfl, fun ss hs => hs⟩, ⟨rfl, fun ss hs => hs⟩, FKP.refl⟩⟩, ⟨rfl, rfl, rfl, rfl⟩, ⟨rfl, fun ss hs => hs⟩, ⟨rfl, fun tt ht => ht⟩, PSAME.refl, ⟨⟨_, hW, hW⟩, hS, XT.refl, KP.refl⟩⟩⟩
theorem PO_pages {l : Launch} {G : GT} {mi h0 : Nat} : PressOp l G mi yX11_pages cX11_pages 2 (some .int) 2 [] h0 (fun sk L cl ln iv rv L2 cl2 ln2 iv2 rv2 f => (True ∧ (KSQ h0 iv rv iv2 rv2 ∧ KSC h0 iv rv iv2 rv2 ∧ iv2 h0 15 = iv h0 15 ∧ iv2 h0 16 = iv h0 16 ∧ (iv2 (sk 5) 2 = iv (sk 5) 2 ∧ ∀ ss, CT iv rv (sk 5) ss → CT iv2 rv2 (sk 5) ss) ∧ (iv2 (sk 4) 2 = iv (sk 4) 2 ∧ ∀ ss, CT iv rv (sk 4) ss → CT iv2 rv2 (sk 4) ss) ∧ FKP sk iv rv iv2 rv2)) ∧ (iv2 h0 14 = iv h0 14 ∧ iv2 h0 11 = iv h0 11 ∧ iv2 h0 12 = iv h0 12 ∧ iv2 h0 13 = iv h0 13) ∧ (iv2 (sk 2) 2 = iv (sk 2) 2 ∧ (∀ ss, CT iv rv (sk 2) ss → CT iv2 rv2 (sk 2) ss)) ∧ (iv2 (sk 3) 2 = iv (sk 3) 2 ∧ (∀ tt, CT iv rv (sk 3) tt → CT iv2 rv2 (sk 3) tt)) ∧ PSAME sk iv rv iv2 rv2 ∧ (∃ g, WT g sk L cl ln iv rv ∧ WT g sk L2 cl2 ln2 iv2 rv2) ∧ SKL sk L cl ∧ XT L cl ln L2 cl2 ln2 ∧ (KP L cl (fun _ => False) (fun _ => False) (fun _ => False) (fun _ => False) (fun _ _ => False) iv rv iv2 rv2)) := by
  intro n L cl ln iv rv sk hn hp
  obtain ⟨hW, hS, hm, h23, ht⟩ := hp
  refine hv3 (show ty L cl (sk 23) 23 from ⟨(hS 23 rfl).1, by rw [(hS 23 rfl).2]; rfl⟩) (show ty L cl (sk 2) 2 from ⟨(hS 2 rfl).1, by rw [(hS 2 rfl).2]; rfl⟩) (show ty L cl (sk 3) 3 from ⟨(hS 3 rfl).1, by rw [(hS 3 rfl).2]; rfl⟩) (fun t23 t2 t3 => ?_)
  refine ⟨0, _, by decide, C_pages hW hS ht  , fun v L2 cl2 ln2 iv2 rv2 h => ?_⟩
  obtain ⟨f, rfl, rfl, rfl, rfl, rfl, rfl, rg, ex⟩ := h
  exact ⟨f, rfl, by omega, XT.refl, hW, hm, (by omega), ⟨⟨trivial, ⟨KSQ.refl, KSC.refl, rfl, rfl, ⟨rfl, fun ss hs => hs⟩, ⟨rfl, fun ss hs => hs⟩, FKP.refl⟩⟩, ⟨rfl, rfl, rfl, rfl⟩, ⟨rfl, fun ss hs => hs⟩, ⟨rfl, fun tt ht => ht⟩, PSAME.refl, ⟨⟨_, hW, hW⟩, hS, XT.refl, KP.refl⟩⟩⟩
theorem PO_length {l : Launch} {G : GT} {mi h0 : Nat} {i : Int} (h_i : -2147483648 ≤ i ∧ i ≤ 2147483647) : PressOp l G mi yX11_length cX11_length 3 (some .int) 2 [.int (iI i)] h0 (fun sk L cl ln iv rv L2 cl2 ln2 iv2 rv2 f => (True ∧ (KSQ h0 iv rv iv2 rv2 ∧ KSC h0 iv rv iv2 rv2 ∧ iv2 h0 15 = iv h0 15 ∧ iv2 h0 16 = iv h0 16 ∧ (iv2 (sk 5) 2 = iv (sk 5) 2 ∧ ∀ ss, CT iv rv (sk 5) ss → CT iv2 rv2 (sk 5) ss) ∧ (iv2 (sk 4) 2 = iv (sk 4) 2 ∧ ∀ ss, CT iv rv (sk 4) ss → CT iv2 rv2 (sk 4) ss) ∧ FKP sk iv rv iv2 rv2)) ∧ (iv2 h0 14 = iv h0 14 ∧ iv2 h0 11 = iv h0 11 ∧ iv2 h0 12 = iv h0 12 ∧ iv2 h0 13 = iv h0 13) ∧ (iv2 (sk 2) 2 = iv (sk 2) 2 ∧ (∀ ss, CT iv rv (sk 2) ss → CT iv2 rv2 (sk 2) ss)) ∧ (iv2 (sk 3) 2 = iv (sk 3) 2 ∧ (∀ tt, CT iv rv (sk 3) tt → CT iv2 rv2 (sk 3) tt)) ∧ PSAME sk iv rv iv2 rv2 ∧ (∃ g, WT g sk L cl ln iv rv ∧ WT g sk L2 cl2 ln2 iv2 rv2) ∧ SKL sk L cl ∧ XT L cl ln L2 cl2 ln2 ∧ (KP L cl (fun _ => False) (fun _ => False) (fun _ => False) (fun _ => False) (fun _ _ => False) iv rv iv2 rv2)) := by
  intro n L cl ln iv rv sk hn hp
  obtain ⟨hW, hS, hm, h23, ht⟩ := hp
  refine hv3 (show ty L cl (sk 23) 23 from ⟨(hS 23 rfl).1, by rw [(hS 23 rfl).2]; rfl⟩) (show ty L cl (sk 2) 2 from ⟨(hS 2 rfl).1, by rw [(hS 2 rfl).2]; rfl⟩) (show ty L cl (sk 3) 3 from ⟨(hS 3 rfl).1, by rw [(hS 3 rfl).2]; rfl⟩) (fun t23 t2 t3 => ?_)
  refine ⟨0, _, by decide, C_length hW hS ht h_i , fun v L2 cl2 ln2 iv2 rv2 h => ?_⟩
  obtain ⟨f, rfl, rfl, rfl, rfl, rfl, hF, hW2, rg, ex, kp11, kp12, kp13, kp14, kp15, kp16⟩ := h
  exact ⟨f, rfl, by omega, XT.refl, hW2, (MRK.call hm hW hS XT.refl hF rfl rfl), (by have q := hF.i t23 rfl 2; omega), ⟨⟨trivial, ⟨(KSQ.ni hW ht hF rfl), (KSC.fr hW ht hF rfl rfl rfl rfl rfl rfl), kp15, kp16, ⟨hF.i (tysq (t := 5) hS rfl rfl) rfl 2, fun ss hs => CT.fr hs hW (tysq (t := 5) hS rfl rfl) hF rfl rfl rfl rfl rfl⟩, ⟨hF.i (tysq (t := 4) hS rfl rfl) rfl 2, fun ss hs => CT.fr hs hW (tysq (t := 4) hS rfl rfl) hF rfl rfl rfl rfl rfl⟩, (FKP.fr hW hS hF rfl rfl rfl rfl)⟩⟩, ⟨kp14, kp11, kp12, kp13⟩, ⟨hF.i t2 rfl 2, fun ss hs => CT.fr hs hW t2 hF rfl rfl rfl rfl rfl⟩, ⟨hF.i t3 rfl 2, fun tt ht => CT.fr ht hW t3 hF rfl rfl rfl rfl rfl⟩, (PSAME.fr hW hS hF rfl rfl rfl rfl rfl rfl rfl), ⟨⟨_, hW, hW2⟩, hS, XT.refl, (KP.fr hW hF rfl)⟩⟩⟩
theorem PO_cell {l : Launch} {G : GT} {mi h0 : Nat} {i : Int} {j : Int} (h_i : -2147483648 ≤ i ∧ i ≤ 2147483647) (h_j : -2147483648 ≤ j ∧ j ≤ 2147483647) : PressOp l G mi yX11_cell cX11_cell 3 (some .int) 3 [.int (iI i), .int (iI j)] h0 (fun sk L cl ln iv rv L2 cl2 ln2 iv2 rv2 f => (True ∧ (KSQ h0 iv rv iv2 rv2 ∧ KSC h0 iv rv iv2 rv2 ∧ iv2 h0 15 = iv h0 15 ∧ iv2 h0 16 = iv h0 16 ∧ (iv2 (sk 5) 2 = iv (sk 5) 2 ∧ ∀ ss, CT iv rv (sk 5) ss → CT iv2 rv2 (sk 5) ss) ∧ (iv2 (sk 4) 2 = iv (sk 4) 2 ∧ ∀ ss, CT iv rv (sk 4) ss → CT iv2 rv2 (sk 4) ss) ∧ FKP sk iv rv iv2 rv2)) ∧ (iv2 h0 14 = iv h0 14 ∧ iv2 h0 11 = iv h0 11 ∧ iv2 h0 12 = iv h0 12 ∧ iv2 h0 13 = iv h0 13) ∧ (iv2 (sk 2) 2 = iv (sk 2) 2 ∧ (∀ ss, CT iv rv (sk 2) ss → CT iv2 rv2 (sk 2) ss)) ∧ (iv2 (sk 3) 2 = iv (sk 3) 2 ∧ (∀ tt, CT iv rv (sk 3) tt → CT iv2 rv2 (sk 3) tt)) ∧ PSAME sk iv rv iv2 rv2 ∧ (∃ g, WT g sk L cl ln iv rv ∧ WT g sk L2 cl2 ln2 iv2 rv2) ∧ SKL sk L cl ∧ XT L cl ln L2 cl2 ln2 ∧ (KP L cl (fun _ => False) (fun _ => False) (fun _ => False) (fun _ => False) (fun _ _ => False) iv rv iv2 rv2)) := by
  intro n L cl ln iv rv sk hn hp
  obtain ⟨hW, hS, hm, h23, ht⟩ := hp
  refine hv3 (show ty L cl (sk 23) 23 from ⟨(hS 23 rfl).1, by rw [(hS 23 rfl).2]; rfl⟩) (show ty L cl (sk 2) 2 from ⟨(hS 2 rfl).1, by rw [(hS 2 rfl).2]; rfl⟩) (show ty L cl (sk 3) 3 from ⟨(hS 3 rfl).1, by rw [(hS 3 rfl).2]; rfl⟩) (fun t23 t2 t3 => ?_)
  refine ⟨0, _, by decide, C_cell hW hS ht h_i h_j , fun v L2 cl2 ln2 iv2 rv2 h => ?_⟩
  obtain ⟨f, rfl, rfl, rfl, rfl, rfl, hF, hW2, rg, ex, kp11, kp12, kp13, kp14, kp15, kp16⟩ := h
  exact ⟨f, rfl, by omega, XT.refl, hW2, (MRK.call hm hW hS XT.refl hF rfl rfl), (by have q := hF.i t23 rfl 2; omega), ⟨⟨trivial, ⟨(KSQ.ni hW ht hF rfl), (KSC.fr hW ht hF rfl rfl rfl rfl rfl rfl), kp15, kp16, ⟨hF.i (tysq (t := 5) hS rfl rfl) rfl 2, fun ss hs => CT.fr hs hW (tysq (t := 5) hS rfl rfl) hF rfl rfl rfl rfl rfl⟩, ⟨hF.i (tysq (t := 4) hS rfl rfl) rfl 2, fun ss hs => CT.fr hs hW (tysq (t := 4) hS rfl rfl) hF rfl rfl rfl rfl rfl⟩, (FKP.fr hW hS hF rfl rfl rfl rfl)⟩⟩, ⟨kp14, kp11, kp12, kp13⟩, ⟨hF.i t2 rfl 2, fun ss hs => CT.fr hs hW t2 hF rfl rfl rfl rfl rfl⟩, ⟨hF.i t3 rfl 2, fun tt ht => CT.fr ht hW t3 hF rfl rfl rfl rfl rfl⟩, (PSAME.fr hW hS hF rfl rfl rfl rfl rfl rfl rfl), ⟨⟨_, hW, hW2⟩, hS, XT.refl, (KP.fr hW hF rfl)⟩⟩⟩
theorem PO_page {l : Launch} {G : GT} {mi h0 : Nat} {i : Int} {j : Int} {k : Int} (h_i : -2147483648 ≤ i ∧ i ≤ 2147483647) (h_j : -2147483648 ≤ j ∧ j ≤ 2147483647) (h_k : -2147483648 ≤ k ∧ k ≤ 2147483647) : PressOp l G mi yX11_page cX11_page 5 (some .int) 3 [.int (iI i), .int (iI j), .int (iI k)] h0 (fun sk L cl ln iv rv L2 cl2 ln2 iv2 rv2 f => (True ∧ (KSQ h0 iv rv iv2 rv2 ∧ KSC h0 iv rv iv2 rv2 ∧ iv2 h0 15 = iv h0 15 ∧ iv2 h0 16 = iv h0 16 ∧ (iv2 (sk 5) 2 = iv (sk 5) 2 ∧ ∀ ss, CT iv rv (sk 5) ss → CT iv2 rv2 (sk 5) ss) ∧ (iv2 (sk 4) 2 = iv (sk 4) 2 ∧ ∀ ss, CT iv rv (sk 4) ss → CT iv2 rv2 (sk 4) ss) ∧ FKP sk iv rv iv2 rv2)) ∧ (iv2 h0 14 = iv h0 14 ∧ iv2 h0 11 = iv h0 11 ∧ iv2 h0 12 = iv h0 12 ∧ iv2 h0 13 = iv h0 13) ∧ (iv2 (sk 2) 2 = iv (sk 2) 2 ∧ (∀ ss, CT iv rv (sk 2) ss → CT iv2 rv2 (sk 2) ss)) ∧ (iv2 (sk 3) 2 = iv (sk 3) 2 ∧ (∀ tt, CT iv rv (sk 3) tt → CT iv2 rv2 (sk 3) tt)) ∧ PSAME sk iv rv iv2 rv2 ∧ (∃ g, WT g sk L cl ln iv rv ∧ WT g sk L2 cl2 ln2 iv2 rv2) ∧ SKL sk L cl ∧ XT L cl ln L2 cl2 ln2 ∧ (KP L cl (fun _ => False) (fun _ => False) (fun _ => False) (fun _ => False) (fun _ _ => False) iv rv iv2 rv2)) := by
  intro n L cl ln iv rv sk hn hp
  obtain ⟨hW, hS, hm, h23, ht⟩ := hp
  refine hv3 (show ty L cl (sk 23) 23 from ⟨(hS 23 rfl).1, by rw [(hS 23 rfl).2]; rfl⟩) (show ty L cl (sk 2) 2 from ⟨(hS 2 rfl).1, by rw [(hS 2 rfl).2]; rfl⟩) (show ty L cl (sk 3) 3 from ⟨(hS 3 rfl).1, by rw [(hS 3 rfl).2]; rfl⟩) (fun t23 t2 t3 => ?_)
  refine ⟨0, _, by decide, C_page hW hS ht h_i h_j h_k , fun v L2 cl2 ln2 iv2 rv2 h => ?_⟩
  obtain ⟨f, rfl, rfl, rfl, rfl, rfl, hF, hW2, rg, ex, kp11, kp12, kp13, kp14, kp15, kp16⟩ := h
  exact ⟨f, rfl, by omega, XT.refl, hW2, (MRK.call hm hW hS XT.refl hF rfl rfl), (by have q := hF.i t23 rfl 2; omega), ⟨⟨trivial, ⟨(KSQ.ni hW ht hF rfl), (KSC.fr hW ht hF rfl rfl rfl rfl rfl rfl), kp15, kp16, ⟨hF.i (tysq (t := 5) hS rfl rfl) rfl 2, fun ss hs => CT.fr hs hW (tysq (t := 5) hS rfl rfl) hF rfl rfl rfl rfl rfl⟩, ⟨hF.i (tysq (t := 4) hS rfl rfl) rfl 2, fun ss hs => CT.fr hs hW (tysq (t := 4) hS rfl rfl) hF rfl rfl rfl rfl rfl⟩, (FKP.fr hW hS hF rfl rfl rfl rfl)⟩⟩, ⟨kp14, kp11, kp12, kp13⟩, ⟨hF.i t2 rfl 2, fun ss hs => CT.fr hs hW t2 hF rfl rfl rfl rfl rfl⟩, ⟨hF.i t3 rfl 2, fun tt ht => CT.fr ht hW t3 hF rfl rfl rfl rfl rfl⟩, (PSAME.fr hW hS hF rfl rfl rfl rfl rfl rfl rfl), ⟨⟨_, hW, hW2⟩, hS, XT.refl, (KP.fr hW hF rfl)⟩⟩⟩
theorem PO_closed {l : Launch} {G : GT} {mi h0 : Nat} : PressOp l G mi yX11_closed cX11_closed 1 (some .int) 0 [] h0 (fun sk L cl ln iv rv L2 cl2 ln2 iv2 rv2 f => (True ∧ (KSQ h0 iv rv iv2 rv2 ∧ KSC h0 iv rv iv2 rv2 ∧ iv2 h0 15 = iv h0 15 ∧ iv2 h0 16 = iv h0 16 ∧ (iv2 (sk 5) 2 = iv (sk 5) 2 ∧ ∀ ss, CT iv rv (sk 5) ss → CT iv2 rv2 (sk 5) ss) ∧ (iv2 (sk 4) 2 = iv (sk 4) 2 ∧ ∀ ss, CT iv rv (sk 4) ss → CT iv2 rv2 (sk 4) ss) ∧ FKP sk iv rv iv2 rv2)) ∧ (iv2 h0 14 = iv h0 14 ∧ iv2 h0 11 = iv h0 11 ∧ iv2 h0 12 = iv h0 12 ∧ iv2 h0 13 = iv h0 13) ∧ (iv2 (sk 2) 2 = iv (sk 2) 2 ∧ (∀ ss, CT iv rv (sk 2) ss → CT iv2 rv2 (sk 2) ss)) ∧ (iv2 (sk 3) 2 = iv (sk 3) 2 ∧ (∀ tt, CT iv rv (sk 3) tt → CT iv2 rv2 (sk 3) tt)) ∧ PSAME sk iv rv iv2 rv2 ∧ (∃ g, WT g sk L cl ln iv rv ∧ WT g sk L2 cl2 ln2 iv2 rv2) ∧ SKL sk L cl ∧ XT L cl ln L2 cl2 ln2 ∧ (KP L cl (fun _ => False) (fun _ => False) (fun _ => False) (fun _ => False) (fun _ _ => False) iv rv iv2 rv2)) := by
  intro n L cl ln iv rv sk hn hp
  obtain ⟨hW, hS, hm, h23, ht⟩ := hp
  refine hv3 (show ty L cl (sk 23) 23 from ⟨(hS 23 rfl).1, by rw [(hS 23 rfl).2]; rfl⟩) (show ty L cl (sk 2) 2 from ⟨(hS 2 rfl).1, by rw [(hS 2 rfl).2]; rfl⟩) (show ty L cl (sk 3) 3 from ⟨(hS 3 rfl).1, by rw [(hS 3 rfl).2]; rfl⟩) (fun t23 t2 t3 => ?_)
  refine ⟨0, _, by decide, C_closed hW hS ht  , fun v L2 cl2 ln2 iv2 rv2 h => ?_⟩
  obtain ⟨f, rfl, rfl, rfl, rfl, rfl, rfl, rg, ex⟩ := h
  exact ⟨f, rfl, by omega, XT.refl, hW, hm, (by omega), ⟨⟨trivial, ⟨KSQ.refl, KSC.refl, rfl, rfl, ⟨rfl, fun ss hs => hs⟩, ⟨rfl, fun ss hs => hs⟩, FKP.refl⟩⟩, ⟨rfl, rfl, rfl, rfl⟩, ⟨rfl, fun ss hs => hs⟩, ⟨rfl, fun tt ht => ht⟩, PSAME.refl, ⟨⟨_, hW, hW⟩, hS, XT.refl, KP.refl⟩⟩⟩
theorem PO_read {l : Launch} {G : GT} {mi h0 : Nat} {i : Int} {x : Int} {n : Int} (h_i : -2147483648 ≤ i ∧ i ≤ 2147483647) (h_x : -2147483648 ≤ x ∧ x ≤ 2147483647) (h_n : -2147483648 ≤ n ∧ n ≤ 2147483647) : PressOp l G mi yX11_read cX11_read 6 (some .int) 10 [.int (iI i), .int (iI x), .int (iI n)] h0 (fun sk L cl ln iv rv L2 cl2 ln2 iv2 rv2 f => (True ∧ (KSQ h0 iv rv iv2 rv2 ∧ KSC h0 iv rv iv2 rv2 ∧ iv2 h0 15 = iv h0 15 ∧ iv2 h0 16 = iv h0 16 ∧ (iv2 (sk 5) 2 = iv (sk 5) 2 ∧ ∀ ss, CT iv rv (sk 5) ss → CT iv2 rv2 (sk 5) ss) ∧ True ∧ FKP sk iv rv iv2 rv2)) ∧ (iv2 h0 14 = iv h0 14 ∧ iv2 h0 11 = iv h0 11 ∧ iv2 h0 12 = iv h0 12 ∧ iv2 h0 13 = iv h0 13) ∧ (iv2 (sk 2) 2 = iv (sk 2) 2 ∧ (∀ ss, CT iv rv (sk 2) ss → CT iv2 rv2 (sk 2) ss)) ∧ (iv2 (sk 3) 2 = iv (sk 3) 2 ∧ (∀ tt, CT iv rv (sk 3) tt → CT iv2 rv2 (sk 3) tt)) ∧ PSAME sk iv rv iv2 rv2 ∧ (∃ g, WT g sk L cl ln iv rv ∧ WT g sk L2 cl2 ln2 iv2 rv2) ∧ SKL sk L cl ∧ XT L cl ln L2 cl2 ln2 ∧ (KP L cl (fun _ => False) (fun _ => False) (fun _ => False) (fun _ => False) (fun _ _ => False) iv rv iv2 rv2)) := by
  intro n L cl ln iv rv sk hn hp
  obtain ⟨hW, hS, hm, h23, ht⟩ := hp
  refine hv3 (show ty L cl (sk 23) 23 from ⟨(hS 23 rfl).1, by rw [(hS 23 rfl).2]; rfl⟩) (show ty L cl (sk 2) 2 from ⟨(hS 2 rfl).1, by rw [(hS 2 rfl).2]; rfl⟩) (show ty L cl (sk 3) 3 from ⟨(hS 3 rfl).1, by rw [(hS 3 rfl).2]; rfl⟩) (fun t23 t2 t3 => ?_)
  refine ⟨0, _, by decide, C_read hW hS ht h_i h_x h_n hm, fun v L2 cl2 ln2 iv2 rv2 h => ?_⟩
  obtain ⟨f, rfl, hX, hF, hW2, rg, ex, kp11, kp12, kp13, kp14, kp15, kp16, kr9, kr10⟩ := h
  exact ⟨f, rfl, by omega, hX, hW2, (MRK.call hm hW hS hX hF rfl rfl), (by have q := hF.i t23 rfl 2; omega), ⟨⟨trivial, ⟨(KSQ.fr hW ht hF kr9 kr10 rfl rfl rfl), (KSC.fr hW ht hF kr9 kr10 rfl rfl rfl rfl), kp15, kp16, ⟨hF.i (tysq (t := 5) hS rfl rfl) rfl 2, fun ss hs => CT.fr hs hW (tysq (t := 5) hS rfl rfl) hF rfl rfl rfl rfl rfl⟩, trivial, (FKP.fr hW hS hF rfl rfl rfl rfl)⟩⟩, ⟨kp14, kp11, kp12, kp13⟩, ⟨hF.i t2 rfl 2, fun ss hs => CT.fr hs hW t2 hF rfl rfl rfl rfl rfl⟩, ⟨hF.i t3 rfl 2, fun tt ht => CT.fr ht hW t3 hF rfl rfl rfl rfl rfl⟩, (PSAME.fr hW hS hF rfl rfl rfl rfl rfl rfl rfl), ⟨⟨_, hW, hW2⟩, hS, hX, (KP.fr hW hF rfl)⟩⟩⟩
theorem PO_letter {l : Launch} {G : GT} {mi h0 : Nat} {i : Int} (h_i : -2147483648 ≤ i ∧ i ≤ 2147483647) : PressOp l G mi yX11_letter cX11_letter 2 (some .int) 1 [.int (iI i)] h0 (fun sk L cl ln iv rv L2 cl2 ln2 iv2 rv2 f => (True ∧ (KSQ h0 iv rv iv2 rv2 ∧ KSC h0 iv rv iv2 rv2 ∧ iv2 h0 15 = iv h0 15 ∧ iv2 h0 16 = iv h0 16 ∧ (iv2 (sk 5) 2 = iv (sk 5) 2 ∧ ∀ ss, CT iv rv (sk 5) ss → CT iv2 rv2 (sk 5) ss) ∧ (iv2 (sk 4) 2 = iv (sk 4) 2 ∧ ∀ ss, CT iv rv (sk 4) ss → CT iv2 rv2 (sk 4) ss) ∧ FKP sk iv rv iv2 rv2)) ∧ (iv2 h0 14 = iv h0 14 ∧ iv2 h0 11 = iv h0 11 ∧ iv2 h0 12 = iv h0 12 ∧ iv2 h0 13 = iv h0 13) ∧ (iv2 (sk 2) 2 = iv (sk 2) 2 ∧ (∀ ss, CT iv rv (sk 2) ss → CT iv2 rv2 (sk 2) ss)) ∧ (iv2 (sk 3) 2 = iv (sk 3) 2 ∧ (∀ tt, CT iv rv (sk 3) tt → CT iv2 rv2 (sk 3) tt)) ∧ PSAME sk iv rv iv2 rv2 ∧ (∃ g, WT g sk L cl ln iv rv ∧ WT g sk L2 cl2 ln2 iv2 rv2) ∧ SKL sk L cl ∧ XT L cl ln L2 cl2 ln2 ∧ (KP L cl (fun _ => False) (fun _ => False) (fun _ => False) (fun _ => False) (fun _ _ => False) iv rv iv2 rv2)) := by
  intro n L cl ln iv rv sk hn hp
  obtain ⟨hW, hS, hm, h23, ht⟩ := hp
  refine hv3 (show ty L cl (sk 23) 23 from ⟨(hS 23 rfl).1, by rw [(hS 23 rfl).2]; rfl⟩) (show ty L cl (sk 2) 2 from ⟨(hS 2 rfl).1, by rw [(hS 2 rfl).2]; rfl⟩) (show ty L cl (sk 3) 3 from ⟨(hS 3 rfl).1, by rw [(hS 3 rfl).2]; rfl⟩) (fun t23 t2 t3 => ?_)
  refine ⟨0, _, by decide, C_letter hW hS ht h_i , fun v L2 cl2 ln2 iv2 rv2 h => ?_⟩
  obtain ⟨f, rfl, rfl, rfl, rfl, rfl, hF, hW2, rg, ex, kp11, kp12, kp13, kp14, kp15, kp16⟩ := h
  exact ⟨f, rfl, by omega, XT.refl, hW2, (MRK.call hm hW hS XT.refl hF rfl rfl), (by have q := hF.i t23 rfl 2; omega), ⟨⟨trivial, ⟨(KSQ.ni hW ht hF rfl), (KSC.fr hW ht hF rfl rfl rfl rfl rfl rfl), kp15, kp16, ⟨hF.i (tysq (t := 5) hS rfl rfl) rfl 2, fun ss hs => CT.fr hs hW (tysq (t := 5) hS rfl rfl) hF rfl rfl rfl rfl rfl⟩, ⟨hF.i (tysq (t := 4) hS rfl rfl) rfl 2, fun ss hs => CT.fr hs hW (tysq (t := 4) hS rfl rfl) hF rfl rfl rfl rfl rfl⟩, (FKP.fr hW hS hF rfl rfl rfl rfl)⟩⟩, ⟨kp14, kp11, kp12, kp13⟩, ⟨hF.i t2 rfl 2, fun ss hs => CT.fr hs hW t2 hF rfl rfl rfl rfl rfl⟩, ⟨hF.i t3 rfl 2, fun tt ht => CT.fr ht hW t3 hF rfl rfl rfl rfl rfl⟩, (PSAME.fr hW hS hF rfl rfl rfl rfl rfl rfl rfl), ⟨⟨_, hW, hW2⟩, hS, XT.refl, (KP.fr hW hF rfl)⟩⟩⟩
theorem PO_failed {l : Launch} {G : GT} {mi h0 : Nat} {i : Int} {x : Int} (h_i : -2147483648 ≤ i ∧ i ≤ 2147483647) (h_x : -2147483648 ≤ x ∧ x ≤ 2147483647) : PressOp l G mi yX11_failed cX11_failed 4 (some .int) 1 [.int (iI i), .int (iI x)] h0 (fun sk L cl ln iv rv L2 cl2 ln2 iv2 rv2 f => (True ∧ (KSQ h0 iv rv iv2 rv2 ∧ KSC h0 iv rv iv2 rv2 ∧ iv2 h0 15 = iv h0 15 ∧ iv2 h0 16 = iv h0 16 ∧ (iv2 (sk 5) 2 = iv (sk 5) 2 ∧ ∀ ss, CT iv rv (sk 5) ss → CT iv2 rv2 (sk 5) ss) ∧ (iv2 (sk 4) 2 = iv (sk 4) 2 ∧ ∀ ss, CT iv rv (sk 4) ss → CT iv2 rv2 (sk 4) ss) ∧ FKP sk iv rv iv2 rv2)) ∧ ((((i < 0 ∨ 7 < i) ∧ f = -1 ∧ iv2 h0 14 = iv h0 14) ∨ (0 ≤ i ∧ i ≤ 7 ∧ iI (iv2 h0 14) = fdv (iI (iv h0 14)) i x ∧ iI f = bcn (iI (iv2 h0 14)))) ∧ iv2 h0 11 = iv h0 11 ∧ iv2 h0 12 = iv h0 12 ∧ iv2 h0 13 = iv h0 13) ∧ (iv2 (sk 2) 2 = iv (sk 2) 2 ∧ (∀ ss, CT iv rv (sk 2) ss → CT iv2 rv2 (sk 2) ss)) ∧ (iv2 (sk 3) 2 = iv (sk 3) 2 ∧ (∀ tt, CT iv rv (sk 3) tt → CT iv2 rv2 (sk 3) tt)) ∧ PSAME sk iv rv iv2 rv2 ∧ (∃ g, WT g sk L cl ln iv rv ∧ WT g sk L2 cl2 ln2 iv2 rv2) ∧ SKL sk L cl ∧ XT L cl ln L2 cl2 ln2 ∧ (KP L cl (fun _ => False) (fun _ => False) (fun _ => False) (fun _ => False) (fun _ _ => False) iv rv iv2 rv2)) := by
  intro n L cl ln iv rv sk hn hp
  obtain ⟨hW, hS, hm, h23, ht⟩ := hp
  refine hv3 (show ty L cl (sk 23) 23 from ⟨(hS 23 rfl).1, by rw [(hS 23 rfl).2]; rfl⟩) (show ty L cl (sk 2) 2 from ⟨(hS 2 rfl).1, by rw [(hS 2 rfl).2]; rfl⟩) (show ty L cl (sk 3) 3 from ⟨(hS 3 rfl).1, by rw [(hS 3 rfl).2]; rfl⟩) (fun t23 t2 t3 => ?_)
  refine ⟨0, _, by decide, C_failed2 hW hS ht h_i h_x , fun v L2 cl2 ln2 iv2 rv2 h => ?_⟩
  obtain ⟨f, rfl, rfl, rfl, rfl, rfl, hF, hW2, rg, ex, kp11, kp12, kp13, kp15, kp16⟩ := h
  exact ⟨f, rfl, by omega, XT.refl, hW2, (MRK.call hm hW hS XT.refl hF rfl rfl), (by have q := hF.i t23 rfl 2; omega), ⟨⟨trivial, ⟨(KSQ.ni hW ht hF rfl), (KSC.fr hW ht hF rfl rfl rfl rfl rfl rfl), kp15, kp16, ⟨hF.i (tysq (t := 5) hS rfl rfl) rfl 2, fun ss hs => CT.fr hs hW (tysq (t := 5) hS rfl rfl) hF rfl rfl rfl rfl rfl⟩, ⟨hF.i (tysq (t := 4) hS rfl rfl) rfl 2, fun ss hs => CT.fr hs hW (tysq (t := 4) hS rfl rfl) hF rfl rfl rfl rfl rfl⟩, (FKP.fr hW hS hF rfl rfl rfl rfl)⟩⟩, ⟨ex, kp11, kp12, kp13⟩, ⟨hF.i t2 rfl 2, fun ss hs => CT.fr hs hW t2 hF rfl rfl rfl rfl rfl⟩, ⟨hF.i t3 rfl 2, fun tt ht => CT.fr ht hW t3 hF rfl rfl rfl rfl rfl⟩, (PSAME.fr hW hS hF rfl rfl rfl rfl rfl rfl rfl), ⟨⟨_, hW, hW2⟩, hS, XT.refl, (KP.fr hW hF rfl)⟩⟩⟩
theorem PO_readings {l : Launch} {G : GT} {mi h0 : Nat} {i : Int} {j : Int} {n : Int} (h_i : -2147483648 ≤ i ∧ i ≤ 2147483647) (h_j : -2147483648 ≤ j ∧ j ≤ 2147483647) (h_n : -2147483648 ≤ n ∧ n ≤ 2147483647) : PressOp l G mi yX11_readings cX11_readings 6 (some .int) 10 [.int (iI i), .int (iI j), .int (iI n)] h0 (fun sk L cl ln iv rv L2 cl2 ln2 iv2 rv2 f => (True ∧ (KSQ h0 iv rv iv2 rv2 ∧ KSC h0 iv rv iv2 rv2 ∧ iv2 h0 15 = iv h0 15 ∧ iv2 h0 16 = iv h0 16 ∧ (iv2 (sk 5) 2 = iv (sk 5) 2 ∧ ∀ ss, CT iv rv (sk 5) ss → CT iv2 rv2 (sk 5) ss) ∧ (iv2 (sk 4) 2 = iv (sk 4) 2 ∧ ∀ ss, CT iv rv (sk 4) ss → CT iv2 rv2 (sk 4) ss) ∧ True)) ∧ (iv2 h0 14 = iv h0 14 ∧ iv2 h0 11 = iv h0 11 ∧ iv2 h0 12 = iv h0 12 ∧ iv2 h0 13 = iv h0 13) ∧ (iv2 (sk 2) 2 = iv (sk 2) 2 ∧ (∀ ss, CT iv rv (sk 2) ss → CT iv2 rv2 (sk 2) ss)) ∧ (iv2 (sk 3) 2 = iv (sk 3) 2 ∧ (∀ tt, CT iv rv (sk 3) tt → CT iv2 rv2 (sk 3) tt)) ∧ PSAME sk iv rv iv2 rv2 ∧ (∃ g, WT g sk L cl ln iv rv ∧ WT g sk L2 cl2 ln2 iv2 rv2) ∧ SKL sk L cl ∧ XT L cl ln L2 cl2 ln2 ∧ (KP L cl (fun _ => False) (fun _ => False) (fun _ => False) (fun _ => False) (fun _ _ => False) iv rv iv2 rv2)) := by
  intro n L cl ln iv rv sk hn hp
  obtain ⟨hW, hS, hm, h23, ht⟩ := hp
  refine hv3 (show ty L cl (sk 23) 23 from ⟨(hS 23 rfl).1, by rw [(hS 23 rfl).2]; rfl⟩) (show ty L cl (sk 2) 2 from ⟨(hS 2 rfl).1, by rw [(hS 2 rfl).2]; rfl⟩) (show ty L cl (sk 3) 3 from ⟨(hS 3 rfl).1, by rw [(hS 3 rfl).2]; rfl⟩) (fun t23 t2 t3 => ?_)
  refine ⟨0, _, by decide, C_readings hW hS ht h_i h_j h_n hm, fun v L2 cl2 ln2 iv2 rv2 h => ?_⟩
  obtain ⟨f, rfl, hX, hF, hW2, rg, ex, kp11, kp12, kp13, kp14, kp15, kp16, kr9, kr10⟩ := h
  exact ⟨f, rfl, by omega, hX, hW2, (MRK.call hm hW hS hX hF rfl rfl), (by have q := hF.i t23 rfl 2; omega), ⟨⟨trivial, ⟨(KSQ.fr hW ht hF kr9 kr10 rfl rfl rfl), (KSC.fr hW ht hF kr9 kr10 rfl rfl rfl rfl), kp15, kp16, ⟨hF.i (tysq (t := 5) hS rfl rfl) rfl 2, fun ss hs => CT.fr hs hW (tysq (t := 5) hS rfl rfl) hF rfl rfl rfl rfl rfl⟩, ⟨hF.i (tysq (t := 4) hS rfl rfl) rfl 2, fun ss hs => CT.fr hs hW (tysq (t := 4) hS rfl rfl) hF rfl rfl rfl rfl rfl⟩, trivial⟩⟩, ⟨kp14, kp11, kp12, kp13⟩, ⟨hF.i t2 rfl 2, fun ss hs => CT.fr hs hW t2 hF rfl rfl rfl rfl rfl⟩, ⟨hF.i t3 rfl 2, fun tt ht => CT.fr ht hW t3 hF rfl rfl rfl rfl rfl⟩, (PSAME.fr hW hS hF rfl rfl rfl rfl rfl rfl rfl), ⟨⟨_, hW, hW2⟩, hS, hX, (KP.fr hW hF rfl)⟩⟩⟩
theorem PO_more {l : Launch} {G : GT} {mi h0 : Nat} : PressOp l G mi yX11_more cX11_more 1 (some .int) 0 [] h0 (fun sk L cl ln iv rv L2 cl2 ln2 iv2 rv2 f => (True ∧ (KSQ h0 iv rv iv2 rv2 ∧ KSC h0 iv rv iv2 rv2 ∧ iv2 h0 15 = iv h0 15 ∧ iv2 h0 16 = iv h0 16 ∧ (iv2 (sk 5) 2 = iv (sk 5) 2 ∧ ∀ ss, CT iv rv (sk 5) ss → CT iv2 rv2 (sk 5) ss) ∧ (iv2 (sk 4) 2 = iv (sk 4) 2 ∧ ∀ ss, CT iv rv (sk 4) ss → CT iv2 rv2 (sk 4) ss) ∧ FKP sk iv rv iv2 rv2)) ∧ (iv2 h0 14 = iv h0 14 ∧ iv2 h0 11 = iv h0 11 ∧ iv2 h0 12 = iv h0 12 ∧ iv2 h0 13 = iv h0 13) ∧ (iv2 (sk 2) 2 = iv (sk 2) 2 ∧ (∀ ss, CT iv rv (sk 2) ss → CT iv2 rv2 (sk 2) ss)) ∧ (iv2 (sk 3) 2 = iv (sk 3) 2 ∧ (∀ tt, CT iv rv (sk 3) tt → CT iv2 rv2 (sk 3) tt)) ∧ PSAME sk iv rv iv2 rv2 ∧ (∃ g, WT g sk L cl ln iv rv ∧ WT g sk L2 cl2 ln2 iv2 rv2) ∧ SKL sk L cl ∧ XT L cl ln L2 cl2 ln2 ∧ (KP L cl (fun _ => False) (fun _ => False) (fun _ => False) (fun _ => False) (fun _ _ => False) iv rv iv2 rv2)) := by
  intro n L cl ln iv rv sk hn hp
  obtain ⟨hW, hS, hm, h23, ht⟩ := hp
  refine hv3 (show ty L cl (sk 23) 23 from ⟨(hS 23 rfl).1, by rw [(hS 23 rfl).2]; rfl⟩) (show ty L cl (sk 2) 2 from ⟨(hS 2 rfl).1, by rw [(hS 2 rfl).2]; rfl⟩) (show ty L cl (sk 3) 3 from ⟨(hS 3 rfl).1, by rw [(hS 3 rfl).2]; rfl⟩) (fun t23 t2 t3 => ?_)
  refine ⟨0, _, by decide, C_more hW hS ht  , fun v L2 cl2 ln2 iv2 rv2 h => ?_⟩
  obtain ⟨f, rfl, rfl, rfl, rfl, rfl, rfl, rg, ex⟩ := h
  exact ⟨f, rfl, by omega, XT.refl, hW, hm, (by omega), ⟨⟨trivial, ⟨KSQ.refl, KSC.refl, rfl, rfl, ⟨rfl, fun ss hs => hs⟩, ⟨rfl, fun ss hs => hs⟩, FKP.refl⟩⟩, ⟨rfl, rfl, rfl, rfl⟩, ⟨rfl, fun ss hs => hs⟩, ⟨rfl, fun tt ht => ht⟩, PSAME.refl, ⟨⟨_, hW, hW⟩, hS, XT.refl, KP.refl⟩⟩⟩
theorem PO_reading {l : Launch} {G : GT} {mi h0 : Nat} {i : Int} {j : Int} (h_i : -2147483648 ≤ i ∧ i ≤ 2147483647) (h_j : -2147483648 ≤ j ∧ j ≤ 2147483647) : PressOp l G mi yX11_reading cX11_reading 4 (some .int) 2 [.int (iI i), .int (iI j)] h0 (fun sk L cl ln iv rv L2 cl2 ln2 iv2 rv2 f => (True ∧ (KSQ h0 iv rv iv2 rv2 ∧ KSC h0 iv rv iv2 rv2 ∧ iv2 h0 15 = iv h0 15 ∧ iv2 h0 16 = iv h0 16 ∧ (iv2 (sk 5) 2 = iv (sk 5) 2 ∧ ∀ ss, CT iv rv (sk 5) ss → CT iv2 rv2 (sk 5) ss) ∧ (iv2 (sk 4) 2 = iv (sk 4) 2 ∧ ∀ ss, CT iv rv (sk 4) ss → CT iv2 rv2 (sk 4) ss) ∧ FKP sk iv rv iv2 rv2)) ∧ (iv2 h0 14 = iv h0 14 ∧ iv2 h0 11 = iv h0 11 ∧ iv2 h0 12 = iv h0 12 ∧ iv2 h0 13 = iv h0 13) ∧ (iv2 (sk 2) 2 = iv (sk 2) 2 ∧ (∀ ss, CT iv rv (sk 2) ss → CT iv2 rv2 (sk 2) ss)) ∧ (iv2 (sk 3) 2 = iv (sk 3) 2 ∧ (∀ tt, CT iv rv (sk 3) tt → CT iv2 rv2 (sk 3) tt)) ∧ PSAME sk iv rv iv2 rv2 ∧ (∃ g, WT g sk L cl ln iv rv ∧ WT g sk L2 cl2 ln2 iv2 rv2) ∧ SKL sk L cl ∧ XT L cl ln L2 cl2 ln2 ∧ (KP L cl (fun _ => False) (fun _ => False) (fun _ => False) (fun _ => False) (fun _ _ => False) iv rv iv2 rv2)) := by
  intro n L cl ln iv rv sk hn hp
  obtain ⟨hW, hS, hm, h23, ht⟩ := hp
  refine hv3 (show ty L cl (sk 23) 23 from ⟨(hS 23 rfl).1, by rw [(hS 23 rfl).2]; rfl⟩) (show ty L cl (sk 2) 2 from ⟨(hS 2 rfl).1, by rw [(hS 2 rfl).2]; rfl⟩) (show ty L cl (sk 3) 3 from ⟨(hS 3 rfl).1, by rw [(hS 3 rfl).2]; rfl⟩) (fun t23 t2 t3 => ?_)
  refine ⟨0, _, by decide, C_reading hW hS ht h_i h_j , fun v L2 cl2 ln2 iv2 rv2 h => ?_⟩
  obtain ⟨f, rfl, rfl, rfl, rfl, rfl, hF, hW2, rg, ex, kp11, kp12, kp13, kp14, kp15, kp16⟩ := h
  exact ⟨f, rfl, by omega, XT.refl, hW2, (MRK.call hm hW hS XT.refl hF rfl rfl), (by have q := hF.i t23 rfl 2; omega), ⟨⟨trivial, ⟨(KSQ.ni hW ht hF rfl), (KSC.fr hW ht hF rfl rfl rfl rfl rfl rfl), kp15, kp16, ⟨hF.i (tysq (t := 5) hS rfl rfl) rfl 2, fun ss hs => CT.fr hs hW (tysq (t := 5) hS rfl rfl) hF rfl rfl rfl rfl rfl⟩, ⟨hF.i (tysq (t := 4) hS rfl rfl) rfl 2, fun ss hs => CT.fr hs hW (tysq (t := 4) hS rfl rfl) hF rfl rfl rfl rfl rfl⟩, (FKP.fr hW hS hF rfl rfl rfl rfl)⟩⟩, ⟨kp14, kp11, kp12, kp13⟩, ⟨hF.i t2 rfl 2, fun ss hs => CT.fr hs hW t2 hF rfl rfl rfl rfl rfl⟩, ⟨hF.i t3 rfl 2, fun tt ht => CT.fr ht hW t3 hF rfl rfl rfl rfl rfl⟩, (PSAME.fr hW hS hF rfl rfl rfl rfl rfl rfl rfl), ⟨⟨_, hW, hW2⟩, hS, XT.refl, (KP.fr hW hF rfl)⟩⟩⟩
theorem PO_judge {l : Launch} {G : GT} {mi h0 : Nat} {i : Int} (h_i : -2147483648 ≤ i ∧ i ≤ 2147483647) : PressOp l G mi yX11_judge cX11_judge 4 (some .int) 10 [.int (iI i)] h0 (fun sk L cl ln iv rv L2 cl2 ln2 iv2 rv2 f => (True ∧ (KSQ h0 iv rv iv2 rv2 ∧ KSC h0 iv rv iv2 rv2 ∧ iv2 h0 15 = iv h0 15 ∧ iv2 h0 16 = iv h0 16 ∧ (iv2 (sk 5) 2 = iv (sk 5) 2 ∧ ∀ ss, CT iv rv (sk 5) ss → CT iv2 rv2 (sk 5) ss) ∧ (iv2 (sk 4) 2 = iv (sk 4) 2 ∧ ∀ ss, CT iv rv (sk 4) ss → CT iv2 rv2 (sk 4) ss) ∧ FKP sk iv rv iv2 rv2)) ∧ (iv2 h0 14 = iv h0 14 ∧ iv2 h0 11 = iv h0 11 ∧ iv2 h0 12 = iv h0 12 ∧ iv2 h0 13 = iv h0 13) ∧ (iv2 (sk 2) 2 = iv (sk 2) 2 ∧ (∀ ss, CT iv rv (sk 2) ss → CT iv2 rv2 (sk 2) ss)) ∧ (iv2 (sk 3) 2 = iv (sk 3) 2 ∧ (∀ tt, CT iv rv (sk 3) tt → CT iv2 rv2 (sk 3) tt)) ∧ PSAME sk iv rv iv2 rv2 ∧ (∃ g, WT g sk L cl ln iv rv ∧ WT g sk L2 cl2 ln2 iv2 rv2) ∧ SKL sk L cl ∧ XT L cl ln L2 cl2 ln2 ∧ (KP L cl (fun _ => False) (fun _ => False) (fun _ => False) (fun _ => False) (fun _ _ => False) iv rv iv2 rv2)) := by
  intro n L cl ln iv rv sk hn hp
  obtain ⟨hW, hS, hm, h23, ht⟩ := hp
  refine hv3 (show ty L cl (sk 23) 23 from ⟨(hS 23 rfl).1, by rw [(hS 23 rfl).2]; rfl⟩) (show ty L cl (sk 2) 2 from ⟨(hS 2 rfl).1, by rw [(hS 2 rfl).2]; rfl⟩) (show ty L cl (sk 3) 3 from ⟨(hS 3 rfl).1, by rw [(hS 3 rfl).2]; rfl⟩) (fun t23 t2 t3 => ?_)
  refine ⟨0, _, by decide, C_judge hW hS ht h_i hm, fun v L2 cl2 ln2 iv2 rv2 h => ?_⟩
  obtain ⟨f, rfl, hX, hF, hW2, rg, ex, kp11, kp12, kp13, kp14, kp15, kp16, kr9, kr10⟩ := h
  exact ⟨f, rfl, by omega, hX, hW2, (MRK.call hm hW hS hX hF rfl rfl), (by have q := hF.i t23 rfl 2; omega), ⟨⟨trivial, ⟨(KSQ.fr hW ht hF kr9 kr10 rfl rfl rfl), (KSC.fr hW ht hF kr9 kr10 rfl rfl rfl rfl), kp15, kp16, ⟨hF.i (tysq (t := 5) hS rfl rfl) rfl 2, fun ss hs => CT.fr hs hW (tysq (t := 5) hS rfl rfl) hF rfl rfl rfl rfl rfl⟩, ⟨hF.i (tysq (t := 4) hS rfl rfl) rfl 2, fun ss hs => CT.fr hs hW (tysq (t := 4) hS rfl rfl) hF rfl rfl rfl rfl rfl⟩, (FKP.fr hW hS hF rfl rfl rfl rfl)⟩⟩, ⟨kp14, kp11, kp12, kp13⟩, ⟨hF.i t2 rfl 2, fun ss hs => CT.fr hs hW t2 hF rfl rfl rfl rfl rfl⟩, ⟨hF.i t3 rfl 2, fun tt ht => CT.fr ht hW t3 hF rfl rfl rfl rfl rfl⟩, (PSAME.fr hW hS hF rfl rfl rfl rfl rfl rfl rfl), ⟨⟨_, hW, hW2⟩, hS, hX, (KP.fr hW hF rfl)⟩⟩⟩
theorem PO_parts {l : Launch} {G : GT} {mi h0 : Nat} {i : Int} {j : Int} {k : Int} (h_i : -2147483648 ≤ i ∧ i ≤ 2147483647) (h_j : -2147483648 ≤ j ∧ j ≤ 2147483647) (h_k : -2147483648 ≤ k ∧ k ≤ 2147483647) : PressOp l G mi yX11_parts cX11_parts 10 (some .int) 10 [.int (iI i), .int (iI j), .int (iI k)] h0 (fun sk L cl ln iv rv L2 cl2 ln2 iv2 rv2 f => (True ∧ (KSQ h0 iv rv iv2 rv2 ∧ KSC h0 iv rv iv2 rv2 ∧ iv2 h0 15 = iv h0 15 ∧ iv2 h0 16 = iv h0 16 ∧ (iv2 (sk 5) 2 = iv (sk 5) 2 ∧ ∀ ss, CT iv rv (sk 5) ss → CT iv2 rv2 (sk 5) ss) ∧ (iv2 (sk 4) 2 = iv (sk 4) 2 ∧ ∀ ss, CT iv rv (sk 4) ss → CT iv2 rv2 (sk 4) ss) ∧ FKP sk iv rv iv2 rv2)) ∧ (iv2 h0 14 = iv h0 14 ∧ iv2 h0 11 = iv h0 11 ∧ iv2 h0 12 = iv h0 12 ∧ iv2 h0 13 = iv h0 13) ∧ (iv2 (sk 2) 2 = iv (sk 2) 2 ∧ (∀ ss, CT iv rv (sk 2) ss → CT iv2 rv2 (sk 2) ss)) ∧ (iv2 (sk 3) 2 = iv (sk 3) 2 ∧ (∀ tt, CT iv rv (sk 3) tt → CT iv2 rv2 (sk 3) tt)) ∧ PSAME sk iv rv iv2 rv2 ∧ (∃ g, WT g sk L cl ln iv rv ∧ WT g sk L2 cl2 ln2 iv2 rv2) ∧ SKL sk L cl ∧ XT L cl ln L2 cl2 ln2 ∧ (KP L cl (fun _ => False) (fun _ => False) (fun _ => False) (fun _ => False) (fun _ _ => False) iv rv iv2 rv2)) := by
  intro n L cl ln iv rv sk hn hp
  obtain ⟨hW, hS, hm, h23, ht⟩ := hp
  refine hv3 (show ty L cl (sk 23) 23 from ⟨(hS 23 rfl).1, by rw [(hS 23 rfl).2]; rfl⟩) (show ty L cl (sk 2) 2 from ⟨(hS 2 rfl).1, by rw [(hS 2 rfl).2]; rfl⟩) (show ty L cl (sk 3) 3 from ⟨(hS 3 rfl).1, by rw [(hS 3 rfl).2]; rfl⟩) (fun t23 t2 t3 => ?_)
  refine ⟨0, _, by decide, C_parts hW hS ht h_i h_j h_k hm, fun v L2 cl2 ln2 iv2 rv2 h => ?_⟩
  obtain ⟨f, rfl, hX, hF, hW2, rg, ex, kp11, kp12, kp13, kp14, kp15, kp16, kr9, kr10⟩ := h
  exact ⟨f, rfl, by omega, hX, hW2, (MRK.call hm hW hS hX hF rfl rfl), (by have q := hF.i t23 rfl 2; omega), ⟨⟨trivial, ⟨(KSQ.fr hW ht hF kr9 kr10 rfl rfl rfl), (KSC.fr hW ht hF kr9 kr10 rfl rfl rfl rfl), kp15, kp16, ⟨hF.i (tysq (t := 5) hS rfl rfl) rfl 2, fun ss hs => CT.fr hs hW (tysq (t := 5) hS rfl rfl) hF rfl rfl rfl rfl rfl⟩, ⟨hF.i (tysq (t := 4) hS rfl rfl) rfl 2, fun ss hs => CT.fr hs hW (tysq (t := 4) hS rfl rfl) hF rfl rfl rfl rfl rfl⟩, (FKP.fr hW hS hF rfl rfl rfl rfl)⟩⟩, ⟨kp14, kp11, kp12, kp13⟩, ⟨hF.i t2 rfl 2, fun ss hs => CT.fr hs hW t2 hF rfl rfl rfl rfl rfl⟩, ⟨hF.i t3 rfl 2, fun tt ht => CT.fr ht hW t3 hF rfl rfl rfl rfl rfl⟩, (PSAME.fr hW hS hF rfl rfl rfl rfl rfl rfl rfl), ⟨⟨_, hW, hW2⟩, hS, hX, (KP.fr hW hF rfl)⟩⟩⟩
theorem PO_unreadable {l : Launch} {G : GT} {mi h0 : Nat} {i : Int} {n : Int} {lim : Int} (h_i : -2147483648 ≤ i ∧ i ≤ 2147483647) (h_n : -2147483648 ≤ n ∧ n ≤ 2147483647) (h_lim : -2147483648 ≤ lim ∧ lim ≤ 2147483647) : PressOp l G mi yX11_unreadable cX11_unreadable 7 (some .int) 10 [.int (iI i), .int (iI n), .int (iI lim)] h0 (fun sk L cl ln iv rv L2 cl2 ln2 iv2 rv2 f => (True ∧ (KSQ h0 iv rv iv2 rv2 ∧ KSC h0 iv rv iv2 rv2 ∧ iv2 h0 15 = iv h0 15 ∧ iv2 h0 16 = iv h0 16 ∧ (iv2 (sk 5) 2 = iv (sk 5) 2 ∧ ∀ ss, CT iv rv (sk 5) ss → CT iv2 rv2 (sk 5) ss) ∧ True ∧ FKP sk iv rv iv2 rv2)) ∧ (iv2 h0 14 = iv h0 14 ∧ iv2 h0 11 = iv h0 11 ∧ iv2 h0 12 = iv h0 12 ∧ iv2 h0 13 = iv h0 13) ∧ (iv2 (sk 2) 2 = iv (sk 2) 2 ∧ (∀ ss, CT iv rv (sk 2) ss → CT iv2 rv2 (sk 2) ss)) ∧ (iv2 (sk 3) 2 = iv (sk 3) 2 ∧ (∀ tt, CT iv rv (sk 3) tt → CT iv2 rv2 (sk 3) tt)) ∧ PSAME sk iv rv iv2 rv2 ∧ (∃ g, WT g sk L cl ln iv rv ∧ WT g sk L2 cl2 ln2 iv2 rv2) ∧ SKL sk L cl ∧ XT L cl ln L2 cl2 ln2 ∧ (KP L cl (fun _ => False) (fun _ => False) (fun _ => False) (fun _ => False) (fun _ _ => False) iv rv iv2 rv2)) := by
  intro n L cl ln iv rv sk hn hp
  obtain ⟨hW, hS, hm, h23, ht⟩ := hp
  refine hv3 (show ty L cl (sk 23) 23 from ⟨(hS 23 rfl).1, by rw [(hS 23 rfl).2]; rfl⟩) (show ty L cl (sk 2) 2 from ⟨(hS 2 rfl).1, by rw [(hS 2 rfl).2]; rfl⟩) (show ty L cl (sk 3) 3 from ⟨(hS 3 rfl).1, by rw [(hS 3 rfl).2]; rfl⟩) (fun t23 t2 t3 => ?_)
  refine ⟨0, _, by decide, C_unreadable hW hS ht h_i h_n h_lim hm, fun v L2 cl2 ln2 iv2 rv2 h => ?_⟩
  obtain ⟨f, rfl, hX, hF, hW2, rg, ex, kp11, kp12, kp13, kp14, kp15, kp16, kr9, kr10⟩ := h
  exact ⟨f, rfl, by omega, hX, hW2, (MRK.call hm hW hS hX hF rfl rfl), (by have q := hF.i t23 rfl 2; omega), ⟨⟨trivial, ⟨(KSQ.fr hW ht hF kr9 kr10 rfl rfl rfl), (KSC.fr hW ht hF kr9 kr10 rfl rfl rfl rfl), kp15, kp16, ⟨hF.i (tysq (t := 5) hS rfl rfl) rfl 2, fun ss hs => CT.fr hs hW (tysq (t := 5) hS rfl rfl) hF rfl rfl rfl rfl rfl⟩, trivial, (FKP.fr hW hS hF rfl rfl rfl rfl)⟩⟩, ⟨kp14, kp11, kp12, kp13⟩, ⟨hF.i t2 rfl 2, fun ss hs => CT.fr hs hW t2 hF rfl rfl rfl rfl rfl⟩, ⟨hF.i t3 rfl 2, fun tt ht => CT.fr ht hW t3 hF rfl rfl rfl rfl rfl⟩, (PSAME.fr hW hS hF rfl rfl rfl rfl rfl rfl rfl), ⟨⟨_, hW, hW2⟩, hS, hX, (KP.fr hW hF rfl)⟩⟩⟩
theorem PO_saved {l : Launch} {G : GT} {mi h0 : Nat} {i : Int} {j : Int} (h_i : -2147483648 ≤ i ∧ i ≤ 2147483647) (h_j : -2147483648 ≤ j ∧ j ≤ 2147483647) : PressOp l G mi yX11_saved cX11_saved 10 (some .int) 8 [.int (iI i), .int (iI j)] h0 (fun sk L cl ln iv rv L2 cl2 ln2 iv2 rv2 f => (True ∧ (KSQ h0 iv rv iv2 rv2 ∧ KSC h0 iv rv iv2 rv2 ∧ iv2 h0 15 = iv h0 15 ∧ iv2 h0 16 = iv h0 16 ∧ (iv2 (sk 5) 2 = iv (sk 5) 2 ∧ ∀ ss, CT iv rv (sk 5) ss → CT iv2 rv2 (sk 5) ss) ∧ (iv2 (sk 4) 2 = iv (sk 4) 2 ∧ ∀ ss, CT iv rv (sk 4) ss → CT iv2 rv2 (sk 4) ss) ∧ FKP sk iv rv iv2 rv2)) ∧ (iv2 h0 14 = iv h0 14 ∧ iv2 h0 11 = iv h0 11 ∧ iv2 h0 12 = iv h0 12 ∧ iv2 h0 13 = iv h0 13) ∧ (iv2 (sk 2) 2 = iv (sk 2) 2 ∧ (∀ ss, CT iv rv (sk 2) ss → CT iv2 rv2 (sk 2) ss)) ∧ (iv2 (sk 3) 2 = iv (sk 3) 2 ∧ (∀ tt, CT iv rv (sk 3) tt → CT iv2 rv2 (sk 3) tt)) ∧ PSAME sk iv rv iv2 rv2 ∧ (∃ g, WT g sk L cl ln iv rv ∧ WT g sk L2 cl2 ln2 iv2 rv2) ∧ SKL sk L cl ∧ XT L cl ln L2 cl2 ln2 ∧ (KP L cl (fun _ => False) (fun _ => False) (fun _ => False) (fun _ => False) (fun _ _ => False) iv rv iv2 rv2)) := by
  intro n L cl ln iv rv sk hn hp
  obtain ⟨hW, hS, hm, h23, ht⟩ := hp
  refine hv3 (show ty L cl (sk 23) 23 from ⟨(hS 23 rfl).1, by rw [(hS 23 rfl).2]; rfl⟩) (show ty L cl (sk 2) 2 from ⟨(hS 2 rfl).1, by rw [(hS 2 rfl).2]; rfl⟩) (show ty L cl (sk 3) 3 from ⟨(hS 3 rfl).1, by rw [(hS 3 rfl).2]; rfl⟩) (fun t23 t2 t3 => ?_)
  refine ⟨0, _, by decide, C_saved hW hS ht h_i h_j hm, fun v L2 cl2 ln2 iv2 rv2 h => ?_⟩
  obtain ⟨f, rfl, rfl, rfl, rfl, rfl, hF, hW2, rg, ex, kp11, kp12, kp13, kp14, kp15, kp16⟩ := h
  exact ⟨f, rfl, by omega, XT.refl, hW2, (MRK.call hm hW hS XT.refl hF rfl rfl), (by have q := hF.i t23 rfl 2; omega), ⟨⟨trivial, ⟨(KSQ.ni hW ht hF rfl), (KSC.fr hW ht hF rfl rfl rfl rfl rfl rfl), kp15, kp16, ⟨hF.i (tysq (t := 5) hS rfl rfl) rfl 2, fun ss hs => CT.fr hs hW (tysq (t := 5) hS rfl rfl) hF rfl rfl rfl rfl rfl⟩, ⟨hF.i (tysq (t := 4) hS rfl rfl) rfl 2, fun ss hs => CT.fr hs hW (tysq (t := 4) hS rfl rfl) hF rfl rfl rfl rfl rfl⟩, (FKP.fr hW hS hF rfl rfl rfl rfl)⟩⟩, ⟨kp14, kp11, kp12, kp13⟩, ⟨hF.i t2 rfl 2, fun ss hs => CT.fr hs hW t2 hF rfl rfl rfl rfl rfl⟩, ⟨hF.i t3 rfl 2, fun tt ht => CT.fr ht hW t3 hF rfl rfl rfl rfl rfl⟩, (PSAME.fr hW hS hF rfl rfl rfl rfl rfl rfl rfl), ⟨⟨_, hW, hW2⟩, hS, XT.refl, (KP.fr hW hF rfl)⟩⟩⟩
theorem PO_place {l : Launch} {G : GT} {mi h0 : Nat} : PressOp l G mi yX11_place cX11_place 1 (some .int) 0 [] h0 (fun sk L cl ln iv rv L2 cl2 ln2 iv2 rv2 f => (True ∧ (KSQ h0 iv rv iv2 rv2 ∧ KSC h0 iv rv iv2 rv2 ∧ iv2 h0 15 = iv h0 15 ∧ iv2 h0 16 = iv h0 16 ∧ (iv2 (sk 5) 2 = iv (sk 5) 2 ∧ ∀ ss, CT iv rv (sk 5) ss → CT iv2 rv2 (sk 5) ss) ∧ (iv2 (sk 4) 2 = iv (sk 4) 2 ∧ ∀ ss, CT iv rv (sk 4) ss → CT iv2 rv2 (sk 4) ss) ∧ FKP sk iv rv iv2 rv2)) ∧ (iv2 h0 14 = iv h0 14 ∧ iv2 h0 11 = iv h0 11 ∧ iv2 h0 12 = iv h0 12 ∧ iv2 h0 13 = iv h0 13) ∧ (iv2 (sk 2) 2 = iv (sk 2) 2 ∧ (∀ ss, CT iv rv (sk 2) ss → CT iv2 rv2 (sk 2) ss)) ∧ (iv2 (sk 3) 2 = iv (sk 3) 2 ∧ (∀ tt, CT iv rv (sk 3) tt → CT iv2 rv2 (sk 3) tt)) ∧ PSAME sk iv rv iv2 rv2 ∧ (∃ g, WT g sk L cl ln iv rv ∧ WT g sk L2 cl2 ln2 iv2 rv2) ∧ SKL sk L cl ∧ XT L cl ln L2 cl2 ln2 ∧ (KP L cl (fun _ => False) (fun _ => False) (fun _ => False) (fun _ => False) (fun _ _ => False) iv rv iv2 rv2)) := by
  intro n L cl ln iv rv sk hn hp
  obtain ⟨hW, hS, hm, h23, ht⟩ := hp
  refine hv3 (show ty L cl (sk 23) 23 from ⟨(hS 23 rfl).1, by rw [(hS 23 rfl).2]; rfl⟩) (show ty L cl (sk 2) 2 from ⟨(hS 2 rfl).1, by rw [(hS 2 rfl).2]; rfl⟩) (show ty L cl (sk 3) 3 from ⟨(hS 3 rfl).1, by rw [(hS 3 rfl).2]; rfl⟩) (fun t23 t2 t3 => ?_)
  refine ⟨0, _, by decide, C_place hW hS ht  , fun v L2 cl2 ln2 iv2 rv2 h => ?_⟩
  obtain ⟨f, rfl, rfl, rfl, rfl, rfl, rfl, rg, ex⟩ := h
  exact ⟨f, rfl, by omega, XT.refl, hW, hm, (by omega), ⟨⟨trivial, ⟨KSQ.refl, KSC.refl, rfl, rfl, ⟨rfl, fun ss hs => hs⟩, ⟨rfl, fun ss hs => hs⟩, FKP.refl⟩⟩, ⟨rfl, rfl, rfl, rfl⟩, ⟨rfl, fun ss hs => hs⟩, ⟨rfl, fun tt ht => ht⟩, PSAME.refl, ⟨⟨_, hW, hW⟩, hS, XT.refl, KP.refl⟩⟩⟩
theorem PO_finds {l : Launch} {G : GT} {mi h0 : Nat} {i : Int} (h_i : -2147483648 ≤ i ∧ i ≤ 2147483647) : PressOp l G mi yX11_finds cX11_finds 2 (some .int) 1 [.int (iI i)] h0 (fun sk L cl ln iv rv L2 cl2 ln2 iv2 rv2 f => (True ∧ (KSQ h0 iv rv iv2 rv2 ∧ KSC h0 iv rv iv2 rv2 ∧ iv2 h0 15 = iv h0 15 ∧ iv2 h0 16 = iv h0 16 ∧ (iv2 (sk 5) 2 = iv (sk 5) 2 ∧ ∀ ss, CT iv rv (sk 5) ss → CT iv2 rv2 (sk 5) ss) ∧ (iv2 (sk 4) 2 = iv (sk 4) 2 ∧ ∀ ss, CT iv rv (sk 4) ss → CT iv2 rv2 (sk 4) ss) ∧ FKP sk iv rv iv2 rv2)) ∧ (iv2 h0 14 = iv h0 14 ∧ iv2 h0 11 = iv h0 11 ∧ iv2 h0 12 = iv h0 12 ∧ iv2 h0 13 = iv h0 13) ∧ (iv2 (sk 2) 2 = iv (sk 2) 2 ∧ (∀ ss, CT iv rv (sk 2) ss → CT iv2 rv2 (sk 2) ss)) ∧ (iv2 (sk 3) 2 = iv (sk 3) 2 ∧ (∀ tt, CT iv rv (sk 3) tt → CT iv2 rv2 (sk 3) tt)) ∧ PSAME sk iv rv iv2 rv2 ∧ (∃ g, WT g sk L cl ln iv rv ∧ WT g sk L2 cl2 ln2 iv2 rv2) ∧ SKL sk L cl ∧ XT L cl ln L2 cl2 ln2 ∧ (KP L cl (fun _ => False) (fun _ => False) (fun _ => False) (fun _ => False) (fun _ _ => False) iv rv iv2 rv2)) := by
  intro n L cl ln iv rv sk hn hp
  obtain ⟨hW, hS, hm, h23, ht⟩ := hp
  refine hv3 (show ty L cl (sk 23) 23 from ⟨(hS 23 rfl).1, by rw [(hS 23 rfl).2]; rfl⟩) (show ty L cl (sk 2) 2 from ⟨(hS 2 rfl).1, by rw [(hS 2 rfl).2]; rfl⟩) (show ty L cl (sk 3) 3 from ⟨(hS 3 rfl).1, by rw [(hS 3 rfl).2]; rfl⟩) (fun t23 t2 t3 => ?_)
  refine ⟨0, _, by decide, C_finds hW hS ht h_i , fun v L2 cl2 ln2 iv2 rv2 h => ?_⟩
  obtain ⟨f, rfl, rfl, rfl, rfl, rfl, rfl, rg, ex⟩ := h
  exact ⟨f, rfl, by omega, XT.refl, hW, hm, (by omega), ⟨⟨trivial, ⟨KSQ.refl, KSC.refl, rfl, rfl, ⟨rfl, fun ss hs => hs⟩, ⟨rfl, fun ss hs => hs⟩, FKP.refl⟩⟩, ⟨rfl, rfl, rfl, rfl⟩, ⟨rfl, fun ss hs => hs⟩, ⟨rfl, fun tt ht => ht⟩, PSAME.refl, ⟨⟨_, hW, hW⟩, hS, XT.refl, KP.refl⟩⟩⟩
theorem PO_status {l : Launch} {G : GT} {mi h0 : Nat} : PressOp l G mi yX11_status cX11_status 1 (some .int) 0 [] h0 (fun sk L cl ln iv rv L2 cl2 ln2 iv2 rv2 f => (True ∧ (KSQ h0 iv rv iv2 rv2 ∧ KSC h0 iv rv iv2 rv2 ∧ iv2 h0 15 = iv h0 15 ∧ iv2 h0 16 = iv h0 16 ∧ (iv2 (sk 5) 2 = iv (sk 5) 2 ∧ ∀ ss, CT iv rv (sk 5) ss → CT iv2 rv2 (sk 5) ss) ∧ (iv2 (sk 4) 2 = iv (sk 4) 2 ∧ ∀ ss, CT iv rv (sk 4) ss → CT iv2 rv2 (sk 4) ss) ∧ FKP sk iv rv iv2 rv2)) ∧ (iv2 h0 14 = iv h0 14 ∧ iv2 h0 11 = iv h0 11 ∧ iv2 h0 12 = iv h0 12 ∧ iv2 h0 13 = iv h0 13) ∧ (iv2 (sk 2) 2 = iv (sk 2) 2 ∧ (∀ ss, CT iv rv (sk 2) ss → CT iv2 rv2 (sk 2) ss)) ∧ (iv2 (sk 3) 2 = iv (sk 3) 2 ∧ (∀ tt, CT iv rv (sk 3) tt → CT iv2 rv2 (sk 3) tt)) ∧ PSAME sk iv rv iv2 rv2 ∧ (∃ g, WT g sk L cl ln iv rv ∧ WT g sk L2 cl2 ln2 iv2 rv2) ∧ SKL sk L cl ∧ XT L cl ln L2 cl2 ln2 ∧ (KP L cl (fun _ => False) (fun _ => False) (fun _ => False) (fun _ => False) (fun _ _ => False) iv rv iv2 rv2)) := by
  intro n L cl ln iv rv sk hn hp
  obtain ⟨hW, hS, hm, h23, ht⟩ := hp
  refine hv3 (show ty L cl (sk 23) 23 from ⟨(hS 23 rfl).1, by rw [(hS 23 rfl).2]; rfl⟩) (show ty L cl (sk 2) 2 from ⟨(hS 2 rfl).1, by rw [(hS 2 rfl).2]; rfl⟩) (show ty L cl (sk 3) 3 from ⟨(hS 3 rfl).1, by rw [(hS 3 rfl).2]; rfl⟩) (fun t23 t2 t3 => ?_)
  refine ⟨0, _, by decide, C_status hW hS ht  , fun v L2 cl2 ln2 iv2 rv2 h => ?_⟩
  obtain ⟨f, rfl, rfl, rfl, rfl, rfl, rfl, rg, ex⟩ := h
  exact ⟨f, rfl, by omega, XT.refl, hW, hm, (by omega), ⟨⟨trivial, ⟨KSQ.refl, KSC.refl, rfl, rfl, ⟨rfl, fun ss hs => hs⟩, ⟨rfl, fun ss hs => hs⟩, FKP.refl⟩⟩, ⟨rfl, rfl, rfl, rfl⟩, ⟨rfl, fun ss hs => hs⟩, ⟨rfl, fun tt ht => ht⟩, PSAME.refl, ⟨⟨_, hW, hW⟩, hS, XT.refl, KP.refl⟩⟩⟩
theorem PO_digest {l : Launch} {G : GT} {mi h0 : Nat} : PressOp l G mi yX11_digest cX11_digest 3 (some .int) 3 [] h0 (fun sk L cl ln iv rv L2 cl2 ln2 iv2 rv2 f => (True ∧ (KSQ h0 iv rv iv2 rv2 ∧ KSC h0 iv rv iv2 rv2 ∧ iv2 h0 15 = iv h0 15 ∧ iv2 h0 16 = iv h0 16 ∧ (iv2 (sk 5) 2 = iv (sk 5) 2 ∧ ∀ ss, CT iv rv (sk 5) ss → CT iv2 rv2 (sk 5) ss) ∧ (iv2 (sk 4) 2 = iv (sk 4) 2 ∧ ∀ ss, CT iv rv (sk 4) ss → CT iv2 rv2 (sk 4) ss) ∧ FKP sk iv rv iv2 rv2)) ∧ (iv2 h0 14 = iv h0 14 ∧ iv2 h0 11 = iv h0 11 ∧ iv2 h0 12 = iv h0 12 ∧ iv2 h0 13 = iv h0 13) ∧ (iv2 (sk 2) 2 = iv (sk 2) 2 ∧ (∀ ss, CT iv rv (sk 2) ss → CT iv2 rv2 (sk 2) ss)) ∧ (iv2 (sk 3) 2 = iv (sk 3) 2 ∧ (∀ tt, CT iv rv (sk 3) tt → CT iv2 rv2 (sk 3) tt)) ∧ PSAME sk iv rv iv2 rv2 ∧ (∃ g, WT g sk L cl ln iv rv ∧ WT g sk L2 cl2 ln2 iv2 rv2) ∧ SKL sk L cl ∧ XT L cl ln L2 cl2 ln2 ∧ (KP L cl (fun _ => False) (fun _ => False) (fun _ => False) (fun _ => False) (fun _ _ => False) iv rv iv2 rv2)) := by
  intro n L cl ln iv rv sk hn hp
  obtain ⟨hW, hS, hm, h23, ht⟩ := hp
  refine hv3 (show ty L cl (sk 23) 23 from ⟨(hS 23 rfl).1, by rw [(hS 23 rfl).2]; rfl⟩) (show ty L cl (sk 2) 2 from ⟨(hS 2 rfl).1, by rw [(hS 2 rfl).2]; rfl⟩) (show ty L cl (sk 3) 3 from ⟨(hS 3 rfl).1, by rw [(hS 3 rfl).2]; rfl⟩) (fun t23 t2 t3 => ?_)
  refine ⟨0, _, by decide, C_digest hW hS ht  , fun v L2 cl2 ln2 iv2 rv2 h => ?_⟩
  obtain ⟨f, rfl, rfl, rfl, rfl, rfl, rfl, rg, ex⟩ := h
  exact ⟨f, rfl, by omega, XT.refl, hW, hm, (by omega), ⟨⟨trivial, ⟨KSQ.refl, KSC.refl, rfl, rfl, ⟨rfl, fun ss hs => hs⟩, ⟨rfl, fun ss hs => hs⟩, FKP.refl⟩⟩, ⟨rfl, rfl, rfl, rfl⟩, ⟨rfl, fun ss hs => hs⟩, ⟨rfl, fun tt ht => ht⟩, PSAME.refl, ⟨⟨_, hW, hW⟩, hS, XT.refl, KP.refl⟩⟩⟩
end
section
def MIV (n : Nat) (ln : Nat → Nat) (v : Nat → Int) (a : Nat → Nat → Int) : Prop := BX v a ∧ TBL v a ∧ STK ln v a ∧ RWS a ∧ v 19 ≤ 4 * (n : Int)
def ModelOp (l : Launch) (G : GT) (y2 : MethodName) (cc2 : ByteArray) (n2 : Nat) (ret2 : Option FieldType) (d2 : Nat) (As : List Value) (mm mc ms : Nat) (EX : (Nat → Int) → (Nat → Nat → Int) → (Nat → Int) → (Nat → Nat → Int) → Int → Prop) : Prop := ∀ (n : Nat) (ad ln : Nat → Nat) (v : Nat → Int) (a : Nat → Nat → Int) (L : List Nat) (E : Nat → va_E), n ≤ 511 → MIV n ln v a → mI G mm ad ln v a L E → ∃ P2 : PT, Mq l G y2 cc2 n2 ret2 d2 (.ref mm :: As) L E mc ms P2 ∧ ∀ r L2 E2, P2 r L2 E2 → ∃ (f : Int) (ad2 ln2 : Nat → Nat) (v2 : Nat → Int) (a2 : Nat → Nat → Int), r = some (.int (iI f)) ∧ mI G mm ad2 ln2 v2 a2 L2 E2 ∧ MIV (n + 1) ln2 v2 a2 ∧ EX v a v2 a2 f
theorem MO_feed {l : Launch} {G : GT} {mm : Nat} {x1 : Int} {x2 : Int} {x3 : Int} {x4 : Int} {x5 : Int} (h_x1 : -2147483648 ≤ x1 ∧ x1 ≤ 2147483647) (h_x2 : -2147483648 ≤ x2 ∧ x2 ≤ 2147483647) (h_x3 : -2147483648 ≤ x3 ∧ x3 ≤ 2147483647) (h_x4 : -2147483648 ≤ x4 ∧ x4 ≤ 2147483647) (h_x5 : -2147483648 ≤ x5 ∧ x5 ≤ 2147483647) : ModelOp l G yX12_feed cX12_feed 8 (some .int) 1 [.int (iI x1), .int (iI x2), .int (iI x3), .int (iI x4), .int (iI x5)] mm 0 0 (fun v a v2 a2 f => (True ∧ (v2 36 = v 36 ∧ KSA v a v2 a2 ∧ v2 42 = v 42 ∧ v2 43 = v 43 ∧ (v2 41 = v 41 ∧ a2 40 = a 40) ∧ (v2 52 = v 52 ∧ a2 51 = a 51) ∧ (v2 60 = v 60 ∧ v2 61 = v 61 ∧ a2 58 = a 58 ∧ a2 59 = a 59))) ∧ (v2 56 = v 56 ∧ v2 31 = v 31 ∧ v2 32 = v 32 ∧ v2 33 = v 33) ∧ ((f = -1 ∧ v2 3 = v 3 ∧ 2980 < v 3 ∧ a2 2 = a 2) ∨ (f = v 3 + 20 ∧ v2 3 = v 3 + 20 ∧ v 3 ≤ 2980 ∧ a2 2 = rfd (a 2) (v 3).toNat x1 x2 x3 x4 x5 20)) ∧ (v2 30 = v 30 ∧ a2 29 = a 29) ∧ TSAME v a v2 a2) := by
  intro n ad ln v a L E hn hV hI
  obtain ⟨hB, hT, hS, hR, h19⟩ := hV
  refine ⟨_, B_feed (x1 := x1) (x2 := x2) (x3 := x3) (x4 := x4) (x5 := x5) hB h_x1 h_x2 h_x3 h_x4 h_x5 L E hI, fun r L2 E2 h => ?_⟩
  obtain ⟨v2, a2, hI2, f, rfl, hf, hB2, hx⟩ := h
  exact ⟨f, ad, ln, v2, a2, rfl, hI2, ⟨hB2, (hT.fr hf rfl rfl), (hS.fr hf rfl rfl), (hR.fr hf rfl), (by have q := hf.1 19 rfl; push_cast; omega)⟩, ⟨⟨trivial, ⟨hf.1 36 rfl, ⟨hf.1 36 rfl, hf.2 34 rfl, hf.2 35 rfl⟩, hf.1 42 rfl, hf.1 43 rfl, ⟨hf.1 41 rfl, hf.2 40 rfl⟩, ⟨hf.1 52 rfl, hf.2 51 rfl⟩, ⟨hf.1 60 rfl, hf.1 61 rfl, hf.2 58 rfl, hf.2 59 rfl⟩⟩⟩, ⟨hf.1 56 rfl, hf.1 31 rfl, hf.1 32 rfl, hf.1 33 rfl⟩, hx, ⟨hf.1 30 rfl, hf.2 29 rfl⟩, ⟨hf.1 4 rfl, hf.2 5 rfl, hf.2 6 rfl, hf.2 7 rfl, hf.2 10 rfl, hf.1 19 rfl, hf.2 18 rfl, hf.2 11 rfl, hf.2 8 rfl, hf.2 9 rfl, hf.2 12 rfl, hf.2 13 rfl, hf.2 14 rfl, hf.2 15 rfl, hf.2 16 rfl, hf.2 17 rfl⟩⟩⟩
theorem MO_end {l : Launch} {G : GT} {mm : Nat} {x1 : Int} (h_x1 : -2147483648 ≤ x1 ∧ x1 ≤ 2147483647) : ModelOp l G yX12_end cX12_end 2 (some .int) 1 [.int (iI x1)] mm 0 0 (fun v a v2 a2 f => (True ∧ (v2 36 = v 36 ∧ KSA v a v2 a2 ∧ v2 42 = v 42 ∧ v2 43 = v 43 ∧ (v2 41 = v 41 ∧ a2 40 = a 40) ∧ (v2 52 = v 52 ∧ a2 51 = a 51) ∧ (v2 60 = v 60 ∧ v2 61 = v 61 ∧ a2 58 = a 58 ∧ a2 59 = a 59))) ∧ (v2 56 = v 56 ∧ v2 31 = v 31 ∧ v2 32 = v 32 ∧ v2 33 = v 33) ∧ (((f = -1 ∧ v2 3 = v 3 ∧ (x1 < 0 ∨ v 3 < x1)) ∨ (f = x1 ∧ v2 3 = x1 ∧ 0 ≤ x1 ∧ x1 ≤ v 3)) ∧ a2 2 = a 2) ∧ (v2 30 = v 30 ∧ a2 29 = a 29) ∧ TSAME v a v2 a2) := by
  intro n ad ln v a L E hn hV hI
  obtain ⟨hB, hT, hS, hR, h19⟩ := hV
  refine ⟨_, B_end (n1 := x1) hB h_x1 L E hI, fun r L2 E2 h => ?_⟩
  obtain ⟨v2, a2, hI2, f, rfl, hf, hB2, hx⟩ := h
  exact ⟨f, ad, ln, v2, a2, rfl, hI2, ⟨hB2, (hT.fr hf rfl rfl), (hS.fr hf rfl rfl), (hR.fr hf rfl), (by have q := hf.1 19 rfl; push_cast; omega)⟩, ⟨⟨trivial, ⟨hf.1 36 rfl, ⟨hf.1 36 rfl, hf.2 34 rfl, hf.2 35 rfl⟩, hf.1 42 rfl, hf.1 43 rfl, ⟨hf.1 41 rfl, hf.2 40 rfl⟩, ⟨hf.1 52 rfl, hf.2 51 rfl⟩, ⟨hf.1 60 rfl, hf.1 61 rfl, hf.2 58 rfl, hf.2 59 rfl⟩⟩⟩, ⟨hf.1 56 rfl, hf.1 31 rfl, hf.1 32 rfl, hf.1 33 rfl⟩, ⟨hx, hf.2 2 rfl⟩, ⟨hf.1 30 rfl, hf.2 29 rfl⟩, ⟨hf.1 4 rfl, hf.2 5 rfl, hf.2 6 rfl, hf.2 7 rfl, hf.2 10 rfl, hf.1 19 rfl, hf.2 18 rfl, hf.2 11 rfl, hf.2 8 rfl, hf.2 9 rfl, hf.2 12 rfl, hf.2 13 rfl, hf.2 14 rfl, hf.2 15 rfl, hf.2 16 rfl, hf.2 17 rfl⟩⟩⟩
theorem MO_table {l : Launch} {G : GT} {mm : Nat} {x1 : Int} {x2 : Int} {x3 : Int} (h_x1 : -2147483648 ≤ x1 ∧ x1 ≤ 2147483647) (h_x2 : -2147483648 ≤ x2 ∧ x2 ≤ 2147483647) (h_x3 : -2147483648 ≤ x3 ∧ x3 ≤ 2147483647) : ModelOp l G yX12_table cX12_table 5 (some .int) 2 [.int (iI x1), .int (iI x2), .int (iI x3)] mm 1 4110 (fun v a v2 a2 f => (True ∧ (v2 36 = v 36 ∧ KSA v a v2 a2 ∧ v2 42 = v 42 ∧ v2 43 = v 43 ∧ (v2 41 = v 41 ∧ a2 40 = a 40) ∧ (v2 52 = v 52 ∧ a2 51 = a 51) ∧ (v2 60 = v 60 ∧ v2 61 = v 61 ∧ a2 58 = a 58 ∧ a2 59 = a 59))) ∧ (v2 56 = v 56 ∧ v2 31 = v 31 ∧ v2 32 = v 32 ∧ v2 33 = v 33) ∧ (v2 3 = v 3 ∧ a2 2 = a 2) ∧ (v2 30 = v 30 ∧ a2 29 = a 29) ∧ ((f = -1 ∧ TSAME v a v2 a2 ∧ ¬ (0 ≤ x1 ∧ x1 ≤ 4 ∧ (x2 = 6 ∨ x2 = 8) ∧ v 4 ≠ 30 ∧ (x1 < 1 ∨ 3 < x1 ∨ (0 ≤ x3 ∧ x3 < v 4 ∧ a 5 x3.toNat = 1 ∧ a 6 x3.toNat ≤ 3)))) ∨ (f = v 4 ∧ (0 ≤ x1 ∧ x1 ≤ 4 ∧ (x2 = 6 ∨ x2 = 8) ∧ v 4 ≠ 30 ∧ (x1 < 1 ∨ 3 < x1 ∨ (0 ≤ x3 ∧ x3 < v 4 ∧ a 5 x3.toNat = 1 ∧ a 6 x3.toNat ≤ 3))) ∧ TNEW x1 x2 (if x1 < 1 ∨ 3 < x1 then -1 else x3) (-1) v a v2 a2))) := by
  intro n ad ln v a L E hn hV hI
  obtain ⟨hB, hT, hS, hR, h19⟩ := hV
  refine ⟨_, M_table (k0 := x1) (d0 := x2) (b0 := x3) hB hT hS h_x1 h_x2 h_x3 (by omega) L E hI, fun r L2 E2 h => ?_⟩
  obtain ⟨ad2, ln2, v2, a2, hI2, f, rfl, hf, hB2, hx⟩ := h
  exact ⟨f, ad2, ln2, v2, a2, rfl, hI2, ⟨hB2, hx.1, hx.2.1, (hR.fr hf rfl), (by have q := hx.2.2.1; push_cast; omega)⟩, ⟨⟨trivial, ⟨hf.1 36 rfl, ⟨hf.1 36 rfl, hf.2 34 rfl, hf.2 35 rfl⟩, hf.1 42 rfl, hf.1 43 rfl, ⟨hf.1 41 rfl, hf.2 40 rfl⟩, ⟨hf.1 52 rfl, hf.2 51 rfl⟩, ⟨hf.1 60 rfl, hf.1 61 rfl, hf.2 58 rfl, hf.2 59 rfl⟩⟩⟩, ⟨hf.1 56 rfl, hf.1 31 rfl, hf.1 32 rfl, hf.1 33 rfl⟩, ⟨hf.1 3 rfl, hf.2 2 rfl⟩, ⟨hf.1 30 rfl, hf.2 29 rfl⟩, hx.2.2.2⟩⟩
theorem MO_join {l : Launch} {G : GT} {mm : Nat} {x1 : Int} {x2 : Int} (h_x1 : -2147483648 ≤ x1 ∧ x1 ≤ 2147483647) (h_x2 : -2147483648 ≤ x2 ∧ x2 ≤ 2147483647) : ModelOp l G yX12_join cX12_join 3 (some .int) 2 [.int (iI x1), .int (iI x2)] mm 1 4110 (fun v a v2 a2 f => (True ∧ (v2 36 = v 36 ∧ KSA v a v2 a2 ∧ v2 42 = v 42 ∧ v2 43 = v 43 ∧ (v2 41 = v 41 ∧ a2 40 = a 40) ∧ (v2 52 = v 52 ∧ a2 51 = a 51) ∧ (v2 60 = v 60 ∧ v2 61 = v 61 ∧ a2 58 = a 58 ∧ a2 59 = a 59))) ∧ (v2 56 = v 56 ∧ v2 31 = v 31 ∧ v2 32 = v 32 ∧ v2 33 = v 33) ∧ (v2 3 = v 3 ∧ a2 2 = a 2) ∧ (v2 30 = v 30 ∧ a2 29 = a 29) ∧ ((f = -1 ∧ TSAME v a v2 a2 ∧ ¬ (0 ≤ x1 ∧ x1 < v 4 ∧ a 5 x1.toNat = 1 ∧ a 6 x1.toNat ≤ 3 ∧ 0 ≤ x2 ∧ x2 < v 4 ∧ a 5 x2.toNat = 1 ∧ a 6 x2.toNat ≤ 3 ∧ v 4 ≠ 30)) ∨ (f = v 4 ∧ (0 ≤ x1 ∧ x1 < v 4 ∧ a 5 x1.toNat = 1 ∧ a 6 x1.toNat ≤ 3 ∧ 0 ≤ x2 ∧ x2 < v 4 ∧ a 5 x2.toNat = 1 ∧ a 6 x2.toNat ≤ 3 ∧ v 4 ≠ 30) ∧ TNEW 5 (max (a 7 x1.toNat) (a 7 x2.toNat)) x1 x2 v a v2 a2))) := by
  intro n ad ln v a L E hn hV hI
  obtain ⟨hB, hT, hS, hR, h19⟩ := hV
  refine ⟨_, M_join (x := x1) (y := x2) hB hT hS h_x1 h_x2 (by omega) L E hI, fun r L2 E2 h => ?_⟩
  obtain ⟨ad2, ln2, v2, a2, hI2, f, rfl, hf, hB2, hx⟩ := h
  exact ⟨f, ad2, ln2, v2, a2, rfl, hI2, ⟨hB2, hx.1, hx.2.1, (hR.fr hf rfl), (by have q := hx.2.2.1; push_cast; omega)⟩, ⟨⟨trivial, ⟨hf.1 36 rfl, ⟨hf.1 36 rfl, hf.2 34 rfl, hf.2 35 rfl⟩, hf.1 42 rfl, hf.1 43 rfl, ⟨hf.1 41 rfl, hf.2 40 rfl⟩, ⟨hf.1 52 rfl, hf.2 51 rfl⟩, ⟨hf.1 60 rfl, hf.1 61 rfl, hf.2 58 rfl, hf.2 59 rfl⟩⟩⟩, ⟨hf.1 56 rfl, hf.1 31 rfl, hf.1 32 rfl, hf.1 33 rfl⟩, ⟨hf.1 3 rfl, hf.2 2 rfl⟩, ⟨hf.1 30 rfl, hf.2 29 rfl⟩, hx.2.2.2⟩⟩
theorem MO_drop {l : Launch} {G : GT} {mm : Nat} {x1 : Int} (h_x1 : -2147483648 ≤ x1 ∧ x1 ≤ 2147483647) : ModelOp l G yX12_drop cX12_drop 2 (some .int) 1 [.int (iI x1)] mm 1 4110 (fun v a v2 a2 f => (True ∧ (v2 36 = v 36 ∧ KSA v a v2 a2 ∧ v2 42 = v 42 ∧ v2 43 = v 43 ∧ (v2 41 = v 41 ∧ a2 40 = a 40) ∧ (v2 52 = v 52 ∧ a2 51 = a 51) ∧ (v2 60 = v 60 ∧ v2 61 = v 61 ∧ a2 58 = a 58 ∧ a2 59 = a 59))) ∧ (v2 56 = v 56 ∧ v2 31 = v 31 ∧ v2 32 = v 32 ∧ v2 33 = v 33) ∧ (v2 3 = v 3 ∧ a2 2 = a 2) ∧ (v2 30 = v 30 ∧ a2 29 = a 29) ∧ ((f = -1 ∧ TSAME v a v2 a2 ∧ ¬ (0 ≤ x1 ∧ x1 < v 4 ∧ a 5 x1.toNat = 1)) ∨ (f = 1 ∧ (0 ≤ x1 ∧ x1 < v 4 ∧ a 5 x1.toNat = 1) ∧ TDRP x1 v a v2 a2))) := by
  intro n ad ln v a L E hn hV hI
  obtain ⟨hB, hT, hS, hR, h19⟩ := hV
  refine ⟨_, M_drop (t := x1) hB hT hS h_x1 (by omega) L E hI, fun r L2 E2 h => ?_⟩
  obtain ⟨ad2, ln2, v2, a2, hI2, f, rfl, hf, hB2, hx⟩ := h
  exact ⟨f, ad2, ln2, v2, a2, rfl, hI2, ⟨hB2, hx.1, hx.2.1, (hR.fr hf rfl), (by have q := hx.2.2.1; push_cast; omega)⟩, ⟨⟨trivial, ⟨hf.1 36 rfl, ⟨hf.1 36 rfl, hf.2 34 rfl, hf.2 35 rfl⟩, hf.1 42 rfl, hf.1 43 rfl, ⟨hf.1 41 rfl, hf.2 40 rfl⟩, ⟨hf.1 52 rfl, hf.2 51 rfl⟩, ⟨hf.1 60 rfl, hf.1 61 rfl, hf.2 58 rfl, hf.2 59 rfl⟩⟩⟩, ⟨hf.1 56 rfl, hf.1 31 rfl, hf.1 32 rfl, hf.1 33 rfl⟩, ⟨hf.1 3 rfl, hf.2 2 rfl⟩, ⟨hf.1 30 rfl, hf.2 29 rfl⟩, hx.2.2.2⟩⟩
theorem MO_rule {l : Launch} {G : GT} {mm : Nat} {x1 : Int} {x2 : Int} {x3 : Int} (h_x1 : -2147483648 ≤ x1 ∧ x1 ≤ 2147483647) (h_x2 : -2147483648 ≤ x2 ∧ x2 ≤ 2147483647) (h_x3 : -2147483648 ≤ x3 ∧ x3 ≤ 2147483647) : ModelOp l G yX12_rule cX12_rule 8 (some .int) 2 [.int (iI x1), .int (iI x2), .int (iI x3)] mm 1 4110 (fun v a v2 a2 f => (True ∧ (v2 36 = v 36 ∧ KSA v a v2 a2 ∧ v2 42 = v 42 ∧ v2 43 = v 43 ∧ (v2 41 = v 41 ∧ a2 40 = a 40) ∧ (v2 52 = v 52 ∧ a2 51 = a 51) ∧ (v2 60 = v 60 ∧ v2 61 = v 61 ∧ a2 58 = a 58 ∧ a2 59 = a 59))) ∧ (v2 56 = v 56 ∧ v2 31 = v 31 ∧ v2 32 = v 32 ∧ v2 33 = v 33) ∧ v2 3 = 0 ∧ (v2 30 = v 30 ∧ a2 29 = a 29) ∧ ((f = -1 ∧ TSAME v a v2 a2 ∧ ¬ ((0 ≤ x1 ∧ x1 < v 4 ∧ a 5 x1.toNat = 1 ∧ a 6 x1.toNat ≠ 5 ∧ 0 ≤ x2 ∧ x2 ≤ 5 ∧ 1 ≤ x3 ∧ x3 ≤ 8 ∧ 1 ≤ v 3 - x3 ∧ v 3 - x3 ≤ 4 ∧ a 10 x1.toNat ≠ 200) ∧ ACL (a 2) x3 (v 3 - x3) (DC (a 7 x1.toNat)) ∧ LTK (a 2) x3)) ∨ (f = a 10 x1.toNat ∧ ((0 ≤ x1 ∧ x1 < v 4 ∧ a 5 x1.toNat = 1 ∧ a 6 x1.toNat ≠ 5 ∧ 0 ≤ x2 ∧ x2 ≤ 5 ∧ 1 ≤ x3 ∧ x3 ≤ 8 ∧ 1 ≤ v 3 - x3 ∧ v 3 - x3 ≤ 4 ∧ a 10 x1.toNat ≠ 200) ∧ ACL (a 2) x3 (v 3 - x3) (DC (a 7 x1.toNat)) ∧ LTK (a 2) x3) ∧ TRUL x1 x2 x3 v a v2 a2))) := by
  intro n ad ln v a L E hn hV hI
  obtain ⟨hB, hT, hS, hR, h19⟩ := hV
  refine ⟨_, M_rule (t := x1) (x := x2) (m1 := x3) hB hT hS h_x1 h_x2 h_x3 (by omega) L E hI, fun r L2 E2 h => ?_⟩
  obtain ⟨ad2, ln2, v2, a2, hI2, f, rfl, hf, hB2, hx⟩ := h
  exact ⟨f, ad2, ln2, v2, a2, rfl, hI2, ⟨hB2, hx.1, hx.2.1, (hR.fr hf rfl), (by have q := hx.2.2.1; push_cast; omega)⟩, ⟨⟨trivial, ⟨hf.1 36 rfl, ⟨hf.1 36 rfl, hf.2 34 rfl, hf.2 35 rfl⟩, hf.1 42 rfl, hf.1 43 rfl, ⟨hf.1 41 rfl, hf.2 40 rfl⟩, ⟨hf.1 52 rfl, hf.2 51 rfl⟩, ⟨hf.1 60 rfl, hf.1 61 rfl, hf.2 58 rfl, hf.2 59 rfl⟩⟩⟩, ⟨hf.1 56 rfl, hf.1 31 rfl, hf.1 32 rfl, hf.1 33 rfl⟩, hx.2.2.2.1, ⟨hf.1 30 rfl, hf.2 29 rfl⟩, hx.2.2.2.2⟩⟩
theorem MO_condition {l : Launch} {G : GT} {mm : Nat} {x1 : Int} {x2 : Int} {x3 : Int} (h_x1 : -2147483648 ≤ x1 ∧ x1 ≤ 2147483647) (h_x2 : -2147483648 ≤ x2 ∧ x2 ≤ 2147483647) (h_x3 : -2147483648 ≤ x3 ∧ x3 ≤ 2147483647) : ModelOp l G yX12_condition cX12_condition 5 (some .int) 2 [.int (iI x1), .int (iI x2), .int (iI x3)] mm 1 4110 (fun v a v2 a2 f => (True ∧ (v2 36 = v 36 ∧ KSA v a v2 a2 ∧ v2 42 = v 42 ∧ v2 43 = v 43 ∧ (v2 41 = v 41 ∧ a2 40 = a 40) ∧ (v2 52 = v 52 ∧ a2 51 = a 51) ∧ (v2 60 = v 60 ∧ v2 61 = v 61 ∧ a2 58 = a 58 ∧ a2 59 = a 59))) ∧ (v2 56 = v 56 ∧ v2 31 = v 31 ∧ v2 32 = v 32 ∧ v2 33 = v 33) ∧ (v2 3 = v 3 ∧ a2 2 = a 2) ∧ (v2 30 = v 30 ∧ a2 29 = a 29) ∧ ((f = -1 ∧ TSAME v a v2 a2 ∧ ¬ (0 ≤ x1 ∧ x1 < v 4 ∧ a 5 x1.toNat = 1 ∧ a 6 x1.toNat ≠ 5 ∧ 0 ≤ x2 ∧ x2 < a 10 x1.toNat ∧ 0 ≤ x3 ∧ x3 ≤ 5)) ∨ (f = a 11 (200 * x1 + x2).toNat ∧ (0 ≤ x1 ∧ x1 < v 4 ∧ a 5 x1.toNat = 1 ∧ a 6 x1.toNat ≠ 5 ∧ 0 ≤ x2 ∧ x2 < a 10 x1.toNat ∧ 0 ≤ x3 ∧ x3 ≤ 5) ∧ TCND x1 x2 x3 v a v2 a2))) := by
  intro n ad ln v a L E hn hV hI
  obtain ⟨hB, hT, hS, hR, h19⟩ := hV
  refine ⟨_, M_condition (t := x1) (r0 := x2) (x := x3) hB hT hS h_x1 h_x2 h_x3 (by omega) L E hI, fun r L2 E2 h => ?_⟩
  obtain ⟨ad2, ln2, v2, a2, hI2, f, rfl, hf, hB2, hx⟩ := h
  exact ⟨f, ad2, ln2, v2, a2, rfl, hI2, ⟨hB2, hx.1, hx.2.1, (hR.fr hf rfl), (by have q := hx.2.2.1; push_cast; omega)⟩, ⟨⟨trivial, ⟨hf.1 36 rfl, ⟨hf.1 36 rfl, hf.2 34 rfl, hf.2 35 rfl⟩, hf.1 42 rfl, hf.1 43 rfl, ⟨hf.1 41 rfl, hf.2 40 rfl⟩, ⟨hf.1 52 rfl, hf.2 51 rfl⟩, ⟨hf.1 60 rfl, hf.1 61 rfl, hf.2 58 rfl, hf.2 59 rfl⟩⟩⟩, ⟨hf.1 56 rfl, hf.1 31 rfl, hf.1 32 rfl, hf.1 33 rfl⟩, ⟨hf.1 3 rfl, hf.2 2 rfl⟩, ⟨hf.1 30 rfl, hf.2 29 rfl⟩, hx.2.2.2⟩⟩
theorem MO_indicator {l : Launch} {G : GT} {mm : Nat} {x1 : Int} {x2 : Int} (h_x1 : -2147483648 ≤ x1 ∧ x1 ≤ 2147483647) (h_x2 : -2147483648 ≤ x2 ∧ x2 ≤ 2147483647) : ModelOp l G yX12_indicator cX12_indicator 8 (some .int) 2 [.int (iI x1), .int (iI x2)] mm 1 4110 (fun v a v2 a2 f => (True ∧ (v2 36 = v 36 ∧ KSA v a v2 a2 ∧ v2 42 = v 42 ∧ v2 43 = v 43 ∧ (v2 41 = v 41 ∧ a2 40 = a 40) ∧ (v2 52 = v 52 ∧ a2 51 = a 51) ∧ (v2 60 = v 60 ∧ v2 61 = v 61 ∧ a2 58 = a 58 ∧ a2 59 = a 59))) ∧ (v2 56 = v 56 ∧ v2 31 = v 31 ∧ v2 32 = v 32 ∧ v2 33 = v 33) ∧ v2 3 = 0 ∧ (v2 30 = v 30 ∧ a2 29 = a 29) ∧ ((f = -1 ∧ TSAME v a v2 a2 ∧ ¬ ((0 ≤ x2 ∧ x2 ≤ 3 ∧ 0 ≤ x1 ∧ x1 < v 4 ∧ a 5 x1.toNat = 1 ∧ ((x2 = 0 ∧ a 6 x1.toNat ≤ 2) ∨ (x2 = 1 ∧ a 6 x1.toNat = 2) ∨ (x2 ≠ 0 ∧ x2 ≠ 1 ∧ a 6 x1.toNat = 5)) ∧ v 3 ≤ 4) ∧ ACL (a 2) 0 (v 3) (DC (a 7 x1.toNat)) ∧ True)) ∨ (f = v 3 ∧ ((0 ≤ x2 ∧ x2 ≤ 3 ∧ 0 ≤ x1 ∧ x1 < v 4 ∧ a 5 x1.toNat = 1 ∧ ((x2 = 0 ∧ a 6 x1.toNat ≤ 2) ∨ (x2 = 1 ∧ a 6 x1.toNat = 2) ∨ (x2 ≠ 0 ∧ x2 ≠ 1 ∧ a 6 x1.toNat = 5)) ∧ v 3 ≤ 4) ∧ ACL (a 2) 0 (v 3) (DC (a 7 x1.toNat)) ∧ True) ∧ TIND x1 x2 v a v2 a2))) := by
  intro n ad ln v a L E hn hV hI
  obtain ⟨hB, hT, hS, hR, h19⟩ := hV
  refine ⟨_, M_indicator (t := x1) (x := x2) hB hT hS h_x1 h_x2 (by omega) L E hI, fun r L2 E2 h => ?_⟩
  obtain ⟨ad2, ln2, v2, a2, hI2, f, rfl, hf, hB2, hx⟩ := h
  exact ⟨f, ad2, ln2, v2, a2, rfl, hI2, ⟨hB2, hx.1, hx.2.1, (hR.fr hf rfl), (by have q := hx.2.2.1; push_cast; omega)⟩, ⟨⟨trivial, ⟨hf.1 36 rfl, ⟨hf.1 36 rfl, hf.2 34 rfl, hf.2 35 rfl⟩, hf.1 42 rfl, hf.1 43 rfl, ⟨hf.1 41 rfl, hf.2 40 rfl⟩, ⟨hf.1 52 rfl, hf.2 51 rfl⟩, ⟨hf.1 60 rfl, hf.1 61 rfl, hf.2 58 rfl, hf.2 59 rfl⟩⟩⟩, ⟨hf.1 56 rfl, hf.1 31 rfl, hf.1 32 rfl, hf.1 33 rfl⟩, hx.2.2.2.1, ⟨hf.1 30 rfl, hf.2 29 rfl⟩, hx.2.2.2.2⟩⟩
theorem MO_undo {l : Launch} {G : GT} {mm : Nat} : ModelOp l G yX12_undo cX12_undo 5 (some .int) 1 [] mm 0 0 (fun v a v2 a2 f => (True ∧ (v2 36 = v 36 ∧ KSA v a v2 a2 ∧ v2 42 = v 42 ∧ v2 43 = v 43 ∧ (v2 41 = v 41 ∧ a2 40 = a 40) ∧ (v2 52 = v 52 ∧ a2 51 = a 51) ∧ (v2 60 = v 60 ∧ v2 61 = v 61 ∧ a2 58 = a 58 ∧ a2 59 = a 59))) ∧ (v2 56 = v 56 ∧ v2 31 = v 31 ∧ v2 32 = v 32 ∧ v2 33 = v 33) ∧ (v2 3 = v 3 ∧ a2 2 = a 2) ∧ (v2 30 = v 30 ∧ a2 29 = a 29) ∧ ((∃ ln, STK ln v a) ∧ (∃ ln, STK ln v2 a2) ∧ ((v 19 = 0 ∧ f = 0 ∧ TSAME v a v2 a2) ∨ (v 19 ≠ 0 ∧ f = 1 ∧ TUND v a v2 a2)))) := by
  intro n ad ln v a L E hn hV hI
  obtain ⟨hB, hT, hS, hR, h19⟩ := hV
  refine ⟨_, M_undo  hB hT hS (by omega) L E hI, fun r L2 E2 h => ?_⟩
  obtain ⟨ad2, ln2, v2, a2, hI2, f, rfl, hf, hB2, hx⟩ := h
  exact ⟨f, ad2, ln2, v2, a2, rfl, hI2, ⟨hB2, hx.1, hx.2.1, (hR.fr hf rfl), (by have q := hx.2.2.1; push_cast; omega)⟩, ⟨⟨trivial, ⟨hf.1 36 rfl, ⟨hf.1 36 rfl, hf.2 34 rfl, hf.2 35 rfl⟩, hf.1 42 rfl, hf.1 43 rfl, ⟨hf.1 41 rfl, hf.2 40 rfl⟩, ⟨hf.1 52 rfl, hf.2 51 rfl⟩, ⟨hf.1 60 rfl, hf.1 61 rfl, hf.2 58 rfl, hf.2 59 rfl⟩⟩⟩, ⟨hf.1 56 rfl, hf.1 31 rfl, hf.1 32 rfl, hf.1 33 rfl⟩, ⟨hf.1 3 rfl, hf.2 2 rfl⟩, ⟨hf.1 30 rfl, hf.2 29 rfl⟩, ⟨⟨ln, hS⟩, ⟨ln2, hx.2.1⟩, hx.2.2.2⟩⟩⟩
theorem MO_text {l : Launch} {G : GT} {mm : Nat} : ModelOp l G yX12_text cX12_text 4 (some .int) 1 [] mm 0 0 (fun v a v2 a2 f => (True ∧ (v2 36 = v 36 ∧ KSA v a v2 a2 ∧ v2 42 = v 42 ∧ v2 43 = v 43 ∧ (v2 41 = v 41 ∧ a2 40 = a 40) ∧ (v2 52 = v 52 ∧ a2 51 = a 51) ∧ (v2 60 = v 60 ∧ v2 61 = v 61 ∧ a2 58 = a 58 ∧ a2 59 = a 59))) ∧ (v2 56 = v 56 ∧ v2 31 = v 31 ∧ v2 32 = v 32 ∧ v2 33 = v 33) ∧ v2 3 = 0 ∧ ((((f = -1 ∧ v2 30 = v 30 ∧ ¬ (TOK (a 2) (v 3) ∧ v 30 + v 3 ≤ 500)) ∨ (f = v2 30 ∧ TOK (a 2) (v 3) ∧ v 30 + v 3 ≤ 500 ∧ ((v 3 = 0 ∧ v2 30 = 0) ∨ (v 3 ≠ 0 ∧ v2 30 = v 30 + v 3))))) ∧ TXR v a v2 a2 f) ∧ TSAME v a v2 a2) := by
  intro n ad ln v a L E hn hV hI
  obtain ⟨hB, hT, hS, hR, h19⟩ := hV
  refine ⟨_, B_text  hB L E hI, fun r L2 E2 h => ?_⟩
  obtain ⟨v2, a2, hI2, f, rfl, hf, hB2, hx⟩ := h
  exact ⟨f, ad, ln, v2, a2, rfl, hI2, ⟨hB2, (hT.fr hf rfl rfl), (hS.fr hf rfl rfl), (hR.fr hf rfl), (by have q := hf.1 19 rfl; push_cast; omega)⟩, ⟨⟨trivial, ⟨hf.1 36 rfl, ⟨hf.1 36 rfl, hf.2 34 rfl, hf.2 35 rfl⟩, hf.1 42 rfl, hf.1 43 rfl, ⟨hf.1 41 rfl, hf.2 40 rfl⟩, ⟨hf.1 52 rfl, hf.2 51 rfl⟩, ⟨hf.1 60 rfl, hf.1 61 rfl, hf.2 58 rfl, hf.2 59 rfl⟩⟩⟩, ⟨hf.1 56 rfl, hf.1 31 rfl, hf.1 32 rfl, hf.1 33 rfl⟩, hx.1.1, ⟨hx.1.2, hx.2⟩, ⟨hf.1 4 rfl, hf.2 5 rfl, hf.2 6 rfl, hf.2 7 rfl, hf.2 10 rfl, hf.1 19 rfl, hf.2 18 rfl, hf.2 11 rfl, hf.2 8 rfl, hf.2 9 rfl, hf.2 12 rfl, hf.2 13 rfl, hf.2 14 rfl, hf.2 15 rfl, hf.2 16 rfl, hf.2 17 rfl⟩⟩⟩
theorem MO_measure {l : Launch} {G : GT} {mm : Nat} {x1 : Int} {x2 : Int} {x3 : Int} (h_x1 : -2147483648 ≤ x1 ∧ x1 ≤ 2147483647) (h_x2 : -2147483648 ≤ x2 ∧ x2 ≤ 2147483647) (h_x3 : -2147483648 ≤ x3 ∧ x3 ≤ 2147483647) : ModelOp l G yX12_measure cX12_measure 4 (some .int) 1 [.int (iI x1), .int (iI x2), .int (iI x3)] mm 0 0 (fun v a v2 a2 f => (((f = 1 ∧ 1 ≤ x1 ∧ x1 ≤ 100 ∧ 1 ≤ x2 ∧ x2 ≤ 50 ∧ 1 ≤ x3 ∧ x3 ≤ 255) ∨ (f = -1 ∧ ¬ (1 ≤ x1 ∧ x1 ≤ 100 ∧ 1 ≤ x2 ∧ x2 ≤ 50 ∧ 1 ≤ x3 ∧ x3 ≤ 255))) ∧ (v2 36 = v 36 ∧ KSA v a v2 a2 ∧ v2 42 = v 42 ∧ v2 43 = v 43 ∧ (v2 41 = v 41 ∧ a2 40 = a 40) ∧ (v2 52 = v 52 ∧ a2 51 = a 51) ∧ (v2 60 = v 60 ∧ v2 61 = v 61 ∧ a2 58 = a 58 ∧ a2 59 = a 59))) ∧ (v2 56 = v 56 ∧ ((f = 1 ∧ v2 31 = x1 ∧ v2 32 = x2 ∧ v2 33 = x3) ∨ (f = -1 ∧ v2 31 = v 31 ∧ v2 32 = v 32 ∧ v2 33 = v 33))) ∧ (v2 3 = v 3 ∧ a2 2 = a 2) ∧ (v2 30 = v 30 ∧ a2 29 = a 29) ∧ TSAME v a v2 a2) := by
  intro n ad ln v a L E hn hV hI
  obtain ⟨hB, hT, hS, hR, h19⟩ := hV
  refine ⟨_, N_measure (w1 := x1) (h1 := x2) (y1 := x3) hB h_x1 h_x2 h_x3 L E hI, fun r L2 E2 h => ?_⟩
  obtain ⟨v2, a2, hI2, f, rfl, hf, hB2, hx⟩ := h
  exact ⟨f, ad, ln, v2, a2, rfl, hI2, ⟨hB2, (hT.fr hf rfl rfl), (hS.fr hf rfl rfl), (hR.fr hf rfl), (by have q := hf.1 19 rfl; push_cast; omega)⟩, ⟨⟨hx.1, ⟨hf.1 36 rfl, ⟨hf.1 36 rfl, hf.2 34 rfl, hf.2 35 rfl⟩, hf.1 42 rfl, hf.1 43 rfl, ⟨hf.1 41 rfl, hf.2 40 rfl⟩, ⟨hf.1 52 rfl, hf.2 51 rfl⟩, ⟨hf.1 60 rfl, hf.1 61 rfl, hf.2 58 rfl, hf.2 59 rfl⟩⟩⟩, ⟨hf.1 56 rfl, hx.2⟩, ⟨hf.1 3 rfl, hf.2 2 rfl⟩, ⟨hf.1 30 rfl, hf.2 29 rfl⟩, ⟨hf.1 4 rfl, hf.2 5 rfl, hf.2 6 rfl, hf.2 7 rfl, hf.2 10 rfl, hf.1 19 rfl, hf.2 18 rfl, hf.2 11 rfl, hf.2 8 rfl, hf.2 9 rfl, hf.2 12 rfl, hf.2 13 rfl, hf.2 14 rfl, hf.2 15 rfl, hf.2 16 rfl, hf.2 17 rfl⟩⟩⟩
theorem MO_head {l : Launch} {G : GT} {mm : Nat} {x1 : Int} (h_x1 : -2147483648 ≤ x1 ∧ x1 ≤ 2147483647) : ModelOp l G yX12_head cX12_head 5 (some .int) 66 [.int (iI x1)] mm 0 0 (fun v a v2 a2 f => (True ∧ (v2 36 = v 36 ∧ KSA v a v2 a2 ∧ v2 42 = v 42 ∧ v2 43 = v 43 ∧ True ∧ (v2 52 = v 52 ∧ a2 51 = a 51) ∧ (v2 60 = v 60 ∧ v2 61 = v 61 ∧ a2 58 = a 58 ∧ a2 59 = a 59))) ∧ (v2 56 = v 56 ∧ v2 31 = v 31 ∧ v2 32 = v 32 ∧ v2 33 = v 33) ∧ v2 3 = 0 ∧ (v2 30 = v 30 ∧ a2 29 = a 29) ∧ TSAME v a v2 a2) := by
  intro n ad ln v a L E hn hV hI
  obtain ⟨hB, hT, hS, hR, h19⟩ := hV
  refine ⟨_, M_head (t := x1) hB hT h_x1 L E hI, fun r L2 E2 h => ?_⟩
  obtain ⟨v2, a2, hI2, f, rfl, hf, hB2, hx⟩ := h
  exact ⟨f, ad, ln, v2, a2, rfl, hI2, ⟨hB2, (hT.fr hf rfl rfl), (hS.fr hf rfl rfl), (hR.fr hf rfl), (by have q := hf.1 19 rfl; push_cast; omega)⟩, ⟨⟨trivial, ⟨hf.1 36 rfl, ⟨hf.1 36 rfl, hf.2 34 rfl, hf.2 35 rfl⟩, hf.1 42 rfl, hf.1 43 rfl, trivial, ⟨hf.1 52 rfl, hf.2 51 rfl⟩, ⟨hf.1 60 rfl, hf.1 61 rfl, hf.2 58 rfl, hf.2 59 rfl⟩⟩⟩, ⟨hf.1 56 rfl, hf.1 31 rfl, hf.1 32 rfl, hf.1 33 rfl⟩, hx, ⟨hf.1 30 rfl, hf.2 29 rfl⟩, ⟨hf.1 4 rfl, hf.2 5 rfl, hf.2 6 rfl, hf.2 7 rfl, hf.2 10 rfl, hf.1 19 rfl, hf.2 18 rfl, hf.2 11 rfl, hf.2 8 rfl, hf.2 9 rfl, hf.2 12 rfl, hf.2 13 rfl, hf.2 14 rfl, hf.2 15 rfl, hf.2 16 rfl, hf.2 17 rfl⟩⟩⟩
theorem MO_lines {l : Launch} {G : GT} {mm : Nat} : ModelOp l G yX12_lines cX12_lines 1 (some .int) 0 [] mm 0 0 (fun v a v2 a2 f => (True ∧ (v2 36 = v 36 ∧ KSA v a v2 a2 ∧ v2 42 = v 42 ∧ v2 43 = v 43 ∧ (v2 41 = v 41 ∧ a2 40 = a 40) ∧ (v2 52 = v 52 ∧ a2 51 = a 51) ∧ (v2 60 = v 60 ∧ v2 61 = v 61 ∧ a2 58 = a 58 ∧ a2 59 = a 59))) ∧ (v2 56 = v 56 ∧ v2 31 = v 31 ∧ v2 32 = v 32 ∧ v2 33 = v 33) ∧ (v2 3 = v 3 ∧ a2 2 = a 2) ∧ (v2 30 = v 30 ∧ a2 29 = a 29) ∧ TSAME v a v2 a2) := by
  intro n ad ln v a L E hn hV hI
  obtain ⟨hB, hT, hS, hR, h19⟩ := hV
  refine ⟨_, B_lines  hB L E hI, fun r L2 E2 h => ?_⟩
  obtain ⟨v2, a2, hI2, f, rfl, hf, hB2, hx⟩ := h
  exact ⟨f, ad, ln, v2, a2, rfl, hI2, ⟨hB2, (hT.fr hf rfl rfl), (hS.fr hf rfl rfl), (hR.fr hf rfl), (by have q := hf.1 19 rfl; push_cast; omega)⟩, ⟨⟨trivial, ⟨hf.1 36 rfl, ⟨hf.1 36 rfl, hf.2 34 rfl, hf.2 35 rfl⟩, hf.1 42 rfl, hf.1 43 rfl, ⟨hf.1 41 rfl, hf.2 40 rfl⟩, ⟨hf.1 52 rfl, hf.2 51 rfl⟩, ⟨hf.1 60 rfl, hf.1 61 rfl, hf.2 58 rfl, hf.2 59 rfl⟩⟩⟩, ⟨hf.1 56 rfl, hf.1 31 rfl, hf.1 32 rfl, hf.1 33 rfl⟩, ⟨hf.1 3 rfl, hf.2 2 rfl⟩, ⟨hf.1 30 rfl, hf.2 29 rfl⟩, ⟨hf.1 4 rfl, hf.2 5 rfl, hf.2 6 rfl, hf.2 7 rfl, hf.2 10 rfl, hf.1 19 rfl, hf.2 18 rfl, hf.2 11 rfl, hf.2 8 rfl, hf.2 9 rfl, hf.2 12 rfl, hf.2 13 rfl, hf.2 14 rfl, hf.2 15 rfl, hf.2 16 rfl, hf.2 17 rfl⟩⟩⟩
theorem MO_pages {l : Launch} {G : GT} {mm : Nat} : ModelOp l G yX12_pages cX12_pages 1 (some .int) 2 [] mm 0 0 (fun v a v2 a2 f => (True ∧ (v2 36 = v 36 ∧ KSA v a v2 a2 ∧ v2 42 = v 42 ∧ v2 43 = v 43 ∧ (v2 41 = v 41 ∧ a2 40 = a 40) ∧ (v2 52 = v 52 ∧ a2 51 = a 51) ∧ (v2 60 = v 60 ∧ v2 61 = v 61 ∧ a2 58 = a 58 ∧ a2 59 = a 59))) ∧ (v2 56 = v 56 ∧ v2 31 = v 31 ∧ v2 32 = v 32 ∧ v2 33 = v 33) ∧ (v2 3 = v 3 ∧ a2 2 = a 2) ∧ (v2 30 = v 30 ∧ a2 29 = a 29) ∧ TSAME v a v2 a2) := by
  intro n ad ln v a L E hn hV hI
  obtain ⟨hB, hT, hS, hR, h19⟩ := hV
  refine ⟨_, M_pages  hB L E hI, fun r L2 E2 h => ?_⟩
  obtain ⟨v2, a2, hI2, f, rfl, hf, hB2, hx⟩ := h
  exact ⟨f, ad, ln, v2, a2, rfl, hI2, ⟨hB2, (hT.fr hf rfl rfl), (hS.fr hf rfl rfl), (hR.fr hf rfl), (by have q := hf.1 19 rfl; push_cast; omega)⟩, ⟨⟨trivial, ⟨hf.1 36 rfl, ⟨hf.1 36 rfl, hf.2 34 rfl, hf.2 35 rfl⟩, hf.1 42 rfl, hf.1 43 rfl, ⟨hf.1 41 rfl, hf.2 40 rfl⟩, ⟨hf.1 52 rfl, hf.2 51 rfl⟩, ⟨hf.1 60 rfl, hf.1 61 rfl, hf.2 58 rfl, hf.2 59 rfl⟩⟩⟩, ⟨hf.1 56 rfl, hf.1 31 rfl, hf.1 32 rfl, hf.1 33 rfl⟩, ⟨hf.1 3 rfl, hf.2 2 rfl⟩, ⟨hf.1 30 rfl, hf.2 29 rfl⟩, ⟨hf.1 4 rfl, hf.2 5 rfl, hf.2 6 rfl, hf.2 7 rfl, hf.2 10 rfl, hf.1 19 rfl, hf.2 18 rfl, hf.2 11 rfl, hf.2 8 rfl, hf.2 9 rfl, hf.2 12 rfl, hf.2 13 rfl, hf.2 14 rfl, hf.2 15 rfl, hf.2 16 rfl, hf.2 17 rfl⟩⟩⟩
theorem MO_length {l : Launch} {G : GT} {mm : Nat} {x1 : Int} (h_x1 : -2147483648 ≤ x1 ∧ x1 ≤ 2147483647) : ModelOp l G yX12_length cX12_length 2 (some .int) 2 [.int (iI x1)] mm 0 0 (fun v a v2 a2 f => (True ∧ (v2 36 = v 36 ∧ KSA v a v2 a2 ∧ v2 42 = v 42 ∧ v2 43 = v 43 ∧ (v2 41 = v 41 ∧ a2 40 = a 40) ∧ (v2 52 = v 52 ∧ a2 51 = a 51) ∧ (v2 60 = v 60 ∧ v2 61 = v 61 ∧ a2 58 = a 58 ∧ a2 59 = a 59))) ∧ (v2 56 = v 56 ∧ v2 31 = v 31 ∧ v2 32 = v 32 ∧ v2 33 = v 33) ∧ (v2 3 = v 3 ∧ a2 2 = a 2) ∧ (v2 30 = v 30 ∧ a2 29 = a 29) ∧ TSAME v a v2 a2) := by
  intro n ad ln v a L E hn hV hI
  obtain ⟨hB, hT, hS, hR, h19⟩ := hV
  refine ⟨_, B_length (l0 := x1) hB h_x1 L E hI, fun r L2 E2 h => ?_⟩
  obtain ⟨v2, a2, hI2, f, rfl, hf, hB2, hx⟩ := h
  exact ⟨f, ad, ln, v2, a2, rfl, hI2, ⟨hB2, (hT.fr hf rfl rfl), (hS.fr hf rfl rfl), (hR.fr hf rfl), (by have q := hf.1 19 rfl; push_cast; omega)⟩, ⟨⟨trivial, ⟨hf.1 36 rfl, ⟨hf.1 36 rfl, hf.2 34 rfl, hf.2 35 rfl⟩, hf.1 42 rfl, hf.1 43 rfl, ⟨hf.1 41 rfl, hf.2 40 rfl⟩, ⟨hf.1 52 rfl, hf.2 51 rfl⟩, ⟨hf.1 60 rfl, hf.1 61 rfl, hf.2 58 rfl, hf.2 59 rfl⟩⟩⟩, ⟨hf.1 56 rfl, hf.1 31 rfl, hf.1 32 rfl, hf.1 33 rfl⟩, ⟨hf.1 3 rfl, hf.2 2 rfl⟩, ⟨hf.1 30 rfl, hf.2 29 rfl⟩, ⟨hf.1 4 rfl, hf.2 5 rfl, hf.2 6 rfl, hf.2 7 rfl, hf.2 10 rfl, hf.1 19 rfl, hf.2 18 rfl, hf.2 11 rfl, hf.2 8 rfl, hf.2 9 rfl, hf.2 12 rfl, hf.2 13 rfl, hf.2 14 rfl, hf.2 15 rfl, hf.2 16 rfl, hf.2 17 rfl⟩⟩⟩
theorem MO_cell {l : Launch} {G : GT} {mm : Nat} {x1 : Int} {x2 : Int} (h_x1 : -2147483648 ≤ x1 ∧ x1 ≤ 2147483647) (h_x2 : -2147483648 ≤ x2 ∧ x2 ≤ 2147483647) : ModelOp l G yX12_cell cX12_cell 3 (some .int) 2 [.int (iI x1), .int (iI x2)] mm 0 0 (fun v a v2 a2 f => (True ∧ (v2 36 = v 36 ∧ KSA v a v2 a2 ∧ v2 42 = v 42 ∧ v2 43 = v 43 ∧ (v2 41 = v 41 ∧ a2 40 = a 40) ∧ (v2 52 = v 52 ∧ a2 51 = a 51) ∧ (v2 60 = v 60 ∧ v2 61 = v 61 ∧ a2 58 = a 58 ∧ a2 59 = a 59))) ∧ (v2 56 = v 56 ∧ v2 31 = v 31 ∧ v2 32 = v 32 ∧ v2 33 = v 33) ∧ (v2 3 = v 3 ∧ a2 2 = a 2) ∧ (v2 30 = v 30 ∧ a2 29 = a 29) ∧ TSAME v a v2 a2) := by
  intro n ad ln v a L E hn hV hI
  obtain ⟨hB, hT, hS, hR, h19⟩ := hV
  refine ⟨_, B_cell (l0 := x1) (i := x2) hB h_x1 h_x2 L E hI, fun r L2 E2 h => ?_⟩
  obtain ⟨v2, a2, hI2, f, rfl, hf, hB2, hx⟩ := h
  exact ⟨f, ad, ln, v2, a2, rfl, hI2, ⟨hB2, (hT.fr hf rfl rfl), (hS.fr hf rfl rfl), (hR.fr hf rfl), (by have q := hf.1 19 rfl; push_cast; omega)⟩, ⟨⟨trivial, ⟨hf.1 36 rfl, ⟨hf.1 36 rfl, hf.2 34 rfl, hf.2 35 rfl⟩, hf.1 42 rfl, hf.1 43 rfl, ⟨hf.1 41 rfl, hf.2 40 rfl⟩, ⟨hf.1 52 rfl, hf.2 51 rfl⟩, ⟨hf.1 60 rfl, hf.1 61 rfl, hf.2 58 rfl, hf.2 59 rfl⟩⟩⟩, ⟨hf.1 56 rfl, hf.1 31 rfl, hf.1 32 rfl, hf.1 33 rfl⟩, ⟨hf.1 3 rfl, hf.2 2 rfl⟩, ⟨hf.1 30 rfl, hf.2 29 rfl⟩, ⟨hf.1 4 rfl, hf.2 5 rfl, hf.2 6 rfl, hf.2 7 rfl, hf.2 10 rfl, hf.1 19 rfl, hf.2 18 rfl, hf.2 11 rfl, hf.2 8 rfl, hf.2 9 rfl, hf.2 12 rfl, hf.2 13 rfl, hf.2 14 rfl, hf.2 15 rfl, hf.2 16 rfl, hf.2 17 rfl⟩⟩⟩
theorem MO_page {l : Launch} {G : GT} {mm : Nat} {x1 : Int} {x2 : Int} {x3 : Int} (h_x1 : -2147483648 ≤ x1 ∧ x1 ≤ 2147483647) (h_x2 : -2147483648 ≤ x2 ∧ x2 ≤ 2147483647) (h_x3 : -2147483648 ≤ x3 ∧ x3 ≤ 2147483647) : ModelOp l G yX12_page cX12_page 5 (some .int) 3 [.int (iI x1), .int (iI x2), .int (iI x3)] mm 0 0 (fun v a v2 a2 f => (True ∧ (v2 36 = v 36 ∧ KSA v a v2 a2 ∧ v2 42 = v 42 ∧ v2 43 = v 43 ∧ (v2 41 = v 41 ∧ a2 40 = a 40) ∧ (v2 52 = v 52 ∧ a2 51 = a 51) ∧ (v2 60 = v 60 ∧ v2 61 = v 61 ∧ a2 58 = a 58 ∧ a2 59 = a 59))) ∧ (v2 56 = v 56 ∧ v2 31 = v 31 ∧ v2 32 = v 32 ∧ v2 33 = v 33) ∧ (v2 3 = v 3 ∧ a2 2 = a 2) ∧ (v2 30 = v 30 ∧ a2 29 = a 29) ∧ TSAME v a v2 a2) := by
  intro n ad ln v a L E hn hV hI
  obtain ⟨hB, hT, hS, hR, h19⟩ := hV
  refine ⟨_, M_page (q := x1) (w1 := x2) (i := x3) hB h_x1 h_x2 h_x3 L E hI, fun r L2 E2 h => ?_⟩
  obtain ⟨v2, a2, hI2, f, rfl, hf, hB2, hx⟩ := h
  exact ⟨f, ad, ln, v2, a2, rfl, hI2, ⟨hB2, (hT.fr hf rfl rfl), (hS.fr hf rfl rfl), (hR.fr hf rfl), (by have q := hf.1 19 rfl; push_cast; omega)⟩, ⟨⟨trivial, ⟨hf.1 36 rfl, ⟨hf.1 36 rfl, hf.2 34 rfl, hf.2 35 rfl⟩, hf.1 42 rfl, hf.1 43 rfl, ⟨hf.1 41 rfl, hf.2 40 rfl⟩, ⟨hf.1 52 rfl, hf.2 51 rfl⟩, ⟨hf.1 60 rfl, hf.1 61 rfl, hf.2 58 rfl, hf.2 59 rfl⟩⟩⟩, ⟨hf.1 56 rfl, hf.1 31 rfl, hf.1 32 rfl, hf.1 33 rfl⟩, ⟨hf.1 3 rfl, hf.2 2 rfl⟩, ⟨hf.1 30 rfl, hf.2 29 rfl⟩, ⟨hf.1 4 rfl, hf.2 5 rfl, hf.2 6 rfl, hf.2 7 rfl, hf.2 10 rfl, hf.1 19 rfl, hf.2 18 rfl, hf.2 11 rfl, hf.2 8 rfl, hf.2 9 rfl, hf.2 12 rfl, hf.2 13 rfl, hf.2 14 rfl, hf.2 15 rfl, hf.2 16 rfl, hf.2 17 rfl⟩⟩⟩
theorem MO_closed {l : Launch} {G : GT} {mm : Nat} : ModelOp l G yX12_closed cX12_closed 1 (some .int) 0 [] mm 0 0 (fun v a v2 a2 f => (True ∧ (v2 36 = v 36 ∧ KSA v a v2 a2 ∧ v2 42 = v 42 ∧ v2 43 = v 43 ∧ (v2 41 = v 41 ∧ a2 40 = a 40) ∧ (v2 52 = v 52 ∧ a2 51 = a 51) ∧ (v2 60 = v 60 ∧ v2 61 = v 61 ∧ a2 58 = a 58 ∧ a2 59 = a 59))) ∧ (v2 56 = v 56 ∧ v2 31 = v 31 ∧ v2 32 = v 32 ∧ v2 33 = v 33) ∧ (v2 3 = v 3 ∧ a2 2 = a 2) ∧ (v2 30 = v 30 ∧ a2 29 = a 29) ∧ TSAME v a v2 a2) := by
  intro n ad ln v a L E hn hV hI
  obtain ⟨hB, hT, hS, hR, h19⟩ := hV
  refine ⟨_, B_closed  hB L E hI, fun r L2 E2 h => ?_⟩
  obtain ⟨v2, a2, hI2, f, rfl, hf, hB2, hx⟩ := h
  exact ⟨f, ad, ln, v2, a2, rfl, hI2, ⟨hB2, (hT.fr hf rfl rfl), (hS.fr hf rfl rfl), (hR.fr hf rfl), (by have q := hf.1 19 rfl; push_cast; omega)⟩, ⟨⟨trivial, ⟨hf.1 36 rfl, ⟨hf.1 36 rfl, hf.2 34 rfl, hf.2 35 rfl⟩, hf.1 42 rfl, hf.1 43 rfl, ⟨hf.1 41 rfl, hf.2 40 rfl⟩, ⟨hf.1 52 rfl, hf.2 51 rfl⟩, ⟨hf.1 60 rfl, hf.1 61 rfl, hf.2 58 rfl, hf.2 59 rfl⟩⟩⟩, ⟨hf.1 56 rfl, hf.1 31 rfl, hf.1 32 rfl, hf.1 33 rfl⟩, ⟨hf.1 3 rfl, hf.2 2 rfl⟩, ⟨hf.1 30 rfl, hf.2 29 rfl⟩, ⟨hf.1 4 rfl, hf.2 5 rfl, hf.2 6 rfl, hf.2 7 rfl, hf.2 10 rfl, hf.1 19 rfl, hf.2 18 rfl, hf.2 11 rfl, hf.2 8 rfl, hf.2 9 rfl, hf.2 12 rfl, hf.2 13 rfl, hf.2 14 rfl, hf.2 15 rfl, hf.2 16 rfl, hf.2 17 rfl⟩⟩⟩
theorem MO_read {l : Launch} {G : GT} {mm : Nat} {x1 : Int} {x2 : Int} {x3 : Int} (h_x1 : -2147483648 ≤ x1 ∧ x1 ≤ 2147483647) (h_x2 : -2147483648 ≤ x2 ∧ x2 ≤ 2147483647) (h_x3 : -2147483648 ≤ x3 ∧ x3 ≤ 2147483647) : ModelOp l G yX12_read cX12_read 11 (some .int) 36 [.int (iI x1), .int (iI x2), .int (iI x3)] mm 0 0 (fun v a v2 a2 f => (True ∧ (v2 36 = v 36 ∧ KSA v a v2 a2 ∧ v2 42 = v 42 ∧ v2 43 = v 43 ∧ (v2 41 = v 41 ∧ a2 40 = a 40) ∧ True ∧ (v2 60 = v 60 ∧ v2 61 = v 61 ∧ a2 58 = a 58 ∧ a2 59 = a 59))) ∧ (v2 56 = v 56 ∧ v2 31 = v 31 ∧ v2 32 = v 32 ∧ v2 33 = v 33) ∧ (v2 3 = v 3 ∧ a2 2 = a 2) ∧ (v2 30 = v 30 ∧ a2 29 = a 29) ∧ TSAME v a v2 a2) := by
  intro n ad ln v a L E hn hV hI
  obtain ⟨hB, hT, hS, hR, h19⟩ := hV
  refine ⟨_, N_read (t := x1) (q := x2) (n1 := x3) hB hT hR h_x1 h_x2 h_x3 L E hI, fun r L2 E2 h => ?_⟩
  obtain ⟨v2, a2, hI2, f, rfl, hf, hB2, hx⟩ := h
  exact ⟨f, ad, ln, v2, a2, rfl, hI2, ⟨hB2, (hT.fr hf rfl rfl), (hS.fr hf rfl rfl), hx, (by have q := hf.1 19 rfl; push_cast; omega)⟩, ⟨⟨trivial, ⟨hf.1 36 rfl, ⟨hf.1 36 rfl, hf.2 34 rfl, hf.2 35 rfl⟩, hf.1 42 rfl, hf.1 43 rfl, ⟨hf.1 41 rfl, hf.2 40 rfl⟩, trivial, ⟨hf.1 60 rfl, hf.1 61 rfl, hf.2 58 rfl, hf.2 59 rfl⟩⟩⟩, ⟨hf.1 56 rfl, hf.1 31 rfl, hf.1 32 rfl, hf.1 33 rfl⟩, ⟨hf.1 3 rfl, hf.2 2 rfl⟩, ⟨hf.1 30 rfl, hf.2 29 rfl⟩, ⟨hf.1 4 rfl, hf.2 5 rfl, hf.2 6 rfl, hf.2 7 rfl, hf.2 10 rfl, hf.1 19 rfl, hf.2 18 rfl, hf.2 11 rfl, hf.2 8 rfl, hf.2 9 rfl, hf.2 12 rfl, hf.2 13 rfl, hf.2 14 rfl, hf.2 15 rfl, hf.2 16 rfl, hf.2 17 rfl⟩⟩⟩
theorem MO_letter {l : Launch} {G : GT} {mm : Nat} {x1 : Int} (h_x1 : -2147483648 ≤ x1 ∧ x1 ≤ 2147483647) : ModelOp l G yX12_letter cX12_letter 2 (some .int) 2 [.int (iI x1)] mm 0 0 (fun v a v2 a2 f => (True ∧ (v2 36 = v 36 ∧ KSA v a v2 a2 ∧ v2 42 = v 42 ∧ v2 43 = v 43 ∧ (v2 41 = v 41 ∧ a2 40 = a 40) ∧ (v2 52 = v 52 ∧ a2 51 = a 51) ∧ (v2 60 = v 60 ∧ v2 61 = v 61 ∧ a2 58 = a 58 ∧ a2 59 = a 59))) ∧ (v2 56 = v 56 ∧ v2 31 = v 31 ∧ v2 32 = v 32 ∧ v2 33 = v 33) ∧ (v2 3 = v 3 ∧ a2 2 = a 2) ∧ (v2 30 = v 30 ∧ a2 29 = a 29) ∧ TSAME v a v2 a2) := by
  intro n ad ln v a L E hn hV hI
  obtain ⟨hB, hT, hS, hR, h19⟩ := hV
  refine ⟨_, B_letter (i := x1) hB h_x1 L E hI, fun r L2 E2 h => ?_⟩
  obtain ⟨v2, a2, hI2, f, rfl, hf, hB2, hx⟩ := h
  exact ⟨f, ad, ln, v2, a2, rfl, hI2, ⟨hB2, (hT.fr hf rfl rfl), (hS.fr hf rfl rfl), (hR.fr hf rfl), (by have q := hf.1 19 rfl; push_cast; omega)⟩, ⟨⟨trivial, ⟨hf.1 36 rfl, ⟨hf.1 36 rfl, hf.2 34 rfl, hf.2 35 rfl⟩, hf.1 42 rfl, hf.1 43 rfl, ⟨hf.1 41 rfl, hf.2 40 rfl⟩, ⟨hf.1 52 rfl, hf.2 51 rfl⟩, ⟨hf.1 60 rfl, hf.1 61 rfl, hf.2 58 rfl, hf.2 59 rfl⟩⟩⟩, ⟨hf.1 56 rfl, hf.1 31 rfl, hf.1 32 rfl, hf.1 33 rfl⟩, ⟨hf.1 3 rfl, hf.2 2 rfl⟩, ⟨hf.1 30 rfl, hf.2 29 rfl⟩, ⟨hf.1 4 rfl, hf.2 5 rfl, hf.2 6 rfl, hf.2 7 rfl, hf.2 10 rfl, hf.1 19 rfl, hf.2 18 rfl, hf.2 11 rfl, hf.2 8 rfl, hf.2 9 rfl, hf.2 12 rfl, hf.2 13 rfl, hf.2 14 rfl, hf.2 15 rfl, hf.2 16 rfl, hf.2 17 rfl⟩⟩⟩
theorem MO_failed {l : Launch} {G : GT} {mm : Nat} {x1 : Int} {x2 : Int} (h_x1 : -2147483648 ≤ x1 ∧ x1 ≤ 2147483647) (h_x2 : x2 = 0 ∨ x2 = 1) : ModelOp l G yX12_failed cX12_failed 3 (some .int) 1 [.int (iI x1), .int (iI x2)] mm 0 0 (fun v a v2 a2 f => (True ∧ (v2 36 = v 36 ∧ KSA v a v2 a2 ∧ v2 42 = v 42 ∧ v2 43 = v 43 ∧ (v2 41 = v 41 ∧ a2 40 = a 40) ∧ (v2 52 = v 52 ∧ a2 51 = a 51) ∧ (v2 60 = v 60 ∧ v2 61 = v 61 ∧ a2 58 = a 58 ∧ a2 59 = a 59))) ∧ ((((x1 < 0 ∨ 7 < x1) ∧ f = -1 ∧ v2 56 = v 56) ∨ (0 ≤ x1 ∧ x1 ≤ 7 ∧ iI (v2 56) = fdv (iI (v 56)) x1 x2 ∧ iI f = bcn (iI (v2 56)))) ∧ v2 31 = v 31 ∧ v2 32 = v 32 ∧ v2 33 = v 33) ∧ (v2 3 = v 3 ∧ a2 2 = a 2) ∧ (v2 30 = v 30 ∧ a2 29 = a 29) ∧ TSAME v a v2 a2) := by
  intro n ad ln v a L E hn hV hI
  obtain ⟨hB, hT, hS, hR, h19⟩ := hV
  refine ⟨_, N_failed (x := x1) (g := x2) hB h_x1 h_x2 L E hI, fun r L2 E2 h => ?_⟩
  obtain ⟨v2, a2, hI2, f, rfl, hf, hB2, hx⟩ := h
  exact ⟨f, ad, ln, v2, a2, rfl, hI2, ⟨hB2, (hT.fr hf rfl rfl), (hS.fr hf rfl rfl), (hR.fr hf rfl), (by have q := hf.1 19 rfl; push_cast; omega)⟩, ⟨⟨trivial, ⟨hf.1 36 rfl, ⟨hf.1 36 rfl, hf.2 34 rfl, hf.2 35 rfl⟩, hf.1 42 rfl, hf.1 43 rfl, ⟨hf.1 41 rfl, hf.2 40 rfl⟩, ⟨hf.1 52 rfl, hf.2 51 rfl⟩, ⟨hf.1 60 rfl, hf.1 61 rfl, hf.2 58 rfl, hf.2 59 rfl⟩⟩⟩, ⟨hx, hf.1 31 rfl, hf.1 32 rfl, hf.1 33 rfl⟩, ⟨hf.1 3 rfl, hf.2 2 rfl⟩, ⟨hf.1 30 rfl, hf.2 29 rfl⟩, ⟨hf.1 4 rfl, hf.2 5 rfl, hf.2 6 rfl, hf.2 7 rfl, hf.2 10 rfl, hf.1 19 rfl, hf.2 18 rfl, hf.2 11 rfl, hf.2 8 rfl, hf.2 9 rfl, hf.2 12 rfl, hf.2 13 rfl, hf.2 14 rfl, hf.2 15 rfl, hf.2 16 rfl, hf.2 17 rfl⟩⟩⟩
theorem MO_readings {l : Launch} {G : GT} {mm : Nat} {x1 : Int} {x2 : Int} {x3 : Int} (h_x1 : -2147483648 ≤ x1 ∧ x1 ≤ 2147483647) (h_x2 : -2147483648 ≤ x2 ∧ x2 ≤ 2147483647) (h_x3 : -2147483648 ≤ x3 ∧ x3 ≤ 2147483647) : ModelOp l G yX12_readings cX12_readings 5 (some .int) 105 [.int (iI x1), .int (iI x2), .int (iI x3)] mm 0 0 (fun v a v2 a2 f => (True ∧ (v2 36 = v 36 ∧ KSA v a v2 a2 ∧ v2 42 = v 42 ∧ v2 43 = v 43 ∧ (v2 41 = v 41 ∧ a2 40 = a 40) ∧ (v2 52 = v 52 ∧ a2 51 = a 51) ∧ True)) ∧ (v2 56 = v 56 ∧ v2 31 = v 31 ∧ v2 32 = v 32 ∧ v2 33 = v 33) ∧ (v2 3 = v 3 ∧ a2 2 = a 2) ∧ (v2 30 = v 30 ∧ a2 29 = a 29) ∧ TSAME v a v2 a2) := by
  intro n ad ln v a L E hn hV hI
  obtain ⟨hB, hT, hS, hR, h19⟩ := hV
  refine ⟨_, N_readings (t := x1) (l0 := x2) (n1 := x3) hB hT hR h_x1 h_x2 h_x3 L E hI, fun r L2 E2 h => ?_⟩
  obtain ⟨v2, a2, hI2, f, rfl, hf, hB2, hx⟩ := h
  exact ⟨f, ad, ln, v2, a2, rfl, hI2, ⟨hB2, (hT.fr hf rfl rfl), (hS.fr hf rfl rfl), hx, (by have q := hf.1 19 rfl; push_cast; omega)⟩, ⟨⟨trivial, ⟨hf.1 36 rfl, ⟨hf.1 36 rfl, hf.2 34 rfl, hf.2 35 rfl⟩, hf.1 42 rfl, hf.1 43 rfl, ⟨hf.1 41 rfl, hf.2 40 rfl⟩, ⟨hf.1 52 rfl, hf.2 51 rfl⟩, trivial⟩⟩, ⟨hf.1 56 rfl, hf.1 31 rfl, hf.1 32 rfl, hf.1 33 rfl⟩, ⟨hf.1 3 rfl, hf.2 2 rfl⟩, ⟨hf.1 30 rfl, hf.2 29 rfl⟩, ⟨hf.1 4 rfl, hf.2 5 rfl, hf.2 6 rfl, hf.2 7 rfl, hf.2 10 rfl, hf.1 19 rfl, hf.2 18 rfl, hf.2 11 rfl, hf.2 8 rfl, hf.2 9 rfl, hf.2 12 rfl, hf.2 13 rfl, hf.2 14 rfl, hf.2 15 rfl, hf.2 16 rfl, hf.2 17 rfl⟩⟩⟩
theorem MO_more {l : Launch} {G : GT} {mm : Nat} : ModelOp l G yX12_more cX12_more 1 (some .int) 0 [] mm 0 0 (fun v a v2 a2 f => (True ∧ (v2 36 = v 36 ∧ KSA v a v2 a2 ∧ v2 42 = v 42 ∧ v2 43 = v 43 ∧ (v2 41 = v 41 ∧ a2 40 = a 40) ∧ (v2 52 = v 52 ∧ a2 51 = a 51) ∧ (v2 60 = v 60 ∧ v2 61 = v 61 ∧ a2 58 = a 58 ∧ a2 59 = a 59))) ∧ (v2 56 = v 56 ∧ v2 31 = v 31 ∧ v2 32 = v 32 ∧ v2 33 = v 33) ∧ (v2 3 = v 3 ∧ a2 2 = a 2) ∧ (v2 30 = v 30 ∧ a2 29 = a 29) ∧ TSAME v a v2 a2) := by
  intro n ad ln v a L E hn hV hI
  obtain ⟨hB, hT, hS, hR, h19⟩ := hV
  refine ⟨_, B_more  hB L E hI, fun r L2 E2 h => ?_⟩
  obtain ⟨v2, a2, hI2, f, rfl, hf, hB2, hx⟩ := h
  exact ⟨f, ad, ln, v2, a2, rfl, hI2, ⟨hB2, (hT.fr hf rfl rfl), (hS.fr hf rfl rfl), (hR.fr hf rfl), (by have q := hf.1 19 rfl; push_cast; omega)⟩, ⟨⟨trivial, ⟨hf.1 36 rfl, ⟨hf.1 36 rfl, hf.2 34 rfl, hf.2 35 rfl⟩, hf.1 42 rfl, hf.1 43 rfl, ⟨hf.1 41 rfl, hf.2 40 rfl⟩, ⟨hf.1 52 rfl, hf.2 51 rfl⟩, ⟨hf.1 60 rfl, hf.1 61 rfl, hf.2 58 rfl, hf.2 59 rfl⟩⟩⟩, ⟨hf.1 56 rfl, hf.1 31 rfl, hf.1 32 rfl, hf.1 33 rfl⟩, ⟨hf.1 3 rfl, hf.2 2 rfl⟩, ⟨hf.1 30 rfl, hf.2 29 rfl⟩, ⟨hf.1 4 rfl, hf.2 5 rfl, hf.2 6 rfl, hf.2 7 rfl, hf.2 10 rfl, hf.1 19 rfl, hf.2 18 rfl, hf.2 11 rfl, hf.2 8 rfl, hf.2 9 rfl, hf.2 12 rfl, hf.2 13 rfl, hf.2 14 rfl, hf.2 15 rfl, hf.2 16 rfl, hf.2 17 rfl⟩⟩⟩
theorem MO_reading {l : Launch} {G : GT} {mm : Nat} {x1 : Int} {x2 : Int} (h_x1 : -2147483648 ≤ x1 ∧ x1 ≤ 2147483647) (h_x2 : -2147483648 ≤ x2 ∧ x2 ≤ 2147483647) : ModelOp l G yX12_reading cX12_reading 3 (some .int) 2 [.int (iI x1), .int (iI x2)] mm 0 0 (fun v a v2 a2 f => (True ∧ (v2 36 = v 36 ∧ KSA v a v2 a2 ∧ v2 42 = v 42 ∧ v2 43 = v 43 ∧ (v2 41 = v 41 ∧ a2 40 = a 40) ∧ (v2 52 = v 52 ∧ a2 51 = a 51) ∧ (v2 60 = v 60 ∧ v2 61 = v 61 ∧ a2 58 = a 58 ∧ a2 59 = a 59))) ∧ (v2 56 = v 56 ∧ v2 31 = v 31 ∧ v2 32 = v 32 ∧ v2 33 = v 33) ∧ (v2 3 = v 3 ∧ a2 2 = a 2) ∧ (v2 30 = v 30 ∧ a2 29 = a 29) ∧ TSAME v a v2 a2) := by
  intro n ad ln v a L E hn hV hI
  obtain ⟨hB, hT, hS, hR, h19⟩ := hV
  refine ⟨_, B_reading (k := x1) (i := x2) hB h_x1 h_x2 L E hI, fun r L2 E2 h => ?_⟩
  obtain ⟨v2, a2, hI2, f, rfl, hf, hB2, hx⟩ := h
  exact ⟨f, ad, ln, v2, a2, rfl, hI2, ⟨hB2, (hT.fr hf rfl rfl), (hS.fr hf rfl rfl), (hR.fr hf rfl), (by have q := hf.1 19 rfl; push_cast; omega)⟩, ⟨⟨trivial, ⟨hf.1 36 rfl, ⟨hf.1 36 rfl, hf.2 34 rfl, hf.2 35 rfl⟩, hf.1 42 rfl, hf.1 43 rfl, ⟨hf.1 41 rfl, hf.2 40 rfl⟩, ⟨hf.1 52 rfl, hf.2 51 rfl⟩, ⟨hf.1 60 rfl, hf.1 61 rfl, hf.2 58 rfl, hf.2 59 rfl⟩⟩⟩, ⟨hf.1 56 rfl, hf.1 31 rfl, hf.1 32 rfl, hf.1 33 rfl⟩, ⟨hf.1 3 rfl, hf.2 2 rfl⟩, ⟨hf.1 30 rfl, hf.2 29 rfl⟩, ⟨hf.1 4 rfl, hf.2 5 rfl, hf.2 6 rfl, hf.2 7 rfl, hf.2 10 rfl, hf.1 19 rfl, hf.2 18 rfl, hf.2 11 rfl, hf.2 8 rfl, hf.2 9 rfl, hf.2 12 rfl, hf.2 13 rfl, hf.2 14 rfl, hf.2 15 rfl, hf.2 16 rfl, hf.2 17 rfl⟩⟩⟩
theorem MO_judge {l : Launch} {G : GT} {mm : Nat} {x1 : Int} (h_x1 : -2147483648 ≤ x1 ∧ x1 ≤ 2147483647) : ModelOp l G yX12_judge cX12_judge 3 (some .int) 36 [.int (iI x1)] mm 0 0 (fun v a v2 a2 f => (True ∧ (v2 36 = v 36 ∧ KSA v a v2 a2 ∧ v2 42 = v 42 ∧ v2 43 = v 43 ∧ (v2 41 = v 41 ∧ a2 40 = a 40) ∧ (v2 52 = v 52 ∧ a2 51 = a 51) ∧ (v2 60 = v 60 ∧ v2 61 = v 61 ∧ a2 58 = a 58 ∧ a2 59 = a 59))) ∧ (v2 56 = v 56 ∧ v2 31 = v 31 ∧ v2 32 = v 32 ∧ v2 33 = v 33) ∧ (v2 3 = v 3 ∧ a2 2 = a 2) ∧ (v2 30 = v 30 ∧ a2 29 = a 29) ∧ TSAME v a v2 a2) := by
  intro n ad ln v a L E hn hV hI
  obtain ⟨hB, hT, hS, hR, h19⟩ := hV
  refine ⟨_, N_judge (t := x1) hB hT hR h_x1 L E hI, fun r L2 E2 h => ?_⟩
  obtain ⟨v2, a2, hI2, f, rfl, hf, hB2, hx⟩ := h
  exact ⟨f, ad, ln, v2, a2, rfl, hI2, ⟨hB2, (hT.fr hf rfl rfl), (hS.fr hf rfl rfl), hx, (by have q := hf.1 19 rfl; push_cast; omega)⟩, ⟨⟨trivial, ⟨hf.1 36 rfl, ⟨hf.1 36 rfl, hf.2 34 rfl, hf.2 35 rfl⟩, hf.1 42 rfl, hf.1 43 rfl, ⟨hf.1 41 rfl, hf.2 40 rfl⟩, ⟨hf.1 52 rfl, hf.2 51 rfl⟩, ⟨hf.1 60 rfl, hf.1 61 rfl, hf.2 58 rfl, hf.2 59 rfl⟩⟩⟩, ⟨hf.1 56 rfl, hf.1 31 rfl, hf.1 32 rfl, hf.1 33 rfl⟩, ⟨hf.1 3 rfl, hf.2 2 rfl⟩, ⟨hf.1 30 rfl, hf.2 29 rfl⟩, ⟨hf.1 4 rfl, hf.2 5 rfl, hf.2 6 rfl, hf.2 7 rfl, hf.2 10 rfl, hf.1 19 rfl, hf.2 18 rfl, hf.2 11 rfl, hf.2 8 rfl, hf.2 9 rfl, hf.2 12 rfl, hf.2 13 rfl, hf.2 14 rfl, hf.2 15 rfl, hf.2 16 rfl, hf.2 17 rfl⟩⟩⟩
theorem MO_parts {l : Launch} {G : GT} {mm : Nat} {x1 : Int} {x2 : Int} {x3 : Int} (h_x1 : -2147483648 ≤ x1 ∧ x1 ≤ 2147483647) (h_x2 : -2147483648 ≤ x2 ∧ x2 ≤ 2147483647) (h_x3 : -2147483648 ≤ x3 ∧ x3 ≤ 2147483647) : ModelOp l G yX12_parts cX12_parts 5 (some .int) 36 [.int (iI x1), .int (iI x2), .int (iI x3)] mm 0 0 (fun v a v2 a2 f => (True ∧ (v2 36 = v 36 ∧ KSA v a v2 a2 ∧ v2 42 = v 42 ∧ v2 43 = v 43 ∧ (v2 41 = v 41 ∧ a2 40 = a 40) ∧ (v2 52 = v 52 ∧ a2 51 = a 51) ∧ (v2 60 = v 60 ∧ v2 61 = v 61 ∧ a2 58 = a 58 ∧ a2 59 = a 59))) ∧ (v2 56 = v 56 ∧ v2 31 = v 31 ∧ v2 32 = v 32 ∧ v2 33 = v 33) ∧ (v2 3 = v 3 ∧ a2 2 = a 2) ∧ (v2 30 = v 30 ∧ a2 29 = a 29) ∧ TSAME v a v2 a2) := by
  intro n ad ln v a L E hn hV hI
  obtain ⟨hB, hT, hS, hR, h19⟩ := hV
  refine ⟨_, N_parts (t := x1) (x := x2) (y := x3) hB hT hR h_x1 h_x2 h_x3 L E hI, fun r L2 E2 h => ?_⟩
  obtain ⟨v2, a2, hI2, f, rfl, hf, hB2, hx⟩ := h
  exact ⟨f, ad, ln, v2, a2, rfl, hI2, ⟨hB2, (hT.fr hf rfl rfl), (hS.fr hf rfl rfl), hx, (by have q := hf.1 19 rfl; push_cast; omega)⟩, ⟨⟨trivial, ⟨hf.1 36 rfl, ⟨hf.1 36 rfl, hf.2 34 rfl, hf.2 35 rfl⟩, hf.1 42 rfl, hf.1 43 rfl, ⟨hf.1 41 rfl, hf.2 40 rfl⟩, ⟨hf.1 52 rfl, hf.2 51 rfl⟩, ⟨hf.1 60 rfl, hf.1 61 rfl, hf.2 58 rfl, hf.2 59 rfl⟩⟩⟩, ⟨hf.1 56 rfl, hf.1 31 rfl, hf.1 32 rfl, hf.1 33 rfl⟩, ⟨hf.1 3 rfl, hf.2 2 rfl⟩, ⟨hf.1 30 rfl, hf.2 29 rfl⟩, ⟨hf.1 4 rfl, hf.2 5 rfl, hf.2 6 rfl, hf.2 7 rfl, hf.2 10 rfl, hf.1 19 rfl, hf.2 18 rfl, hf.2 11 rfl, hf.2 8 rfl, hf.2 9 rfl, hf.2 12 rfl, hf.2 13 rfl, hf.2 14 rfl, hf.2 15 rfl, hf.2 16 rfl, hf.2 17 rfl⟩⟩⟩
theorem MO_unreadable {l : Launch} {G : GT} {mm : Nat} {x1 : Int} {x2 : Int} {x3 : Int} (h_x1 : -2147483648 ≤ x1 ∧ x1 ≤ 2147483647) (h_x2 : -2147483648 ≤ x2 ∧ x2 ≤ 2147483647) (h_x3 : -2147483648 ≤ x3 ∧ x3 ≤ 2147483647) : ModelOp l G yX12_unreadable cX12_unreadable 9 (some .int) 67 [.int (iI x1), .int (iI x2), .int (iI x3)] mm 2 262 (fun v a v2 a2 f => (True ∧ (v2 36 = v 36 ∧ KSA v a v2 a2 ∧ v2 42 = v 42 ∧ v2 43 = v 43 ∧ (v2 41 = v 41 ∧ a2 40 = a 40) ∧ True ∧ (v2 60 = v 60 ∧ v2 61 = v 61 ∧ a2 58 = a 58 ∧ a2 59 = a 59))) ∧ (v2 56 = v 56 ∧ v2 31 = v 31 ∧ v2 32 = v 32 ∧ v2 33 = v 33) ∧ (v2 3 = v 3 ∧ a2 2 = a 2) ∧ (v2 30 = v 30 ∧ a2 29 = a 29) ∧ TSAME v a v2 a2) := by
  intro n ad ln v a L E hn hV hI
  obtain ⟨hB, hT, hS, hR, h19⟩ := hV
  refine ⟨_, N_unreadable (t := x1) (n1 := x2) (m1 := x3) hB hT hR h_x1 h_x2 h_x3 L E hI, fun r L2 E2 h => ?_⟩
  obtain ⟨v2, a2, hI2, f, rfl, hf, hB2, hx⟩ := h
  exact ⟨f, ad, ln, v2, a2, rfl, hI2, ⟨hB2, (hT.fr hf rfl rfl), (hS.fr hf rfl rfl), hx, (by have q := hf.1 19 rfl; push_cast; omega)⟩, ⟨⟨trivial, ⟨hf.1 36 rfl, ⟨hf.1 36 rfl, hf.2 34 rfl, hf.2 35 rfl⟩, hf.1 42 rfl, hf.1 43 rfl, ⟨hf.1 41 rfl, hf.2 40 rfl⟩, trivial, ⟨hf.1 60 rfl, hf.1 61 rfl, hf.2 58 rfl, hf.2 59 rfl⟩⟩⟩, ⟨hf.1 56 rfl, hf.1 31 rfl, hf.1 32 rfl, hf.1 33 rfl⟩, ⟨hf.1 3 rfl, hf.2 2 rfl⟩, ⟨hf.1 30 rfl, hf.2 29 rfl⟩, ⟨hf.1 4 rfl, hf.2 5 rfl, hf.2 6 rfl, hf.2 7 rfl, hf.2 10 rfl, hf.1 19 rfl, hf.2 18 rfl, hf.2 11 rfl, hf.2 8 rfl, hf.2 9 rfl, hf.2 12 rfl, hf.2 13 rfl, hf.2 14 rfl, hf.2 15 rfl, hf.2 16 rfl, hf.2 17 rfl⟩⟩⟩
theorem MO_saved {l : Launch} {G : GT} {mm : Nat} {x1 : Int} {x2 : Int} (h_x1 : -2147483648 ≤ x1 ∧ x1 ≤ 2147483647) (h_x2 : -2147483648 ≤ x2 ∧ x2 ≤ 2147483647) : ModelOp l G yX12_saved cX12_saved 8 (some .int) 66 [.int (iI x1), .int (iI x2)] mm 0 0 (fun v a v2 a2 f => (True ∧ (v2 36 = v 36 ∧ KSA v a v2 a2 ∧ v2 42 = v 42 ∧ v2 43 = v 43 ∧ (v2 41 = v 41 ∧ a2 40 = a 40) ∧ (v2 52 = v 52 ∧ a2 51 = a 51) ∧ (v2 60 = v 60 ∧ v2 61 = v 61 ∧ a2 58 = a 58 ∧ a2 59 = a 59))) ∧ (v2 56 = v 56 ∧ v2 31 = v 31 ∧ v2 32 = v 32 ∧ v2 33 = v 33) ∧ (v2 3 = v 3 ∧ a2 2 = a 2) ∧ (v2 30 = v 30 ∧ a2 29 = a 29) ∧ TSAME v a v2 a2) := by
  intro n ad ln v a L E hn hV hI
  obtain ⟨hB, hT, hS, hR, h19⟩ := hV
  refine ⟨_, M_saved (x1 := x1) (y1 := x2) hB hT h_x1 h_x2 L E hI, fun r L2 E2 h => ?_⟩
  obtain ⟨v2, a2, hI2, f, rfl, hf, hB2, hx⟩ := h
  exact ⟨f, ad, ln, v2, a2, rfl, hI2, ⟨hB2, (hT.fr hf rfl rfl), (hS.fr hf rfl rfl), (hR.fr hf rfl), (by have q := hf.1 19 rfl; push_cast; omega)⟩, ⟨⟨trivial, ⟨hf.1 36 rfl, ⟨hf.1 36 rfl, hf.2 34 rfl, hf.2 35 rfl⟩, hf.1 42 rfl, hf.1 43 rfl, ⟨hf.1 41 rfl, hf.2 40 rfl⟩, ⟨hf.1 52 rfl, hf.2 51 rfl⟩, ⟨hf.1 60 rfl, hf.1 61 rfl, hf.2 58 rfl, hf.2 59 rfl⟩⟩⟩, ⟨hf.1 56 rfl, hf.1 31 rfl, hf.1 32 rfl, hf.1 33 rfl⟩, ⟨hf.1 3 rfl, hf.2 2 rfl⟩, ⟨hf.1 30 rfl, hf.2 29 rfl⟩, ⟨hf.1 4 rfl, hf.2 5 rfl, hf.2 6 rfl, hf.2 7 rfl, hf.2 10 rfl, hf.1 19 rfl, hf.2 18 rfl, hf.2 11 rfl, hf.2 8 rfl, hf.2 9 rfl, hf.2 12 rfl, hf.2 13 rfl, hf.2 14 rfl, hf.2 15 rfl, hf.2 16 rfl, hf.2 17 rfl⟩⟩⟩
theorem MO_place {l : Launch} {G : GT} {mm : Nat} : ModelOp l G yX12_place cX12_place 1 (some .int) 0 [] mm 0 0 (fun v a v2 a2 f => (True ∧ (v2 36 = v 36 ∧ KSA v a v2 a2 ∧ v2 42 = v 42 ∧ v2 43 = v 43 ∧ (v2 41 = v 41 ∧ a2 40 = a 40) ∧ (v2 52 = v 52 ∧ a2 51 = a 51) ∧ (v2 60 = v 60 ∧ v2 61 = v 61 ∧ a2 58 = a 58 ∧ a2 59 = a 59))) ∧ (v2 56 = v 56 ∧ v2 31 = v 31 ∧ v2 32 = v 32 ∧ v2 33 = v 33) ∧ (v2 3 = v 3 ∧ a2 2 = a 2) ∧ (v2 30 = v 30 ∧ a2 29 = a 29) ∧ TSAME v a v2 a2) := by
  intro n ad ln v a L E hn hV hI
  obtain ⟨hB, hT, hS, hR, h19⟩ := hV
  refine ⟨_, B_place  hB L E hI, fun r L2 E2 h => ?_⟩
  obtain ⟨v2, a2, hI2, f, rfl, hf, hB2, hx⟩ := h
  exact ⟨f, ad, ln, v2, a2, rfl, hI2, ⟨hB2, (hT.fr hf rfl rfl), (hS.fr hf rfl rfl), (hR.fr hf rfl), (by have q := hf.1 19 rfl; push_cast; omega)⟩, ⟨⟨trivial, ⟨hf.1 36 rfl, ⟨hf.1 36 rfl, hf.2 34 rfl, hf.2 35 rfl⟩, hf.1 42 rfl, hf.1 43 rfl, ⟨hf.1 41 rfl, hf.2 40 rfl⟩, ⟨hf.1 52 rfl, hf.2 51 rfl⟩, ⟨hf.1 60 rfl, hf.1 61 rfl, hf.2 58 rfl, hf.2 59 rfl⟩⟩⟩, ⟨hf.1 56 rfl, hf.1 31 rfl, hf.1 32 rfl, hf.1 33 rfl⟩, ⟨hf.1 3 rfl, hf.2 2 rfl⟩, ⟨hf.1 30 rfl, hf.2 29 rfl⟩, ⟨hf.1 4 rfl, hf.2 5 rfl, hf.2 6 rfl, hf.2 7 rfl, hf.2 10 rfl, hf.1 19 rfl, hf.2 18 rfl, hf.2 11 rfl, hf.2 8 rfl, hf.2 9 rfl, hf.2 12 rfl, hf.2 13 rfl, hf.2 14 rfl, hf.2 15 rfl, hf.2 16 rfl, hf.2 17 rfl⟩⟩⟩
theorem MO_finds {l : Launch} {G : GT} {mm : Nat} {x1 : Int} (h_x1 : -2147483648 ≤ x1 ∧ x1 ≤ 2147483647) : ModelOp l G yX12_finds cX12_finds 2 (some .int) 1 [.int (iI x1)] mm 0 0 (fun v a v2 a2 f => (True ∧ (v2 36 = v 36 ∧ KSA v a v2 a2 ∧ v2 42 = v 42 ∧ v2 43 = v 43 ∧ (v2 41 = v 41 ∧ a2 40 = a 40) ∧ (v2 52 = v 52 ∧ a2 51 = a 51) ∧ (v2 60 = v 60 ∧ v2 61 = v 61 ∧ a2 58 = a 58 ∧ a2 59 = a 59))) ∧ (v2 56 = v 56 ∧ v2 31 = v 31 ∧ v2 32 = v 32 ∧ v2 33 = v 33) ∧ (v2 3 = v 3 ∧ a2 2 = a 2) ∧ (v2 30 = v 30 ∧ a2 29 = a 29) ∧ TSAME v a v2 a2) := by
  intro n ad ln v a L E hn hV hI
  obtain ⟨hB, hT, hS, hR, h19⟩ := hV
  refine ⟨_, M_finds (k := x1) hB h_x1 L E hI, fun r L2 E2 h => ?_⟩
  obtain ⟨v2, a2, hI2, f, rfl, hf, hB2, hx⟩ := h
  exact ⟨f, ad, ln, v2, a2, rfl, hI2, ⟨hB2, (hT.fr hf rfl rfl), (hS.fr hf rfl rfl), (hR.fr hf rfl), (by have q := hf.1 19 rfl; push_cast; omega)⟩, ⟨⟨trivial, ⟨hf.1 36 rfl, ⟨hf.1 36 rfl, hf.2 34 rfl, hf.2 35 rfl⟩, hf.1 42 rfl, hf.1 43 rfl, ⟨hf.1 41 rfl, hf.2 40 rfl⟩, ⟨hf.1 52 rfl, hf.2 51 rfl⟩, ⟨hf.1 60 rfl, hf.1 61 rfl, hf.2 58 rfl, hf.2 59 rfl⟩⟩⟩, ⟨hf.1 56 rfl, hf.1 31 rfl, hf.1 32 rfl, hf.1 33 rfl⟩, ⟨hf.1 3 rfl, hf.2 2 rfl⟩, ⟨hf.1 30 rfl, hf.2 29 rfl⟩, ⟨hf.1 4 rfl, hf.2 5 rfl, hf.2 6 rfl, hf.2 7 rfl, hf.2 10 rfl, hf.1 19 rfl, hf.2 18 rfl, hf.2 11 rfl, hf.2 8 rfl, hf.2 9 rfl, hf.2 12 rfl, hf.2 13 rfl, hf.2 14 rfl, hf.2 15 rfl, hf.2 16 rfl, hf.2 17 rfl⟩⟩⟩
theorem MO_status {l : Launch} {G : GT} {mm : Nat} : ModelOp l G yX12_status cX12_status 1 (some .int) 0 [] mm 0 0 (fun v a v2 a2 f => (True ∧ (v2 36 = v 36 ∧ KSA v a v2 a2 ∧ v2 42 = v 42 ∧ v2 43 = v 43 ∧ (v2 41 = v 41 ∧ a2 40 = a 40) ∧ (v2 52 = v 52 ∧ a2 51 = a 51) ∧ (v2 60 = v 60 ∧ v2 61 = v 61 ∧ a2 58 = a 58 ∧ a2 59 = a 59))) ∧ (v2 56 = v 56 ∧ v2 31 = v 31 ∧ v2 32 = v 32 ∧ v2 33 = v 33) ∧ (v2 3 = v 3 ∧ a2 2 = a 2) ∧ (v2 30 = v 30 ∧ a2 29 = a 29) ∧ TSAME v a v2 a2) := by
  intro n ad ln v a L E hn hV hI
  obtain ⟨hB, hT, hS, hR, h19⟩ := hV
  refine ⟨_, B_status  hB L E hI, fun r L2 E2 h => ?_⟩
  obtain ⟨v2, a2, hI2, f, rfl, hf, hB2, hx⟩ := h
  exact ⟨f, ad, ln, v2, a2, rfl, hI2, ⟨hB2, (hT.fr hf rfl rfl), (hS.fr hf rfl rfl), (hR.fr hf rfl), (by have q := hf.1 19 rfl; push_cast; omega)⟩, ⟨⟨trivial, ⟨hf.1 36 rfl, ⟨hf.1 36 rfl, hf.2 34 rfl, hf.2 35 rfl⟩, hf.1 42 rfl, hf.1 43 rfl, ⟨hf.1 41 rfl, hf.2 40 rfl⟩, ⟨hf.1 52 rfl, hf.2 51 rfl⟩, ⟨hf.1 60 rfl, hf.1 61 rfl, hf.2 58 rfl, hf.2 59 rfl⟩⟩⟩, ⟨hf.1 56 rfl, hf.1 31 rfl, hf.1 32 rfl, hf.1 33 rfl⟩, ⟨hf.1 3 rfl, hf.2 2 rfl⟩, ⟨hf.1 30 rfl, hf.2 29 rfl⟩, ⟨hf.1 4 rfl, hf.2 5 rfl, hf.2 6 rfl, hf.2 7 rfl, hf.2 10 rfl, hf.1 19 rfl, hf.2 18 rfl, hf.2 11 rfl, hf.2 8 rfl, hf.2 9 rfl, hf.2 12 rfl, hf.2 13 rfl, hf.2 14 rfl, hf.2 15 rfl, hf.2 16 rfl, hf.2 17 rfl⟩⟩⟩
theorem MO_digest {l : Launch} {G : GT} {mm : Nat} : ModelOp l G yX12_digest cX12_digest 4 (some .int) 0 [] mm 0 0 (fun v a v2 a2 f => (True ∧ (v2 36 = v 36 ∧ KSA v a v2 a2 ∧ v2 42 = v 42 ∧ v2 43 = v 43 ∧ (v2 41 = v 41 ∧ a2 40 = a 40) ∧ (v2 52 = v 52 ∧ a2 51 = a 51) ∧ (v2 60 = v 60 ∧ v2 61 = v 61 ∧ a2 58 = a 58 ∧ a2 59 = a 59))) ∧ (v2 56 = v 56 ∧ v2 31 = v 31 ∧ v2 32 = v 32 ∧ v2 33 = v 33) ∧ (v2 3 = v 3 ∧ a2 2 = a 2) ∧ (v2 30 = v 30 ∧ a2 29 = a 29) ∧ TSAME v a v2 a2) := by
  intro n ad ln v a L E hn hV hI
  obtain ⟨hB, hT, hS, hR, h19⟩ := hV
  refine ⟨_, M_digest  hB L E hI, fun r L2 E2 h => ?_⟩
  obtain ⟨v2, a2, hI2, f, rfl, hf, hB2, hx⟩ := h
  exact ⟨f, ad, ln, v2, a2, rfl, hI2, ⟨hB2, (hT.fr hf rfl rfl), (hS.fr hf rfl rfl), (hR.fr hf rfl), (by have q := hf.1 19 rfl; push_cast; omega)⟩, ⟨⟨trivial, ⟨hf.1 36 rfl, ⟨hf.1 36 rfl, hf.2 34 rfl, hf.2 35 rfl⟩, hf.1 42 rfl, hf.1 43 rfl, ⟨hf.1 41 rfl, hf.2 40 rfl⟩, ⟨hf.1 52 rfl, hf.2 51 rfl⟩, ⟨hf.1 60 rfl, hf.1 61 rfl, hf.2 58 rfl, hf.2 59 rfl⟩⟩⟩, ⟨hf.1 56 rfl, hf.1 31 rfl, hf.1 32 rfl, hf.1 33 rfl⟩, ⟨hf.1 3 rfl, hf.2 2 rfl⟩, ⟨hf.1 30 rfl, hf.2 29 rfl⟩, ⟨hf.1 4 rfl, hf.2 5 rfl, hf.2 6 rfl, hf.2 7 rfl, hf.2 10 rfl, hf.1 19 rfl, hf.2 18 rfl, hf.2 11 rfl, hf.2 8 rfl, hf.2 9 rfl, hf.2 12 rfl, hf.2 13 rfl, hf.2 14 rfl, hf.2 15 rfl, hf.2 16 rfl, hf.2 17 rfl⟩⟩⟩
end
section
section LW
variable {p : Program} {l : Launch} {e : Env} {R : Room} {s : State} {m : MethodId} {args : Array Value} {below : List Frame} {meth : Method} {c : Code} {cc : ByteArray} {y : MethodName} {ret : Option FieldType} {G : GT} {A : Nat → Prop} {nL : Nat} {Q : State → Prop} {L : List Nat} {E : Nat → va_E} {kc ks pc : Nat} {lv : List (Nat × Value)} {st : List Value}
theorem q_sld (C : Cq p s m args meth c cc y ret G A nL) {b Ln : Nat} {xs : Nat → Int32} (hX : va_X b Ln xs s s.heap) (hbl : b < s.heap.size) (hbA : ¬ A b) {i v : Int32} (d : decode cc pc = .ok (.iaload, 1)) (hin : vp_in i Ln) (hv : xs i.toNatClampNeg = v) (k : wq p l e R s m args below meth c G A nL Q L E kc ks (pc + 1) lv (.int v :: st)) : wq p l e R s m args below meth c G A nL Q L E kc ks pc lv (.int i :: .ref b :: st) := fun H locs ls hP hD hS hl => va_sld C.1 C.2.1 hX hbl hbA hS hin d (hv ▸ k H locs ls hP hD hS hl)
theorem q_slen (C : Cq p s m args meth c cc y ret G A nL) {b Ln : Nat} {xs : Nat → Int32} (hX : va_X b Ln xs s s.heap) (hbl : b < s.heap.size) (hbA : ¬ A b) {v : Int32} (d : decode cc pc = .ok (.arraylength, 1)) (hv : Int32.ofNat Ln = v) (k : wq p l e R s m args below meth c G A nL Q L E kc ks (pc + 1) lv (.int v :: st)) : wq p l e R s m args below meth c G A nL Q L E kc ks pc lv (.ref b :: st) := fun H locs ls hP hD hS hl => va_slen C.1 C.2.1 hX hbl hbA hS d (hv ▸ k H locs ls hP hD hS hl)
theorem q_tabIn (C : Cq p s m args meth c cc y ret G A nL) {dflt lo hi : Int} {offs : Array Int} {len : Nat} {x : Int32} {off : Int} {tgt : Nat} (d : decode cc pc = .ok (.tableswitch dflt lo hi offs, len)) (h1 : ¬ x.toInt < lo) (h2 : ¬ hi < x.toInt) (ho : offs[(x.toInt - lo).toNat]? = some off) (ht : (pc : Int) + off = (tgt : Int)) (k : wq p l e R s m args below meth c G A nL Q L E kc ks tgt lv st) : wq p l e R s m args below meth c G A nL Q L E kc ks pc lv (.int x :: st) := fun H locs ls hP hD hS hl => lv_tableIn C.1 C.2.1 d h1 h2 ho ht (k H locs ls hP hD hS hl)
theorem q_tabOut (C : Cq p s m args meth c cc y ret G A nL) {dflt lo hi : Int} {offs : Array Int} {len : Nat} {x : Int32} {tgt : Nat} (d : decode cc pc = .ok (.tableswitch dflt lo hi offs, len)) (h : x.toInt < lo ∨ hi < x.toInt) (ht : (pc : Int) + dflt = (tgt : Int)) (k : wq p l e R s m args below meth c G A nL Q L E kc ks tgt lv st) : wq p l e R s m args below meth c G A nL Q L E kc ks pc lv (.int x :: st) := fun H locs ls hP hD hS hl => lv_tableOut C.1 C.2.1 d h ht (k H locs ls hP hD hS hl)
theorem q_swap {La Lb : List Nat} (k : wq p l e R s m args below meth c G A nL Q (Lb ++ La) E kc ks pc lv st) : wq p l e R s m args below meth c G A nL Q (La ++ Lb) E kc ks pc lv st := by
  intro H locs ls hP hD hS hl
  refine hv2 (show va_pl (La ++ Lb) E = va_pl La E ++ va_pl Lb E from List.map_append) (show va_pl (Lb ++ La) E = va_pl Lb E ++ va_pl La E from List.map_append) (fun e1 e2 => ?_)
  rw [e1] at hP hD
  have pR : ∀ (j : Nat) (q : Nat × va_E), (va_pl Lb E)[j]? = some q → (va_pl La E ++ va_pl Lb E)[(va_pl La E).length + j]? = some q := fun j q h => by rw [List.getElem?_append_right (by omega), Nat.add_sub_cancel_left]; exact h
  have pL : ∀ (j : Nat) (q : Nat × va_E), (va_pl La E)[j]? = some q → (va_pl La E ++ va_pl Lb E)[j]? = some q := fun j q h => by rw [List.getElem?_append_left ((List.getElem?_eq_some_iff.mp h).1)]; exact h
  refine k H locs ls ?_ ?_ hS hl
  · rw [e2]
    exact va_P.app (fun j q h => hP _ q (pR j q h)) (fun j q h => hP _ q (pL j q h))
  · rw [e2]
    refine va_D.app ⟨fun i j x y hi hj e => by have := hD.1 _ _ x y (pR i x hi) (pR j y hj) e; omega, fun k q hk => hD.2 _ q (pR k q hk)⟩ ⟨fun i j x y hi hj e => hD.1 _ _ x y (pL i x hi) (pL j y hj) e, fun k q hk => hD.2 _ q (pL k q hk)⟩ (fun i j x y hx hy hxy => ?_)
    have := hD.1 _ _ y x (pL j y hy) (pR i x hx) hxy.symm
    have hj := (List.getElem?_eq_some_iff.mp hy).1
    omega
end LW

def R_law : String := "DotPressLaw"
def lw_P (b : Addr) (xs : List Int32) (args : Array Value) (s : State) : Prop := args = #[.ref b] ∧ s.IntsAt b xs ∧ xs.length ≤ 3072 ∧ (Jvm.Cond.and given_1 narrow_1).before args s = true
def lw_Q (_ : Array Value) (s : State) (o : Outcome) (t : State) : Prop := o = .returned (some (.int 1)) ∧ Framed s o t [] 600000 7302250
def lw_Z (below : List Frame) (a : Array Value) (s : State) : State → Prop := fun t => ∃ o, t.status = .running ∧ Ended t below o ∧ lw_Q a s o t
theorem lw_ret {p : Program} {l : Launch} {e : Env} {s : State} {m : MethodId} {below : List Frame} {meth : Method} {c : Code} {b : Nat} (hx : p.tables.exec = Jvm.exec) (hb : c.code = code) (hr : meth.sig.returnType = ret) (hlocks : meth.locks = false) {pc : Nat} {H : Heap} {ls : Array Slot} (hdg : decode code pc = .ok (.ireturn, 1)) : W p l e room_1 s m #[Value.ref b] below meth c H [] 600000 7302250 (lw_Z below #[Value.ref b] s) (F0 m pc ls [.int 1]) := by
  intro T hT X
  obtain ⟨fs, hret, hrun, hended, hW, hframe⟩ := X.leave (v := some (.int 1)) (hlocks := hlocks) (fun h => by rw [hr] at h; cases h)
  have hmeth' : T.vm.method? m = some meth := X.method'
  refine ⟨T.setFrames fs, ?_, .returned (some (.int 1)), hrun, hended, rfl, ⟨_, rfl⟩, hW, hframe⟩
  jvm_step X.here [X.here.top, hx, hb, hdg, hmeth', hr, ret, narrow_b1]
  (try refine ⟨rfl, ?_⟩); (try refine ⟨rfl, ?_⟩)
  first | (intro acts; rw [hret _ acts rfl rfl rfl]) | rw [hret _ _ rfl rfl rfl]
  exact Steps.refl _
def lw_At (p : Program) (s : State) (m : MethodId) (meth : Method) (c : Code) (b L : Nat) (xs : Nat → Int32) : Prop :=
  p.tables.exec = Jvm.exec ∧ c.code = code ∧ meth.sig.returnType = ret ∧ c.maxLocals = 4 ∧ s.vm.findClass R_law = some m.cls ∧ (∀ w ∈ lw_tbl, w.before #[Value.ref b] s = true) ∧ va_X b L xs s s.heap ∧ b < s.heap.size ∧ meth.locks = false ∧ (Jvm.Cond.and given_1 narrow_1).before #[Value.ref b] s = true

theorem law_ret {p : Program} {l : Launch} {e : Env} {s : State} {m : MethodId} {below : List Frame} {meth : Method} {c : Code} {y : MethodName} {rt : Option FieldType} {G : GT} {b : Nat} (C : Cq p s m #[Value.ref b] meth c cL_law ⟨RL, y.name, y.desc⟩ rt G (fun q => s.heap.size ≤ q) 4) (hr : meth.sig.returnType = ret) (hlk : meth.locks = false) {L : List Nat} {E : Nat → va_E} {kc ks pc : Nat} {lv : List (Nat × Value)} (h1 : kc ≤ 600000) (h2 : ks ≤ 7302250) (d : decode cL_law pc = .ok (.ireturn, 1)) : wq p l e room_1 s m #[Value.ref b] below meth c G (fun q => s.heap.size ≤ q) 4 (lw_Z below #[Value.ref b] s) L E kc ks pc lv [.int 1] := fun H locs ls hP hD hS hl => va_forget (fun q hq => hS.2.2 q hq) (W.widen h1 h2 (lw_ret C.1 C.2.1 hr hlk d))

theorem Mu.congr {l : Launch} {G : GT} {mi : Nat} {y : MethodName} {cc : ByteArray} {n : Nat} {ret : Option FieldType} {d : Nat} {av : List Value} {L : List Nat} {E E2 : Nat → va_E} {r : Nat} {P : PU} (h : Mu l G mi y cc n ret d av L E r P) (he : ∀ a ∈ L, E2 a = E a) : Mu l G mi y cc n ret d av L E2 r P := by
  have e : va_pl L E2 = va_pl L E := List.map_congr_left (fun a ha => by rw [he a ha])
  intro sz
  have e2 : Pcu G mi L E2 sz = Pcu G mi L E sz := by funext U; unfold Pcu Pcq; rw [e]
  rw [e, e2]
  exact h sz
theorem mI.cgE {G : GT} {h0 : Nat} {ad ln : Nat → Nat} {v : Nat → Int} {a : Nat → Nat → Int} {L : List Nat} {E E2 : Nat → va_E} (h : mI G h0 ad ln v a L E) (he : ∀ b ∈ L, E2 b = E b) : mI G h0 ad ln v a L E2 := ⟨h.1, (he _ h.1).trans h.2.1, fun k hk => ⟨(h.2.2.1 k hk).1, (he _ (h.2.2.1 k hk).1).trans (h.2.2.1 k hk).2⟩, h.2.2.2⟩
def LI (R : (Nat → Nat) → List Nat → (Nat → Nat) → (Nat → Nat) → (Nat → Nat → Int) → (Nat → Nat → Option Nat) → (Nat → Int) → (Nat → Nat → Int) → Prop) (G : GT) (h0 mm n n2 w u : Nat) (Lx Lm : List Nat) (E : Nat → va_E) : Prop := ∃ (cl ln : Nat → Nat) (iv : Nat → Nat → Int) (rv : Nat → Nat → Option Nat) (sk ad lnm : Nat → Nat) (v : Nat → Int) (a : Nat → Nat → Int), (∀ b ∈ Lx, E b = enc G cl ln iv rv b) ∧ PRS G h0 n Lx cl ln iv rv sk ∧ mI G mm ad lnm v a Lm E ∧ MIV n2 lnm v a ∧ u ≤ 360000 + Phi (g0 G) sk ln rv + w ∧ R sk Lx cl ln iv rv v a
def LV (b h0 mm n : Nat) : List (Nat × Value) := [(3, .int (iI (6 * (n : Int)))), (2, .ref mm), (1, .ref h0), (0, .ref b)]
section LAWS
variable {p : Program} {l : Launch} {e : Env} {s : State} {m : MethodId} {below : List Frame} {meth : Method} {c : Code} {y : MethodName} {rt : Option FieldType} {G : GT} {b mi h0 mm n u kc ks pc Ln w : Nat} {Lx Lm : List Nat} {E : Nat → va_E} {Q : State → Prop} {lv : List (Nat × Value)} {st rest : List Value} {xs : Nat → Int32} {zs : Nat → Int} {EX : (Nat → Nat) → List Nat → (Nat → Nat) → (Nat → Nat) → (Nat → Nat → Int) → (Nat → Nat → Option Nat) → List Nat → (Nat → Nat) → (Nat → Nat) → (Nat → Nat → Int) → (Nat → Nat → Option Nat) → Int → Prop} {EXm : (Nat → Int) → (Nat → Nat → Int) → (Nat → Int) → (Nat → Nat → Int) → Int → Prop} {R : (Nat → Nat) → List Nat → (Nat → Nat) → (Nat → Nat) → (Nat → Nat → Int) → (Nat → Nat → Option Nat) → (Nat → Int) → (Nat → Nat → Int) → Prop} {As : List Value} {y2 : MethodName} {cc2 : ByteArray} {n2 d2 idx k2 mc ms : Nat}
theorem q_ld (C : Cq p s m #[Value.ref b] meth c cL_law ⟨RL, y.name, y.desc⟩ rt G (fun q => s.heap.size ≤ q) 4) (hX : va_X b Ln xs s s.heap) (hbl : b < s.heap.size) (hzs : ∀ k, xs k = iI (zs k)) (hn : 6 * n + 6 ≤ Ln) (hLn : Ln ≤ 3072) {j : Nat} (hj : j < 6) {jj : Int} (hjj : jj = j) {L : List Nat} (d0 : decode cL_law pc = .ok (.aload_n 0, 1)) (d1 : decode cL_law (pc + 1) = .ok (.iload_n 3, 1)) (d2 : decode cL_law (pc + 2) = .ok (.iconst jj, 1)) (d3 : decode cL_law (pc + 3) = .ok (.iadd, 1)) (d4 : decode cL_law (pc + 4) = .ok (.iaload, 1)) (k : wq p l e room_1 s m #[Value.ref b] below meth c G (fun q => s.heap.size ≤ q) 4 Q L E kc ks (pc + 5) (LV b h0 mm n) (.int (iI (zs (6 * n + j))) :: st)) : wq p l e room_1 s m #[Value.ref b] below meth c G (fun q => s.heap.size ≤ q) 4 Q L E kc ks pc (LV b h0 mm n) st := by
  have hbA : ¬ (fun q : Nat => s.heap.size ≤ q) b := Nat.not_le.mpr hbl
  refine q_aload_n (j := 3) C d0 rfl ?_
  refine q_iload_n (j := 0) C d1 rfl ?_
  refine q_iconst (v := iI jj) C d2 rfl ?_
  refine q_iadd (v := iI (6 * (n : Int) + j)) C d3 (by rw [hjj]; exact (Int32.ofInt_add ..).symm) ?_
  refine q_sld (v := iI (zs (6 * n + j))) C hX hbl hbA d4 (iI_in ⟨by omega, by omega⟩ (by omega) (by omega)) (by rw [iI_cl ⟨by omega, by omega⟩, ← hzs]; congr 1) ?_
  exact k
theorem law_press (C : Cq p s m #[Value.ref b] meth c cL_law ⟨RL, y.name, y.desc⟩ rt G (fun q => s.heap.size ≤ q) 4) (hM : Mir mi s) (hI : LI R G h0 mm n n w u Lx Lm E) (hn : n ≤ 511) (hw0 : w ≤ 3400000) (hu : 16 * kc + ks ≤ u) (op : PressOp l G mi y2 cc2 n2 (some .int) d2 As h0 EX) (d : decode cL_law pc = .ok (.invokevirtual idx, 3)) (hw : Wv RL idx y2 cc2 n2 (some .int) k2) (hk : As.length = k2) (hcls : y2.cls = RX11) (hst : st = As.reverse ++ .ref h0 :: rest) (hcat : (rest.map fun v => v.category).sum ≤ 8) (hR : d2 + 1 ≤ 2048 ∧ 8 + (n2 + 11) + 64 * d2 ≤ 84000) (kk : ∀ (f : Int) (L2 : List Nat) (E3 : Nat → va_E) (kc2 ks2 u2 : Nat), (-2147483648 ≤ f ∧ f ≤ 2147483647) → LI (fun sk L2 cl2 ln2 iv2 rv2 v a => ∃ L cl ln iv rv, R sk L cl ln iv rv v a ∧ EX sk L cl ln iv rv L2 cl2 ln2 iv2 rv2 f) G h0 mm (n + 1) n (w + 2330) u2 L2 Lm E3 → 16 * kc2 + ks2 ≤ u2 → wq p l e room_1 s m #[Value.ref b] below meth c G (fun q => s.heap.size ≤ q) 4 Q (Lm ++ L2) E3 kc2 ks2 (pc + 3) lv (.int (iI f) :: rest)) : wq p l e room_1 s m #[Value.ref b] below meth c G (fun q => s.heap.size ≤ q) 4 Q (Lm ++ Lx) E kc ks pc lv st := by
  obtain ⟨cl, ln, iv, rv, sk, ad, lnm, v, a, hE, hP, hmI, hV, hU, hR0⟩ := hI
  obtain ⟨c0, P2, hc0, M, hpost⟩ := op n Lx cl ln iv rv sk hn hP
  obtain ⟨hW, hS, hm, h23, ht⟩ := hP
  refine hv2 (Phi.le hW hS) (show PHM = 1110000 from rfl) (fun hph e0 => ?_)
  have hEh : E h0 = ob 12 19 (ofv 12 (iv h0) (rv h0)) := by
    rw [hE h0 ht.1]; unfold enc; rw [ht.2]; rfl
  have M2 := Mu.congr (E2 := E) M (fun q hq => hE q hq)
  refine u_subV (As := As) (rest := rest) C hM hu M2 d hw hk ht.1 hEh (hcls ▸ ck_12) hst hcat hR ⟨by show kc + _ / 16 ≤ 600000; omega, by show ks + _ ≤ 7302250; omega⟩ (fun r L2 E2 E3 u2 h ha hb hc kc2 ks2 hk2 => ?_)
  obtain ⟨cl2, ln2, iv2, rv2, rfl, hu2, hp2⟩ := h
  obtain ⟨f, rfl, hf, hX2, hW2, hm2, h232, hex⟩ := hpost _ _ _ _ _ _ hp2
  exact kk f L2 E3 kc2 ks2 (u + u2) hf ⟨cl2, ln2, iv2, rv2, sk, ad, lnm, v, a, hb, ⟨hW2, hX2.skl hS, hm2, by push_cast; omega, hX2.ty ht⟩, hmI.cgE ha, hV, by omega, Lx, cl, ln, iv, rv, hR0, hex⟩ hk2
theorem law_model (C : Cq p s m #[Value.ref b] meth c cL_law ⟨RL, y.name, y.desc⟩ rt G (fun q => s.heap.size ≤ q) 4) (hI : LI R G h0 mm (n + 1) n w u Lx Lm E) (hn : n ≤ 511) (hw0 : w ≤ 3400000) (hu : 16 * kc + ks ≤ u) (op : ModelOp l G y2 cc2 n2 (some .int) d2 As mm mc ms EXm) (hcost : 16 * mc + ms ≤ 4126) (d : decode cL_law pc = .ok (.invokevirtual idx, 3)) (hw : Wv RL idx y2 cc2 n2 (some .int) k2) (hk : As.length = k2) (hcls : y2.cls = RX12) (hst : st = As.reverse ++ .ref mm :: rest) (hcat : (rest.map fun v => v.category).sum ≤ 8) (hR : d2 + 1 ≤ 2048 ∧ 8 + (n2 + 11) + 64 * d2 ≤ 84000) (kk : ∀ (f : Int) (L2 : List Nat) (E3 : Nat → va_E) (kc2 ks2 u2 : Nat), LI (fun sk L cl ln iv rv v2 a2 => ∃ v a, R sk L cl ln iv rv v a ∧ EXm v a v2 a2 f) G h0 mm (n + 1) (n + 1) (w + 4126) u2 Lx L2 E3 → 16 * kc2 + ks2 ≤ u2 → wq p l e room_1 s m #[Value.ref b] below meth c G (fun q => s.heap.size ≤ q) 4 Q (L2 ++ Lx) E3 kc2 ks2 (pc + 3) lv (.int (iI f) :: rest)) : wq p l e room_1 s m #[Value.ref b] below meth c G (fun q => s.heap.size ≤ q) 4 Q (Lm ++ Lx) E kc ks pc lv st := by
  obtain ⟨cl, ln, iv, rv, sk, ad, lnm, v, a, hE, hP, hmI, hV, hU, hR0⟩ := hI
  refine hv2 (Phi.le hP.1 hP.2.1) (show PHM = 1110000 from rfl) (fun hph e0 => ?_)
  obtain ⟨P2, M, hpost⟩ := op n ad lnm v a Lm E hn hV hmI
  refine q_swap ?_
  refine q_subV (As := As) (rest := rest) C M d hw hk hmI.1 hmI.2.1 (hcls ▸ ck_13) hst hcat hR ⟨by show kc + mc ≤ 600000; omega, by show ks + ms ≤ 7302250; omega⟩ (fun r L2 E2 E3 h ha hb hc => ?_)
  obtain ⟨f, ad2, ln2, v2, a2, rfl, hmI2, hV2, hex⟩ := hpost _ _ _ h
  refine q_swap ?_
  exact kk f L2 E3 _ _ (u + (16 * mc + ms)) ⟨cl, ln, iv, rv, sk, ad2, ln2, v2, a2, fun q hq => (ha q hq).trans (hE q hq), hP, hmI2.cgE hb, hV2, by omega, v, a, hR0, hex⟩ (by omega)
end LAWS
end
section
theorem stk_lt {s : Nat → Int} : ∀ (n : Nat) (T : Int) (R : Nat → Int), stk s n T R → ∀ k : Nat, k < n → (s (4 * k) = 1 ∨ s (4 * k) = 2) → 0 ≤ s (4 * k + 1) ∧ s (4 * k + 1) < T := by
  intro n
  induction n with
  | zero => intro T R _ k hk; exact absurd hk (by omega)
  | succ n ih =>
    intro T R h k hk hw
    obtain ⟨T0, R0, he, hs⟩ := h
    by_cases e : k = n
    · subst e
      rcases he with ⟨q1, _⟩ | ⟨_, q2, _⟩ | ⟨_, q2, _⟩ | ⟨q1, _⟩ | ⟨q1, _⟩
      · omega
      · exact q2
      · exact q2
      · omega
      · omega
    · have q := ih T0 R0 hs k (by omega) hw
      rcases he with ⟨_, _, q3, _⟩ | ⟨_, _, q3, _⟩ | ⟨_, _, _, q3, _⟩ | ⟨_, _, _, q3, _⟩ | ⟨_, _, _, q3, _⟩ <;> exact ⟨q.1, by omega⟩
theorem STK.lt {ln : Nat → Nat} {v : Nat → Int} {a : Nat → Nat → Int} (h : STK ln v a) (k : Nat) (hk : 4 * (k : Int) < v 19) (hw : a 18 (4 * k) = 1 ∨ a 18 (4 * k) = 2) : 0 ≤ a 18 (4 * k + 1) ∧ a 18 (4 * k + 1) < v 4 := by
  obtain ⟨_, _, n, hn, hs⟩ := h
  exact stk_lt n _ _ hs k (by omega) hw
def CHP (sk : Nat → Nat) (iv : Nat → Nat → Int) (rv : Nat → Nat → Option Nat) (v : Nat → Int) (a : Nat → Nat → Int) : Prop := ∀ k : Nat, (k : Int) < iv (sk 23) 2 → ∃ ch, el rv (sk 23) k = some ch ∧ iv ch 0 = a 18 (4 * k) ∧ ((a 18 (4 * k) = 1 ∨ a 18 (4 * k) = 2) → (0 ≤ a 18 (4 * k + 1) ∧ a 18 (4 * k + 1) < v 4) ∧ rv ch 1 = el rv (sk 22) (a 18 (4 * k + 1)).toNat)
def TBR (sk : Nat → Nat) (iv : Nat → Nat → Int) (rv : Nat → Nat → Option Nat) (v : Nat → Int) (a : Nat → Nat → Int) : Prop := ∀ i : Nat, (i : Int) < v 4 → ∃ t q, el rv (sk 22) i = some t ∧ rv t 4 = some q ∧ iv t 0 = a 6 i ∧ iv t 1 = a 7 i ∧ iv t 7 + a 5 i = 1 ∧ iv q 2 = a 10 i ∧ (a 7 i = 6 ∨ a 7 i = 8) ∧ (a 5 i = 0 ∨ a 5 i = 1) ∧ (0 ≤ a 10 i ∧ a 10 i ≤ 200)
def LNJ (sk : Nat → Nat) (rv : Nat → Nat → Option Nat) (n : Int) : Prop := ∀ i j t u q : Nat, (i : Int) < n → (j : Int) < n → el rv (sk 22) i = some t → el rv (sk 22) j = some u → rv t 4 = some q → rv u 4 = some q → i = j
def TABR (sk : Nat → Nat) (iv : Nat → Nat → Int) (rv : Nat → Nat → Option Nat) (v : Nat → Int) (a : Nat → Nat → Int) : Prop := iv (sk 22) 2 = v 4 ∧ TBR sk iv rv v a ∧ LNJ sk rv (v 4) ∧ 4 * iv (sk 23) 2 = v 19 ∧ CHP sk iv rv v a ∧ (0 ≤ v 4 ∧ v 4 ≤ 30) ∧ 0 ≤ v 19
section TABS
variable {sk : Nat → Nat} {iv iv2 : Nat → Nat → Int} {rv rv2 : Nat → Nat → Option Nat} {v v2 : Nat → Int} {a a2 : Nat → Nat → Int} {i : Int} {t : Nat}
theorem TABR.al (h : TABR sk iv rv v a) (ha : ALV sk iv rv i t) : (0 ≤ i ∧ i < v 4 ∧ a 5 i.toNat = 1) ∧ iv t 0 = a 6 i.toNat ∧ iv t 1 = a 7 i.toNat ∧ (iv t 1 = 6 ∨ iv t 1 = 8) ∧ ∃ q, rv t 4 = some q ∧ iv q 2 = a 10 i.toNat := by
  obtain ⟨h1, h2, _⟩ := h
  obtain ⟨a1, a2, a3, a4⟩ := ha
  obtain ⟨t2, q, b1, b2, b3, b4, b5, b6, b7, b8⟩ := h2 i.toNat (by omega)
  rw [a3] at b1; cases b1
  exact ⟨⟨a1, by omega, by omega⟩, b3, b4, by omega, q, b2, b6⟩
theorem TABR.la (h : TABR sk iv rv v a) (w1 : 0 ≤ i) (w2 : i < v 4) (w3 : a 5 i.toNat = 1) : ∃ t, ALV sk iv rv i t := by
  obtain ⟨g1, g2, _⟩ := h
  obtain ⟨t, q, b1, b2, b3, b4, b5, b6, b7, b8⟩ := g2 i.toNat (by omega)
  exact ⟨t, w1, by omega, b1, by omega⟩
theorem TABR.no (h : TABR sk iv rv v a) (w1 : 0 ≤ i) (w2 : i < v 4) (w3 : el rv (sk 22) i.toNat = some t) {j : Nat} {u : Nat} (hj : (j : Int) < v 4) (hu : el rv (sk 22) j = some u) (ne : j ≠ i.toNat) : u ≠ t ∧ ∀ q r, rv t 4 = some q → rv u 4 = some r → r ≠ q := by
  have key : ∀ q, rv t 4 = some q → rv u 4 = some q → False := fun q e1 e2 => ne (h.2.2.1 j i.toNat u t q hj (by omega) hu w3 e2 e1)
  obtain ⟨t2, q, b1, b2, _⟩ := h.2.1 i.toNat (by omega)
  rw [w3] at b1; cases b1
  refine ⟨fun e => ?_, fun q2 r e1 e2 e3 => ?_⟩
  · subst e; exact key q b2 b2
  · subst e3; exact key r e1 e2
theorem LNJ.keep {n n2 : Int} (h : LNJ sk rv n) (hn : n2 ≤ n) (he : ∀ i : Nat, (i : Int) < n2 → el rv2 (sk 22) i = el rv (sk 22) i) (h4 : ∀ i t : Nat, (i : Int) < n2 → el rv (sk 22) i = some t → rv2 t 4 = rv t 4) : LNJ sk rv2 n2 := by
  intro i j t u q hi hj ht hu e1 e2
  refine hv2 ((he i hi).symm.trans ht) ((he j hj).symm.trans hu) (fun ht2 hu2 => ?_)
  exact h i j t u q (by omega) (by omega) ht2 hu2 ((h4 i t hi ht2).symm.trans e1) ((h4 j u hj hu2).symm.trans e2)
theorem CHP.push {w tt cc dd : Int} {x : Option Nat} (h : CHP sk iv rv v a) (hn : iv (sk 22) 2 = v 4) (h19 : 4 * iv (sk 23) 2 = v 19) (h0 : 0 ≤ v 19) (h4 : v 4 ≤ v2 4) (ts : TS0 sk iv rv rv2) (hp : PPSH w x sk iv rv iv2 rv2) (hq : PSH v a v2 a2 w tt cc dd) (hx : (w = 1 ∨ w = 2) → (0 ≤ tt ∧ tt < v2 4) ∧ x = el rv2 (sk 22) tt.toNat) : CHP sk iv2 rv2 v2 a2 := by
  obtain ⟨r1, r2, ch, r3, r4, r5⟩ := hp
  obtain ⟨s1, s2, s3, s4, _⟩ := hq
  intro k hk
  by_cases e : (k : Int) < iv (sk 23) 2
  · obtain ⟨c, b1, b2, b3⟩ := h k e
    have g := r2 k e
    have g2 := g.2 c b1
    have z0 := s2 (4 * k) (by omega)
    have z1 := s2 (4 * k + 1) (by omega)
    refine ⟨c, g.1.trans b1, by rw [z0, g2.1]; exact b2, fun hw => ?_⟩
    rw [z0] at hw
    rw [z1]
    obtain ⟨e1, e2⟩ := b3 hw
    exact ⟨⟨e1.1, by omega⟩, g2.2.trans (e2.trans (ts _ (by omega)).symm)⟩
  · have ek : k = (iv (sk 23) 2).toNat := by omega
    have z0 : a2 18 (4 * k) = w := by rw [show 4 * k = (v 19).toNat by omega]; exact s3
    have z1 : a2 18 (4 * k + 1) = tt := by rw [show 4 * k + 1 = (v 19 + 1).toNat by omega]; exact s4
    refine ⟨ch, by rw [ek]; exact r3, by rw [z0]; exact r4, fun hw => ?_⟩
    rw [z0] at hw
    rw [z1]
    have g := hx hw
    exact ⟨g.1, r5.trans g.2⟩
theorem tab_same (h : TABR sk iv rv v a) (hp : PSAME sk iv rv iv2 rv2) (hq : TSAME v a v2 a2) : TABR sk iv2 rv2 v2 a2 := by
  obtain ⟨h1, h2, h3, h4, h5, h6, h7⟩ := h
  obtain ⟨p1, p2, ⟨p3, p4, p5⟩, p6⟩ := hp
  obtain ⟨q1, q2, q3, q4, q5, q6, q7, _⟩ := hq
  refine ⟨by omega, fun i hi => ?_, h3.keep (by omega) (fun i hi => p3 i (by omega)) (fun i t hi ht => (p4 i t (by omega) ht).2.2.2), by omega, fun k hk => ?_, by omega, by omega⟩
  · obtain ⟨t, q, b1, b2, b3, b4, b5, b6, b7, b8⟩ := h2 i (by omega)
    have c := p4 i t (by omega) b1
    have d := p5 i t q (by omega) b1 b2 trivial
    rw [q2, q3, q4, q5]
    exact ⟨t, q, (p3 i (by omega)).trans b1, c.2.2.2.trans b2, c.2.1.trans b3, c.2.2.1.trans b4, by rw [c.1 trivial]; exact b5, d.trans b6, b7, b8⟩
  · obtain ⟨ch, b1, b2, b3⟩ := h5 k (by omega)
    have c := p6 k (by omega)
    have d := c.2 ch b1
    rw [q7]
    refine ⟨ch, c.1.trans b1, d.1.trans b2, fun hw => ?_⟩
    obtain ⟨e1, e2⟩ := b3 hw
    exact ⟨⟨e1.1, by omega⟩, d.2.trans (e2.trans (p3 _ (by omega)).symm)⟩
theorem tab_new {k d bb ss : Int} (h : TABR sk iv rv v a) (hp : PNEW k d sk iv rv iv2 rv2) (hq : TNEW k d bb ss v a v2 a2) (hd : d = 6 ∨ d = 8) (hlt : v 4 ≠ 30) : TABR sk iv2 rv2 v2 a2 := by
  obtain ⟨h1, h2, h3, h4, h5, h6, h7⟩ := h
  obtain ⟨q, r, p1, p2, p3, p4, p5, p6, p7, p8, ⟨p9, p10, p11⟩, p12⟩ := hp
  obtain ⟨q1, q2, q3, q4, q5, q6, _⟩ := hq
  have old : ∀ j t w : Nat, (j : Int) < v 4 → el rv2 (sk 22) j = some t → rv2 t 4 = some w → el rv (sk 22) j = some t ∧ rv t 4 = some w := by
    intro j t w hj ht hw
    have ht2 := (p9 j (by omega)).symm.trans ht
    exact ⟨ht2, (p10 j t (by omega) ht2).2.2.2.symm.trans hw⟩
  have nw : ∀ j t w : Nat, ¬ (j : Int) < v 4 → (j : Int) < v2 4 → el rv2 (sk 22) j = some t → rv2 t 4 = some w → w = r := by
    intro j t w hj hj2 ht hw
    rw [show j = (iv (sk 22) 2).toNat by omega, p1] at ht
    cases ht
    rw [p5] at hw
    cases hw
    rfl
  refine ⟨by omega, fun i hi => ?_, fun i j t u w hi hj ht hu e1 e2 => ?_, by have := q6.1; have := p12.1; omega, h5.push h1 h4 h7 (by omega) p9 p12 q6 (fun hw => absurd hw (by omega)), by omega, by have := q6.1; omega⟩
  · rw [q2, q3, q4, q5]
    by_cases e : (i : Int) < v 4
    · obtain ⟨t, w, b1, b2, b3, b4, b5, b6, b7, b8⟩ := h2 i e
      have c := p10 i t (by omega) b1
      have dd := p11 i t w (by omega) b1 b2 trivial
      have ne : i ≠ (v 4).toNat := by omega
      rw [va_up_ne _ _ ne, va_up_ne _ _ ne, va_up_ne _ _ ne, va_up_ne _ _ ne]
      exact ⟨t, w, (p9 i (by omega)).trans b1, c.2.2.2.trans b2, c.2.1.trans b3, c.2.2.1.trans b4, by rw [c.1 trivial]; exact b5, dd.trans b6, b7, b8⟩
    · have ei : i = (v 4).toNat := by omega
      rw [ei, va_up_self, va_up_self, va_up_self, va_up_self]
      exact ⟨q, r, by rw [← h1]; exact p1, p5, p2, p3, by omega, p6, hd, Or.inr rfl, ⟨by decide, by decide⟩⟩
  · by_cases ei : (i : Int) < v 4
    · by_cases ej : (j : Int) < v 4
      · have o1 := old i t w ei ht e1
        have o2 := old j u w ej hu e2
        exact h3 i j t u w ei ej o1.1 o2.1 o1.2 o2.2
      · have o1 := old i t w ei ht e1
        have o2 := nw j u w ej hj hu e2
        subst o2
        exact absurd o1.2 (p7 i t (by omega) o1.1)
    · by_cases ej : (j : Int) < v 4
      · have o1 := old j u w ej hu e2
        have o2 := nw i t w ei hi ht e1
        subst o2
        exact absurd o1.2 (p7 j u (by omega) o1.1)
      · omega
theorem tab_drop (h : TABR sk iv rv v a) (ha : ALV sk iv rv i t) (hn : iv2 (sk 22) 2 = iv (sk 22) 2) (hp : PTAB (fun b => b ≠ t) (fun _ => True) sk iv rv iv2 rv2) (h7t : iv2 t 7 = 1) (hs : PPSH 1 (some t) sk iv rv iv2 rv2) (hq : TDRP i v a v2 a2) : TABR sk iv2 rv2 v2 a2 := by
  have no := fun {j u : Nat} => h.no (j := j) (u := u) ha.1 (h.al ha).1.2.1 ha.2.2.1
  obtain ⟨h1, h2, h3, h4, h5, h6, h7⟩ := h
  obtain ⟨p3, p4, p5⟩ := hp
  obtain ⟨q1, q2, q3, q4, q5, q6, _⟩ := hq
  obtain ⟨a1, a2', a3, a4⟩ := ha
  refine ⟨by omega, fun j hj => ?_, h3.keep (by omega) (fun i hi => p3 i (by omega)) (fun i t hi ht => (p4 i t (by omega) ht).2.2.2), by have := q6.1; have := hs.1; omega, h5.push h1 h4 h7 (by omega) p3 hs q6 (fun _ => ⟨⟨a1, by omega⟩, ((p3 i.toNat (by omega)).trans a3).symm⟩), by omega, by have := q6.1; omega⟩
  obtain ⟨u, w, b1, b2, b3, b4, b5, b6, b7, b8⟩ := h2 j (by omega)
  have c := p4 j u (by omega) b1
  have d := p5 j u w (by omega) b1 b2 trivial
  rw [q2, q3, q4, q5]
  by_cases e : j = i.toNat
  · have b1' := b1
    rw [e, a3] at b1'; cases b1'
    rw [e, va_up_self]
    rw [e] at b1 b3 b4 b6 b7 b8
    exact ⟨_, w, (p3 i.toNat (by omega)).trans b1, c.2.2.2.trans b2, c.2.1.trans b3, c.2.2.1.trans b4, by omega, d.trans b6, b7, Or.inl rfl, b8.2⟩
  · rw [va_up_ne _ _ e]
    have n1 := (no (by omega) b1 e).1
    exact ⟨u, w, (p3 j (by omega)).trans b1, c.2.2.2.trans b2, c.2.1.trans b3, c.2.2.1.trans b4, by rw [c.1 n1]; exact b5, d.trans b6, b7, b8⟩
theorem tab_rule {q : Nat} {xx nn : Int} (h : TABR sk iv rv v a) (ha : ALV sk iv rv i t) (h4t : rv t 4 = some q) (hn : iv2 (sk 22) 2 = iv (sk 22) 2) (hp : PTAB (fun _ => True) (fun b => b ≠ q) sk iv rv iv2 rv2) (hz : iv2 q 2 = iv q 2 + 1) (hlt : iv q 2 < 200) (hs : PPSH 2 (some t) sk iv rv iv2 rv2) (hq : TRUL i xx nn v a v2 a2) : TABR sk iv2 rv2 v2 a2 := by
  have no := fun {j u : Nat} => h.no (j := j) (u := u) ha.1 (h.al ha).1.2.1 ha.2.2.1
  obtain ⟨h1, h2, h3, h4, h5, h6, h7⟩ := h
  obtain ⟨p3, p4, p5⟩ := hp
  obtain ⟨q1, q2, q3, q4, q5, q6, _⟩ := hq
  obtain ⟨a1, a2', a3, a4⟩ := ha
  refine ⟨by omega, fun j hj => ?_, h3.keep (by omega) (fun i hi => p3 i (by omega)) (fun i t hi ht => (p4 i t (by omega) ht).2.2.2), by have := q6.1; have := hs.1; omega, h5.push h1 h4 h7 (by omega) p3 hs q6 (fun _ => ⟨⟨a1, by omega⟩, ((p3 i.toNat (by omega)).trans a3).symm⟩), by omega, by have := q6.1; omega⟩
  obtain ⟨u, w, b1, b2, b3, b4, b5, b6, b7, b8⟩ := h2 j (by omega)
  have c := p4 j u (by omega) b1
  rw [q2, q3, q4, q5]
  by_cases e : j = i.toNat
  · have b1' := b1
    rw [e, a3] at b1'; cases b1'
    rw [h4t] at b2; cases b2
    rw [e, va_up_self]
    rw [e] at b1 b3 b4 b5 b6 b7 b8
    exact ⟨_, _, (p3 i.toNat (by omega)).trans b1, c.2.2.2.trans h4t, c.2.1.trans b3, c.2.2.1.trans b4, by rw [c.1 trivial]; exact b5, by omega, b7, b8.1, by omega⟩
  · rw [va_up_ne _ _ e]
    have n1 := (no (by omega) b1 e).2 q w h4t b2
    exact ⟨u, w, (p3 j (by omega)).trans b1, c.2.2.2.trans b2, c.2.1.trans b3, c.2.2.1.trans b4, by rw [c.1 trivial]; exact b5, (p5 j u w (by omega) b1 b2 n1).trans b6, b7, b8⟩
theorem tab_oth {w x cc dd : Int} {y : Option Nat} (h : TABR sk iv rv v a) (hn : iv2 (sk 22) 2 = iv (sk 22) 2) (hp : PTAB (fun _ => True) (fun _ => True) sk iv rv iv2 rv2) (hs : PPSH w y sk iv rv iv2 rv2) (hq : TOTH w x cc dd v a v2 a2) (hw : w ≠ 1 ∧ w ≠ 2) : TABR sk iv2 rv2 v2 a2 := by
  obtain ⟨h1, h2, h3, h4, h5, h6, h7⟩ := h
  obtain ⟨p3, p4, p5⟩ := hp
  obtain ⟨q1, q2, q3, q4, q5, q6⟩ := hq
  refine ⟨by omega, fun j hj => ?_, h3.keep (by omega) (fun i hi => p3 i (by omega)) (fun i t hi ht => (p4 i t (by omega) ht).2.2.2), by have := q6.1; have := hs.1; omega, h5.push h1 h4 h7 (by omega) p3 hs q6 (fun e => absurd e (by omega)), by omega, by have := q6.1; omega⟩
  obtain ⟨u, q, b1, b2, b3, b4, b5, b6, b7, b8⟩ := h2 j (by omega)
  have c := p4 j u (by omega) b1
  rw [q2, q3, q4, q5]
  exact ⟨u, q, (p3 j (by omega)).trans b1, c.2.2.2.trans b2, c.2.1.trans b3, c.2.2.1.trans b4, by rw [c.1 trivial]; exact b5, (p5 j u q (by omega) b1 b2 trivial).trans b6, b7, b8⟩
theorem tab_undo {ln ln2 : Nat → Nat} {ch : Nat} (h : TABR sk iv rv v a) (hS : STK ln v a) (hS2 : STK ln2 v2 a2) (h0 : v 19 ≠ 0) (hc : el rv (sk 23) (iv (sk 23) 2 - 1).toNat = some ch) (hp : PUND ch sk iv rv iv2 rv2) (hq : TUND v a v2 a2) : TABR sk iv2 rv2 v2 a2 := by
  obtain ⟨_, T0, R0, hent, _⟩ := STK.pop hS h0
  have hh := h
  obtain ⟨h1, h2, h3, h4, h5, h6, h7⟩ := h
  obtain ⟨p1, p2, p3⟩ := hp
  obtain ⟨q1, q2, q3, q4, _, q5⟩ := hq
  obtain ⟨c, g1, g2, g3⟩ := h5 (iv (sk 23) 2 - 1).toNat (by omega)
  rw [hc] at g1; cases g1
  rw [show 4 * (iv (sk 23) 2 - 1).toNat = (v 19 - 4).toNat by omega] at g2 g3
  rw [show (v 19 - 4).toNat + 1 = (v 19 - 4 + 1).toNat by omega] at g3
  have chp : (∀ j : Nat, (j : Int) < v2 4 → el rv2 (sk 22) j = el rv (sk 22) j) → CHP sk iv2 rv2 v2 a2 := by
    intro he k hk
    obtain ⟨c, b1, b2, b3⟩ := h5 k (by omega)
    have g := p2 k (by omega)
    have g4 := g.2 c b1
    have lt := hS2.lt k (by omega)
    rw [q2] at lt ⊢
    refine ⟨c, g.1.trans b1, g4.1.trans b2, fun hw => ?_⟩
    have l2 := lt hw
    exact ⟨l2, g4.2.trans ((b3 hw).2.trans (he _ (by omega)).symm)⟩
  rcases q5 with ⟨w1, w2, w3, w4, _⟩ | ⟨w1, w2, w3, w4, _⟩ | ⟨w1, w2, w3, w4, _⟩ | ⟨w1, w2, w3, w4, _⟩ | ⟨w1, w2, w3, w4, _⟩
  · obtain ⟨e1, _, _⟩ := hent.e0 w1
    rcases p3 with ⟨d1, d2, d3, d4, d5⟩ | ⟨d1, _⟩ | ⟨d1, _⟩ | ⟨d1, _⟩
    · refine ⟨by omega, fun j hj => ?_, h3.keep (by omega) (fun i hi => d3 i (by omega)) (fun i t hi ht => (d4 i t (by omega) ht).2.2.2), by omega, chp (fun j hj => d3 j (by omega)), by omega, by omega⟩
      obtain ⟨u, q, b1, b2, b3, b4, b5, b6, b7, b8⟩ := h2 j (by omega)
      have c := d4 j u (by omega) b1
      rw [w3, w4, q3, q4]
      exact ⟨u, q, (d3 j (by omega)).trans b1, c.2.2.2.trans b2, c.2.1.trans b3, c.2.2.1.trans b4, by rw [c.1 trivial]; exact b5, (d5 j u q (by omega) b1 b2 trivial).trans b6, b7, b8⟩
    · omega
    · omega
    · omega
  · obtain ⟨e1, _, _⟩ := hent.e1 w1
    rcases p3 with ⟨d1, _⟩ | ⟨d1, t, d2, d3, ⟨d4, d5, d6⟩, d7⟩ | ⟨d1, _⟩ | ⟨d1, _⟩
    · omega
    · obtain ⟨_, x2⟩ := g3 (Or.inl w1)
      have x3 := (x2.symm.trans d2)
      have no := fun {j u : Nat} => hh.no (j := j) (u := u) e1.1 e1.2 x3
      refine ⟨by omega, fun j hj => ?_, h3.keep (by omega) (fun i hi => d4 i (by omega)) (fun i t hi ht => (d5 i t (by omega) ht).2.2.2), by omega, chp (fun j hj => d4 j (by omega)), by omega, by omega⟩
      obtain ⟨u, q, b1, b2, b3, b4, b5, b6, b7, b8⟩ := h2 j (by omega)
      have c := d5 j u (by omega) b1
      have d := d6 j u q (by omega) b1 b2 trivial
      rw [w3, w4, q3, q4]
      by_cases e : j = (a 18 (v 19 - 4 + 1).toNat).toNat
      · have b1' := b1
        rw [e, x3] at b1'; cases b1'
        rw [e, va_up_self]
        rw [e] at b1 b3 b4 b6 b7 b8
        exact ⟨_, _, (d4 _ (by omega)).trans b1, c.2.2.2.trans b2, c.2.1.trans b3, c.2.2.1.trans b4, by omega, d.trans b6, b7, Or.inr rfl, b8.2⟩
      · rw [va_up_ne _ _ e]
        exact ⟨u, q, (d4 j (by omega)).trans b1, c.2.2.2.trans b2, c.2.1.trans b3, c.2.2.1.trans b4, by rw [c.1 (no (by omega) b1 e).1]; exact b5, d.trans b6, b7, b8⟩
    · omega
    · omega
  · obtain ⟨e1, e2, _, _⟩ := hent.e2 w1
    rcases p3 with ⟨d1, _⟩ | ⟨d1, _⟩ | ⟨d1, t, r, d2, d8, d3, ⟨d4, d5, d6⟩, d7⟩ | ⟨d1, _⟩
    · omega
    · omega
    · obtain ⟨_, x2⟩ := g3 (Or.inr w1)
      have x3 := (x2.symm.trans d2)
      have no := fun {j u : Nat} => hh.no (j := j) (u := u) e1.1 e1.2 x3
      refine ⟨by omega, fun j hj => ?_, h3.keep (by omega) (fun i hi => d4 i (by omega)) (fun i t hi ht => (d5 i t (by omega) ht).2.2.2), by omega, chp (fun j hj => d4 j (by omega)), by omega, by omega⟩
      obtain ⟨u, q, b1, b2, b3, b4, b5, b6, b7, b8⟩ := h2 j (by omega)
      have c := d5 j u (by omega) b1
      rw [w3, w4, q3, q4]
      by_cases e : j = (a 18 (v 19 - 4 + 1).toNat).toNat
      · have b1' := b1
        rw [e, x3] at b1'; cases b1'
        rw [d8] at b2; cases b2
        rw [e, va_up_self]
        rw [e] at b1 b3 b4 b5 b6 b7 b8
        exact ⟨_, _, (d4 _ (by omega)).trans b1, c.2.2.2.trans d8, c.2.1.trans b3, c.2.2.1.trans b4, by rw [c.1 trivial]; exact b5, by omega, b7, b8.1, by omega⟩
      · rw [va_up_ne _ _ e]
        have n1 := (no (by omega) b1 e).2 r q d8 b2
        exact ⟨u, q, (d4 j (by omega)).trans b1, c.2.2.2.trans b2, c.2.1.trans b3, c.2.2.1.trans b4, by rw [c.1 trivial]; exact b5, (d6 j u q (by omega) b1 b2 n1).trans b6, b7, b8⟩
    · omega
  · rcases p3 with ⟨d1, _⟩ | ⟨d1, _⟩ | ⟨d1, _⟩ | ⟨d1, d3, ⟨d4, d5, d6⟩⟩
    · omega
    · omega
    · omega
    · refine ⟨by omega, fun j hj => ?_, h3.keep (by omega) (fun i hi => d4 i (by omega)) (fun i t hi ht => (d5 i t (by omega) ht).2.2.2), by omega, chp (fun j hj => d4 j (by omega)), by omega, by omega⟩
      obtain ⟨u, q, b1, b2, b3, b4, b5, b6, b7, b8⟩ := h2 j (by omega)
      have c := d5 j u (by omega) b1
      rw [w3, w4, q3, q4]
      exact ⟨u, q, (d4 j (by omega)).trans b1, c.2.2.2.trans b2, c.2.1.trans b3, c.2.2.1.trans b4, by rw [c.1 trivial]; exact b5, (d6 j u q (by omega) b1 b2 trivial).trans b6, b7, b8⟩
  · rcases p3 with ⟨d1, _⟩ | ⟨d1, _⟩ | ⟨d1, _⟩ | ⟨d1, d3, ⟨d4, d5, d6⟩⟩
    · omega
    · omega
    · omega
    · refine ⟨by omega, fun j hj => ?_, h3.keep (by omega) (fun i hi => d4 i (by omega)) (fun i t hi ht => (d5 i t (by omega) ht).2.2.2), by omega, chp (fun j hj => d4 j (by omega)), by omega, by omega⟩
      obtain ⟨u, q, b1, b2, b3, b4, b5, b6, b7, b8⟩ := h2 j (by omega)
      have c := d5 j u (by omega) b1
      rw [w3, w4, q3, q4]
      exact ⟨u, q, (d4 j (by omega)).trans b1, c.2.2.2.trans b2, c.2.1.trans b3, c.2.2.1.trans b4, by rw [c.1 trivial]; exact b5, (d6 j u q (by omega) b1 b2 trivial).trans b6, b7, b8⟩
theorem tab_zero (h1 : iv (sk 22) 2 = 0) (h2 : iv (sk 23) 2 = 0) (h3 : v 4 = 0) (h4 : v 19 = 0) : TABR sk iv rv v a := ⟨by omega, fun i hi => absurd hi (by omega), fun i j t u q hi => absurd hi (by omega), by omega, fun k hk => absurd hk (by omega), by omega, by omega⟩
theorem tbl_both {x y f1 f2 : Int} (h : TABR sk iv rv v a) (hp : PTBL x y i f1 sk iv rv iv2 rv2) (hq : ((f2 = -1 ∧ TSAME v a v2 a2 ∧ ¬ (0 ≤ x ∧ x ≤ 4 ∧ (y = 6 ∨ y = 8) ∧ v 4 ≠ 30 ∧ (x < 1 ∨ 3 < x ∨ (0 ≤ i ∧ i < v 4 ∧ a 5 i.toNat = 1 ∧ a 6 i.toNat ≤ 3)))) ∨ (f2 = v 4 ∧ (0 ≤ x ∧ x ≤ 4 ∧ (y = 6 ∨ y = 8) ∧ v 4 ≠ 30 ∧ (x < 1 ∨ 3 < x ∨ (0 ≤ i ∧ i < v 4 ∧ a 5 i.toNat = 1 ∧ a 6 i.toNat ≤ 3))) ∧ TNEW x y (if x < 1 ∨ 3 < x then -1 else i) (-1) v a v2 a2))) : f1 = f2 ∧ TABR sk iv2 rv2 v2 a2 := by
  refine hv2 (h.1) (h.2.2.2.2.2.1) (fun h1 h30 => ?_)
  rcases hp with ⟨p1, p2, p3⟩ | ⟨p1, ⟨p2, p4⟩, p3⟩ <;> rcases hq with ⟨q1, q2, q3⟩ | ⟨q1, q2, q3⟩
  · exact ⟨by omega, tab_same h p2 q2⟩
  · refine absurd ⟨⟨by omega, by omega, by omega, by omega⟩, ?_⟩ p3
    by_cases e : x < 1 ∨ 3 < x
    · rcases e with e | e
      · exact Or.inl e
      · exact Or.inr (Or.inl e)
    · have g : 0 ≤ i ∧ i < v 4 ∧ a 5 i.toNat = 1 ∧ a 6 i.toNat ≤ 3 := by omega
      obtain ⟨t, ht⟩ := h.la g.1 g.2.1 g.2.2.1
      exact Or.inr (Or.inr ⟨t, ht, by rw [(h.al ht).2.1]; exact g.2.2.2⟩)
  · refine absurd ?_ q3
    have g : x < 1 ∨ 3 < x ∨ (0 ≤ i ∧ i < v 4 ∧ a 5 i.toNat = 1 ∧ a 6 i.toNat ≤ 3) := by
      rcases p4 with e | e | ⟨t, ht, e⟩
      · exact Or.inl e
      · exact Or.inr (Or.inl e)
      · have w := h.al ht
        rw [w.2.1] at e
        exact Or.inr (Or.inr ⟨w.1.1, w.1.2.1, w.1.2.2, e⟩)
    clear p4 q3
    exact ⟨by omega, by omega, by omega, by omega, g⟩
  · clear p4
    exact ⟨by omega, tab_new h p3 q3 p2.2.2.1 (by omega)⟩
theorem joi_both {j f1 f2 : Int} (h : TABR sk iv rv v a) (hp : PJOI i j f1 sk iv rv iv2 rv2) (hq : ((f2 = -1 ∧ TSAME v a v2 a2 ∧ ¬ (0 ≤ i ∧ i < v 4 ∧ a 5 i.toNat = 1 ∧ a 6 i.toNat ≤ 3 ∧ 0 ≤ j ∧ j < v 4 ∧ a 5 j.toNat = 1 ∧ a 6 j.toNat ≤ 3 ∧ v 4 ≠ 30)) ∨ (f2 = v 4 ∧ (0 ≤ i ∧ i < v 4 ∧ a 5 i.toNat = 1 ∧ a 6 i.toNat ≤ 3 ∧ 0 ≤ j ∧ j < v 4 ∧ a 5 j.toNat = 1 ∧ a 6 j.toNat ≤ 3 ∧ v 4 ≠ 30) ∧ TNEW 5 (max (a 7 i.toNat) (a 7 j.toNat)) i j v a v2 a2))) : f1 = f2 ∧ TABR sk iv2 rv2 v2 a2 := by
  refine hv2 (h.1) (h.2.2.2.2.2.1) (fun h1 h30 => ?_)
  rcases hp with ⟨p1, p2, p3⟩ | ⟨p1, p2, t, u, ⟨ht, et⟩, ⟨hu, eu⟩, p3⟩ <;> rcases hq with ⟨q1, q2, q3⟩ | ⟨q1, q2, q3⟩
  · exact ⟨by omega, tab_same h p2 q2⟩
  · obtain ⟨t, ht⟩ := h.la (i := i) (by omega) (by omega) (by omega)
    obtain ⟨u, hu⟩ := h.la (i := j) (by omega) (by omega) (by omega)
    exact absurd ⟨by omega, ⟨t, ht, by rw [(h.al ht).2.1]; omega⟩, ⟨u, hu, by rw [(h.al hu).2.1]; omega⟩⟩ p3
  · have w := h.al ht
    have w2 := h.al hu
    rw [w.2.1] at et
    rw [w2.2.1] at eu
    exact absurd ⟨w.1.1, w.1.2.1, w.1.2.2, et, w2.1.1, w2.1.2.1, w2.1.2.2, eu, by omega⟩ q3
  · have w := h.al ht
    refine hv3 (h.al hu) (w.2.2.2.1) (w.2.2.1) (fun w2 d1 e1 => ?_)
    refine hv2 (w2.2.2.2.1) (w2.2.2.1) (fun d2 e2 => ?_)
    rw [e1, e2] at p3
    exact ⟨by omega, tab_new h p3 q3 (by omega) (by omega)⟩
theorem drp_both {f1 f2 : Int} (h : TABR sk iv rv v a) (hp : PDRP i f1 sk iv rv iv2 rv2) (hq : ((f2 = -1 ∧ TSAME v a v2 a2 ∧ ¬ (0 ≤ i ∧ i < v 4 ∧ a 5 i.toNat = 1)) ∨ (f2 = 1 ∧ (0 ≤ i ∧ i < v 4 ∧ a 5 i.toNat = 1) ∧ TDRP i v a v2 a2))) : f1 = f2 ∧ TABR sk iv2 rv2 v2 a2 := by
  rcases hp with ⟨p1, p2, p3⟩ | ⟨p1, t, ht, p2, p3, p4, p5⟩ <;> rcases hq with ⟨q1, q2, q3⟩ | ⟨q1, q2, q3⟩
  · exact ⟨by omega, tab_same h p2 q2⟩
  · obtain ⟨t, ht⟩ := h.la q2.1 q2.2.1 q2.2.2
    exact absurd ht (p3 t)
  · exact absurd (h.al ht).1 q3
  · exact ⟨by omega, tab_drop h ht p2 p3 p4 p5 q3⟩
theorem rul_both {x n f1 f2 : Int} (h : TABR sk iv rv v a) (hs : iv (sk 2) 2 = v 3) (hc : CT iv rv (sk 2) (a 2)) (hp : PRUL i x n f1 sk iv rv iv2 rv2) (hq : ((f2 = -1 ∧ TSAME v a v2 a2 ∧ ¬ ((0 ≤ i ∧ i < v 4 ∧ a 5 i.toNat = 1 ∧ a 6 i.toNat ≠ 5 ∧ 0 ≤ x ∧ x ≤ 5 ∧ 1 ≤ n ∧ n ≤ 8 ∧ 1 ≤ v 3 - n ∧ v 3 - n ≤ 4 ∧ a 10 i.toNat ≠ 200) ∧ ACL (a 2) n (v 3 - n) (DC (a 7 i.toNat)) ∧ LTK (a 2) n)) ∨ (f2 = a 10 i.toNat ∧ ((0 ≤ i ∧ i < v 4 ∧ a 5 i.toNat = 1 ∧ a 6 i.toNat ≠ 5 ∧ 0 ≤ x ∧ x ≤ 5 ∧ 1 ≤ n ∧ n ≤ 8 ∧ 1 ≤ v 3 - n ∧ v 3 - n ≤ 4 ∧ a 10 i.toNat ≠ 200) ∧ ACL (a 2) n (v 3 - n) (DC (a 7 i.toNat)) ∧ LTK (a 2) n) ∧ TRUL i x n v a v2 a2))) : f1 = f2 ∧ TABR sk iv2 rv2 v2 a2 := by
  rcases hp with ⟨p1, p2, p3⟩ | ⟨t, q, ht, h4, p1, p2, p3, p4, p5, p6⟩ <;> rcases hq with ⟨q1, q2, q3⟩ | ⟨q1, ⟨q2, q4, q5⟩, q3⟩
  · exact ⟨by omega, tab_same h p2 q2⟩
  · obtain ⟨t, ht⟩ := h.la (i := i) (by omega) (by omega) (by omega)
    obtain ⟨w1, w2, w3, w4, q, w5, w6⟩ := h.al ht
    obtain ⟨_, _, b1, b2, _, _, _, _, _, _, b9⟩ := h.2.1 i.toNat (by omega)
    refine absurd ⟨⟨by omega, by omega, by omega, by omega, by omega, by omega, by omega, by omega⟩, ?_, q5⟩ (p3 (a 2) t q hc ht w5 w4)
    rw [hs, w3]; exact q4
  · obtain ⟨w1, w2, w3, w4, q', w5, w6⟩ := h.al ht
    rw [h4] at w5; cases w5
    obtain ⟨⟨r1, r2, r3, r4, r5, r6, r7, r8⟩, r9, r10⟩ := p2 (a 2) hc w4
    rw [hs, w3] at r9
    exact absurd ⟨⟨w1.1, w1.2.1, w1.2.2, by omega, by omega, by omega, by omega, by omega, by omega, by omega, by omega⟩, r9, r10⟩ q3
  · obtain ⟨w1, w2, w3, w4, q', w5, w6⟩ := h.al ht
    rw [h4] at w5; cases w5
    obtain ⟨⟨r1, r2, r3, r4, r5, r6, r7, r8⟩, r9, r10⟩ := p2 (a 2) hc w4
    exact ⟨by omega, tab_rule h ht h4 p3 p4 p5 r8 p6 q3⟩
theorem cnd_both {r x f1 f2 : Int} (h : TABR sk iv rv v a) (hp : PCND i r x f1 sk iv rv iv2 rv2) (hq : ((f2 = -1 ∧ TSAME v a v2 a2 ∧ ¬ (0 ≤ i ∧ i < v 4 ∧ a 5 i.toNat = 1 ∧ a 6 i.toNat ≠ 5 ∧ 0 ≤ r ∧ r < a 10 i.toNat ∧ 0 ≤ x ∧ x ≤ 5)) ∨ (f2 = a 11 (200 * i + r).toNat ∧ (0 ≤ i ∧ i < v 4 ∧ a 5 i.toNat = 1 ∧ a 6 i.toNat ≠ 5 ∧ 0 ≤ r ∧ r < a 10 i.toNat ∧ 0 ≤ x ∧ x ≤ 5) ∧ TCND i r x v a v2 a2))) : TABR sk iv2 rv2 v2 a2 := by
  rcases hp with ⟨p1, p2, p3⟩ | ⟨t, q, ht, h4, p1, p3, p4, p6⟩ <;> rcases hq with ⟨q1, q2, q3⟩ | ⟨q1, q2, q3⟩
  · exact tab_same h p2 q2
  · obtain ⟨t, ht⟩ := h.la (i := i) (by omega) (by omega) (by omega)
    obtain ⟨w1, w2, w3, w4, q, w5, w6⟩ := h.al ht
    exact absurd ⟨by omega, by omega, by omega, by omega, by omega⟩ (p3 t q ht w5)
  · obtain ⟨w1, w2, w3, w4, q', w5, w6⟩ := h.al ht
    rw [h4] at w5; cases w5
    exact absurd ⟨w1.1, w1.2.1, w1.2.2, by omega, by omega, by omega, by omega, by omega⟩ q3
  · exact tab_oth h p3 p4 p6 q3.1 (by decide)
theorem ind_both {x f1 f2 : Int} (h : TABR sk iv rv v a) (hs : iv (sk 2) 2 = v 3) (hc : CT iv rv (sk 2) (a 2)) (hp : PIND i x f1 sk iv rv iv2 rv2) (hq : ((f2 = -1 ∧ TSAME v a v2 a2 ∧ ¬ ((0 ≤ x ∧ x ≤ 3 ∧ 0 ≤ i ∧ i < v 4 ∧ a 5 i.toNat = 1 ∧ ((x = 0 ∧ a 6 i.toNat ≤ 2) ∨ (x = 1 ∧ a 6 i.toNat = 2) ∨ (x ≠ 0 ∧ x ≠ 1 ∧ a 6 i.toNat = 5)) ∧ v 3 ≤ 4) ∧ ACL (a 2) 0 (v 3) (DC (a 7 i.toNat)) ∧ True)) ∨ (f2 = v 3 ∧ ((0 ≤ x ∧ x ≤ 3 ∧ 0 ≤ i ∧ i < v 4 ∧ a 5 i.toNat = 1 ∧ ((x = 0 ∧ a 6 i.toNat ≤ 2) ∨ (x = 1 ∧ a 6 i.toNat = 2) ∨ (x ≠ 0 ∧ x ≠ 1 ∧ a 6 i.toNat = 5)) ∧ v 3 ≤ 4) ∧ ACL (a 2) 0 (v 3) (DC (a 7 i.toNat)) ∧ True) ∧ TIND i x v a v2 a2))) : f1 = f2 ∧ TABR sk iv2 rv2 v2 a2 := by
  rcases hp with ⟨p1, p2, p3⟩ | ⟨p1, t, ht, p2, p3, p4, p6⟩ <;> rcases hq with ⟨q1, q2, q3⟩ | ⟨q1, ⟨q2, q4, _⟩, q3⟩
  · exact ⟨by omega, tab_same h p2 q2⟩
  · obtain ⟨t, ht⟩ := h.la (i := i) (by omega) (by omega) (by omega)
    obtain ⟨w1, w2, w3, w4, q, w5, w6⟩ := h.al ht
    refine absurd ⟨⟨by omega, by omega, by omega, by omega⟩, ?_⟩ (p3 (a 2) t hc ht w4)
    rw [hs, w3]; exact q4
  · obtain ⟨w1, w2, w3, w4, q', w5, w6⟩ := h.al ht
    obtain ⟨⟨r1, r2, r3, r4⟩, r9⟩ := p2 (a 2) hc w4
    rw [hs, w3] at r9
    exact absurd ⟨⟨by omega, by omega, w1.1, w1.2.1, w1.2.2, by omega, by omega⟩, r9, trivial⟩ q3
  · exact ⟨by omega, tab_oth h p3 p4 p6 q3.1 (by decide)⟩
theorem und_both {f1 f2 : Int} (h : TABR sk iv rv v a) (hp : PUNX f1 sk iv rv iv2 rv2) (hq : (∃ ln, STK ln v a) ∧ (∃ ln, STK ln v2 a2) ∧ ((v 19 = 0 ∧ f2 = 0 ∧ TSAME v a v2 a2) ∨ (v 19 ≠ 0 ∧ f2 = 1 ∧ TUND v a v2 a2))) : f1 = f2 ∧ TABR sk iv2 rv2 v2 a2 := by
  obtain ⟨⟨ln, s1⟩, ⟨ln2, s2⟩, hq⟩ := hq
  have h4 := h.2.2.2.1
  rcases hp with ⟨p1, p2, p3⟩ | ⟨p1, p2, ch, p3, p4⟩ <;> rcases hq with ⟨q1, q2, q3⟩ | ⟨q1, q2, q3⟩
  · exact ⟨by omega, tab_same h p3 q3⟩
  · omega
  · omega
  · exact ⟨by omega, tab_undo h s1 s2 q1 p3 p4 q3⟩
end TABS
end
