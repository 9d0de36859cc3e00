def KRU (L : List Nat) (cl : Nat → Nat) (sk : Nat → Nat) (iv : Nat → Nat → Int) (rv : Nat → Nat → Option Nat) (L2 : List Nat) (cl2 ln2 : Nat → Nat) (iv2 : Nat → Nat → Int) (rv2 : Nat → Nat → Option Nat) (i cnd n f : Int) : Prop := (f = -1 ∧ KP L cl (fun _ => False) (fun _ => False) (fun _ => False) (fun _ => False) (fun _ _ => False) iv rv iv2 rv2) ∨ ∃ t q s x w l c, (ALV sk iv rv i t ∧ rv t 4 = some q ∧ rv t 5 = some s ∧ rv s 1 = some x ∧ f = iv q 2) ∧ KP L cl (fun _ => False) (fun b => b = q) (fun b => b = s) (fun b => b = x) (fun _ _ => False) iv rv iv2 rv2 ∧ (el rv2 q (iv q 2).toNat = some w ∧ (iv2 q 2 = iv q 2 + 1 ∧ ∀ r : Nat, (r : Int) < iv q 2 → el rv2 q r = el rv q r)) ∧ (w ∉ L ∧ ty L2 cl2 w 20 ∧ iv2 w 0 = 4 ∧ iv2 w 3 = cnd ∧ rv2 w 1 = some l ∧ rv2 w 2 = some c) ∧ (ty L2 cl2 l 65 ∧ ln2 l = n.toNat ∧ ∀ ss, CT iv rv (sk 2) ss → ∀ k : Nat, k < ln2 l → iv2 l k = ss k) ∧ (ty L2 cl2 c 66 ∧ ln2 c = (iv (sk 2) 2 - n).toNat ∧ ∀ ss, CT iv rv (sk 2) ss → ∀ k : Nat, k < ln2 c → iv2 c k = ss (n.toNat + k)) ∧ ((iv s 2 < 200 → iv2 s 2 = iv s 2 + 1) ∧ (∀ x2, rv2 s 1 = some x2 → x2 = x ∨ x2 ∉ L) ∧ ∀ ss, CT iv rv s ss → iv s 2 < 200 → ∀ tt, CT iv rv (sk 2) tt → CT iv2 rv2 s (va_up ss (iv s 2).toNat (tt 0)))
def KCN (L : List Nat) (cl : Nat → Nat) (sk : Nat → Nat) (iv : Nat → Nat → Int) (rv : Nat → Nat → Option Nat) (iv2 : Nat → Nat → Int) (rv2 : Nat → Nat → Option Nat) (i j cnd f : Int) : Prop := (f = -1 ∧ KP L cl (fun _ => False) (fun _ => False) (fun _ => False) (fun _ => False) (fun _ _ => False) iv rv iv2 rv2 ∧ iv2 (sk 23) 2 = iv (sk 23) 2) ∨ ∃ t q w, (ALV sk iv rv i t ∧ rv t 4 = some q ∧ el rv q j.toNat = some w ∧ f = iv w 3) ∧ KP L cl (fun b => b = w) (fun _ => False) (fun _ => False) (fun _ => False) (fun _ _ => False) iv rv iv2 rv2 ∧ iv2 w 3 = cnd ∧ PPS2 sk (some t) (some w) f iv iv2 rv2
def KIN (L : List Nat) (cl : Nat → Nat) (sk : Nat → Nat) (iv : Nat → Nat → Int) (rv : Nat → Nat → Option Nat) (L2 : List Nat) (cl2 ln2 : Nat → Nat) (iv2 : Nat → Nat → Int) (rv2 : Nat → Nat → Option Nat) (i j f : Int) : Prop := (f = -1 ∧ KP L cl (fun _ => False) (fun _ => False) (fun _ => False) (fun _ => False) (fun _ _ => False) iv rv iv2 rv2) ∨ ∃ t n, (ALV sk iv rv i t ∧ rv t 6 = some n ∧ f = iv (sk 2) 2) ∧ KP L cl (fun _ => False) (fun _ => False) (fun _ => False) (fun _ => False) (fun b k => b = n ∧ k = j.toNat) iv rv iv2 rv2 ∧ ((iv (sk 2) 2 = 0 ∧ rv2 n j.toNat = none) ∨ ∃ w c, rv2 n j.toNat = some w ∧ (ty L2 cl2 w 20 ∧ (iv2 w 0 = j ∧ ∃ lb, rv2 w 1 = some lb ∧ ln2 lb = 0) ∧ rv2 w 2 = some c) ∧ ty L2 cl2 c 66 ∧ ln2 c = (iv (sk 2) 2).toNat ∧ 0 < iv (sk 2) 2 ∧ ∀ ss, CT iv rv (sk 2) ss → ∀ k : Nat, k < ln2 c → iv2 c k = ss k) ∧ PPS2 sk (some t) (rv n j.toNat) j iv iv2 rv2
theorem CT.of3 {iv iv2 : Nat → Nat → Int} {rv rv2 : Nat → Nat → Option Nat} {q : Nat} {ss : Nat → Int} (h : CT iv rv q ss) (h1 : rv2 q 1 = rv q 1) (h2 : iv2 q 2 = iv q 2) (h3 : ∀ b, rv q 1 = some b → ∀ k, iv2 b k = iv b k) : CT iv2 rv2 q ss := fun b hb j hj => (h3 b (h1.symm.trans hb) j).trans (h b (h1.symm.trans hb) j (by omega))
section KAF
variable {g : Nat} {sk : Nat → Nat} {L L2 : List Nat} {cl ln cl2 ln2 : Nat → Nat} {iv iv2 iv3 : Nat → Nat → Int} {rv rv2 rv3 : Nat → Nat → Option Nat} {ls : List Nat} {i j cnd n f : Int}
theorem ALV.tt {t : Nat} (h : ALV sk iv rv i t) (hW : WT g sk L cl ln iv rv) (hS : SKL sk L cl) : ty L cl t 100 := el22 hW hS (i := i.toNat) (by have w1 := h.1; have w2 := h.2.1; omega) h.2.2.1
theorem ALV.t4 {t q : Nat} (h : ALV sk iv rv i t) (hW : WT g sk L cl ln iv rv) (hS : SKL sk L cl) (h4 : rv t 4 = some q) : ty L cl q 26 ∧ 0 ≤ iv q 2 := by
  obtain ⟨b, w1, w2⟩ := hW.ref (h.tt hW hS) 4 rfl rfl rfl
  rw [w1] at h4; cases h4
  exact ⟨w2, (hW.int w2 2).1⟩
theorem ALV.t5 {t q : Nat} (h : ALV sk iv rv i t) (hW : WT g sk L cl ln iv rv) (hS : SKL sk L cl) (h4 : rv t 5 = some q) : ty L cl q 12 := by
  obtain ⟨b, w1, w2⟩ := hW.ref (h.tt hW hS) 5 rfl rfl rfl
  rw [w1] at h4; cases h4
  exact w2
theorem ALV.t6 {t q : Nat} (h : ALV sk iv rv i t) (hW : WT g sk L cl ln iv rv) (hS : SKL sk L cl) (h4 : rv t 6 = some q) : ty L cl q 68 := by
  obtain ⟨b, w1, w2⟩ := hW.ref (h.tt hW hS) 6 rfl rfl rfl
  rw [w1] at h4; cases h4
  exact w2
theorem el_kl {a r : Nat} (h : WT g sk L2 cl2 ln2 iv2 rv2) (ha : ty L2 cl2 a 26) (hF : fT ls L2 cl2 iv2 rv2 iv3 rv3) (hl : kpl ls = true) (hr : (r : Int) < iv2 a 2) : el rv3 a r = el rv2 a r := ((KP.fr (C := fun _ => False) (Q := fun _ => False) (S := fun _ => False) (X := fun _ => False) (N := fun _ _ => False) h hF hl).li a ha (fun e => e)).2 r hr
theorem PPS2.after {x y : Option Nat} {z : Int} (h : PPS2 sk x y z iv iv2 rv2) (h0 : 0 ≤ iv (sk 23) 2) (hW : WT g sk L2 cl2 ln2 iv2 rv2) (hS : SKL sk L2 cl2) (hF : fT ls L2 cl2 iv2 rv2 iv3 rv3) (hl : kpl ls = true) (h1 : ls.contains 23 = false) (h2 : ls.contains 1001 = false) : PPS2 sk x y z iv iv3 rv3 := by
  obtain ⟨hs, ch, a1, a2, a3, a4⟩ := h
  have tch := el23 hW hS (by omega) a1
  have n21 := (kpl_no hl).2.2.1
  exact ⟨(hF.i (tysk23 hS) h1 2).trans hs, ch, (el_fr hW (tysk23 hS) rfl rfl hF h1 h2 (by omega)).trans a1, (hF.r tch n21 1).trans a2, (hF.r tch n21 2).trans a3, (hF.i tch n21 3).trans a4⟩
theorem KRU.after (h : KRU L cl sk iv rv L2 cl2 ln2 iv2 rv2 i cnd n f) (hW0 : WT g sk L cl ln iv rv) (hS0 : SKL sk L cl) (hX : TX L cl L2 cl2) (hW : WT g sk L2 cl2 ln2 iv2 rv2) (hF : fT ls L2 cl2 iv2 rv2 iv3 rv3) (hl : kpl ls = true) : KRU L cl sk iv rv L2 cl2 ln2 iv3 rv3 i cnd n f := by
  obtain ⟨b1, b2, b3, b4, b5, b6, b7, b8, b9, b10⟩ := kpl_no hl
  rcases h with ⟨a1, a2⟩ | ⟨t, q, s, x, w, l, c, ⟨c1, c2, c3, c4, c5⟩, k, ⟨d1, d2, d3⟩, ⟨e1, e2, e3, e4, e5, e6⟩, ⟨f1, f2, f3⟩, ⟨g1, g2, g3⟩, ⟨i1, i2, i3⟩⟩
  · exact Or.inl ⟨a1, a2.call hX hW hF hl⟩
  · have tq := hX q _ rfl (c1.t4 hW0 hS0 c2).1
    have ts := hX s _ rfl (c1.t5 hW0 hS0 c3)
    have hq0 := (c1.t4 hW0 hS0 c2).2
    refine Or.inr ⟨t, q, s, x, w, l, c, ⟨c1, c2, c3, c4, c5⟩, k.call hX hW hF hl, ⟨(el_kl hW tq hF hl (by omega)).trans d1, (hF.i tq b7 2).trans d2, fun r hr => (el_kl hW tq hF hl (by omega)).trans (d3 r hr)⟩, ⟨e1, e2, (hF.i e2 b2 0).trans e3, (hF.i e2 b2 3).trans e4, (hF.r e2 b2 1).trans e5, (hF.r e2 b2 2).trans e6⟩, ⟨f1, f2, fun ss hs k hk => (hF.i f1 b4 k).trans (f3 ss hs k hk)⟩, ⟨g1, g2, fun ss hs k hk => (hF.i g1 b5 k).trans (g3 ss hs k hk)⟩, fun hs => (hF.i ts b9 2).trans (i1 hs), fun x2 h2 => i2 x2 ((hF.r ts b9 1).symm.trans h2), fun ss hs h2 tt ht => CT.of3 (i3 ss hs h2 tt ht) (hF.r ts b9 1) (hF.i ts b9 2) (fun b hb k => ?_)⟩
    obtain ⟨b', w1, w2⟩ := hW.ref ts 1 rfl rfl rfl
    rw [w1] at hb; cases hb
    exact hF.i w2 b10 k
theorem KIN.after (h : KIN L cl sk iv rv L2 cl2 ln2 iv2 rv2 i j f) (h0 : 0 ≤ iv (sk 23) 2) (hW0 : WT g sk L cl ln iv rv) (hS0 : SKL sk L cl) (hX : TX L cl L2 cl2) (hW : WT g sk L2 cl2 ln2 iv2 rv2) (hS : SKL sk L2 cl2) (hF : fT ls L2 cl2 iv2 rv2 iv3 rv3) (hl : kpl ls = true) (h1 : ls.contains 23 = false) (h2 : ls.contains 1001 = false) : KIN L cl sk iv rv L2 cl2 ln2 iv3 rv3 i j f := by
  obtain ⟨b1, b2, b3, b4, b5, b6, b7, b8, b9, b10⟩ := kpl_no hl
  rcases h with ⟨a1, a2⟩ | ⟨t, n, ⟨c1, c2, c3⟩, k, d, e⟩
  · exact Or.inl ⟨a1, a2.call hX hW hF hl⟩
  · have tn := hX n _ rfl (c1.t6 hW0 hS0 c2)
    refine Or.inr ⟨t, n, ⟨c1, c2, c3⟩, k.call hX hW hF hl, ?_, e.after h0 hW hS hF hl h1 h2⟩
    rcases d with ⟨d1, d2⟩ | ⟨w, c, d1, ⟨d2, d3, d4⟩, d5, d6, d7, d8⟩
    · exact Or.inl ⟨d1, (hF.r tn b6 _).trans d2⟩
    · exact Or.inr ⟨w, c, (hF.r tn b6 _).trans d1, ⟨d2, ⟨(hF.i d2 b2 0).trans d3.1, by obtain ⟨lb, l1, l2⟩ := d3.2; exact ⟨lb, (hF.r d2 b2 1).trans l1, l2⟩⟩, (hF.r d2 b2 2).trans d4⟩, d5, d6, d7, fun ss hs k hk => (hF.i d5 b5 k).trans (d8 ss hs k hk)⟩
theorem UKP.after {ch : Nat} {ln : Nat → Nat} (h : UKP L cl ch iv rv iv2 rv2) (tch : ty L cl ch 21) (hW0 : WT g sk L cl ln iv rv) (hW : WT g sk L cl ln iv2 rv2) (hF : fT ls L cl iv2 rv2 iv3 rv3) (hl : kpl ls = true) : UKP L cl ch iv rv iv3 rv3 := by
  obtain ⟨b1, b2, b3, b4, b5, b6, b7, b8, b9, b10⟩ := kpl_no hl
  obtain ⟨u0, u1, u2, u3, u4⟩ := h
  have tt : ∀ t, rv ch 1 = some t → ty L cl t 100 := fun t ht => by
    obtain ⟨b, w1, w2⟩ := hW0.ref tch 1 rfl rfl rfl
    rw [w1] at ht; cases ht; exact w2
  have tr : ∀ t k q T, ty L cl t 100 → tgt 100 k = T → rv t k = some q → (k = 4 ∨ k = 5 ∨ k = 6) → ty L cl q T := fun t k q T h1 h2 h3 h4 => by
    rcases h4 with rfl | rfl | rfl
    · obtain ⟨b, w1, w2⟩ := hW0.ref h1 4 rfl rfl rfl; rw [w1] at h3; cases h3; rw [← h2]; exact w2
    · obtain ⟨b, w1, w2⟩ := hW0.ref h1 5 rfl rfl rfl; rw [w1] at h3; cases h3; rw [← h2]; exact w2
    · obtain ⟨b, w1, w2⟩ := hW0.ref h1 6 rfl rfl rfl; rw [w1] at h3; cases h3; rw [← h2]; exact w2
  refine ⟨fun e => (u0 e).call TX.refl hW hF hl, fun e => (u1 e).call TX.refl hW hF hl, fun e t q s h1 h4 h5 => ?_, fun e w hw => ?_, fun e hn t n h1 h6 => ?_⟩
  · obtain ⟨k, x1, x2, x3⟩ := u2 e t q s h1 h4 h5
    have tq := tr t 4 q 26 (tt t h1) rfl h4 (Or.inl rfl)
    have ts := tr t 5 s 12 (tt t h1) rfl h5 (Or.inr (Or.inl rfl))
    have e2 := hF.i tq b7 2
    refine ⟨k.call TX.refl hW hF hl, fun r hr => (el_kl hW tq hF hl (by omega)).trans (x1 r (by omega)), fun hz => ?_, (hF.r ts b9 1).trans x3⟩
    rw [e2, hF.i ts b9 2]; exact x2 hz
  · obtain ⟨k, x1⟩ := u3 e w hw
    have tw : ty L cl w 20 := by
      rcases hW0.opt tch 2 rfl rfl with q | ⟨b, q1, q2⟩
      · rw [q.1] at hw; cases hw
      · rw [q1] at hw; cases hw; exact q2
    exact ⟨k.call TX.refl hW hF hl, (hF.i tw b2 3).trans x1⟩
  · obtain ⟨k, x1⟩ := u4 e hn t n h1 h6
    have tn := tr t 6 n 68 (tt t h1) rfl h6 (Or.inr (Or.inr rfl))
    exact ⟨k.call TX.refl hW hF hl, (hF.r tn b6 _).trans x1⟩
end KAF
set_option maxHeartbeats 4000000 in
set_option maxRecDepth 100000 in
theorem C_drop {l : Launch} {G : GT} {mi : Nat} {sk : Nat → Nat} {L : List Nat} {cl ln : Nat → Nat} {iv : Nat → Nat → Int} {rv : Nat → Nat → Option Nat}  {a0 : Nat} {i : Int} (hW : WT (g0 G) sk L cl ln iv rv) (hS : SKL sk L cl) (t_a0 : ty L cl a0 1) (h_i : -2147483648 ≤ i ∧ i ≤ 2147483647) (hmr : MRK sk cl iv rv) (hch : iv (sk 23) 2 < 512) : Mc l G mi (Phi (g0 G) sk) PHM yX11_drop cX11_drop 3 (some .int) 8 [.ref a0, .int (iI i)] L cl ln iv rv 1236 (fun v L2 cl2 ln2 iv2 rv2 => ∃ f : Int, v = some (.int (iI f)) ∧ XT L cl ln L2 cl2 ln2 ∧ fT [1, 23, 1001, 201, 100] L cl iv rv iv2 rv2 ∧ WT (g0 G) sk L2 cl2 ln2 iv2 rv2 ∧ (-2147483648 ≤ f ∧ f ≤ 2147483647) ∧ (iv2 (sk 23) 2 ≤ iv (sk 23) 2 + 1 ∧ MRK sk cl2 iv2 rv2) ∧ iv2 a0 11 = iv a0 11 ∧ iv2 a0 12 = iv a0 12 ∧ iv2 a0 13 = iv a0 13 ∧ iv2 a0 14 = iv a0 14 ∧ iv2 a0 15 = iv a0 15 ∧ iv2 a0 16 = iv a0 16 ∧ (PDRP i f sk iv rv iv2 rv2) ∧ (KP L cl (fun _ => False) (fun _ => False) (fun _ => False) (fun _ => False) (fun _ _ => False) iv rv iv2 rv2) ∧ rv2 a0 9 = rv a0 9 ∧ rv2 a0 10 = rv a0 10) := by
  refine Mc.mk (by decide) (Nat.le_of_ble_eq_true rfl) ?_
  intro p e s m args below meth c A C hM
  have hph := Phi.le hW hS
  have tsk2 : ty L cl (sk 2) 2 := ⟨(hS 2 rfl).1, by rw [(hS 2 rfl).2]; rfl⟩
  have tsk3 : ty L cl (sk 3) 3 := ⟨(hS 3 rfl).1, by rw [(hS 3 rfl).2]; rfl⟩
  have tsk4 : ty L cl (sk 4) 4 := ⟨(hS 4 rfl).1, by rw [(hS 4 rfl).2]; rfl⟩
  have tsk5 : ty L cl (sk 5) 5 := ⟨(hS 5 rfl).1, by rw [(hS 5 rfl).2]; rfl⟩
  have tsk13 : ty L cl (sk 13) 13 := ⟨(hS 13 rfl).1, by rw [(hS 13 rfl).2]; rfl⟩
  have tsk14 : ty L cl (sk 14) 14 := ⟨(hS 14 rfl).1, by rw [(hS 14 rfl).2]; rfl⟩
  have tsk15 : ty L cl (sk 15) 15 := ⟨(hS 15 rfl).1, by rw [(hS 15 rfl).2]; rfl⟩
  have tsk16 : ty L cl (sk 16) 16 := ⟨(hS 16 rfl).1, by rw [(hS 16 rfl).2]; rfl⟩
  have tsk17 : ty L cl (sk 17) 17 := ⟨(hS 17 rfl).1, by rw [(hS 17 rfl).2]; rfl⟩
  have tsk22 : ty L cl (sk 22) 22 := ⟨(hS 22 rfl).1, by rw [(hS 22 rfl).2]; rfl⟩
  have tsk23 : ty L cl (sk 23) 23 := ⟨(hS 23 rfl).1, by rw [(hS 23 rfl).2]; rfl⟩
  have hX0 : XT L cl ln L cl ln := XT.refl
  have hF0 : fT [1, 23, 1001, 201, 100] L cl iv rv iv rv := fT.refl
  have kp1 : KP L cl (fun _ => False) (fun _ => False) (fun _ => False) (fun _ => False) (fun _ _ => False) iv rv iv rv := KP.refl
  refine c_aload_n (j := 0) (x := a0) C dX11_drop_0 rfl ?_
  obtain ⟨rb1, rq1, trb1⟩ := hW.ref t_a0 4 rfl rfl rfl
  have erb1 := hW.sk trb1 (by decide) rfl
  subst erb1
  refine c_getr (k := 4) C ck_12 dX11_drop_1 w2_48 (by decide) t_a0 rfl rfl (by decide) rfl rq1 ?_
  refine c_st (st2 := [.ref (sk 13)]) rfl ?_
  refine c_iload_n (j := 1) C dX11_drop_4 rfl ?_
  have ri1 : 0 ≤ iv (sk 22) 2 ∧ iv (sk 22) 2 ≤ 30 := hW.int tsk22 2
  refine d_callV (As := [.int (iI i)]) (rest := []) C hM (C_alive (a0 := (sk 13)) (i := i) hW hS tsk13 (by omega) hmr) dX11_drop_5 kV_X11_131 rfl tsk13 rfl rfl (by decide) ck_11 rfl (Nat.le_of_ble_eq_true rfl) ⟨(Nat.le_of_ble_eq_true rfl), (Nat.le_of_ble_eq_true rfl)⟩ hph hph (show 0 + 0 = 0 from rfl) (by decide) (fun rh1 Lh1 clh1 lnh1 ivh1 rvh1 h1 => ?_)
  obtain ⟨f1, rfl, rfl, rfl, rfl, rfl, rfl, rgf1, exf1⟩ := h1
  refine c_st (st2 := [(va_rf f1)]) rfl ?_
  have gf1 : (∀ b, f1 = some b → ((cl b : Nat) : Int) < 100 + iv (sk 22) 2 ∧ ALV sk iv rv i b) ∧ (f1 = none → ∀ b, ¬ ALV sk iv rv i b) := exf1
  refine c_astorer_n (r := f1) (lv2 := [(2, (va_rf f1)), (0, .ref a0), (1, .int (iI i))]) C dX11_drop_8 (by decide) rfl ?_
  refine c_aloadr_n (j := 0) (r := f1) C dX11_drop_9 rfl ?_
  refine c_ifnonnull (r := f1) (tgt := 19) C dX11_drop_10 (by decide) (fun ob1 oq1 => ?_) (fun oq1 => ?_)
  · subst oq1
    have tob1 := rgf1 ob1 rfl
    have akob1 := gf1.1 ob1 rfl
    refine c_lv (lv2 := [(2, .ref ob1), (0, .ref a0), (1, .int (iI i))]) [0, 1, 2] rfl ?_
    refine c_st (st2 := []) rfl ?_
    refine c_aload_n (j := 1) (x := a0) C dX11_drop_19 rfl ?_
    refine c_getr (k := 4) C ck_12 dX11_drop_20 w2_48 (by decide) t_a0 rfl rfl (by decide) rfl rq1 ?_
    refine c_st (st2 := [.ref (sk 13)]) rfl ?_
    refine c_new C ck_1 dv_1 ⟨rfl, rfl⟩ rfl (by decide) dX11_drop_23 w3_98 w3_35 w1_18 (rom2 hph hph (by decide)) (fun qn1 cln1 lnn1 ivn1 rvn1 hqn1 hcn1 hln1 hin1 hrn1 => ⟨20, (p_in (Phi.new hW hS hqn1 (fun b _ => by rw [hln1]) hrn1) (by omega)), ?_⟩)
    refine c_g0 C (fun hg1 => ?_)
    have hxn1 : ∀ b, b ≠ qn1 → lnn1 b = ln b := (fun b _ => by rw [hln1])
    have W2 := hW.new (ln2 := lnn1) hqn1 (hg1 qn1 (List.mem_append_right _ List.mem_cons_self)) hcn1 hxn1 hin1 hrn1 (fun _ => ⟨(show (-2147483648 : Int) ≤ 0 by decide), (show (0 : Int) ≤ 2147483647 by decide)⟩) (Or.inl rfl) (fun q => by cases q) rfl rfl
    have xl2 := XT.new hqn1 hcn1 hxn1
    have X1 := hX0.trans xl2
    have sk1 := xl2.skl hS
    have F1 := hF0.new hX0 hqn1 hin1 hrn1
    have mr1 := MRK.call hmr hW hS xl2 ((fT.refl (ls := [])).new (XT.refl (ln := ln)) hqn1 hin1 hrn1) rfl rfl
    have tqn1 : ty (L ++ [qn1]) cln1 qn1 201 := ty_new hcn1
    have kp2 := kp1.new TX.refl hW hqn1 hin1 hrn1
    have h0qn1 : qn1 ∉ L := fun h => hqn1 ((hX0 qn1 h).1)
    refine c_dup C dX11_drop_26 rfl ?_
    refine c_iconst C dX11_drop_27 ?_
    refine c_aload_n (j := 0) (x := ob1) C dX11_drop_28 rfl ?_
    refine c_null C dX11_drop_29 ?_
    refine c_iconst C dX11_drop_30 ?_
    have ty1 := xl2.ty tob1
    have pl1 := Phi.le W2 sk1
    refine c_callI (As := [.int (iI 1), .ref ob1, .null, .int (iI 0)]) (rest := [.ref qn1, .ref (sk 13)]) C hM (Z_change (a0 := qn1) (i := 1) (a2 := ob1) (r := none) (n := 0) W2 sk1 tqn1 ty1 (fun _ q => by cases q) ⟨by decide, by decide⟩ ⟨by decide, by decide⟩ ) dX11_drop_31 kI_X11_149 rfl rfl (Nat.le_of_ble_eq_true rfl) ⟨(Nat.le_of_ble_eq_true rfl), (Nat.le_of_ble_eq_true rfl)⟩ (rz1 hph pl1 (by decide)) (fun rh2 Lh2 clh2 lnh2 ivh2 rvh2 h2 => ⟨20, (zk1 (by obtain ⟨_, _, _, e3, flh2x, Wh2x, _⟩ := h2; subst e3; exact Phi.frn sk1 flh2x rfl)), ?_⟩)
    obtain ⟨rfl, rfl, rfl, rfl, fl2, W3, exf2⟩ := h2
    have F2 := F1.call X1 fl2 rfl
    have mr2 := MRK.call mr1 W2 sk1 XT.refl fl2 rfl rfl
    have tx1 := TX.xt TX.refl xl2
    have kp3 := kp2.call tx1 W2 fl2 rfl
    refine c_st (st2 := [.ref qn1, .ref (sk 13)]) rfl ?_
    obtain ⟨exf2x, exf2r, exf2p, exf2i, exf2j⟩ := exf2
    have rn1 : ∀ k, ([1, 2] : List Nat).contains k = false → rvh2 qn1 k = none := fun k hk => (Eq.trans (show rvh2 qn1 k = rvn1 qn1 k from (exf2x k hk)) (show rvn1 qn1 k = none from (by rw [hrn1]; exact up0_s)))
    refine c_retag (q := qn1) (t := 21) (by rw [tqn1.2]; rfl) (fun clr1 hcr1 => ?_)
    have ty2 := xl2.ty t_a0
    have ty3 := ty_rt ty2 hcr1 (ne_ty ty2 tqn1 (by decide))
    have ty4 := xl2.ty tsk2
    have ty5 := ty_rt ty4 hcr1 (ne_ty ty4 tqn1 (by decide))
    have ty6 := xl2.ty tsk3
    have ty7 := ty_rt ty6 hcr1 (ne_ty ty6 tqn1 (by decide))
    have ty8 := xl2.ty tsk4
    have ty9 := ty_rt ty8 hcr1 (ne_ty ty8 tqn1 (by decide))
    have ty10 := xl2.ty tsk5
    have ty11 := ty_rt ty10 hcr1 (ne_ty ty10 tqn1 (by decide))
    have ty12 := xl2.ty tsk13
    have ty13 := ty_rt ty12 hcr1 (ne_ty ty12 tqn1 (by decide))
    have ty14 := xl2.ty tsk14
    have ty15 := ty_rt ty14 hcr1 (ne_ty ty14 tqn1 (by decide))
    have ty16 := xl2.ty tsk15
    have ty17 := ty_rt ty16 hcr1 (ne_ty ty16 tqn1 (by decide))
    have ty18 := xl2.ty tsk16
    have ty19 := ty_rt ty18 hcr1 (ne_ty ty18 tqn1 (by decide))
    have ty20 := xl2.ty tsk17
    have ty21 := ty_rt ty20 hcr1 (ne_ty ty20 tqn1 (by decide))
    have ty22 := xl2.ty tsk22
    have ty23 := ty_rt ty22 hcr1 (ne_ty ty22 tqn1 (by decide))
    have ty24 := xl2.ty tsk23
    have ty25 := ty_rt ty24 hcr1 (ne_ty ty24 tqn1 (by decide))
    have ty26 := ty_rt ty1 hcr1 (ne_ty ty1 tqn1 (by decide))
    have tqr1 : ty (L ++ [qn1]) clr1 qn1 21 := ⟨tqn1.1, by rw [hcr1, va_up_self]; rfl⟩
    have W4 := W3.retag tqn1.1 (by rw [tqn1.2]; rfl) hcr1 (fun k => by
          rcases k with _ | _ | _ | _ | k
          · exact W3.int tqn1 0
          · exact W3.int tqn1 1
          · exact W3.int tqn1 2
          · exact ⟨(by show 0 ≤ ivh2 qn1 3; omega), (by show ivh2 qn1 3 ≤ 5; omega)⟩
          · exact W3.int tqn1 (k + 4)) (fun k => by
          rcases k with _ | _ | _ | _ | k
          · rw [rn1 0 (by decide)]; exact rok_none tqr1 rfl
          · rw [exf2r]; exact rok_some tqr1 ty26 rfl (by decide) rfl
          · rw [exf2p]; exact rok_ch tqr1 (fun _ q => by cases q)
          · rw [rn1 3 (by decide)]; exact rok_none tqr1 rfl
          · rw [rn1 (k + 4) (by simp)]; exact rok_none tqr1 rfl) rfl (fun z => by cases z) (fun z => by cases z) rfl
    have X2 := X1.rt hcr1 h0qn1
    have sk2 := sk1.rt hcr1 (by rw [tqn1.2]; rfl)
    have mr3 := MRK.rt mr2 W3 sk1 hcr1 (by rw [tqn1.2]; rfl)
    have on1 := fun b hb => xl2.ty (rgf1 b hb)
    have on2 := fun b hb => ty_rt (on1 b hb) hcr1 (ne_ty (on1 b hb) tqn1 (by decide))
    have ce1 : ∀ i : Nat, (i : Int) < iv (sk 23) 2 → el rvh2 (sk 23) i = el rv (sk 23) i := (fun i hi => el_ch hW (tysk23 hS) rfl rfl ((show ∀ bb, ty L cl bb 23 → rvh2 bb 1 = rv bb 1 from fun bb tbb => by have tb1 := xl2.ty tbb; exact (Eq.trans (show rvh2 bb 1 = rvn1 bb 1 from (fl2.r tb1 rfl 1)) (show rvn1 bb 1 = rv bb 1 from (by rw [hrn1]; exact congrFun (up0_a (ne_in tbb.1 hqn1)) _)))) (sk 23) (tysk23 hS)) (fun bb tbb kk => by have tb1 := xl2.ty tbb; exact (Eq.trans (show rvh2 bb kk = rvn1 bb kk from (fl2.r tb1 rfl kk)) (show rvn1 bb kk = rv bb kk from (by rw [hrn1]; exact congrFun (up0_a (ne_in tbb.1 hqn1)) _)))) hi)
    have ri2 : 0 ≤ ivh2 (sk 23) 2 ∧ ivh2 (sk 23) 2 ≤ 512 := W4.int ty25 2
    have ie1 : ivh2 (sk 23) 2 = ivn1 (sk 23) 2 := fl2.i ty24 rfl 2
    have ie2 : ivn1 (sk 23) 2 = iv (sk 23) 2 := by rw [hin1]; exact congrFun (up0_a (ne_in tsk23.1 hqn1)) _
    have pl2 := Phi.le W4 sk2
    refine d_callV (As := [.ref qn1]) (rest := []) C hM (C_remember (a0 := (sk 13)) (a1 := qn1) W4 sk2 ty13 tqr1  (by show ivh2 (sk 23) 2 < 512; omega)) dX11_drop_34 kV_X11_152 rfl ty13 rfl rfl (by decide) ck_11 rfl (Nat.le_of_ble_eq_true rfl) ⟨(Nat.le_of_ble_eq_true rfl), (Nat.le_of_ble_eq_true rfl)⟩ hph pl2 (show 20 + 1216 = 1236 from rfl) (by decide) (fun rh3 Lh3 clh3 lnh3 ivh3 rvh3 h3 => ?_)
    obtain ⟨rfl, xl4, fl3, W5, exf3, rmef3⟩ := h3
    have F3 := F2.call X2 fl3 rfl
    have mr4 := MRK.call mr3 W4 sk2 xl4 fl3 rfl rfl
    have tx2 := TX.rt tx1 hcr1 tqn1 rfl
    have kp4 := kp3.call tx2 W4 fl3 rfl
    have X3 := X2.trans xl4
    have sk3 := xl4.skl sk2
    refine c_st (st2 := []) rfl ?_
    have ty27 := xl4.ty ty25
    have ri3 : 0 ≤ ivh3 (sk 23) 2 ∧ ivh3 (sk 23) 2 ≤ 512 := W5.int ty27 2
    have gf3 : ivh3 (sk 23) 2 = ivh2 (sk 23) 2 + 1 := exf3
    refine c_aload_n (j := 0) (x := ob1) C dX11_drop_37 rfl ?_
    refine c_iconst C dX11_drop_38 ?_
    have ty28 := xl4.ty ty26
    refine c_put (z := 1) (k := 7) C ck_10 dX11_drop_39 w2_199 (by decide) rfl ty28 rfl rfl (by decide) rfl (by decide) (by decide) (fun iv1 pq1 => ?_)
    have tx3 := TX.xt tx2 xl4
    have kp5 := kp4.puti tx3 pq1 ty28 rfl
    have W6 := W5.puti pq1 ty28 ⟨by decide, by decide⟩ rfl
    have F4 := F3.puti X3 pq1 ty28 rfl
    have mr5 := MRK.puti mr4 sk3 pq1 ty28 (by decide)
    refine c_aload_n (j := 1) (x := a0) C dX11_drop_42 rfl ?_
    refine c_iconst C dX11_drop_43 ?_
    have ty29 := xl4.ty ty3
    have pl3 := Phi.le W6 sk3
    refine d_callV (As := [.int (iI 1)]) (rest := []) C hM (C_done (a0 := a0) (x := 1) W6 sk3 ty29 ⟨by decide, by decide⟩ ) dX11_drop_44 kV_X11_109 rfl ty29 rfl rfl (by decide) ck_12 rfl (Nat.le_of_ble_eq_true rfl) ⟨(Nat.le_of_ble_eq_true rfl), (Nat.le_of_ble_eq_true rfl)⟩ hph pl3 (show 1236 + 0 = 1236 from rfl) (by decide) (fun rh4 Lh4 clh4 lnh4 ivh4 rvh4 h4 => ?_)
    obtain ⟨f4, rfl, rfl, rfl, rfl, rfl, fl4, W7, rgf4, exf4, kp11f4, kp12f4, kp13f4, kp14f4, kp15f4, kp16f4⟩ := h4
    have ri4 : 1 ≤ iv1 a0 11 ∧ iv1 a0 11 ≤ 100 := W6.int ty29 11
    have ie4 : iv1 a0 11 = ivh3 a0 11 := by rw [pq1]; exact up2_k (ne_ty ty29 ty28 (by decide))
    have ie5 : ivh3 a0 11 = ivh2 a0 11 := fl3.i ty3 rfl 11
    have ie6 : ivh2 a0 11 = ivn1 a0 11 := fl2.i ty2 rfl 11
    have ie7 : ivn1 a0 11 = iv a0 11 := by rw [hin1]; exact congrFun (up0_a (ne_in t_a0.1 hqn1)) _
    have ri5 : 1 ≤ iv1 a0 12 ∧ iv1 a0 12 ≤ 50 := W6.int ty29 12
    have ie8 : iv1 a0 12 = ivh3 a0 12 := by rw [pq1]; exact up2_k (ne_ty ty29 ty28 (by decide))
    have ie9 : ivh3 a0 12 = ivh2 a0 12 := fl3.i ty3 rfl 12
    have ie10 : ivh2 a0 12 = ivn1 a0 12 := fl2.i ty2 rfl 12
    have ie11 : ivn1 a0 12 = iv a0 12 := by rw [hin1]; exact congrFun (up0_a (ne_in t_a0.1 hqn1)) _
    have ri6 : (-2147483648) ≤ iv1 a0 13 ∧ iv1 a0 13 ≤ 2147483647 := W6.int ty29 13
    have ie12 : iv1 a0 13 = ivh3 a0 13 := by rw [pq1]; exact up2_k (ne_ty ty29 ty28 (by decide))
    have ie13 : ivh3 a0 13 = ivh2 a0 13 := fl3.i ty3 rfl 13
    have ie14 : ivh2 a0 13 = ivn1 a0 13 := fl2.i ty2 rfl 13
    have ie15 : ivn1 a0 13 = iv a0 13 := by rw [hin1]; exact congrFun (up0_a (ne_in t_a0.1 hqn1)) _
    have ri7 : (-2147483648) ≤ iv1 a0 14 ∧ iv1 a0 14 ≤ 2147483647 := W6.int ty29 14
    have ie16 : iv1 a0 14 = ivh3 a0 14 := by rw [pq1]; exact up2_k (ne_ty ty29 ty28 (by decide))
    have ie17 : ivh3 a0 14 = ivh2 a0 14 := fl3.i ty3 rfl 14
    have ie18 : ivh2 a0 14 = ivn1 a0 14 := fl2.i ty2 rfl 14
    have ie19 : ivn1 a0 14 = iv a0 14 := by rw [hin1]; exact congrFun (up0_a (ne_in t_a0.1 hqn1)) _
    have ri8 : (-2147483648) ≤ iv1 a0 15 ∧ iv1 a0 15 ≤ 2147483647 := W6.int ty29 15
    have ie20 : iv1 a0 15 = ivh3 a0 15 := by rw [pq1]; exact up2_k (ne_ty ty29 ty28 (by decide))
    have ie21 : ivh3 a0 15 = ivh2 a0 15 := fl3.i ty3 rfl 15
    have ie22 : ivh2 a0 15 = ivn1 a0 15 := fl2.i ty2 rfl 15
    have ie23 : ivn1 a0 15 = iv a0 15 := by rw [hin1]; exact congrFun (up0_a (ne_in t_a0.1 hqn1)) _
    have ri9 : (-2147483648) ≤ iv1 a0 16 ∧ iv1 a0 16 ≤ 2147483647 := W6.int ty29 16
    have ie24 : iv1 a0 16 = ivh3 a0 16 := by rw [pq1]; exact up2_k (ne_ty ty29 ty28 (by decide))
    have ie25 : ivh3 a0 16 = ivh2 a0 16 := fl3.i ty3 rfl 16
    have ie26 : ivh2 a0 16 = ivn1 a0 16 := fl2.i ty2 rfl 16
    have ie27 : ivn1 a0 16 = iv a0 16 := by rw [hin1]; exact congrFun (up0_a (ne_in t_a0.1 hqn1)) _
    have F5 := F4.call X3 fl4 rfl
    have mr6 := MRK.call mr5 W6 sk3 XT.refl fl4 rfl rfl
    have kp6 := kp5.call tx3 W6 fl4 rfl
    refine c_st (st2 := [.int (iI f4)]) rfl ?_
    have gk11f4 : ivh4 a0 11 = iv1 a0 11 := kp11f4
    have gk12f4 : ivh4 a0 12 = iv1 a0 12 := kp12f4
    have gk13f4 : ivh4 a0 13 = iv1 a0 13 := kp13f4
    have gk14f4 : ivh4 a0 14 = iv1 a0 14 := kp14f4
    have gk15f4 : ivh4 a0 15 = iv1 a0 15 := kp15f4
    have gk16f4 : ivh4 a0 16 = iv1 a0 16 := kp16f4
    have gf4 : f4 = (1 : Int) := exf4
    have ri10 : 1 ≤ ivh4 a0 11 ∧ ivh4 a0 11 ≤ 100 := W7.int ty29 11
    have ri11 : 1 ≤ ivh4 a0 12 ∧ ivh4 a0 12 ≤ 50 := W7.int ty29 12
    have ri12 : (-2147483648) ≤ ivh4 a0 13 ∧ ivh4 a0 13 ≤ 2147483647 := W7.int ty29 13
    have ri13 : (-2147483648) ≤ ivh4 a0 14 ∧ ivh4 a0 14 ≤ 2147483647 := W7.int ty29 14
    have ri14 : (-2147483648) ≤ ivh4 a0 15 ∧ ivh4 a0 15 ≤ 2147483647 := W7.int ty29 15
    have ri15 : (-2147483648) ≤ ivh4 a0 16 ∧ ivh4 a0 16 ≤ 2147483647 := W7.int ty29 16
    have ri16 : 0 ≤ ivh4 (sk 23) 2 ∧ ivh4 (sk 23) 2 ≤ 512 := W7.int ty27 2
    have ie34 : ivh4 (sk 23) 2 = iv1 (sk 23) 2 := fl4.i ty27 rfl 2
    have ie35 : iv1 (sk 23) 2 = ivh3 (sk 23) 2 := by rw [pq1]; exact up2_k (ne_ty ty27 ty28 (by decide))
    have ty30 := xl4.ty ty23
    have ri17 : 0 ≤ ivh4 (sk 22) 2 ∧ ivh4 (sk 22) 2 ≤ 30 := W7.int ty30 2
    have ie36 : ivh4 (sk 22) 2 = iv1 (sk 22) 2 := fl4.i ty30 rfl 2
    have ie37 : iv1 (sk 22) 2 = ivh3 (sk 22) 2 := by rw [pq1]; exact up2_k (ne_ty ty30 ty28 (by decide))
    have ie38 : ivh3 (sk 22) 2 = ivh2 (sk 22) 2 := fl3.i ty23 rfl 2
    have ie39 : ivh2 (sk 22) 2 = ivn1 (sk 22) 2 := fl2.i ty22 rfl 2
    have ie40 : ivn1 (sk 22) 2 = iv (sk 22) 2 := by rw [hin1]; exact congrFun (up0_a (ne_in tsk22.1 hqn1)) _
    have ri18 : 0 ≤ ivh4 ob1 7 ∧ ivh4 ob1 7 ≤ 1 := W7.int ty28 7
    have ie41 : ivh4 ob1 7 = iv1 ob1 7 := fl4.i ty28 rfl 7
    have ie42 : iv1 ob1 7 = 1 := by rw [pq1]; exact up2_s
    have ri19 : (-2147483648) ≤ ivh4 ob1 0 ∧ ivh4 ob1 0 ≤ 2147483647 := W7.int ty28 0
    have ie43 : ivh4 ob1 0 = iv1 ob1 0 := fl4.i ty28 rfl 0
    have ie44 : iv1 ob1 0 = ivh3 ob1 0 := by rw [pq1]; exact up2_j (by decide)
    have ie45 : ivh3 ob1 0 = ivh2 ob1 0 := fl3.i ty26 rfl 0
    have ie46 : ivh2 ob1 0 = ivn1 ob1 0 := fl2.i ty1 rfl 0
    have ie47 : ivn1 ob1 0 = iv ob1 0 := by rw [hin1]; exact congrFun (up0_a (ne_in tob1.1 hqn1)) _
    have ri20 : (-2147483648) ≤ ivh4 ob1 1 ∧ ivh4 ob1 1 ≤ 2147483647 := W7.int ty28 1
    have ie48 : ivh4 ob1 1 = iv1 ob1 1 := fl4.i ty28 rfl 1
    have ie49 : iv1 ob1 1 = ivh3 ob1 1 := by rw [pq1]; exact up2_j (by decide)
    have ie50 : ivh3 ob1 1 = ivh2 ob1 1 := fl3.i ty26 rfl 1
    have ie51 : ivh2 ob1 1 = ivn1 ob1 1 := fl2.i ty1 rfl 1
    have ie52 : ivn1 ob1 1 = iv ob1 1 := by rw [hin1]; exact congrFun (up0_a (ne_in tob1.1 hqn1)) _
    have ty31 := xl4.ty tqr1
    have ri21 : (-2147483648) ≤ ivh4 qn1 0 ∧ ivh4 qn1 0 ≤ 2147483647 := W7.int ty31 0
    have ie53 : ivh4 qn1 0 = iv1 qn1 0 := fl4.i ty31 rfl 0
    have ie54 : iv1 qn1 0 = ivh3 qn1 0 := by rw [pq1]; exact up2_k (ne_ty ty31 ty28 (by decide))
    have ie55 : ivh3 qn1 0 = ivh2 qn1 0 := fl3.i tqr1 rfl 0
    have re1 : rvh3 qn1 1 = rvh2 qn1 1 := (fl3.r tqr1 rfl 1)
    rw [exf2r] at re1
    exact c_iret C dX11_drop_47 rfl (by decide) (rom0 hph pl3 (by decide)) ⟨f4, rfl, X3, F5, W7, ⟨by omega, by omega⟩, ⟨(by omega), mr6⟩, (by omega), (by omega), (by omega), (by omega), (by omega), (by omega), (Or.inr ⟨by omega, ob1, akob1.2, by omega, ⟨(fun i hi => el_fr hW (tysk22 hS) rfl rfl F5 rfl rfl hi), TSF.of hW hS (fun bb tbb hbb => by have tb1 := xl2.ty tbb; have tb2 := ty_rt tb1 hcr1 (ne_ty tb1 tqn1 (by decide)); have tb3 := xl4.ty tb2; exact (Eq.trans (show ivh4 bb 7 = iv1 bb 7 from (fl4.i tb3 rfl 7)) (Eq.trans (show iv1 bb 7 = ivh3 bb 7 from (by rw [pq1]; exact up2_k hbb)) (Eq.trans (show ivh3 bb 7 = ivh2 bb 7 from (fl3.i tb2 rfl 7)) (Eq.trans (show ivh2 bb 7 = ivn1 bb 7 from (fl2.i tb1 rfl 7)) (show ivn1 bb 7 = iv bb 7 from (by rw [hin1]; exact congrFun (up0_a (ne_in tbb.1 hqn1)) _))))))) (fun bb tbb => (Classical.em (bb = ob1)).elim (fun e => by subst e; omega) (fun hbb => by have tb1 := xl2.ty tbb; have tb2 := ty_rt tb1 hcr1 (ne_ty tb1 tqn1 (by decide)); have tb3 := xl4.ty tb2; exact (Eq.trans (show ivh4 bb 0 = iv1 bb 0 from (fl4.i tb3 rfl 0)) (Eq.trans (show iv1 bb 0 = ivh3 bb 0 from (by rw [pq1]; exact up2_k hbb)) (Eq.trans (show ivh3 bb 0 = ivh2 bb 0 from (fl3.i tb2 rfl 0)) (Eq.trans (show ivh2 bb 0 = ivn1 bb 0 from (fl2.i tb1 rfl 0)) (show ivn1 bb 0 = iv bb 0 from (by rw [hin1]; exact congrFun (up0_a (ne_in tbb.1 hqn1)) _)))))))) (fun bb tbb => (Classical.em (bb = ob1)).elim (fun e => by subst e; omega) (fun hbb => by have tb1 := xl2.ty tbb; have tb2 := ty_rt tb1 hcr1 (ne_ty tb1 tqn1 (by decide)); have tb3 := xl4.ty tb2; exact (Eq.trans (show ivh4 bb 1 = iv1 bb 1 from (fl4.i tb3 rfl 1)) (Eq.trans (show iv1 bb 1 = ivh3 bb 1 from (by rw [pq1]; exact up2_k hbb)) (Eq.trans (show ivh3 bb 1 = ivh2 bb 1 from (fl3.i tb2 rfl 1)) (Eq.trans (show ivh2 bb 1 = ivn1 bb 1 from (fl2.i tb1 rfl 1)) (show ivn1 bb 1 = iv bb 1 from (by rw [hin1]; exact congrFun (up0_a (ne_in tbb.1 hqn1)) _)))))))) (fun bb tbb => by have tb1 := xl2.ty tbb; have tb2 := ty_rt tb1 hcr1 (ne_ty tb1 tqn1 (by decide)); exact (Eq.trans (show rvh3 bb 4 = rvh2 bb 4 from (fl3.r tb2 rfl 4)) (Eq.trans (show rvh2 bb 4 = rvn1 bb 4 from (fl2.r tb1 rfl 4)) (show rvn1 bb 4 = rv bb 4 from (by rw [hrn1]; exact congrFun (up0_a (ne_in tbb.1 hqn1)) _))))), TSQ.of hW hS (fun bb tbb hbb => by have tb1 := xl2.ty tbb; have tb2 := ty_rt tb1 hcr1 (ne_ty tb1 tqn1 (by decide)); have tb3 := xl4.ty tb2; exact (Eq.trans (show ivh4 bb 2 = iv1 bb 2 from (fl4.i tb3 rfl 2)) (Eq.trans (show iv1 bb 2 = ivh3 bb 2 from (by rw [pq1]; exact up2_k (ne_ty tb3 ty28 (by decide)))) (Eq.trans (show ivh3 bb 2 = ivh2 bb 2 from (fl3.i tb2 rfl 2)) (Eq.trans (show ivh2 bb 2 = ivn1 bb 2 from (fl2.i tb1 rfl 2)) (show ivn1 bb 2 = iv bb 2 from (by rw [hin1]; exact congrFun (up0_a (ne_in tbb.1 hqn1)) _)))))))⟩, by omega, ⟨(by omega), CS0.of hW hS (Int.le_refl _) (fun i hi => (rmef3.2 i (by omega)).trans (ce1 i hi)) (fun bb tbb => by have tb1 := xl2.ty tbb; have tb2 := ty_rt tb1 hcr1 (ne_ty tb1 tqn1 (by decide)); have tb3 := xl4.ty tb2; exact (Eq.trans (show ivh4 bb 0 = iv1 bb 0 from (fl4.i tb3 rfl 0)) (Eq.trans (show iv1 bb 0 = ivh3 bb 0 from (by rw [pq1]; exact up2_k (ne_ty tb3 ty28 (by decide)))) (Eq.trans (show ivh3 bb 0 = ivh2 bb 0 from (fl3.i tb2 rfl 0)) (Eq.trans (show ivh2 bb 0 = ivn1 bb 0 from (fl2.i tb1 rfl 0)) (show ivn1 bb 0 = iv bb 0 from (by rw [hin1]; exact congrFun (up0_a (ne_in tbb.1 hqn1)) _))))))) (fun bb tbb => by have tb1 := xl2.ty tbb; have tb2 := ty_rt tb1 hcr1 (ne_ty tb1 tqn1 (by decide)); exact (Eq.trans (show rvh3 bb 1 = rvh2 bb 1 from (fl3.r tb2 rfl 1)) (Eq.trans (show rvh2 bb 1 = rvn1 bb 1 from (fl2.r tb1 rfl 1)) (show rvn1 bb 1 = rv bb 1 from (by rw [hrn1]; exact congrFun (up0_a (ne_in tbb.1 hqn1)) _))))), ⟨qn1, (by rw [show (iv (sk 23) 2).toNat = (ivh2 (sk 23) 2).toNat from congrArg Int.toNat (by omega)]; exact rmef3.1), (by omega), re1⟩⟩⟩), kp6, (Eq.trans (show rvh3 a0 9 = rvh2 a0 9 from (fl3.r ty3 rfl 9)) (Eq.trans (show rvh2 a0 9 = rvn1 a0 9 from (fl2.r ty2 rfl 9)) (show rvn1 a0 9 = rv a0 9 from (by rw [hrn1]; exact congrFun (up0_a (ne_in t_a0.1 hqn1)) _)))), (Eq.trans (show rvh3 a0 10 = rvh2 a0 10 from (fl3.r ty3 rfl 10)) (Eq.trans (show rvh2 a0 10 = rvn1 a0 10 from (fl2.r ty2 rfl 10)) (show rvn1 a0 10 = rv a0 10 from (by rw [hrn1]; exact congrFun (up0_a (ne_in t_a0.1 hqn1)) _))))⟩
  · subst oq1
    refine c_lv (lv2 := [(2, .null), (0, .ref a0), (1, .int (iI i))]) [0, 1, 2] rfl ?_
    refine c_st (st2 := []) rfl ?_
    refine c_aload_n (j := 1) (x := a0) C dX11_drop_13 rfl ?_
    refine c_iconst C dX11_drop_14 ?_
    refine d_callV (As := [.int (iI 3)]) (rest := []) C hM (C_refuse (a0 := a0) (x := 3) hW hS t_a0 ⟨by decide, by decide⟩ ) dX11_drop_15 kV_X11_102 rfl t_a0 rfl rfl (by decide) ck_12 rfl (Nat.le_of_ble_eq_true rfl) ⟨(Nat.le_of_ble_eq_true rfl), (Nat.le_of_ble_eq_true rfl)⟩ hph hph (show 0 + 0 = 0 from rfl) (by decide) (fun rh5 Lh5 clh5 lnh5 ivh5 rvh5 h5 => ?_)
    obtain ⟨f5, rfl, rfl, rfl, rfl, rfl, fl5, W8, rgf5, exf5, kp11f5, kp12f5, kp13f5, kp14f5, kp15f5, kp16f5⟩ := h5
    have ri22 : 1 ≤ iv a0 11 ∧ iv a0 11 ≤ 100 := hW.int t_a0 11
    have ri23 : 1 ≤ iv a0 12 ∧ iv a0 12 ≤ 50 := hW.int t_a0 12
    have ri24 : (-2147483648) ≤ iv a0 13 ∧ iv a0 13 ≤ 2147483647 := hW.int t_a0 13
    have ri25 : (-2147483648) ≤ iv a0 14 ∧ iv a0 14 ≤ 2147483647 := hW.int t_a0 14
    have ri26 : (-2147483648) ≤ iv a0 15 ∧ iv a0 15 ≤ 2147483647 := hW.int t_a0 15
    have ri27 : (-2147483648) ≤ iv a0 16 ∧ iv a0 16 ≤ 2147483647 := hW.int t_a0 16
    have F6 := hF0.call hX0 fl5 rfl
    have mr7 := MRK.call hmr hW hS XT.refl fl5 rfl rfl
    have kp7 := kp1.call TX.refl hW fl5 rfl
    refine c_st (st2 := [.int (iI f5)]) rfl ?_
    have gk11f5 : ivh5 a0 11 = iv a0 11 := kp11f5
    have gk12f5 : ivh5 a0 12 = iv a0 12 := kp12f5
    have gk13f5 : ivh5 a0 13 = iv a0 13 := kp13f5
    have gk14f5 : ivh5 a0 14 = iv a0 14 := kp14f5
    have gk15f5 : ivh5 a0 15 = iv a0 15 := kp15f5
    have gk16f5 : ivh5 a0 16 = iv a0 16 := kp16f5
    have gf5 : f5 = -1 := exf5
    have ri28 : 1 ≤ ivh5 a0 11 ∧ ivh5 a0 11 ≤ 100 := W8.int t_a0 11
    have ri29 : 1 ≤ ivh5 a0 12 ∧ ivh5 a0 12 ≤ 50 := W8.int t_a0 12
    have ri30 : (-2147483648) ≤ ivh5 a0 13 ∧ ivh5 a0 13 ≤ 2147483647 := W8.int t_a0 13
    have ri31 : (-2147483648) ≤ ivh5 a0 14 ∧ ivh5 a0 14 ≤ 2147483647 := W8.int t_a0 14
    have ri32 : (-2147483648) ≤ ivh5 a0 15 ∧ ivh5 a0 15 ≤ 2147483647 := W8.int t_a0 15
    have ri33 : (-2147483648) ≤ ivh5 a0 16 ∧ ivh5 a0 16 ≤ 2147483647 := W8.int t_a0 16
    have ri34 : 0 ≤ ivh5 (sk 23) 2 ∧ ivh5 (sk 23) 2 ≤ 512 := W8.int tsk23 2
    have ie62 : ivh5 (sk 23) 2 = iv (sk 23) 2 := fl5.i tsk23 rfl 2
    have ri35 : 0 ≤ ivh5 (sk 22) 2 ∧ ivh5 (sk 22) 2 ≤ 30 := W8.int tsk22 2
    have ie63 : ivh5 (sk 22) 2 = iv (sk 22) 2 := fl5.i tsk22 rfl 2
    exact c_iret C dX11_drop_18 rfl (by decide) (rom0 hph hph (by decide)) ⟨f5, rfl, hX0, F6, W8, ⟨by omega, by omega⟩, ⟨(by omega), mr7⟩, (by omega), (by omega), (by omega), (by omega), (by omega), (by omega), (Or.inl ⟨by omega, PSAME.fr hW hS fl5 rfl rfl rfl rfl rfl rfl rfl, gf1.2 rfl⟩), kp7, rfl, rfl⟩
set_option maxHeartbeats 4000000 in
set_option maxRecDepth 100000 in
theorem C_addRule {l : Launch} {G : GT} {mi : Nat} {sk : Nat → Nat} {L : List Nat} {cl ln : Nat → Nat} {iv : Nat → Nat → Int} {rv : Nat → Nat → Option Nat}  {a0 : Nat} {i : Int} {cnd : Int} {n : Int} (hW : WT (g0 G) sk L cl ln iv rv) (hS : SKL sk L cl) (t_a0 : ty L cl a0 1) (h_i : -2147483648 ≤ i ∧ i ≤ 2147483647) (h_cnd : -2147483648 ≤ cnd ∧ cnd ≤ 2147483647) (h_n : -2147483648 ≤ n ∧ n ≤ 2147483647) (hmr : MRK sk cl iv rv) (hch : iv (sk 23) 2 < 512) : Mc l G mi (Phi (g0 G) sk) PHM yX11_addRule cX11_addRule 6 (some .int) 8 [.ref a0, .int (iI i), .int (iI cnd), .int (iI n)] L cl ln iv rv 2320 (fun v L2 cl2 ln2 iv2 rv2 => ∃ f : Int, v = some (.int (iI f)) ∧ XT L cl ln L2 cl2 ln2 ∧ fT [1, 65, 66, 206, 20, 26, 1004, 12, 42, 23, 1001, 201] L cl iv rv iv2 rv2 ∧ WT (g0 G) sk L2 cl2 ln2 iv2 rv2 ∧ (-2147483648 ≤ f ∧ f ≤ 2147483647) ∧ (iv2 (sk 23) 2 ≤ iv (sk 23) 2 + 1 ∧ MRK sk cl2 iv2 rv2) ∧ iv2 a0 11 = iv a0 11 ∧ iv2 a0 12 = iv a0 12 ∧ iv2 a0 13 = iv a0 13 ∧ iv2 a0 14 = iv a0 14 ∧ iv2 a0 15 = iv a0 15 ∧ iv2 a0 16 = iv a0 16 ∧ (PRUL i cnd n f sk iv rv iv2 rv2) ∧ (KRU L cl sk iv rv L2 cl2 ln2 iv2 rv2 i cnd n f) ∧ rv2 a0 9 = rv a0 9 ∧ rv2 a0 10 = rv a0 10) := by
  refine Mc.mk (by decide) (Nat.le_of_ble_eq_true rfl) ?_
  intro p e s m args below meth c A C hM
  have hph := Phi.le hW hS
  have tsk2 : ty L cl (sk 2) 2 := ⟨(hS 2 rfl).1, by rw [(hS 2 rfl).2]; rfl⟩
  have tsk3 : ty L cl (sk 3) 3 := ⟨(hS 3 rfl).1, by rw [(hS 3 rfl).2]; rfl⟩
  have tsk4 : ty L cl (sk 4) 4 := ⟨(hS 4 rfl).1, by rw [(hS 4 rfl).2]; rfl⟩
  have tsk5 : ty L cl (sk 5) 5 := ⟨(hS 5 rfl).1, by rw [(hS 5 rfl).2]; rfl⟩
  have tsk13 : ty L cl (sk 13) 13 := ⟨(hS 13 rfl).1, by rw [(hS 13 rfl).2]; rfl⟩
  have tsk14 : ty L cl (sk 14) 14 := ⟨(hS 14 rfl).1, by rw [(hS 14 rfl).2]; rfl⟩
  have tsk15 : ty L cl (sk 15) 15 := ⟨(hS 15 rfl).1, by rw [(hS 15 rfl).2]; rfl⟩
  have tsk16 : ty L cl (sk 16) 16 := ⟨(hS 16 rfl).1, by rw [(hS 16 rfl).2]; rfl⟩
  have tsk17 : ty L cl (sk 17) 17 := ⟨(hS 17 rfl).1, by rw [(hS 17 rfl).2]; rfl⟩
  have tsk22 : ty L cl (sk 22) 22 := ⟨(hS 22 rfl).1, by rw [(hS 22 rfl).2]; rfl⟩
  have tsk23 : ty L cl (sk 23) 23 := ⟨(hS 23 rfl).1, by rw [(hS 23 rfl).2]; rfl⟩
  have hX0 : XT L cl ln L cl ln := XT.refl
  have hF0 : fT [1, 65, 66, 206, 20, 26, 1004, 12, 42, 23, 1001, 201] L cl iv rv iv rv := fT.refl
  refine c_aload_n (j := 0) (x := a0) C dX11_addRule_0 rfl ?_
  obtain ⟨rb1, rq1, trb1⟩ := hW.ref t_a0 4 rfl rfl rfl
  have erb1 := hW.sk trb1 (by decide) rfl
  subst erb1
  refine c_getr (k := 4) C ck_12 dX11_addRule_1 w2_48 (by decide) t_a0 rfl rfl (by decide) rfl rq1 ?_
  refine c_st (st2 := [.ref (sk 13)]) rfl ?_
  refine c_iload_n (j := 1) C dX11_addRule_4 rfl ?_
  have ri1 : 0 ≤ iv (sk 22) 2 ∧ iv (sk 22) 2 ≤ 30 := hW.int tsk22 2
  refine d_callV (As := [.int (iI i)]) (rest := []) C hM (C_alive (a0 := (sk 13)) (i := i) hW hS tsk13 (by omega) hmr) dX11_addRule_5 kV_X11_131 rfl tsk13 rfl rfl (by decide) ck_11 rfl (Nat.le_of_ble_eq_true rfl) ⟨(Nat.le_of_ble_eq_true rfl), (Nat.le_of_ble_eq_true rfl)⟩ hph hph (show 0 + 0 = 0 from rfl) (by decide) (fun rh1 Lh1 clh1 lnh1 ivh1 rvh1 h1 => ?_)
  obtain ⟨f1, rfl, rfl, rfl, rfl, rfl, rfl, rgf1, exf1⟩ := h1
  refine c_st (st2 := [(va_rf f1)]) rfl ?_
  have gf1 : (∀ b, f1 = some b → ((cl b : Nat) : Int) < 100 + iv (sk 22) 2 ∧ ALV sk iv rv i b) ∧ (f1 = none → ∀ b, ¬ ALV sk iv rv i b) := exf1
  refine c_astorer (r := f1) (lv2 := [(4, (va_rf f1)), (0, .ref a0), (1, .int (iI i)), (2, .int (iI cnd)), (3, .int (iI n))]) C dX11_addRule_8 (by decide) rfl ?_
  refine c_aloadr (j := 0) (r := f1) C dX11_addRule_10 rfl ?_
  refine c_ifnonnull (r := f1) (tgt := 21) C dX11_addRule_12 (by decide) (fun ob1 oq1 => ?_) (fun oq1 => ?_)
  · subst oq1
    have tob1 := rgf1 ob1 rfl
    have akob1 := gf1.1 ob1 rfl
    refine c_lv (lv2 := [(4, .ref ob1), (0, .ref a0), (1, .int (iI i)), (2, .int (iI cnd)), (3, .int (iI n))]) [0, 1, 2, 3, 4] rfl ?_
    refine c_st (st2 := []) rfl ?_
    refine c_aload (j := 0) (x := ob1) C dX11_addRule_21 rfl ?_
    have ri2 : (-2147483648) ≤ iv ob1 0 ∧ iv ob1 0 ≤ 2147483647 := hW.int tob1 0
    refine c_get (k := 0) C ck_10 dX11_addRule_23 w2_176 (by decide) tob1 rfl rfl (by decide) rfl ?_
    refine c_iconst C dX11_addRule_26 ?_
    refine c_icmp_ne (tgt := 36) C ⟨by omega, by omega⟩ ⟨by decide, by decide⟩ dX11_addRule_27 (by decide) (fun c1 => ?_) (fun c1 => ?_)
    · refine c_iload_n (j := 4) C dX11_addRule_36 rfl ?_
      refine c_if_ge (tgt := 46) C ⟨by omega, by omega⟩ dX11_addRule_37 (by decide) (fun c2 => ?_) (fun c2 => ?_)
      · refine c_iload_n (j := 3) C dX11_addRule_46 rfl ?_
        refine c_callS0 (As := [.int (iI cnd)]) (rest := []) C (fun L E => s11_isCondition (iI cnd)) dX11_addRule_47 kS_X11_167 rfl rfl (Nat.le_of_ble_eq_true rfl) ⟨(Nat.le_of_ble_eq_true rfl), (Nat.le_of_ble_eq_true rfl)⟩ (rom0 hph hph (by decide)) ?_
        rcases inn_c (x := cnd) (lo := 0) (hi := 5) ⟨by omega, by omega⟩ ⟨by decide, by decide⟩ ⟨by decide, by decide⟩ with ⟨hs1a, hs1b, hs1e⟩ | ⟨hs1a, hs1e⟩
        · refine c_st (st2 := [.int (iI 1)]) (by rw [show inn (iI cnd) 0 5 = iI 1 from hs1e]) ?_
          refine c_if_eq (tgt := 118) C ⟨by decide, by decide⟩ dX11_addRule_50 (by decide) (fun z => absurd z (by omega)) (fun _ => ?_)
          refine c_iload_n (j := 4) C dX11_addRule_53 rfl ?_
          refine c_iconst C dX11_addRule_54 ?_
          refine c_icmp_lt (tgt := 118) C ⟨by omega, by omega⟩ ⟨by decide, by decide⟩ dX11_addRule_55 (by decide) (fun c3 => ?_) (fun c3 => ?_)
          · refine c_aload_n (j := 1) (x := a0) C dX11_addRule_118 rfl ?_
            refine c_bipush (z := 6) C dX11_addRule_119 (by decide) ?_
            refine d_callV (As := [.int (iI 6)]) (rest := []) C hM (C_refuse (a0 := a0) (x := 6) hW hS t_a0 ⟨by decide, by decide⟩ ) dX11_addRule_121 kV_X11_102 rfl t_a0 rfl rfl (by decide) ck_12 rfl (Nat.le_of_ble_eq_true rfl) ⟨(Nat.le_of_ble_eq_true rfl), (Nat.le_of_ble_eq_true rfl)⟩ hph hph (show 0 + 0 = 0 from rfl) (by decide) (fun rh2 Lh2 clh2 lnh2 ivh2 rvh2 h2 => ?_)
            obtain ⟨f2, rfl, rfl, rfl, rfl, rfl, fl2, W2, rgf2, exf2, kp11f2, kp12f2, kp13f2, kp14f2, kp15f2, kp16f2⟩ := h2
            have ri3 : 1 ≤ iv a0 11 ∧ iv a0 11 ≤ 100 := hW.int t_a0 11
            have ri4 : 1 ≤ iv a0 12 ∧ iv a0 12 ≤ 50 := hW.int t_a0 12
            have ri5 : (-2147483648) ≤ iv a0 13 ∧ iv a0 13 ≤ 2147483647 := hW.int t_a0 13
            have ri6 : (-2147483648) ≤ iv a0 14 ∧ iv a0 14 ≤ 2147483647 := hW.int t_a0 14
            have ri7 : (-2147483648) ≤ iv a0 15 ∧ iv a0 15 ≤ 2147483647 := hW.int t_a0 15
            have ri8 : (-2147483648) ≤ iv a0 16 ∧ iv a0 16 ≤ 2147483647 := hW.int t_a0 16
            have F1 := hF0.call hX0 fl2 rfl
            have mr1 := MRK.call hmr hW hS XT.refl fl2 rfl rfl
            refine c_st (st2 := [.int (iI f2)]) rfl ?_
            have gk11f2 : ivh2 a0 11 = iv a0 11 := kp11f2
            have gk12f2 : ivh2 a0 12 = iv a0 12 := kp12f2
            have gk13f2 : ivh2 a0 13 = iv a0 13 := kp13f2
            have gk14f2 : ivh2 a0 14 = iv a0 14 := kp14f2
            have gk15f2 : ivh2 a0 15 = iv a0 15 := kp15f2
            have gk16f2 : ivh2 a0 16 = iv a0 16 := kp16f2
            have gf2 : f2 = -1 := exf2
            have ri9 : 1 ≤ ivh2 a0 11 ∧ ivh2 a0 11 ≤ 100 := W2.int t_a0 11
            have ri10 : 1 ≤ ivh2 a0 12 ∧ ivh2 a0 12 ≤ 50 := W2.int t_a0 12
            have ri11 : (-2147483648) ≤ ivh2 a0 13 ∧ ivh2 a0 13 ≤ 2147483647 := W2.int t_a0 13
            have ri12 : (-2147483648) ≤ ivh2 a0 14 ∧ ivh2 a0 14 ≤ 2147483647 := W2.int t_a0 14
            have ri13 : (-2147483648) ≤ ivh2 a0 15 ∧ ivh2 a0 15 ≤ 2147483647 := W2.int t_a0 15
            have ri14 : (-2147483648) ≤ ivh2 a0 16 ∧ ivh2 a0 16 ≤ 2147483647 := W2.int t_a0 16
            have ri15 : 0 ≤ ivh2 (sk 23) 2 ∧ ivh2 (sk 23) 2 ≤ 512 := W2.int tsk23 2
            have ie7 : ivh2 (sk 23) 2 = iv (sk 23) 2 := fl2.i tsk23 rfl 2
            have ri16 : 0 ≤ ivh2 (sk 22) 2 ∧ ivh2 (sk 22) 2 ≤ 30 := W2.int tsk22 2
            have ie8 : ivh2 (sk 22) 2 = iv (sk 22) 2 := fl2.i tsk22 rfl 2
            have ri17 : (-2147483648) ≤ ivh2 ob1 0 ∧ ivh2 ob1 0 ≤ 2147483647 := W2.int tob1 0
            have ie9 : ivh2 ob1 0 = iv ob1 0 := fl2.i tob1 rfl 0
            have ri18 : 0 ≤ ivh2 (sk 2) 2 ∧ ivh2 (sk 2) 2 ≤ 3000 := W2.int tsk2 2
            have ie10 : ivh2 (sk 2) 2 = iv (sk 2) 2 := fl2.i tsk2 rfl 2
            exact c_iret C dX11_addRule_124 rfl (by decide) (rom0 hph hph (by decide)) ⟨f2, rfl, hX0, F1, W2, ⟨by omega, by omega⟩, ⟨(by omega), mr1⟩, (by omega), (by omega), (by omega), (by omega), (by omega), (by omega), (Or.inl ⟨by omega, PSAME.fr hW hS fl2 rfl rfl rfl rfl rfl rfl rfl, (fun ss t q hs ht hq hd h => by
                have e := ht.uni akob1.2
                subst e
                obtain ⟨h1, h2, h3, h4, h5, h6, h7, h8⟩ := h.1
                first | omega)⟩), (Or.inl ⟨by omega, KP.fr hW fl2 rfl⟩), rfl, rfl⟩
          · refine c_iload_n (j := 4) C dX11_addRule_58 rfl ?_
            refine c_bipush (z := 8) C dX11_addRule_59 (by decide) ?_
            refine c_icmp_gt (tgt := 118) C ⟨by omega, by omega⟩ ⟨by decide, by decide⟩ dX11_addRule_61 (by decide) (fun c4 => ?_) (fun c4 => ?_)
            · refine c_aload_n (j := 1) (x := a0) C dX11_addRule_118 rfl ?_
              refine c_bipush (z := 6) C dX11_addRule_119 (by decide) ?_
              refine d_callV (As := [.int (iI 6)]) (rest := []) C hM (C_refuse (a0 := a0) (x := 6) hW hS t_a0 ⟨by decide, by decide⟩ ) dX11_addRule_121 kV_X11_102 rfl t_a0 rfl rfl (by decide) ck_12 rfl (Nat.le_of_ble_eq_true rfl) ⟨(Nat.le_of_ble_eq_true rfl), (Nat.le_of_ble_eq_true rfl)⟩ hph hph (show 0 + 0 = 0 from rfl) (by decide) (fun rh3 Lh3 clh3 lnh3 ivh3 rvh3 h3 => ?_)
              obtain ⟨f3, rfl, rfl, rfl, rfl, rfl, fl3, W3, rgf3, exf3, kp11f3, kp12f3, kp13f3, kp14f3, kp15f3, kp16f3⟩ := h3
              have ri19 : 1 ≤ iv a0 11 ∧ iv a0 11 ≤ 100 := hW.int t_a0 11
              have ri20 : 1 ≤ iv a0 12 ∧ iv a0 12 ≤ 50 := hW.int t_a0 12
              have ri21 : (-2147483648) ≤ iv a0 13 ∧ iv a0 13 ≤ 2147483647 := hW.int t_a0 13
              have ri22 : (-2147483648) ≤ iv a0 14 ∧ iv a0 14 ≤ 2147483647 := hW.int t_a0 14
              have ri23 : (-2147483648) ≤ iv a0 15 ∧ iv a0 15 ≤ 2147483647 := hW.int t_a0 15
              have ri24 : (-2147483648) ≤ iv a0 16 ∧ iv a0 16 ≤ 2147483647 := hW.int t_a0 16
              have F2 := hF0.call hX0 fl3 rfl
              have mr2 := MRK.call hmr hW hS XT.refl fl3 rfl rfl
              refine c_st (st2 := [.int (iI f3)]) rfl ?_
              have gk11f3 : ivh3 a0 11 = iv a0 11 := kp11f3
              have gk12f3 : ivh3 a0 12 = iv a0 12 := kp12f3
              have gk13f3 : ivh3 a0 13 = iv a0 13 := kp13f3
              have gk14f3 : ivh3 a0 14 = iv a0 14 := kp14f3
              have gk15f3 : ivh3 a0 15 = iv a0 15 := kp15f3
              have gk16f3 : ivh3 a0 16 = iv a0 16 := kp16f3
              have gf3 : f3 = -1 := exf3
              have ri25 : 1 ≤ ivh3 a0 11 ∧ ivh3 a0 11 ≤ 100 := W3.int t_a0 11
              have ri26 : 1 ≤ ivh3 a0 12 ∧ ivh3 a0 12 ≤ 50 := W3.int t_a0 12
              have ri27 : (-2147483648) ≤ ivh3 a0 13 ∧ ivh3 a0 13 ≤ 2147483647 := W3.int t_a0 13
              have ri28 : (-2147483648) ≤ ivh3 a0 14 ∧ ivh3 a0 14 ≤ 2147483647 := W3.int t_a0 14
              have ri29 : (-2147483648) ≤ ivh3 a0 15 ∧ ivh3 a0 15 ≤ 2147483647 := W3.int t_a0 15
              have ri30 : (-2147483648) ≤ ivh3 a0 16 ∧ ivh3 a0 16 ≤ 2147483647 := W3.int t_a0 16
              have ri31 : 0 ≤ ivh3 (sk 23) 2 ∧ ivh3 (sk 23) 2 ≤ 512 := W3.int tsk23 2
              have ie17 : ivh3 (sk 23) 2 = iv (sk 23) 2 := fl3.i tsk23 rfl 2
              have ri32 : 0 ≤ ivh3 (sk 22) 2 ∧ ivh3 (sk 22) 2 ≤ 30 := W3.int tsk22 2
              have ie18 : ivh3 (sk 22) 2 = iv (sk 22) 2 := fl3.i tsk22 rfl 2
              have ri33 : (-2147483648) ≤ ivh3 ob1 0 ∧ ivh3 ob1 0 ≤ 2147483647 := W3.int tob1 0
              have ie19 : ivh3 ob1 0 = iv ob1 0 := fl3.i tob1 rfl 0
              have ri34 : 0 ≤ ivh3 (sk 2) 2 ∧ ivh3 (sk 2) 2 ≤ 3000 := W3.int tsk2 2
              have ie20 : ivh3 (sk 2) 2 = iv (sk 2) 2 := fl3.i tsk2 rfl 2
              exact c_iret C dX11_addRule_124 rfl (by decide) (rom0 hph hph (by decide)) ⟨f3, rfl, hX0, F2, W3, ⟨by omega, by omega⟩, ⟨(by omega), mr2⟩, (by omega), (by omega), (by omega), (by omega), (by omega), (by omega), (Or.inl ⟨by omega, PSAME.fr hW hS fl3 rfl rfl rfl rfl rfl rfl rfl, (fun ss t q hs ht hq hd h => by
                  have e := ht.uni akob1.2
                  subst e
                  obtain ⟨h1, h2, h3, h4, h5, h6, h7, h8⟩ := h.1
                  first | omega)⟩), (Or.inl ⟨by omega, KP.fr hW fl3 rfl⟩), rfl, rfl⟩
            · refine c_iload_n (j := 4) C dX11_addRule_64 rfl ?_
              refine c_aload_n (j := 1) (x := a0) C dX11_addRule_65 rfl ?_
              obtain ⟨rb2, rq2, trb2⟩ := hW.ref t_a0 0 rfl rfl rfl
              have erb2 := hW.sk trb2 (by decide) rfl
              subst erb2
              refine c_getr (k := 0) C ck_12 dX11_addRule_66 w2_44 (by decide) t_a0 rfl rfl (by decide) rfl rq2 ?_
              refine c_st (st2 := [.ref (sk 2), .int (iI n)]) rfl ?_
              have ri35 : 0 ≤ iv (sk 2) 2 ∧ iv (sk 2) 2 ≤ 3000 := hW.int tsk2 2
              refine c_get (k := 2) C ck_2 dX11_addRule_69 w1_44 (by decide) tsk2 rfl rfl (by decide) rfl ?_
              refine c_icmp_ge (tgt := 118) C ⟨by omega, by omega⟩ ⟨by omega, by omega⟩ dX11_addRule_72 (by decide) (fun c5 => ?_) (fun c5 => ?_)
              · refine c_aload_n (j := 1) (x := a0) C dX11_addRule_118 rfl ?_
                refine c_bipush (z := 6) C dX11_addRule_119 (by decide) ?_
                refine d_callV (As := [.int (iI 6)]) (rest := []) C hM (C_refuse (a0 := a0) (x := 6) hW hS t_a0 ⟨by decide, by decide⟩ ) dX11_addRule_121 kV_X11_102 rfl t_a0 rfl rfl (by decide) ck_12 rfl (Nat.le_of_ble_eq_true rfl) ⟨(Nat.le_of_ble_eq_true rfl), (Nat.le_of_ble_eq_true rfl)⟩ hph hph (show 0 + 0 = 0 from rfl) (by decide) (fun rh4 Lh4 clh4 lnh4 ivh4 rvh4 h4 => ?_)
                obtain ⟨f4, rfl, rfl, rfl, rfl, rfl, fl4, W4, rgf4, exf4, kp11f4, kp12f4, kp13f4, kp14f4, kp15f4, kp16f4⟩ := h4
                have ri36 : 1 ≤ iv a0 11 ∧ iv a0 11 ≤ 100 := hW.int t_a0 11
                have ri37 : 1 ≤ iv a0 12 ∧ iv a0 12 ≤ 50 := hW.int t_a0 12
                have ri38 : (-2147483648) ≤ iv a0 13 ∧ iv a0 13 ≤ 2147483647 := hW.int t_a0 13
                have ri39 : (-2147483648) ≤ iv a0 14 ∧ iv a0 14 ≤ 2147483647 := hW.int t_a0 14
                have ri40 : (-2147483648) ≤ iv a0 15 ∧ iv a0 15 ≤ 2147483647 := hW.int t_a0 15
                have ri41 : (-2147483648) ≤ iv a0 16 ∧ iv a0 16 ≤ 2147483647 := hW.int t_a0 16
                have F3 := hF0.call hX0 fl4 rfl
                have mr3 := MRK.call hmr hW hS XT.refl fl4 rfl rfl
                refine c_st (st2 := [.int (iI f4)]) rfl ?_
                have gk11f4 : ivh4 a0 11 = iv a0 11 := kp11f4
                have gk12f4 : ivh4 a0 12 = iv a0 12 := kp12f4
                have gk13f4 : ivh4 a0 13 = iv a0 13 := kp13f4
                have gk14f4 : ivh4 a0 14 = iv a0 14 := kp14f4
                have gk15f4 : ivh4 a0 15 = iv a0 15 := kp15f4
                have gk16f4 : ivh4 a0 16 = iv a0 16 := kp16f4
                have gf4 : f4 = -1 := exf4
                have ri42 : 1 ≤ ivh4 a0 11 ∧ ivh4 a0 11 ≤ 100 := W4.int t_a0 11
                have ri43 : 1 ≤ ivh4 a0 12 ∧ ivh4 a0 12 ≤ 50 := W4.int t_a0 12
                have ri44 : (-2147483648) ≤ ivh4 a0 13 ∧ ivh4 a0 13 ≤ 2147483647 := W4.int t_a0 13
                have ri45 : (-2147483648) ≤ ivh4 a0 14 ∧ ivh4 a0 14 ≤ 2147483647 := W4.int t_a0 14
                have ri46 : (-2147483648) ≤ ivh4 a0 15 ∧ ivh4 a0 15 ≤ 2147483647 := W4.int t_a0 15
                have ri47 : (-2147483648) ≤ ivh4 a0 16 ∧ ivh4 a0 16 ≤ 2147483647 := W4.int t_a0 16
                have ri48 : 0 ≤ ivh4 (sk 23) 2 ∧ ivh4 (sk 23) 2 ≤ 512 := W4.int tsk23 2
                have ie27 : ivh4 (sk 23) 2 = iv (sk 23) 2 := fl4.i tsk23 rfl 2
                have ri49 : 0 ≤ ivh4 (sk 22) 2 ∧ ivh4 (sk 22) 2 ≤ 30 := W4.int tsk22 2
                have ie28 : ivh4 (sk 22) 2 = iv (sk 22) 2 := fl4.i tsk22 rfl 2
                have ri50 : (-2147483648) ≤ ivh4 ob1 0 ∧ ivh4 ob1 0 ≤ 2147483647 := W4.int tob1 0
                have ie29 : ivh4 ob1 0 = iv ob1 0 := fl4.i tob1 rfl 0
                have ri51 : 0 ≤ ivh4 (sk 2) 2 ∧ ivh4 (sk 2) 2 ≤ 3000 := W4.int tsk2 2
                have ie30 : ivh4 (sk 2) 2 = iv (sk 2) 2 := fl4.i tsk2 rfl 2
                exact c_iret C dX11_addRule_124 rfl (by decide) (rom0 hph hph (by decide)) ⟨f4, rfl, hX0, F3, W4, ⟨by omega, by omega⟩, ⟨(by omega), mr3⟩, (by omega), (by omega), (by omega), (by omega), (by omega), (by omega), (Or.inl ⟨by omega, PSAME.fr hW hS fl4 rfl rfl rfl rfl rfl rfl rfl, (fun ss t q hs ht hq hd h => by
                    have e := ht.uni akob1.2
                    subst e
                    obtain ⟨h1, h2, h3, h4, h5, h6, h7, h8⟩ := h.1
                    first | omega)⟩), (Or.inl ⟨by omega, KP.fr hW fl4 rfl⟩), rfl, rfl⟩
              · refine c_aload_n (j := 1) (x := a0) C dX11_addRule_75 rfl ?_
                refine c_getr (k := 0) C ck_12 dX11_addRule_76 w2_44 (by decide) t_a0 rfl rfl (by decide) rfl rq2 ?_
                refine c_st (st2 := [.ref (sk 2)]) rfl ?_
                refine c_iconst C dX11_addRule_79 ?_
                refine c_iload_n (j := 4) C dX11_addRule_80 rfl ?_
                refine c_bipush (z := 33) C dX11_addRule_81 (by decide) ?_
                refine c_bipush (z := 125) C dX11_addRule_83 (by decide) ?_
                refine d_callV (As := [.int (iI 0), .int (iI n), .int (iI 33), .int (iI 125)]) (rest := []) C hM (C_isWithin_2 (a0 := (sk 2)) (i := 0) (j := n) (lo := 33) (hi := 125) hW hS tsk2 ⟨by decide, by decide⟩ (by omega) ⟨by decide, by decide⟩ ⟨by decide, by decide⟩ ) dX11_addRule_85 kV_X11_171 rfl tsk2 rfl rfl (by decide) ck_2 rfl (Nat.le_of_ble_eq_true rfl) ⟨(Nat.le_of_ble_eq_true rfl), (Nat.le_of_ble_eq_true rfl)⟩ hph hph (show 0 + 0 = 0 from rfl) (by decide) (fun rh5 Lh5 clh5 lnh5 ivh5 rvh5 h5 => ?_)
                obtain ⟨f5, rfl, rfl, rfl, rfl, rfl, rfl, rgf5, exf5⟩ := h5
                refine c_st (st2 := [.int (iI f5)]) rfl ?_
                have gf5 : ∀ ss, CT iv rv (sk 2) ss → 0 ≤ (0 : Int) → n ≤ iv (sk 2) 2 → (f5 = 1 ↔ ∀ x : Nat, (0 : Int) ≤ (x : Int) → (x : Int) < n → (33 : Int) ≤ ss x ∧ ss x ≤ (125 : Int)) := exf5
                refine c_if_eq (tgt := 118) C ⟨by omega, by omega⟩ dX11_addRule_88 (by decide) (fun c6 => ?_) (fun c6 => ?_)
                · refine c_aload_n (j := 1) (x := a0) C dX11_addRule_118 rfl ?_
                  refine c_bipush (z := 6) C dX11_addRule_119 (by decide) ?_
                  refine d_callV (As := [.int (iI 6)]) (rest := []) C hM (C_refuse (a0 := a0) (x := 6) hW hS t_a0 ⟨by decide, by decide⟩ ) dX11_addRule_121 kV_X11_102 rfl t_a0 rfl rfl (by decide) ck_12 rfl (Nat.le_of_ble_eq_true rfl) ⟨(Nat.le_of_ble_eq_true rfl), (Nat.le_of_ble_eq_true rfl)⟩ hph hph (show 0 + 0 = 0 from rfl) (by decide) (fun rh6 Lh6 clh6 lnh6 ivh6 rvh6 h6 => ?_)
                  obtain ⟨f6, rfl, rfl, rfl, rfl, rfl, fl6, W6, rgf6, exf6, kp11f6, kp12f6, kp13f6, kp14f6, kp15f6, kp16f6⟩ := h6
                  have ri52 : 1 ≤ iv a0 11 ∧ iv a0 11 ≤ 100 := hW.int t_a0 11
                  have ri53 : 1 ≤ iv a0 12 ∧ iv a0 12 ≤ 50 := hW.int t_a0 12
                  have ri54 : (-2147483648) ≤ iv a0 13 ∧ iv a0 13 ≤ 2147483647 := hW.int t_a0 13
                  have ri55 : (-2147483648) ≤ iv a0 14 ∧ iv a0 14 ≤ 2147483647 := hW.int t_a0 14
                  have ri56 : (-2147483648) ≤ iv a0 15 ∧ iv a0 15 ≤ 2147483647 := hW.int t_a0 15
                  have ri57 : (-2147483648) ≤ iv a0 16 ∧ iv a0 16 ≤ 2147483647 := hW.int t_a0 16
                  have F4 := hF0.call hX0 fl6 rfl
                  have mr4 := MRK.call hmr hW hS XT.refl fl6 rfl rfl
                  refine c_st (st2 := [.int (iI f6)]) rfl ?_
                  have gk11f6 : ivh6 a0 11 = iv a0 11 := kp11f6
                  have gk12f6 : ivh6 a0 12 = iv a0 12 := kp12f6
                  have gk13f6 : ivh6 a0 13 = iv a0 13 := kp13f6
                  have gk14f6 : ivh6 a0 14 = iv a0 14 := kp14f6
                  have gk15f6 : ivh6 a0 15 = iv a0 15 := kp15f6
                  have gk16f6 : ivh6 a0 16 = iv a0 16 := kp16f6
                  have gf6 : f6 = -1 := exf6
                  have ri58 : 1 ≤ ivh6 a0 11 ∧ ivh6 a0 11 ≤ 100 := W6.int t_a0 11
                  have ri59 : 1 ≤ ivh6 a0 12 ∧ ivh6 a0 12 ≤ 50 := W6.int t_a0 12
                  have ri60 : (-2147483648) ≤ ivh6 a0 13 ∧ ivh6 a0 13 ≤ 2147483647 := W6.int t_a0 13
                  have ri61 : (-2147483648) ≤ ivh6 a0 14 ∧ ivh6 a0 14 ≤ 2147483647 := W6.int t_a0 14
                  have ri62 : (-2147483648) ≤ ivh6 a0 15 ∧ ivh6 a0 15 ≤ 2147483647 := W6.int t_a0 15
                  have ri63 : (-2147483648) ≤ ivh6 a0 16 ∧ ivh6 a0 16 ≤ 2147483647 := W6.int t_a0 16
                  have ri64 : 0 ≤ ivh6 (sk 23) 2 ∧ ivh6 (sk 23) 2 ≤ 512 := W6.int tsk23 2
                  have ie37 : ivh6 (sk 23) 2 = iv (sk 23) 2 := fl6.i tsk23 rfl 2
                  have ri65 : 0 ≤ ivh6 (sk 22) 2 ∧ ivh6 (sk 22) 2 ≤ 30 := W6.int tsk22 2
                  have ie38 : ivh6 (sk 22) 2 = iv (sk 22) 2 := fl6.i tsk22 rfl 2
                  have ri66 : (-2147483648) ≤ ivh6 ob1 0 ∧ ivh6 ob1 0 ≤ 2147483647 := W6.int tob1 0
                  have ie39 : ivh6 ob1 0 = iv ob1 0 := fl6.i tob1 rfl 0
                  have ri67 : 0 ≤ ivh6 (sk 2) 2 ∧ ivh6 (sk 2) 2 ≤ 3000 := W6.int tsk2 2
                  have ie40 : ivh6 (sk 2) 2 = iv (sk 2) 2 := fl6.i tsk2 rfl 2
                  exact c_iret C dX11_addRule_124 rfl (by decide) (rom0 hph hph (by decide)) ⟨f6, rfl, hX0, F4, W6, ⟨by omega, by omega⟩, ⟨(by omega), mr4⟩, (by omega), (by omega), (by omega), (by omega), (by omega), (by omega), (Or.inl ⟨by omega, PSAME.fr hW hS fl6 rfl rfl rfl rfl rfl rfl rfl, (fun ss t q hs ht hq hd h => by
                      have e := ht.uni akob1.2
                      subst e
                      obtain ⟨h1, h2, h3, h4, h5, h6, h7, h8⟩ := h.1
                      first | omega | (have e1 := gf5 ss hs (by omega) (by omega); have e2 := e1.mpr (fun x q1 q2 => h.2.2 x q2); omega))⟩), (Or.inl ⟨by omega, KP.fr hW fl6 rfl⟩), rfl, rfl⟩
                · refine c_aload_n (j := 1) (x := a0) C dX11_addRule_91 rfl ?_
                  refine c_iload_n (j := 4) C dX11_addRule_92 rfl ?_
                  refine c_aload (j := 0) (x := ob1) C dX11_addRule_93 rfl ?_
                  have ri68 : (-2147483648) ≤ iv ob1 1 ∧ iv ob1 1 ≤ 2147483647 := hW.int tob1 1
                  refine c_get (k := 1) C ck_10 dX11_addRule_95 w2_179 (by decide) tob1 rfl rfl (by decide) rfl ?_
                  refine d_callV (As := [.int (iI n), .int (iI (iv ob1 1))]) (rest := []) C hM (C_isRow (a0 := a0) (i := n) (n := iv ob1 1) hW hS t_a0 (by omega) (by omega) (by show 0 ≤ n; omega)) dX11_addRule_98 kV_X11_175 rfl t_a0 rfl rfl (by decide) ck_12 rfl (Nat.le_of_ble_eq_true rfl) ⟨(Nat.le_of_ble_eq_true rfl), (Nat.le_of_ble_eq_true rfl)⟩ hph hph (show 0 + 0 = 0 from rfl) (by decide) (fun rh7 Lh7 clh7 lnh7 ivh7 rvh7 h7 => ?_)
                  obtain ⟨f7, rfl, rfl, rfl, rfl, rfl, rfl, rgf7, exf7, irxf7⟩ := h7
                  refine c_st (st2 := [.int (iI f7)]) rfl ?_
                  have gf7 : f7 = 0 ∨ iv (sk 2) 2 - n ≤ 4 := exf7
                  refine c_if_eq (tgt := 118) C ⟨by omega, by omega⟩ dX11_addRule_101 (by decide) (fun c7 => ?_) (fun c7 => ?_)
                  · refine c_aload_n (j := 1) (x := a0) C dX11_addRule_118 rfl ?_
                    refine c_bipush (z := 6) C dX11_addRule_119 (by decide) ?_
                    refine d_callV (As := [.int (iI 6)]) (rest := []) C hM (C_refuse (a0 := a0) (x := 6) hW hS t_a0 ⟨by decide, by decide⟩ ) dX11_addRule_121 kV_X11_102 rfl t_a0 rfl rfl (by decide) ck_12 rfl (Nat.le_of_ble_eq_true rfl) ⟨(Nat.le_of_ble_eq_true rfl), (Nat.le_of_ble_eq_true rfl)⟩ hph hph (show 0 + 0 = 0 from rfl) (by decide) (fun rh8 Lh8 clh8 lnh8 ivh8 rvh8 h8 => ?_)
                    obtain ⟨f8, rfl, rfl, rfl, rfl, rfl, fl8, W8, rgf8, exf8, kp11f8, kp12f8, kp13f8, kp14f8, kp15f8, kp16f8⟩ := h8
                    have ri69 : 1 ≤ iv a0 11 ∧ iv a0 11 ≤ 100 := hW.int t_a0 11
                    have ri70 : 1 ≤ iv a0 12 ∧ iv a0 12 ≤ 50 := hW.int t_a0 12
                    have ri71 : (-2147483648) ≤ iv a0 13 ∧ iv a0 13 ≤ 2147483647 := hW.int t_a0 13
                    have ri72 : (-2147483648) ≤ iv a0 14 ∧ iv a0 14 ≤ 2147483647 := hW.int t_a0 14
                    have ri73 : (-2147483648) ≤ iv a0 15 ∧ iv a0 15 ≤ 2147483647 := hW.int t_a0 15
                    have ri74 : (-2147483648) ≤ iv a0 16 ∧ iv a0 16 ≤ 2147483647 := hW.int t_a0 16
                    have F5 := hF0.call hX0 fl8 rfl
                    have mr5 := MRK.call hmr hW hS XT.refl fl8 rfl rfl
                    refine c_st (st2 := [.int (iI f8)]) rfl ?_
                    have gk11f8 : ivh8 a0 11 = iv a0 11 := kp11f8
                    have gk12f8 : ivh8 a0 12 = iv a0 12 := kp12f8
                    have gk13f8 : ivh8 a0 13 = iv a0 13 := kp13f8
                    have gk14f8 : ivh8 a0 14 = iv a0 14 := kp14f8
                    have gk15f8 : ivh8 a0 15 = iv a0 15 := kp15f8
                    have gk16f8 : ivh8 a0 16 = iv a0 16 := kp16f8
                    have gf8 : f8 = -1 := exf8
                    have ri75 : 1 ≤ ivh8 a0 11 ∧ ivh8 a0 11 ≤ 100 := W8.int t_a0 11
                    have ri76 : 1 ≤ ivh8 a0 12 ∧ ivh8 a0 12 ≤ 50 := W8.int t_a0 12
                    have ri77 : (-2147483648) ≤ ivh8 a0 13 ∧ ivh8 a0 13 ≤ 2147483647 := W8.int t_a0 13
                    have ri78 : (-2147483648) ≤ ivh8 a0 14 ∧ ivh8 a0 14 ≤ 2147483647 := W8.int t_a0 14
                    have ri79 : (-2147483648) ≤ ivh8 a0 15 ∧ ivh8 a0 15 ≤ 2147483647 := W8.int t_a0 15
                    have ri80 : (-2147483648) ≤ ivh8 a0 16 ∧ ivh8 a0 16 ≤ 2147483647 := W8.int t_a0 16
                    have ri81 : 0 ≤ ivh8 (sk 23) 2 ∧ ivh8 (sk 23) 2 ≤ 512 := W8.int tsk23 2
                    have ie47 : ivh8 (sk 23) 2 = iv (sk 23) 2 := fl8.i tsk23 rfl 2
                    have ri82 : 0 ≤ ivh8 (sk 22) 2 ∧ ivh8 (sk 22) 2 ≤ 30 := W8.int tsk22 2
                    have ie48 : ivh8 (sk 22) 2 = iv (sk 22) 2 := fl8.i tsk22 rfl 2
                    have ri83 : (-2147483648) ≤ ivh8 ob1 0 ∧ ivh8 ob1 0 ≤ 2147483647 := W8.int tob1 0
                    have ie49 : ivh8 ob1 0 = iv ob1 0 := fl8.i tob1 rfl 0
                    have ri84 : 0 ≤ ivh8 (sk 2) 2 ∧ ivh8 (sk 2) 2 ≤ 3000 := W8.int tsk2 2
                    have ie50 : ivh8 (sk 2) 2 = iv (sk 2) 2 := fl8.i tsk2 rfl 2
                    exact c_iret C dX11_addRule_124 rfl (by decide) (rom0 hph hph (by decide)) ⟨f8, rfl, hX0, F5, W8, ⟨by omega, by omega⟩, ⟨(by omega), mr5⟩, (by omega), (by omega), (by omega), (by omega), (by omega), (by omega), (Or.inl ⟨by omega, PSAME.fr hW hS fl8 rfl rfl rfl rfl rfl rfl rfl, (fun ss t q hs ht hq hd h => by
                        have e := ht.uni akob1.2
                        subst e
                        obtain ⟨h1, h2, h3, h4, h5, h6, h7, h8⟩ := h.1
                        first | omega | (have e1 := gf5 ss hs (by omega) (by omega); have e2 := e1.mpr (fun x q1 q2 => h.2.2 x q2); omega) | (have e1 := irxf7 ss hs (by omega) hd; have e2 := e1.mpr ⟨by omega, h.2.1⟩; omega))⟩), (Or.inl ⟨by omega, KP.fr hW fl8 rfl⟩), rfl, rfl⟩
                  · refine c_aload (j := 0) (x := ob1) C dX11_addRule_104 rfl ?_
                    obtain ⟨rb3, rq3, trb3⟩ := hW.ref tob1 4 rfl rfl rfl
                    refine c_getr (k := 4) C ck_10 dX11_addRule_106 w2_188 (by decide) tob1 rfl rfl (by decide) rfl rq3 ?_
                    refine c_st (st2 := [.ref rb3]) rfl ?_
                    have ri85 : 0 ≤ iv rb3 2 ∧ iv rb3 2 ≤ 200 := hW.int trb3 2
                    refine d_callV (As := []) (rest := []) C hM (C_size_26 (a0 := rb3) hW hS trb3  ) dX11_addRule_109 kV_X11_183 rfl trb3 rfl rfl (by decide) ck_0 rfl (Nat.le_of_ble_eq_true rfl) ⟨(Nat.le_of_ble_eq_true rfl), (Nat.le_of_ble_eq_true rfl)⟩ hph hph (show 0 + 0 = 0 from rfl) (by decide) (fun rh9 Lh9 clh9 lnh9 ivh9 rvh9 h9 => ?_)
                    obtain ⟨f9, rfl, rfl, rfl, rfl, rfl, rfl, rgf9, exf9⟩ := h9
                    refine c_st (st2 := [.int (iI f9)]) rfl ?_
                    have gf9 : f9 = iv rb3 2 := exf9
                    refine c_sipush (z := 200) C dX11_addRule_112 (by decide) ?_
                    refine c_icmp_lt (tgt := 125) C ⟨by omega, by omega⟩ ⟨by decide, by decide⟩ dX11_addRule_115 (by decide) (fun c8 => ?_) (fun c8 => ?_)
                    · obtain ⟨s5, hs5, ts5⟩ := hW.ref tob1 5 rfl rfl rfl
                      obtain ⟨x5, hx5, tx5⟩ := hW.ref ts5 1 rfl rfl rfl
                      have ri86 : 0 ≤ iv s5 2 ∧ iv s5 2 ≤ 200 := hW.int ts5 2
                      have kp1 : KP L cl (fun _ => False) (fun b => b = rb3) (fun b => b = s5) (fun b => b = x5) (fun _ _ => False) iv rv iv rv := KP.refl
                      refine c_new C ck_6 dv_6 ⟨rfl, rfl⟩ rfl (by decide) dX11_addRule_125 w3_125 w3_126 w1_21 (rom2 hph hph (by decide)) (fun qn1 cln1 lnn1 ivn1 rvn1 hqn1 hcn1 hln1 hin1 hrn1 => ⟨20, (p_in (Phi.new hW hS hqn1 (fun b _ => by rw [hln1]) hrn1) (by omega)), ?_⟩)
                      refine c_g0 C (fun hg1 => ?_)
                      have hxn1 : ∀ b, b ≠ qn1 → lnn1 b = ln b := (fun b _ => by rw [hln1])
                      have W10 := hW.new (ln2 := lnn1) hqn1 (hg1 qn1 (List.mem_append_right _ List.mem_cons_self)) hcn1 hxn1 hin1 hrn1 (fun _ => ⟨(show (-2147483648 : Int) ≤ 0 by decide), (show (0 : Int) ≤ 2147483647 by decide)⟩) (Or.inl rfl) (fun q => by cases q) rfl rfl
                      have xl10 := XT.new hqn1 hcn1 hxn1
                      have X1 := hX0.trans xl10
                      have sk1 := xl10.skl hS
                      have F6 := hF0.new hX0 hqn1 hin1 hrn1
                      have mr6 := MRK.call hmr hW hS xl10 ((fT.refl (ls := [])).new (XT.refl (ln := ln)) hqn1 hin1 hrn1) rfl rfl
                      have tqn1 : ty (L ++ [qn1]) cln1 qn1 206 := ty_new hcn1
                      have kp2 := kp1.new TX.refl hW hqn1 hin1 hrn1
                      have h0qn1 : qn1 ∉ L := fun h => hqn1 ((hX0 qn1 h).1)
                      refine c_dup C dX11_addRule_128 rfl ?_
                      refine c_iconst C dX11_addRule_129 ?_
                      refine c_aload_n (j := 1) (x := a0) C dX11_addRule_130 rfl ?_
                      have ty1 := xl10.ty t_a0
                      have re1 : rvn1 a0 0 = rv a0 0 := (by rw [hrn1]; exact congrFun (up0_a (ne_in t_a0.1 hqn1)) _)
                      rw [rq2] at re1
                      refine c_getr (k := 0) C ck_12 dX11_addRule_131 w2_44 (by decide) ty1 rfl rfl (by decide) rfl re1 ?_
                      refine c_st (st2 := [.ref (sk 2), .int (iI 4), .ref qn1, .ref qn1]) rfl ?_
                      refine c_iconst C dX11_addRule_134 ?_
                      refine c_iload_n (j := 4) C dX11_addRule_135 rfl ?_
                      have ty2 := xl10.ty tsk2
                      have pl1 := Phi.le W10 sk1
                      refine d_callV (As := [.int (iI 0), .int (iI n)]) (rest := [.int (iI 4), .ref qn1, .ref qn1]) C hM (C_slice_65 (a0 := (sk 2)) (i := 0) (j := n) W10 sk1 ty2 ⟨by decide, by decide⟩ (by omega) (by show 0 ≤ (0 : Int) ∧ (0 : Int) ≤ 3000 ∧ 0 ≤ n - (0 : Int) ∧ n - (0 : Int) ≤ 8; omega)) dX11_addRule_136 kV_X11_190 rfl ty2 rfl rfl (by decide) ck_2 rfl (Nat.le_of_ble_eq_true rfl) ⟨(Nat.le_of_ble_eq_true rfl), (Nat.le_of_ble_eq_true rfl)⟩ hph pl1 (show 20 + 24 = 44 from rfl) (by decide) (fun rh10 Lh10 clh10 lnh10 ivh10 rvh10 h10 => ?_)
                      obtain ⟨f10, rfl, xl11, fl10, W11, rgf10, exf10, slnf10⟩ := h10
                      have F7 := F6.call X1 fl10 rfl
                      have mr7 := MRK.call mr6 W10 sk1 xl11 fl10 rfl rfl
                      have tx1 := TX.xt TX.refl xl10
                      have kp3 := kp2.trans tx1 (KP.sl W10 fl10 (by decide) slnf10.2.1)
                      have ty3 := xl10.ty tsk3
                      have ty4 := xl10.ty tsk4
                      have ty5 := xl10.ty tsk5
                      have ty6 := xl10.ty tsk13
                      have ty7 := xl10.ty tsk14
                      have ty8 := xl10.ty tsk15
                      have ty9 := xl10.ty tsk16
                      have ty10 := xl10.ty tsk17
                      have ty11 := xl10.ty tsk22
                      have ty12 := xl10.ty tsk23
                      have ty13 := xl10.ty tob1
                      have ty14 := xl10.ty trb3
                      have ty15 := xl10.ty ts5
                      have ty16 := xl10.ty tx5
                      have X2 := X1.trans xl11
                      have sk2 := xl11.skl sk1
                      refine c_st (st2 := [.ref f10, .int (iI 4), .ref qn1, .ref qn1]) rfl ?_
                      have gf10 : lnh10 f10 = (n - (0 : Int)).toNat := exf10
                      refine c_aload_n (j := 1) (x := a0) C dX11_addRule_139 rfl ?_
                      have ty17 := xl11.ty ty1
                      have re2 : rvh10 a0 0 = rvn1 a0 0 := (fl10.r ty1 rfl 0)
                      rw [re1] at re2
                      refine c_getr (k := 0) C ck_12 dX11_addRule_140 w2_44 (by decide) ty17 rfl rfl (by decide) rfl re2 ?_
                      refine c_st (st2 := [.ref (sk 2), .ref f10, .int (iI 4), .ref qn1, .ref qn1]) rfl ?_
                      refine c_iload_n (j := 4) C dX11_addRule_143 rfl ?_
                      refine c_aload_n (j := 1) (x := a0) C dX11_addRule_144 rfl ?_
                      refine c_getr (k := 0) C ck_12 dX11_addRule_145 w2_44 (by decide) ty17 rfl rfl (by decide) rfl re2 ?_
                      refine c_st (st2 := [.ref (sk 2), .int (iI n), .ref (sk 2), .ref f10, .int (iI 4), .ref qn1, .ref qn1]) rfl ?_
                      have ty18 := xl11.ty ty2
                      have ri87 : 0 ≤ ivh10 (sk 2) 2 ∧ ivh10 (sk 2) 2 ≤ 3000 := W11.int ty18 2
                      have ie51 : ivh10 (sk 2) 2 = ivn1 (sk 2) 2 := fl10.i ty2 rfl 2
                      have ie52 : ivn1 (sk 2) 2 = iv (sk 2) 2 := by rw [hin1]; exact congrFun (up0_a (ne_in tsk2.1 hqn1)) _
                      refine c_get (k := 2) C ck_2 dX11_addRule_148 w1_44 (by decide) ty18 rfl rfl (by decide) rfl ?_
                      have pl2 := Phi.le W11 sk2
                      refine d_callV (As := [.int (iI n), .int (iI (ivh10 (sk 2) 2))]) (rest := [.ref f10, .int (iI 4), .ref qn1, .ref qn1]) C hM (C_slice_66 (a0 := (sk 2)) (i := n) (j := ivh10 (sk 2) 2) W11 sk2 ty18 (by omega) (by omega) (by show 0 ≤ n ∧ n ≤ 3000 ∧ 1 ≤ (ivh10 (sk 2) 2) - n ∧ (ivh10 (sk 2) 2) - n ≤ 4; omega)) dX11_addRule_151 kV_X11_190 rfl ty18 rfl rfl (by decide) ck_2 rfl (Nat.le_of_ble_eq_true rfl) ⟨(Nat.le_of_ble_eq_true rfl), (Nat.le_of_ble_eq_true rfl)⟩ hph pl2 (show 44 + 20 = 64 from rfl) (by decide) (fun rh11 Lh11 clh11 lnh11 ivh11 rvh11 h11 => ?_)
                      obtain ⟨f11, rfl, xl12, fl11, W12, rgf11, exf11, slnf11⟩ := h11
                      have F8 := F7.call X2 fl11 rfl
                      have mr8 := MRK.call mr7 W11 sk2 xl12 fl11 rfl rfl
                      have tx2 := TX.xt tx1 xl11
                      have kp4 := kp3.trans tx2 (KP.sl W11 fl11 (by decide) slnf11.2.1)
                      have ty19 := xl11.ty ty3
                      have ty20 := xl11.ty ty4
                      have ty21 := xl11.ty ty5
                      have ty22 := xl11.ty ty6
                      have ty23 := xl11.ty ty7
                      have ty24 := xl11.ty ty8
                      have ty25 := xl11.ty ty9
                      have ty26 := xl11.ty ty10
                      have ty27 := xl11.ty ty11
                      have ty28 := xl11.ty ty12
                      have ty29 := xl11.ty ty13
                      have ty30 := xl11.ty ty14
                      have ty31 := xl11.ty ty15
                      have ty32 := xl11.ty ty16
                      have ty33 := xl11.ty tqn1
                      have X3 := X2.trans xl12
                      have sk3 := xl12.skl sk2
                      refine c_st (st2 := [.ref f11, .ref f10, .int (iI 4), .ref qn1, .ref qn1]) rfl ?_
                      have gf11 : lnh11 f11 = ((ivh10 (sk 2) 2) - n).toNat := exf11
                      have ty34 := xl12.ty ty33
                      have ty35 := xl12.ty rgf10
                      have pl3 := Phi.le W12 sk3
                      refine c_callI (As := [.int (iI 4), .ref f10, .ref f11]) (rest := [.ref qn1]) C hM (Z_row (a0 := qn1) (i := 4) (a2 := f10) (a3 := f11) W12 sk3 ty34 ty35 rgf11 ⟨by decide, by decide⟩ ) dX11_addRule_154 kI_X11_194 rfl rfl (Nat.le_of_ble_eq_true rfl) ⟨(Nat.le_of_ble_eq_true rfl), (Nat.le_of_ble_eq_true rfl)⟩ (rz1 hph pl3 (by decide)) (fun rh12 Lh12 clh12 lnh12 ivh12 rvh12 h12 => ⟨64, (zk1 (by obtain ⟨_, _, _, e3, flh12x, Wh12x, _⟩ := h12; subst e3; exact Phi.frn sk3 flh12x rfl)), ?_⟩)
                      obtain ⟨rfl, rfl, rfl, rfl, fl12, W13, exf12⟩ := h12
                      have F9 := F8.call X3 fl12 rfl
                      have mr9 := MRK.call mr8 W12 sk3 XT.refl fl12 rfl rfl
                      have tx3 := TX.xt tx2 xl12
                      have kp5 := kp4.call tx3 W12 fl12 rfl
                      refine c_st (st2 := [.ref qn1]) rfl ?_
                      obtain ⟨exf12x, exf12r, exf12p, exf12i, exf12j⟩ := exf12
                      have rn1 : ∀ k, ([1, 2] : List Nat).contains k = false → rvh12 qn1 k = none := fun k hk => (Eq.trans (show rvh12 qn1 k = rvh11 qn1 k from (exf12x k hk)) (Eq.trans (show rvh11 qn1 k = rvh10 qn1 k from (fl11.r ty33 rfl k)) (Eq.trans (show rvh10 qn1 k = rvn1 qn1 k from (fl10.r tqn1 rfl k)) (show rvn1 qn1 k = none from (by rw [hrn1]; exact up0_s)))))
                      refine c_retag (q := qn1) (t := 20) (by rw [ty34.2]; rfl) (fun clr1 hcr1 => ?_)
                      have ty36 := xl12.ty ty17
                      have ty37 := ty_rt ty36 hcr1 (ne_ty ty36 ty34 (by decide))
                      have ty38 := xl12.ty ty18
                      have ty39 := ty_rt ty38 hcr1 (ne_ty ty38 ty34 (by decide))
                      have ty40 := xl12.ty ty19
                      have ty41 := ty_rt ty40 hcr1 (ne_ty ty40 ty34 (by decide))
                      have ty42 := xl12.ty ty20
                      have ty43 := ty_rt ty42 hcr1 (ne_ty ty42 ty34 (by decide))
                      have ty44 := xl12.ty ty21
                      have ty45 := ty_rt ty44 hcr1 (ne_ty ty44 ty34 (by decide))
                      have ty46 := xl12.ty ty22
                      have ty47 := ty_rt ty46 hcr1 (ne_ty ty46 ty34 (by decide))
                      have ty48 := xl12.ty ty23
                      have ty49 := ty_rt ty48 hcr1 (ne_ty ty48 ty34 (by decide))
                      have ty50 := xl12.ty ty24
                      have ty51 := ty_rt ty50 hcr1 (ne_ty ty50 ty34 (by decide))
                      have ty52 := xl12.ty ty25
                      have ty53 := ty_rt ty52 hcr1 (ne_ty ty52 ty34 (by decide))
                      have ty54 := xl12.ty ty26
                      have ty55 := ty_rt ty54 hcr1 (ne_ty ty54 ty34 (by decide))
                      have ty56 := xl12.ty ty27
                      have ty57 := ty_rt ty56 hcr1 (ne_ty ty56 ty34 (by decide))
                      have ty58 := xl12.ty ty28
                      have ty59 := ty_rt ty58 hcr1 (ne_ty ty58 ty34 (by decide))
                      have ty60 := xl12.ty ty29
                      have ty61 := ty_rt ty60 hcr1 (ne_ty ty60 ty34 (by decide))
                      have ty62 := xl12.ty ty30
                      have ty63 := ty_rt ty62 hcr1 (ne_ty ty62 ty34 (by decide))
                      have ty64 := xl12.ty ty31
                      have ty65 := ty_rt ty64 hcr1 (ne_ty ty64 ty34 (by decide))
                      have ty66 := xl12.ty ty32
                      have ty67 := ty_rt ty66 hcr1 (ne_ty ty66 ty34 (by decide))
                      have ty68 := ty_rt ty35 hcr1 (ne_ty ty35 ty34 (by decide))
                      have ty69 := ty_rt rgf11 hcr1 (ne_ty rgf11 ty34 (by decide))
                      have tqr1 : ty Lh11 clr1 qn1 20 := ⟨ty34.1, by rw [hcr1, va_up_self]; rfl⟩
                      have W14 := W13.retag ty34.1 (by rw [ty34.2]; rfl) hcr1 (fun k => by
                            rcases k with _ | _ | _ | _ | k
                            · exact W13.int ty34 0
                            · exact W13.int ty34 1
                            · exact W13.int ty34 2
                            · exact ⟨(by show 0 ≤ ivh12 qn1 3; omega), (by show ivh12 qn1 3 ≤ 5; omega)⟩
                            · exact W13.int ty34 (k + 4)) (fun k => by
                            rcases k with _ | _ | _ | _ | k
                            · rw [rn1 0 (by decide)]; exact rok_none tqr1 rfl
                            · rw [exf12r]; exact rok_some tqr1 ty68 rfl (by decide) rfl
                            · rw [exf12p]; exact rok_some tqr1 ty69 rfl (by decide) rfl
                            · rw [rn1 3 (by decide)]; exact rok_none tqr1 rfl
                            · rw [rn1 (k + 4) (by simp)]; exact rok_none tqr1 rfl) rfl (fun z => by cases z) (fun z => by cases z) rfl
                      have X4 := X3.rt hcr1 h0qn1
                      have sk4 := sk3.rt hcr1 (by rw [ty34.2]; rfl)
                      have mr10 := MRK.rt mr9 W13 sk3 hcr1 (by rw [ty34.2]; rfl)
                      have on1 := fun b hb => xl10.ty (rgf1 b hb)
                      have on2 := fun b hb => xl11.ty (on1 b hb)
                      have on3 := fun b hb => xl12.ty (on2 b hb)
                      have on4 := fun b hb => ty_rt (on3 b hb) hcr1 (ne_ty (on3 b hb) ty34 (by decide))
                      refine c_astore (lv2 := [(5, .ref qn1), (4, .ref ob1), (0, .ref a0), (1, .int (iI i)), (2, .int (iI cnd)), (3, .int (iI n))]) C dX11_addRule_157 (by decide) rfl ?_
                      refine c_aload (j := 0) (x := qn1) C dX11_addRule_159 rfl ?_
                      refine c_iload_n (j := 4) C dX11_addRule_161 rfl ?_
                      refine c_put (z := cnd) (k := 3) C ck_6 dX11_addRule_162 w3_149 (by decide) rfl tqr1 rfl rfl (by decide) rfl (by rfl) (by rfl) (fun iv1 pq1 => ?_)
                      have tx4 := TX.rt tx3 hcr1 ty34 rfl
                      have kp6 := kp5.putiN pq1 (fun hm => hqn1 (hX0 _ hm).1)
                      have W15 := W14.puti pq1 tqr1 (show 0 ≤ cnd ∧ cnd ≤ 5 by omega) rfl
                      have F10 := F9.puti X4 pq1 tqr1 rfl
                      have mr11 := MRK.puti mr10 sk4 pq1 tqr1 (by decide)
                      refine c_aload (j := 1) (x := ob1) C dX11_addRule_165 rfl ?_
                      refine c_aload (j := 0) (x := qn1) C dX11_addRule_167 rfl ?_
                      have ri88 : 0 ≤ iv1 s5 2 ∧ iv1 s5 2 ≤ 200 := W15.int ty65 2
                      have ie53 : iv1 s5 2 = ivh12 s5 2 := by rw [pq1]; exact up2_k (ne_ty ty65 tqr1 (by decide))
                      have ie54 : ivh12 s5 2 = ivh11 s5 2 := fl12.i ty64 rfl 2
                      have ie55 : ivh11 s5 2 = ivh10 s5 2 := fl11.i ty31 rfl 2
                      have ie56 : ivh10 s5 2 = ivn1 s5 2 := fl10.i ty15 rfl 2
                      have ie57 : ivn1 s5 2 = iv s5 2 := by rw [hin1]; exact congrFun (up0_a (ne_in ts5.1 hqn1)) _
                      have ri89 : 0 ≤ iv1 rb3 2 ∧ iv1 rb3 2 ≤ 200 := W15.int ty63 2
                      have ie58 : iv1 rb3 2 = ivh12 rb3 2 := by rw [pq1]; exact up2_k (ne_ty ty63 tqr1 (by decide))
                      have ie59 : ivh12 rb3 2 = ivh11 rb3 2 := fl12.i ty62 rfl 2
                      have ie60 : ivh11 rb3 2 = ivh10 rb3 2 := fl11.i ty30 rfl 2
                      have ie61 : ivh10 rb3 2 = ivn1 rb3 2 := fl10.i ty14 rfl 2
                      have ie62 : ivn1 rb3 2 = iv rb3 2 := by rw [hin1]; exact congrFun (up0_a (ne_in trb3.1 hqn1)) _
                      have ri90 : 0 ≤ iv1 (sk 2) 2 ∧ iv1 (sk 2) 2 ≤ 3000 := W15.int ty39 2
                      have ie63 : iv1 (sk 2) 2 = ivh12 (sk 2) 2 := by rw [pq1]; exact up2_k (ne_ty ty39 tqr1 (by decide))
                      have ie64 : ivh12 (sk 2) 2 = ivh11 (sk 2) 2 := fl12.i ty38 rfl 2
                      have ie65 : ivh11 (sk 2) 2 = ivh10 (sk 2) 2 := fl11.i ty18 rfl 2
                      have ap1a : rvh12 rb3 1 = rv rb3 1 := (show ∀ bb, ty L cl bb 26 → rvh12 bb 1 = rv bb 1 from fun bb tbb => by have tb1 := xl10.ty tbb; have tb2 := xl11.ty tb1; have tb3 := xl12.ty tb2; exact (Eq.trans (show rvh12 bb 1 = rvh11 bb 1 from (fl12.r tb3 rfl 1)) (Eq.trans (show rvh11 bb 1 = rvh10 bb 1 from (fl11.r tb2 rfl 1)) (Eq.trans (show rvh10 bb 1 = rvn1 bb 1 from (fl10.r tb1 rfl 1)) (show rvn1 bb 1 = rv bb 1 from (by rw [hrn1]; exact congrFun (up0_a (ne_in tbb.1 hqn1)) _)))))) rb3 trb3
                      have ap1b : ∀ bb, ty L cl bb 1004 → cl bb = 1000 + 5 * rb3 + 4 → ∀ kk, rvh12 bb kk = rv bb kk := fun bb tbb _ kk => by have tb1 := xl10.ty tbb; have tb2 := xl11.ty tb1; have tb3 := xl12.ty tb2; exact (Eq.trans (show rvh12 bb kk = rvh11 bb kk from (fl12.r tb3 rfl kk)) (Eq.trans (show rvh11 bb kk = rvh10 bb kk from (fl11.r tb2 rfl kk)) (Eq.trans (show rvh10 bb kk = rvn1 bb kk from (fl10.r tb1 rfl kk)) (show rvn1 bb kk = rv bb kk from (by rw [hrn1]; exact congrFun (up0_a (ne_in tbb.1 hqn1)) _)))))
                      have ap1c : rvh12 s5 1 = rv s5 1 := (show ∀ bb, ty L cl bb 12 → rvh12 bb 1 = rv bb 1 from fun bb tbb => by have tb1 := xl10.ty tbb; have tb2 := xl11.ty tb1; have tb3 := xl12.ty tb2; exact (Eq.trans (show rvh12 bb 1 = rvh11 bb 1 from (fl12.r tb3 rfl 1)) (Eq.trans (show rvh11 bb 1 = rvh10 bb 1 from (fl11.r tb2 rfl 1)) (Eq.trans (show rvh10 bb 1 = rvn1 bb 1 from (fl10.r tb1 rfl 1)) (show rvn1 bb 1 = rv bb 1 from (by rw [hrn1]; exact congrFun (up0_a (ne_in tbb.1 hqn1)) _)))))) s5 ts5
                      have ap1d : iv1 s5 2 = iv s5 2 := (show ∀ bb, ty L cl bb 12 → iv1 bb 2 = iv bb 2 from fun bb tbb => by have tb1 := xl10.ty tbb; have tb2 := xl11.ty tb1; have tb3 := xl12.ty tb2; have tb4 := ty_rt tb3 hcr1 (ne_ty tb3 ty34 (by decide)); exact (Eq.trans (show iv1 bb 2 = ivh12 bb 2 from (by rw [pq1]; exact up2_k (ne_ty tb4 tqr1 (by decide)))) (Eq.trans (show ivh12 bb 2 = ivh11 bb 2 from (fl12.i tb3 rfl 2)) (Eq.trans (show ivh11 bb 2 = ivh10 bb 2 from (fl11.i tb2 rfl 2)) (Eq.trans (show ivh10 bb 2 = ivn1 bb 2 from (fl10.i tb1 rfl 2)) (show ivn1 bb 2 = iv bb 2 from (by rw [hin1]; exact congrFun (up0_a (ne_in tbb.1 hqn1)) _))))))) s5 ts5
                      have ap1e : ∀ bq, rv s5 1 = some bq → ∀ kk, iv1 bq kk = iv bq kk := fun bq hbq kk => by
                        rw [hx5] at hbq; cases hbq
                        exact (show ∀ bb, ty L cl bb 42 → iv1 bb kk = iv bb kk from fun bb tbb => by have tb1 := xl10.ty tbb; have tb2 := xl11.ty tb1; have tb3 := xl12.ty tb2; have tb4 := ty_rt tb3 hcr1 (ne_ty tb3 ty34 (by decide)); exact (Eq.trans (show iv1 bb kk = ivh12 bb kk from (by rw [pq1]; exact up2_k (ne_ty tb4 tqr1 (by decide)))) (Eq.trans (show ivh12 bb kk = ivh11 bb kk from (fl12.i tb3 rfl kk)) (Eq.trans (show ivh11 bb kk = ivh10 bb kk from (fl11.i tb2 rfl kk)) (Eq.trans (show ivh10 bb kk = ivn1 bb kk from (fl10.i tb1 rfl kk)) (show ivn1 bb kk = iv bb kk from (by rw [hin1]; exact congrFun (up0_a (ne_in tbb.1 hqn1)) _))))))) x5 tx5
                      have le1 : lnh11 f10 = lnh10 f10 := (xl12 f10 rgf10.1).2.2
                      have ap1f : ∀ tt, CT iv rv (sk 2) tt → iv1 f10 0 = tt 0 := fun tt ht => (show ∀ ss, CT iv rv (sk 2) ss → ∀ kk : Nat, kk < lnh11 f10 → iv1 f10 kk = ss kk from (fun ss hs kk hk => Eq.trans ((show ∀ bb, ty Lh10 clh10 bb 65 → iv1 bb kk = ivh10 bb kk from fun bb tbb => by have tb3 := xl12.ty tbb; have tb4 := ty_rt tb3 hcr1 (ne_ty tb3 ty34 (by decide)); exact (Eq.trans (show iv1 bb kk = ivh12 bb kk from (by rw [pq1]; exact up2_k (ne_ty tb4 tqr1 (by decide)))) (Eq.trans (show ivh12 bb kk = ivh11 bb kk from (fl12.i tb3 rfl kk)) (show ivh11 bb kk = ivh10 bb kk from (fl11.i tbb rfl kk))))) f10 rgf10) (Eq.trans (slnf10.2.2 ss (CT.fr hs hW tsk2 F6 rfl rfl rfl rfl rfl) (by omega) kk (by omega)) (congrArg ss (by omega))))) tt ht 0 (by omega)
                      have re3 : rvn1 ob1 4 = rv ob1 4 := (by rw [hrn1]; exact congrFun (up0_a (ne_in tob1.1 hqn1)) _)
                      rw [rq3] at re3
                      have re4 : rvh10 ob1 4 = rvn1 ob1 4 := (fl10.r ty13 rfl 4)
                      rw [re3] at re4
                      have re5 : rvh11 ob1 4 = rvh10 ob1 4 := (fl11.r ty29 rfl 4)
                      rw [re4] at re5
                      have re6 : rvh12 ob1 4 = rvh11 ob1 4 := (fl12.r ty60 rfl 4)
                      rw [re5] at re6
                      have re7 : rvn1 ob1 5 = rv ob1 5 := (by rw [hrn1]; exact congrFun (up0_a (ne_in tob1.1 hqn1)) _)
                      rw [hs5] at re7
                      have re8 : rvh10 ob1 5 = rvn1 ob1 5 := (fl10.r ty13 rfl 5)
                      rw [re7] at re8
                      have re9 : rvh11 ob1 5 = rvh10 ob1 5 := (fl11.r ty29 rfl 5)
                      rw [re8] at re9
                      have re10 : rvh12 ob1 5 = rvh11 ob1 5 := (fl12.r ty60 rfl 5)
                      rw [re9] at re10
                      have re11 : rvn1 s5 1 = rv s5 1 := (by rw [hrn1]; exact congrFun (up0_a (ne_in ts5.1 hqn1)) _)
                      rw [hx5] at re11
                      have re12 : rvh10 s5 1 = rvn1 s5 1 := (fl10.r ty15 rfl 1)
                      rw [re11] at re12
                      have re13 : rvh11 s5 1 = rvh10 s5 1 := (fl11.r ty31 rfl 1)
                      rw [re12] at re13
                      have re14 : rvh12 s5 1 = rvh11 s5 1 := (fl12.r ty64 rfl 1)
                      rw [re13] at re14
                      have pl4 := Phi.le W15 sk4
                      refine d_callV (As := [.ref qn1]) (rest := []) C hM (C_append (a0 := ob1) (a1 := qn1) W15 sk4 ty61 tqr1  (fun b hb => by rw [re6] at hb; cases hb; omega)) dX11_addRule_169 kV_X11_200 rfl ty61 rfl rfl (by decide) ck_10 rfl (Nat.le_of_ble_eq_true rfl) ⟨(Nat.le_of_ble_eq_true rfl), (Nat.le_of_ble_eq_true rfl)⟩ hph pl4 (show 64 + 1020 = 1084 from rfl) (by decide) (fun rh13 Lh13 clh13 lnh13 ivh13 rvh13 h13 => ?_)
                      obtain ⟨rfl, xl14, fl13, W16, exf13, apxf13, apkf13⟩ := h13
                      have F11 := F10.call X4 fl13 rfl
                      have mr12 := MRK.call mr11 W15 sk4 xl14 fl13 rfl rfl
                      have kp7 := kp6.trans tx4 (apkf13 _ _ _ re6 re10 re14).1
                      have X5 := X4.trans xl14
                      have sk5 := xl14.skl sk4
                      refine c_st (st2 := []) rfl ?_
                      have ty70 := xl14.ty ty63
                      have ri91 : 0 ≤ ivh13 rb3 2 ∧ ivh13 rb3 2 ≤ 200 := W16.int ty70 2
                      have ty71 := xl14.ty ty65
                      have ri92 : 0 ≤ ivh13 s5 2 ∧ ivh13 s5 2 ≤ 200 := W16.int ty71 2
                      have aq9 := (apxf13 _ re6).1
                      obtain ⟨ak1, ak2, ak3, ak4, ak5, yk, ak6, ak7⟩ := apkf13 _ _ _ re6 re10 re14
                      refine c_aload_n (j := 2) (x := a0) C dX11_addRule_172 rfl ?_
                      have ty72 := xl14.ty ty37
                      have re15 : rvn1 a0 4 = rv a0 4 := (by rw [hrn1]; exact congrFun (up0_a (ne_in t_a0.1 hqn1)) _)
                      rw [rq1] at re15
                      have re16 : rvh10 a0 4 = rvn1 a0 4 := (fl10.r ty1 rfl 4)
                      rw [re15] at re16
                      have re17 : rvh11 a0 4 = rvh10 a0 4 := (fl11.r ty17 rfl 4)
                      rw [re16] at re17
                      have re18 : rvh12 a0 4 = rvh11 a0 4 := (fl12.r ty36 rfl 4)
                      rw [re17] at re18
                      have re19 : rvh13 a0 4 = rvh12 a0 4 := (fl13.r ty37 rfl 4)
                      rw [re18] at re19
                      refine c_getr (k := 4) C ck_12 dX11_addRule_173 w2_48 (by decide) ty72 rfl rfl (by decide) rfl re19 ?_
                      refine c_st (st2 := [.ref (sk 13)]) rfl ?_
                      have ty73 := xl14.ty ty39
                      have ty74 := xl14.ty ty41
                      have ty75 := xl14.ty ty43
                      have ty76 := xl14.ty ty45
                      have ty77 := xl14.ty ty47
                      have ty78 := xl14.ty ty49
                      have ty79 := xl14.ty ty51
                      have ty80 := xl14.ty ty53
                      have ty81 := xl14.ty ty55
                      have ty82 := xl14.ty ty57
                      have ty83 := xl14.ty ty59
                      have ty84 := xl14.ty ty61
                      have ty85 := xl14.ty ty67
                      have ty86 := xl14.ty tqr1
                      have ty87 := xl14.ty ty68
                      have ty88 := xl14.ty ty69
                      have pl5 := Phi.le W16 sk5
                      refine c_new C ck_1 dv_1 ⟨rfl, rfl⟩ rfl (by decide) dX11_addRule_176 w3_98 w3_35 w1_18 (rom2 hph pl5 (by decide)) (fun qn2 cln2 lnn2 ivn2 rvn2 hqn2 hcn2 hln2 hin2 hrn2 => ⟨1104, (p_in (Phi.new W16 sk5 hqn2 (fun b _ => by rw [hln2]) hrn2) (by omega)), ?_⟩)
                      refine c_g0 C (fun hg2 => ?_)
                      have hxn2 : ∀ b, b ≠ qn2 → lnn2 b = lnh13 b := (fun b _ => by rw [hln2])
                      have W17 := W16.new (ln2 := lnn2) hqn2 (hg2 qn2 (List.mem_append_right _ List.mem_cons_self)) hcn2 hxn2 hin2 hrn2 (fun _ => ⟨(show (-2147483648 : Int) ≤ 0 by decide), (show (0 : Int) ≤ 2147483647 by decide)⟩) (Or.inl rfl) (fun q => by cases q) rfl rfl
                      have xl15 := XT.new hqn2 hcn2 hxn2
                      have X6 := X5.trans xl15
                      have sk6 := xl15.skl sk5
                      have F12 := F11.new X5 hqn2 hin2 hrn2
                      have mr13 := MRK.call mr12 W16 sk5 xl15 ((fT.refl (ls := [])).new (XT.refl (ln := lnh13)) hqn2 hin2 hrn2) rfl rfl
                      have tqn2 : ty (Lh13 ++ [qn2]) cln2 qn2 201 := ty_new hcn2
                      have tx5 := TX.xt tx4 xl14
                      have kp8 := kp7.new tx5 W16 hqn2 hin2 hrn2
                      have h0qn2 : qn2 ∉ L := fun h => hqn2 ((X5 qn2 h).1)
                      refine c_dup C dX11_addRule_179 rfl ?_
                      refine c_iconst C dX11_addRule_180 ?_
                      refine c_aload (j := 1) (x := ob1) C dX11_addRule_181 rfl ?_
                      refine c_aload (j := 0) (x := qn1) C dX11_addRule_183 rfl ?_
                      refine c_iconst C dX11_addRule_185 ?_
                      have ty89 := xl15.ty ty84
                      have ty90 := xl15.ty ty86
                      have pl6 := Phi.le W17 sk6
                      refine c_callI (As := [.int (iI 2), .ref ob1, .ref qn1, .int (iI 0)]) (rest := [.ref qn2, .ref (sk 13)]) C hM (Z_change (a0 := qn2) (i := 2) (a2 := ob1) (r := (some qn1)) (n := 0) W17 sk6 tqn2 ty89 (fun _ q => by cases q; exact ty90) ⟨by decide, by decide⟩ ⟨by decide, by decide⟩ ) dX11_addRule_186 kI_X11_149 rfl rfl (Nat.le_of_ble_eq_true rfl) ⟨(Nat.le_of_ble_eq_true rfl), (Nat.le_of_ble_eq_true rfl)⟩ (rz1 hph pl6 (by decide)) (fun rh14 Lh14 clh14 lnh14 ivh14 rvh14 h14 => ⟨1104, (zk1 (by obtain ⟨_, _, _, e3, flh14x, Wh14x, _⟩ := h14; subst e3; exact Phi.frn sk6 flh14x rfl)), ?_⟩)
                      obtain ⟨rfl, rfl, rfl, rfl, fl14, W18, exf14⟩ := h14
                      have F13 := F12.call X6 fl14 rfl
                      have mr14 := MRK.call mr13 W17 sk6 XT.refl fl14 rfl rfl
                      have tx6 := TX.xt tx5 xl15
                      have kp9 := kp8.call tx6 W17 fl14 rfl
                      refine c_st (st2 := [.ref qn2, .ref (sk 13)]) rfl ?_
                      obtain ⟨exf14x, exf14r, exf14p, exf14i, exf14j⟩ := exf14
                      have rn2 : ∀ k, ([1, 2] : List Nat).contains k = false → rvh14 qn2 k = none := fun k hk => (Eq.trans (show rvh14 qn2 k = rvn2 qn2 k from (exf14x k hk)) (show rvn2 qn2 k = none from (by rw [hrn2]; exact up0_s)))
                      refine c_retag (q := qn2) (t := 21) (by rw [tqn2.2]; rfl) (fun clr2 hcr2 => ?_)
                      have ty91 := xl15.ty ty72
                      have ty92 := ty_rt ty91 hcr2 (ne_ty ty91 tqn2 (by decide))
                      have ty93 := xl15.ty ty73
                      have ty94 := ty_rt ty93 hcr2 (ne_ty ty93 tqn2 (by decide))
                      have ty95 := xl15.ty ty74
                      have ty96 := ty_rt ty95 hcr2 (ne_ty ty95 tqn2 (by decide))
                      have ty97 := xl15.ty ty75
                      have ty98 := ty_rt ty97 hcr2 (ne_ty ty97 tqn2 (by decide))
                      have ty99 := xl15.ty ty76
                      have ty100 := ty_rt ty99 hcr2 (ne_ty ty99 tqn2 (by decide))
                      have ty101 := xl15.ty ty77
                      have ty102 := ty_rt ty101 hcr2 (ne_ty ty101 tqn2 (by decide))
                      have ty103 := xl15.ty ty78
                      have ty104 := ty_rt ty103 hcr2 (ne_ty ty103 tqn2 (by decide))
                      have ty105 := xl15.ty ty79
                      have ty106 := ty_rt ty105 hcr2 (ne_ty ty105 tqn2 (by decide))
                      have ty107 := xl15.ty ty80
                      have ty108 := ty_rt ty107 hcr2 (ne_ty ty107 tqn2 (by decide))
                      have ty109 := xl15.ty ty81
                      have ty110 := ty_rt ty109 hcr2 (ne_ty ty109 tqn2 (by decide))
                      have ty111 := xl15.ty ty82
                      have ty112 := ty_rt ty111 hcr2 (ne_ty ty111 tqn2 (by decide))
                      have ty113 := xl15.ty ty83
                      have ty114 := ty_rt ty113 hcr2 (ne_ty ty113 tqn2 (by decide))
                      have ty115 := ty_rt ty89 hcr2 (ne_ty ty89 tqn2 (by decide))
                      have ty116 := xl15.ty ty70
                      have ty117 := ty_rt ty116 hcr2 (ne_ty ty116 tqn2 (by decide))
                      have ty118 := xl15.ty ty71
                      have ty119 := ty_rt ty118 hcr2 (ne_ty ty118 tqn2 (by decide))
                      have ty120 := xl15.ty ty85
                      have ty121 := ty_rt ty120 hcr2 (ne_ty ty120 tqn2 (by decide))
                      have ty122 := ty_rt ty90 hcr2 (ne_ty ty90 tqn2 (by decide))
                      have ty123 := xl15.ty ty87
                      have ty124 := ty_rt ty123 hcr2 (ne_ty ty123 tqn2 (by decide))
                      have ty125 := xl15.ty ty88
                      have ty126 := ty_rt ty125 hcr2 (ne_ty ty125 tqn2 (by decide))
                      have tqr2 : ty (Lh13 ++ [qn2]) clr2 qn2 21 := ⟨tqn2.1, by rw [hcr2, va_up_self]; rfl⟩
                      have W19 := W18.retag tqn2.1 (by rw [tqn2.2]; rfl) hcr2 (fun k => by
                            rcases k with _ | _ | _ | _ | k
                            · exact W18.int tqn2 0
                            · exact W18.int tqn2 1
                            · exact W18.int tqn2 2
                            · exact ⟨(by show 0 ≤ ivh14 qn2 3; omega), (by show ivh14 qn2 3 ≤ 5; omega)⟩
                            · exact W18.int tqn2 (k + 4)) (fun k => by
                            rcases k with _ | _ | _ | _ | k
                            · rw [rn2 0 (by decide)]; exact rok_none tqr2 rfl
                            · rw [exf14r]; exact rok_some tqr2 ty115 rfl (by decide) rfl
                            · rw [exf14p]; exact rok_ch tqr2 (fun _ q => by cases q; exact ty122)
                            · rw [rn2 3 (by decide)]; exact rok_none tqr2 rfl
                            · rw [rn2 (k + 4) (by simp)]; exact rok_none tqr2 rfl) rfl (fun z => by cases z) (fun z => by cases z) rfl
                      have X7 := X6.rt hcr2 h0qn2
                      have sk7 := sk6.rt hcr2 (by rw [tqn2.2]; rfl)
                      have mr15 := MRK.rt mr14 W18 sk6 hcr2 (by rw [tqn2.2]; rfl)
                      have on5 := fun b hb => xl14.ty (on4 b hb)
                      have on6 := fun b hb => xl15.ty (on5 b hb)
                      have on7 := fun b hb => ty_rt (on6 b hb) hcr2 (ne_ty (on6 b hb) tqn2 (by decide))
                      have ce1 : ∀ i : Nat, (i : Int) < iv (sk 23) 2 → el rvh14 (sk 23) i = el rv (sk 23) i := (fun i hi => el_ch hW (tysk23 hS) rfl rfl ((show ∀ bb, ty L cl bb 23 → rvh14 bb 1 = rv bb 1 from fun bb tbb => by have tb1 := xl10.ty tbb; have tb2 := xl11.ty tb1; have tb3 := xl12.ty tb2; have tb4 := ty_rt tb3 hcr1 (ne_ty tb3 ty34 (by decide)); have tb5 := xl14.ty tb4; have tb6 := xl15.ty tb5; exact (Eq.trans (show rvh14 bb 1 = rvn2 bb 1 from (fl14.r tb6 rfl 1)) (Eq.trans (show rvn2 bb 1 = rvh13 bb 1 from (by rw [hrn2]; exact congrFun (up0_a (ne_in tb5.1 hqn2)) _)) (Eq.trans (show rvh13 bb 1 = rvh12 bb 1 from (fl13.r tb4 rfl 1)) (Eq.trans (show rvh12 bb 1 = rvh11 bb 1 from (fl12.r tb3 rfl 1)) (Eq.trans (show rvh11 bb 1 = rvh10 bb 1 from (fl11.r tb2 rfl 1)) (Eq.trans (show rvh10 bb 1 = rvn1 bb 1 from (fl10.r tb1 rfl 1)) (show rvn1 bb 1 = rv bb 1 from (by rw [hrn1]; exact congrFun (up0_a (ne_in tbb.1 hqn1)) _))))))))) (sk 23) (tysk23 hS)) (fun bb tbb kk => by have tb1 := xl10.ty tbb; have tb2 := xl11.ty tb1; have tb3 := xl12.ty tb2; have tb4 := ty_rt tb3 hcr1 (ne_ty tb3 ty34 (by decide)); have tb5 := xl14.ty tb4; have tb6 := xl15.ty tb5; exact (Eq.trans (show rvh14 bb kk = rvn2 bb kk from (fl14.r tb6 rfl kk)) (Eq.trans (show rvn2 bb kk = rvh13 bb kk from (by rw [hrn2]; exact congrFun (up0_a (ne_in tb5.1 hqn2)) _)) (Eq.trans (show rvh13 bb kk = rvh12 bb kk from (fl13.r tb4 rfl kk)) (Eq.trans (show rvh12 bb kk = rvh11 bb kk from (fl12.r tb3 rfl kk)) (Eq.trans (show rvh11 bb kk = rvh10 bb kk from (fl11.r tb2 rfl kk)) (Eq.trans (show rvh10 bb kk = rvn1 bb kk from (fl10.r tb1 rfl kk)) (show rvn1 bb kk = rv bb kk from (by rw [hrn1]; exact congrFun (up0_a (ne_in tbb.1 hqn1)) _))))))))) hi)
                      have ri93 : 0 ≤ ivh14 (sk 23) 2 ∧ ivh14 (sk 23) 2 ≤ 512 := W19.int ty114 2
                      have ie68 : ivh14 (sk 23) 2 = ivn2 (sk 23) 2 := fl14.i ty113 rfl 2
                      have ie69 : ivn2 (sk 23) 2 = ivh13 (sk 23) 2 := by rw [hin2]; exact congrFun (up0_a (ne_in ty83.1 hqn2)) _
                      have ie70 : ivh13 (sk 23) 2 = iv1 (sk 23) 2 := fl13.i ty59 rfl 2
                      have ie71 : iv1 (sk 23) 2 = ivh12 (sk 23) 2 := by rw [pq1]; exact up2_k (ne_ty ty59 tqr1 (by decide))
                      have ie72 : ivh12 (sk 23) 2 = ivh11 (sk 23) 2 := fl12.i ty58 rfl 2
                      have ie73 : ivh11 (sk 23) 2 = ivh10 (sk 23) 2 := fl11.i ty28 rfl 2
                      have ie74 : ivh10 (sk 23) 2 = ivn1 (sk 23) 2 := fl10.i ty12 rfl 2
                      have ie75 : ivn1 (sk 23) 2 = iv (sk 23) 2 := by rw [hin1]; exact congrFun (up0_a (ne_in tsk23.1 hqn1)) _
                      have pl7 := Phi.le W19 sk7
                      refine d_callV (As := [.ref qn2]) (rest := []) C hM (C_remember (a0 := (sk 13)) (a1 := qn2) W19 sk7 ty102 tqr2  (by show ivh14 (sk 23) 2 < 512; omega)) dX11_addRule_189 kV_X11_152 rfl ty102 rfl rfl (by decide) ck_11 rfl (Nat.le_of_ble_eq_true rfl) ⟨(Nat.le_of_ble_eq_true rfl), (Nat.le_of_ble_eq_true rfl)⟩ hph pl7 (show 1104 + 1216 = 2320 from rfl) (by decide) (fun rh15 Lh15 clh15 lnh15 ivh15 rvh15 h15 => ?_)
                      obtain ⟨rfl, xl17, fl15, W20, exf15, rmef15⟩ := h15
                      have F14 := F13.call X7 fl15 rfl
                      have mr16 := MRK.call mr15 W19 sk7 xl17 fl15 rfl rfl
                      have tx7 := TX.rt tx6 hcr2 tqn2 rfl
                      have kp10 := kp9.call tx7 W19 fl15 rfl
                      have X8 := X7.trans xl17
                      have sk8 := xl17.skl sk7
                      refine c_st (st2 := []) rfl ?_
                      have ty127 := xl17.ty ty114
                      have ri94 : 0 ≤ ivh15 (sk 23) 2 ∧ ivh15 (sk 23) 2 ≤ 512 := W20.int ty127 2
                      have gf15 : ivh15 (sk 23) 2 = ivh14 (sk 23) 2 + 1 := exf15
                      refine c_aload_n (j := 2) (x := a0) C dX11_addRule_192 rfl ?_
                      refine c_aload (j := 1) (x := ob1) C dX11_addRule_193 rfl ?_
                      have ty128 := xl17.ty ty115
                      have re20 : rvh13 ob1 4 = rvh12 ob1 4 := (fl13.r ty61 rfl 4)
                      rw [re6] at re20
                      have re21 : rvn2 ob1 4 = rvh13 ob1 4 := (by rw [hrn2]; exact congrFun (up0_a (ne_in ty84.1 hqn2)) _)
                      rw [re20] at re21
                      have re22 : rvh14 ob1 4 = rvn2 ob1 4 := (fl14.r ty89 rfl 4)
                      rw [re21] at re22
                      have re23 : rvh15 ob1 4 = rvh14 ob1 4 := (fl15.r ty115 rfl 4)
                      rw [re22] at re23
                      refine c_getr (k := 4) C ck_10 dX11_addRule_195 w2_188 (by decide) ty128 rfl rfl (by decide) rfl re23 ?_
                      refine c_st (st2 := [.ref rb3, .ref a0]) rfl ?_
                      have ty129 := xl17.ty ty117
                      have ri95 : 0 ≤ ivh15 rb3 2 ∧ ivh15 rb3 2 ≤ 200 := W20.int ty129 2
                      have ie77 : ivh15 rb3 2 = ivh14 rb3 2 := fl15.i ty117 rfl 2
                      have ie78 : ivh14 rb3 2 = ivn2 rb3 2 := fl14.i ty116 rfl 2
                      have ie79 : ivn2 rb3 2 = ivh13 rb3 2 := by rw [hin2]; exact congrFun (up0_a (ne_in ty70.1 hqn2)) _
                      have pl8 := Phi.le W20 sk8
                      refine d_callV (As := []) (rest := [.ref a0]) C hM (C_size_26 (a0 := rb3) W20 sk8 ty129  ) dX11_addRule_198 kV_X11_183 rfl ty129 rfl rfl (by decide) ck_0 rfl (Nat.le_of_ble_eq_true rfl) ⟨(Nat.le_of_ble_eq_true rfl), (Nat.le_of_ble_eq_true rfl)⟩ hph pl8 (show 2320 + 0 = 2320 from rfl) (by decide) (fun rh16 Lh16 clh16 lnh16 ivh16 rvh16 h16 => ?_)
                      obtain ⟨f16, rfl, rfl, rfl, rfl, rfl, rfl, rgf16, exf16⟩ := h16
                      refine c_st (st2 := [.int (iI f16), .ref a0]) rfl ?_
                      have gf16 : f16 = ivh15 rb3 2 := exf16
                      refine c_iconst C dX11_addRule_201 ?_
                      refine c_isub C dX11_addRule_202 ?_
                      have ty130 := xl17.ty ty92
                      refine d_callV (As := [.int (iI (f16 - 1))]) (rest := []) C hM (C_done (a0 := a0) (x := f16 - 1) W20 sk8 ty130 (by omega) ) dX11_addRule_203 kV_X11_109 rfl ty130 rfl rfl (by decide) ck_12 rfl (Nat.le_of_ble_eq_true rfl) ⟨(Nat.le_of_ble_eq_true rfl), (Nat.le_of_ble_eq_true rfl)⟩ hph pl8 (show 2320 + 0 = 2320 from rfl) (by decide) (fun rh17 Lh17 clh17 lnh17 ivh17 rvh17 h17 => ?_)
                      obtain ⟨f17, rfl, rfl, rfl, rfl, rfl, fl17, W22, rgf17, exf17, kp11f17, kp12f17, kp13f17, kp14f17, kp15f17, kp16f17⟩ := h17
                      have ri96 : 1 ≤ ivh15 a0 11 ∧ ivh15 a0 11 ≤ 100 := W20.int ty130 11
                      have ie80 : ivh15 a0 11 = ivh14 a0 11 := fl15.i ty92 rfl 11
                      have ie81 : ivh14 a0 11 = ivn2 a0 11 := fl14.i ty91 rfl 11
                      have ie82 : ivn2 a0 11 = ivh13 a0 11 := by rw [hin2]; exact congrFun (up0_a (ne_in ty72.1 hqn2)) _
                      have ie83 : ivh13 a0 11 = iv1 a0 11 := fl13.i ty37 rfl 11
                      have ie84 : iv1 a0 11 = ivh12 a0 11 := by rw [pq1]; exact up2_k (ne_ty ty37 tqr1 (by decide))
                      have ie85 : ivh12 a0 11 = ivh11 a0 11 := fl12.i ty36 rfl 11
                      have ie86 : ivh11 a0 11 = ivh10 a0 11 := fl11.i ty17 rfl 11
                      have ie87 : ivh10 a0 11 = ivn1 a0 11 := fl10.i ty1 rfl 11
                      have ie88 : ivn1 a0 11 = iv a0 11 := by rw [hin1]; exact congrFun (up0_a (ne_in t_a0.1 hqn1)) _
                      have ri97 : 1 ≤ ivh15 a0 12 ∧ ivh15 a0 12 ≤ 50 := W20.int ty130 12
                      have ie89 : ivh15 a0 12 = ivh14 a0 12 := fl15.i ty92 rfl 12
                      have ie90 : ivh14 a0 12 = ivn2 a0 12 := fl14.i ty91 rfl 12
                      have ie91 : ivn2 a0 12 = ivh13 a0 12 := by rw [hin2]; exact congrFun (up0_a (ne_in ty72.1 hqn2)) _
                      have ie92 : ivh13 a0 12 = iv1 a0 12 := fl13.i ty37 rfl 12
                      have ie93 : iv1 a0 12 = ivh12 a0 12 := by rw [pq1]; exact up2_k (ne_ty ty37 tqr1 (by decide))
                      have ie94 : ivh12 a0 12 = ivh11 a0 12 := fl12.i ty36 rfl 12
                      have ie95 : ivh11 a0 12 = ivh10 a0 12 := fl11.i ty17 rfl 12
                      have ie96 : ivh10 a0 12 = ivn1 a0 12 := fl10.i ty1 rfl 12
                      have ie97 : ivn1 a0 12 = iv a0 12 := by rw [hin1]; exact congrFun (up0_a (ne_in t_a0.1 hqn1)) _
                      have ri98 : (-2147483648) ≤ ivh15 a0 13 ∧ ivh15 a0 13 ≤ 2147483647 := W20.int ty130 13
                      have ie98 : ivh15 a0 13 = ivh14 a0 13 := fl15.i ty92 rfl 13
                      have ie99 : ivh14 a0 13 = ivn2 a0 13 := fl14.i ty91 rfl 13
                      have ie100 : ivn2 a0 13 = ivh13 a0 13 := by rw [hin2]; exact congrFun (up0_a (ne_in ty72.1 hqn2)) _
                      have ie101 : ivh13 a0 13 = iv1 a0 13 := fl13.i ty37 rfl 13
                      have ie102 : iv1 a0 13 = ivh12 a0 13 := by rw [pq1]; exact up2_k (ne_ty ty37 tqr1 (by decide))
                      have ie103 : ivh12 a0 13 = ivh11 a0 13 := fl12.i ty36 rfl 13
                      have ie104 : ivh11 a0 13 = ivh10 a0 13 := fl11.i ty17 rfl 13
                      have ie105 : ivh10 a0 13 = ivn1 a0 13 := fl10.i ty1 rfl 13
                      have ie106 : ivn1 a0 13 = iv a0 13 := by rw [hin1]; exact congrFun (up0_a (ne_in t_a0.1 hqn1)) _
                      have ri99 : (-2147483648) ≤ ivh15 a0 14 ∧ ivh15 a0 14 ≤ 2147483647 := W20.int ty130 14
                      have ie107 : ivh15 a0 14 = ivh14 a0 14 := fl15.i ty92 rfl 14
                      have ie108 : ivh14 a0 14 = ivn2 a0 14 := fl14.i ty91 rfl 14
                      have ie109 : ivn2 a0 14 = ivh13 a0 14 := by rw [hin2]; exact congrFun (up0_a (ne_in ty72.1 hqn2)) _
                      have ie110 : ivh13 a0 14 = iv1 a0 14 := fl13.i ty37 rfl 14
                      have ie111 : iv1 a0 14 = ivh12 a0 14 := by rw [pq1]; exact up2_k (ne_ty ty37 tqr1 (by decide))
                      have ie112 : ivh12 a0 14 = ivh11 a0 14 := fl12.i ty36 rfl 14
                      have ie113 : ivh11 a0 14 = ivh10 a0 14 := fl11.i ty17 rfl 14
                      have ie114 : ivh10 a0 14 = ivn1 a0 14 := fl10.i ty1 rfl 14
                      have ie115 : ivn1 a0 14 = iv a0 14 := by rw [hin1]; exact congrFun (up0_a (ne_in t_a0.1 hqn1)) _
                      have ri100 : (-2147483648) ≤ ivh15 a0 15 ∧ ivh15 a0 15 ≤ 2147483647 := W20.int ty130 15
                      have ie116 : ivh15 a0 15 = ivh14 a0 15 := fl15.i ty92 rfl 15
                      have ie117 : ivh14 a0 15 = ivn2 a0 15 := fl14.i ty91 rfl 15
                      have ie118 : ivn2 a0 15 = ivh13 a0 15 := by rw [hin2]; exact congrFun (up0_a (ne_in ty72.1 hqn2)) _
                      have ie119 : ivh13 a0 15 = iv1 a0 15 := fl13.i ty37 rfl 15
                      have ie120 : iv1 a0 15 = ivh12 a0 15 := by rw [pq1]; exact up2_k (ne_ty ty37 tqr1 (by decide))
                      have ie121 : ivh12 a0 15 = ivh11 a0 15 := fl12.i ty36 rfl 15
                      have ie122 : ivh11 a0 15 = ivh10 a0 15 := fl11.i ty17 rfl 15
                      have ie123 : ivh10 a0 15 = ivn1 a0 15 := fl10.i ty1 rfl 15
                      have ie124 : ivn1 a0 15 = iv a0 15 := by rw [hin1]; exact congrFun (up0_a (ne_in t_a0.1 hqn1)) _
                      have ri101 : (-2147483648) ≤ ivh15 a0 16 ∧ ivh15 a0 16 ≤ 2147483647 := W20.int ty130 16
                      have ie125 : ivh15 a0 16 = ivh14 a0 16 := fl15.i ty92 rfl 16
                      have ie126 : ivh14 a0 16 = ivn2 a0 16 := fl14.i ty91 rfl 16
                      have ie127 : ivn2 a0 16 = ivh13 a0 16 := by rw [hin2]; exact congrFun (up0_a (ne_in ty72.1 hqn2)) _
                      have ie128 : ivh13 a0 16 = iv1 a0 16 := fl13.i ty37 rfl 16
                      have ie129 : iv1 a0 16 = ivh12 a0 16 := by rw [pq1]; exact up2_k (ne_ty ty37 tqr1 (by decide))
                      have ie130 : ivh12 a0 16 = ivh11 a0 16 := fl12.i ty36 rfl 16
                      have ie131 : ivh11 a0 16 = ivh10 a0 16 := fl11.i ty17 rfl 16
                      have ie132 : ivh10 a0 16 = ivn1 a0 16 := fl10.i ty1 rfl 16
                      have ie133 : ivn1 a0 16 = iv a0 16 := by rw [hin1]; exact congrFun (up0_a (ne_in t_a0.1 hqn1)) _
                      have F15 := F14.call X8 fl17 rfl
                      have mr17 := MRK.call mr16 W20 sk8 XT.refl fl17 rfl rfl
                      have tx8 := TX.xt tx7 xl17
                      have kp11 := kp10.call tx8 W20 fl17 rfl
                      refine c_st (st2 := [.int (iI f17)]) rfl ?_
                      have gk11f17 : ivh17 a0 11 = ivh15 a0 11 := kp11f17
                      have gk12f17 : ivh17 a0 12 = ivh15 a0 12 := kp12f17
                      have gk13f17 : ivh17 a0 13 = ivh15 a0 13 := kp13f17
                      have gk14f17 : ivh17 a0 14 = ivh15 a0 14 := kp14f17
                      have gk15f17 : ivh17 a0 15 = ivh15 a0 15 := kp15f17
                      have gk16f17 : ivh17 a0 16 = ivh15 a0 16 := kp16f17
                      have gf17 : f17 = (f16 - 1) := exf17
                      have ri102 : 1 ≤ ivh17 a0 11 ∧ ivh17 a0 11 ≤ 100 := W22.int ty130 11
                      have ri103 : 1 ≤ ivh17 a0 12 ∧ ivh17 a0 12 ≤ 50 := W22.int ty130 12
                      have ri104 : (-2147483648) ≤ ivh17 a0 13 ∧ ivh17 a0 13 ≤ 2147483647 := W22.int ty130 13
                      have ri105 : (-2147483648) ≤ ivh17 a0 14 ∧ ivh17 a0 14 ≤ 2147483647 := W22.int ty130 14
                      have ri106 : (-2147483648) ≤ ivh17 a0 15 ∧ ivh17 a0 15 ≤ 2147483647 := W22.int ty130 15
                      have ri107 : (-2147483648) ≤ ivh17 a0 16 ∧ ivh17 a0 16 ≤ 2147483647 := W22.int ty130 16
                      have ri108 : 0 ≤ ivh17 (sk 23) 2 ∧ ivh17 (sk 23) 2 ≤ 512 := W22.int ty127 2
                      have ie140 : ivh17 (sk 23) 2 = ivh15 (sk 23) 2 := fl17.i ty127 rfl 2
                      have ty131 := xl17.ty ty112
                      have ri109 : 0 ≤ ivh17 (sk 22) 2 ∧ ivh17 (sk 22) 2 ≤ 30 := W22.int ty131 2
                      have ie141 : ivh17 (sk 22) 2 = ivh15 (sk 22) 2 := fl17.i ty131 rfl 2
                      have ie142 : ivh15 (sk 22) 2 = ivh14 (sk 22) 2 := fl15.i ty112 rfl 2
                      have ie143 : ivh14 (sk 22) 2 = ivn2 (sk 22) 2 := fl14.i ty111 rfl 2
                      have ie144 : ivn2 (sk 22) 2 = ivh13 (sk 22) 2 := by rw [hin2]; exact congrFun (up0_a (ne_in ty82.1 hqn2)) _
                      have ie145 : ivh13 (sk 22) 2 = iv1 (sk 22) 2 := fl13.i ty57 rfl 2
                      have ie146 : iv1 (sk 22) 2 = ivh12 (sk 22) 2 := by rw [pq1]; exact up2_k (ne_ty ty57 tqr1 (by decide))
                      have ie147 : ivh12 (sk 22) 2 = ivh11 (sk 22) 2 := fl12.i ty56 rfl 2
                      have ie148 : ivh11 (sk 22) 2 = ivh10 (sk 22) 2 := fl11.i ty27 rfl 2
                      have ie149 : ivh10 (sk 22) 2 = ivn1 (sk 22) 2 := fl10.i ty11 rfl 2
                      have ie150 : ivn1 (sk 22) 2 = iv (sk 22) 2 := by rw [hin1]; exact congrFun (up0_a (ne_in tsk22.1 hqn1)) _
                      have ri110 : 0 ≤ ivh17 rb3 2 ∧ ivh17 rb3 2 ≤ 200 := W22.int ty129 2
                      have ie151 : ivh17 rb3 2 = ivh15 rb3 2 := fl17.i ty129 rfl 2
                      have ty132 := xl17.ty tqr2
                      have ri111 : (-2147483648) ≤ ivh17 qn2 0 ∧ ivh17 qn2 0 ≤ 2147483647 := W22.int ty132 0
                      have ie152 : ivh17 qn2 0 = ivh15 qn2 0 := fl17.i ty132 rfl 0
                      have ie153 : ivh15 qn2 0 = ivh14 qn2 0 := fl15.i tqr2 rfl 0
                      have re24 : rvh15 qn2 1 = rvh14 qn2 1 := (fl15.r tqr2 rfl 1)
                      rw [exf14r] at re24
                      have ty133 := xl17.ty ty119
                      have ri112 : 0 ≤ ivh17 s5 2 ∧ ivh17 s5 2 ≤ 200 := W22.int ty133 2
                      have ie154 : ivh17 s5 2 = ivh15 s5 2 := fl17.i ty133 rfl 2
                      have ie155 : ivh15 s5 2 = ivh14 s5 2 := fl15.i ty119 rfl 2
                      have ie156 : ivh14 s5 2 = ivn2 s5 2 := fl14.i ty118 rfl 2
                      have ie157 : ivn2 s5 2 = ivh13 s5 2 := by rw [hin2]; exact congrFun (up0_a (ne_in ty71.1 hqn2)) _
                      have ty134 := xl17.ty ty122
                      have ri113 : (-2147483648) ≤ ivh17 qn1 0 ∧ ivh17 qn1 0 ≤ 2147483647 := W22.int ty134 0
                      have ie158 : ivh17 qn1 0 = ivh15 qn1 0 := fl17.i ty134 rfl 0
                      have ie159 : ivh15 qn1 0 = ivh14 qn1 0 := fl15.i ty122 rfl 0
                      have ie160 : ivh14 qn1 0 = ivn2 qn1 0 := fl14.i ty90 rfl 0
                      have ie161 : ivn2 qn1 0 = ivh13 qn1 0 := by rw [hin2]; exact congrFun (up0_a (ne_in ty86.1 hqn2)) _
                      have ie162 : ivh13 qn1 0 = iv1 qn1 0 := fl13.i tqr1 rfl 0
                      have ie163 : iv1 qn1 0 = ivh12 qn1 0 := by rw [pq1]; exact up2_j (by decide)
                      have ri114 : 0 ≤ ivh17 qn1 3 ∧ ivh17 qn1 3 ≤ 5 := W22.int ty134 3
                      have ie164 : ivh17 qn1 3 = ivh15 qn1 3 := fl17.i ty134 rfl 3
                      have ie165 : ivh15 qn1 3 = ivh14 qn1 3 := fl15.i ty122 rfl 3
                      have ie166 : ivh14 qn1 3 = ivn2 qn1 3 := fl14.i ty90 rfl 3
                      have ie167 : ivn2 qn1 3 = ivh13 qn1 3 := by rw [hin2]; exact congrFun (up0_a (ne_in ty86.1 hqn2)) _
                      have ie168 : ivh13 qn1 3 = iv1 qn1 3 := fl13.i tqr1 rfl 3
                      have ie169 : iv1 qn1 3 = cnd := by rw [pq1]; exact up2_s
                      have ty135 := xl17.ty ty94
                      have ri115 : 0 ≤ ivh17 (sk 2) 2 ∧ ivh17 (sk 2) 2 ≤ 3000 := W22.int ty135 2
                      have ie170 : ivh17 (sk 2) 2 = ivh15 (sk 2) 2 := fl17.i ty135 rfl 2
                      have ie171 : ivh15 (sk 2) 2 = ivh14 (sk 2) 2 := fl15.i ty94 rfl 2
                      have ie172 : ivh14 (sk 2) 2 = ivn2 (sk 2) 2 := fl14.i ty93 rfl 2
                      have ie173 : ivn2 (sk 2) 2 = ivh13 (sk 2) 2 := by rw [hin2]; exact congrFun (up0_a (ne_in ty73.1 hqn2)) _
                      have ie174 : ivh13 (sk 2) 2 = iv1 (sk 2) 2 := fl13.i ty39 rfl 2
                      have ty136 := xl17.ty ty124
                      have le2 : lnh13 f10 = lnh11 f10 := (xl14 f10 ty68.1).2.2
                      have le3 : lnn2 f10 = lnh13 f10 := (xl15 f10 ty87.1).2.2
                      have le4 : lnh15 f10 = lnn2 f10 := (xl17 f10 ty124.1).2.2
                      have ty137 := xl17.ty ty126
                      have le5 : lnh13 f11 = lnh11 f11 := (xl14 f11 ty69.1).2.2
                      have le6 : lnn2 f11 = lnh13 f11 := (xl15 f11 ty88.1).2.2
                      have le7 : lnh15 f11 = lnn2 f11 := (xl17 f11 ty126.1).2.2
                      have re25 : rvh13 qn1 1 = rvh12 qn1 1 := (fl13.r tqr1 rfl 1)
                      rw [exf12r] at re25
                      have re26 : rvn2 qn1 1 = rvh13 qn1 1 := (by rw [hrn2]; exact congrFun (up0_a (ne_in ty86.1 hqn2)) _)
                      rw [re25] at re26
                      have re27 : rvh14 qn1 1 = rvn2 qn1 1 := (fl14.r ty90 rfl 1)
                      rw [re26] at re27
                      have re28 : rvh15 qn1 1 = rvh14 qn1 1 := (fl15.r ty122 rfl 1)
                      rw [re27] at re28
                      have re29 : rvh13 qn1 2 = rvh12 qn1 2 := (fl13.r tqr1 rfl 2)
                      rw [exf12p] at re29
                      have re30 : rvn2 qn1 2 = rvh13 qn1 2 := (by rw [hrn2]; exact congrFun (up0_a (ne_in ty86.1 hqn2)) _)
                      rw [re29] at re30
                      have re31 : rvh14 qn1 2 = rvn2 qn1 2 := (fl14.r ty90 rfl 2)
                      rw [re30] at re31
                      have re32 : rvh15 qn1 2 = rvh14 qn1 2 := (fl15.r ty122 rfl 2)
                      rw [re31] at re32
                      exact c_iret C dX11_addRule_206 rfl (by decide) (rom0 hph pl8 (by decide)) ⟨f17, rfl, X8, F15, W22, ⟨by omega, by omega⟩, ⟨(by omega), mr17⟩, (by omega), (by omega), (by omega), (by omega), (by omega), (by omega), (Or.inr ⟨ob1, rb3, akob1.2, rq3, by omega, (fun ss hs hd => by
                          have e1 := gf5 ss hs (by omega) (by omega)
                          have e2 := irxf7 ss hs (by omega) hd
                          have e3 := e2.mp (by omega)
                          exact ⟨⟨by omega, by omega, by omega, by omega, by omega, by omega, by omega, by omega⟩, e3.2, fun x hx => e1.mp (by omega) x (by omega) hx⟩), by omega, ⟨(fun i hi => el_fr hW (tysk22 hS) rfl rfl F15 rfl rfl hi), TSF.of hW hS (fun bb tbb hbb => by have tb1 := xl10.ty tbb; have tb2 := xl11.ty tb1; have tb3 := xl12.ty tb2; have tb4 := ty_rt tb3 hcr1 (ne_ty tb3 ty34 (by decide)); have tb5 := xl14.ty tb4; have tb6 := xl15.ty tb5; have tb7 := ty_rt tb6 hcr2 (ne_ty tb6 tqn2 (by decide)); have tb8 := xl17.ty tb7; exact (Eq.trans (show ivh17 bb 7 = ivh15 bb 7 from (fl17.i tb8 rfl 7)) (Eq.trans (show ivh15 bb 7 = ivh14 bb 7 from (fl15.i tb7 rfl 7)) (Eq.trans (show ivh14 bb 7 = ivn2 bb 7 from (fl14.i tb6 rfl 7)) (Eq.trans (show ivn2 bb 7 = ivh13 bb 7 from (by rw [hin2]; exact congrFun (up0_a (ne_in tb5.1 hqn2)) _)) (Eq.trans (show ivh13 bb 7 = iv1 bb 7 from (fl13.i tb4 rfl 7)) (Eq.trans (show iv1 bb 7 = ivh12 bb 7 from (by rw [pq1]; exact up2_k (ne_ty tb4 tqr1 (by decide)))) (Eq.trans (show ivh12 bb 7 = ivh11 bb 7 from (fl12.i tb3 rfl 7)) (Eq.trans (show ivh11 bb 7 = ivh10 bb 7 from (fl11.i tb2 rfl 7)) (Eq.trans (show ivh10 bb 7 = ivn1 bb 7 from (fl10.i tb1 rfl 7)) (show ivn1 bb 7 = iv bb 7 from (by rw [hin1]; exact congrFun (up0_a (ne_in tbb.1 hqn1)) _)))))))))))) (fun bb tbb => by have tb1 := xl10.ty tbb; have tb2 := xl11.ty tb1; have tb3 := xl12.ty tb2; have tb4 := ty_rt tb3 hcr1 (ne_ty tb3 ty34 (by decide)); have tb5 := xl14.ty tb4; have tb6 := xl15.ty tb5; have tb7 := ty_rt tb6 hcr2 (ne_ty tb6 tqn2 (by decide)); have tb8 := xl17.ty tb7; exact (Eq.trans (show ivh17 bb 0 = ivh15 bb 0 from (fl17.i tb8 rfl 0)) (Eq.trans (show ivh15 bb 0 = ivh14 bb 0 from (fl15.i tb7 rfl 0)) (Eq.trans (show ivh14 bb 0 = ivn2 bb 0 from (fl14.i tb6 rfl 0)) (Eq.trans (show ivn2 bb 0 = ivh13 bb 0 from (by rw [hin2]; exact congrFun (up0_a (ne_in tb5.1 hqn2)) _)) (Eq.trans (show ivh13 bb 0 = iv1 bb 0 from (fl13.i tb4 rfl 0)) (Eq.trans (show iv1 bb 0 = ivh12 bb 0 from (by rw [pq1]; exact up2_k (ne_ty tb4 tqr1 (by decide)))) (Eq.trans (show ivh12 bb 0 = ivh11 bb 0 from (fl12.i tb3 rfl 0)) (Eq.trans (show ivh11 bb 0 = ivh10 bb 0 from (fl11.i tb2 rfl 0)) (Eq.trans (show ivh10 bb 0 = ivn1 bb 0 from (fl10.i tb1 rfl 0)) (show ivn1 bb 0 = iv bb 0 from (by rw [hin1]; exact congrFun (up0_a (ne_in tbb.1 hqn1)) _)))))))))))) (fun bb tbb => by have tb1 := xl10.ty tbb; have tb2 := xl11.ty tb1; have tb3 := xl12.ty tb2; have tb4 := ty_rt tb3 hcr1 (ne_ty tb3 ty34 (by decide)); have tb5 := xl14.ty tb4; have tb6 := xl15.ty tb5; have tb7 := ty_rt tb6 hcr2 (ne_ty tb6 tqn2 (by decide)); have tb8 := xl17.ty tb7; exact (Eq.trans (show ivh17 bb 1 = ivh15 bb 1 from (fl17.i tb8 rfl 1)) (Eq.trans (show ivh15 bb 1 = ivh14 bb 1 from (fl15.i tb7 rfl 1)) (Eq.trans (show ivh14 bb 1 = ivn2 bb 1 from (fl14.i tb6 rfl 1)) (Eq.trans (show ivn2 bb 1 = ivh13 bb 1 from (by rw [hin2]; exact congrFun (up0_a (ne_in tb5.1 hqn2)) _)) (Eq.trans (show ivh13 bb 1 = iv1 bb 1 from (fl13.i tb4 rfl 1)) (Eq.trans (show iv1 bb 1 = ivh12 bb 1 from (by rw [pq1]; exact up2_k (ne_ty tb4 tqr1 (by decide)))) (Eq.trans (show ivh12 bb 1 = ivh11 bb 1 from (fl12.i tb3 rfl 1)) (Eq.trans (show ivh11 bb 1 = ivh10 bb 1 from (fl11.i tb2 rfl 1)) (Eq.trans (show ivh10 bb 1 = ivn1 bb 1 from (fl10.i tb1 rfl 1)) (show ivn1 bb 1 = iv bb 1 from (by rw [hin1]; exact congrFun (up0_a (ne_in tbb.1 hqn1)) _)))))))))))) (fun bb tbb => by have tb1 := xl10.ty tbb; have tb2 := xl11.ty tb1; have tb3 := xl12.ty tb2; have tb4 := ty_rt tb3 hcr1 (ne_ty tb3 ty34 (by decide)); have tb5 := xl14.ty tb4; have tb6 := xl15.ty tb5; have tb7 := ty_rt tb6 hcr2 (ne_ty tb6 tqn2 (by decide)); exact (Eq.trans (show rvh15 bb 4 = rvh14 bb 4 from (fl15.r tb7 rfl 4)) (Eq.trans (show rvh14 bb 4 = rvn2 bb 4 from (fl14.r tb6 rfl 4)) (Eq.trans (show rvn2 bb 4 = rvh13 bb 4 from (by rw [hrn2]; exact congrFun (up0_a (ne_in tb5.1 hqn2)) _)) (Eq.trans (show rvh13 bb 4 = rvh12 bb 4 from (fl13.r tb4 rfl 4)) (Eq.trans (show rvh12 bb 4 = rvh11 bb 4 from (fl12.r tb3 rfl 4)) (Eq.trans (show rvh11 bb 4 = rvh10 bb 4 from (fl11.r tb2 rfl 4)) (Eq.trans (show rvh10 bb 4 = rvn1 bb 4 from (fl10.r tb1 rfl 4)) (show rvn1 bb 4 = rv bb 4 from (by rw [hrn1]; exact congrFun (up0_a (ne_in tbb.1 hqn1)) _)))))))))), TSQ.of hW hS (fun bb tbb hbb => by have tb1 := xl10.ty tbb; have tb2 := xl11.ty tb1; have tb3 := xl12.ty tb2; have tb4 := ty_rt tb3 hcr1 (ne_ty tb3 ty34 (by decide)); have tb5 := xl14.ty tb4; have tb6 := xl15.ty tb5; have tb7 := ty_rt tb6 hcr2 (ne_ty tb6 tqn2 (by decide)); have tb8 := xl17.ty tb7; exact (Eq.trans (show ivh17 bb 2 = ivh15 bb 2 from (fl17.i tb8 rfl 2)) (Eq.trans (show ivh15 bb 2 = ivh14 bb 2 from (fl15.i tb7 rfl 2)) (Eq.trans (show ivh14 bb 2 = ivn2 bb 2 from (fl14.i tb6 rfl 2)) (Eq.trans (show ivn2 bb 2 = ivh13 bb 2 from (by rw [hin2]; exact congrFun (up0_a (ne_in tb5.1 hqn2)) _)) (Eq.trans (show ivh13 bb 2 = iv1 bb 2 from ((apxf13 _ re6).2 bb tb4 hbb)) (Eq.trans (show iv1 bb 2 = ivh12 bb 2 from (by rw [pq1]; exact up2_k (ne_ty tb4 tqr1 (by decide)))) (Eq.trans (show ivh12 bb 2 = ivh11 bb 2 from (fl12.i tb3 rfl 2)) (Eq.trans (show ivh11 bb 2 = ivh10 bb 2 from (fl11.i tb2 rfl 2)) (Eq.trans (show ivh10 bb 2 = ivn1 bb 2 from (fl10.i tb1 rfl 2)) (show ivn1 bb 2 = iv bb 2 from (by rw [hin1]; exact congrFun (up0_a (ne_in tbb.1 hqn1)) _))))))))))))⟩, by omega, ⟨(by omega), CS0.of hW hS (Int.le_refl _) (fun i hi => (rmef15.2 i (by omega)).trans (ce1 i hi)) (fun bb tbb => by have tb1 := xl10.ty tbb; have tb2 := xl11.ty tb1; have tb3 := xl12.ty tb2; have tb4 := ty_rt tb3 hcr1 (ne_ty tb3 ty34 (by decide)); have tb5 := xl14.ty tb4; have tb6 := xl15.ty tb5; have tb7 := ty_rt tb6 hcr2 (ne_ty tb6 tqn2 (by decide)); have tb8 := xl17.ty tb7; exact (Eq.trans (show ivh17 bb 0 = ivh15 bb 0 from (fl17.i tb8 rfl 0)) (Eq.trans (show ivh15 bb 0 = ivh14 bb 0 from (fl15.i tb7 rfl 0)) (Eq.trans (show ivh14 bb 0 = ivn2 bb 0 from (fl14.i tb6 rfl 0)) (Eq.trans (show ivn2 bb 0 = ivh13 bb 0 from (by rw [hin2]; exact congrFun (up0_a (ne_in tb5.1 hqn2)) _)) (Eq.trans (show ivh13 bb 0 = iv1 bb 0 from (fl13.i tb4 rfl 0)) (Eq.trans (show iv1 bb 0 = ivh12 bb 0 from (by rw [pq1]; exact up2_k (ne_ty tb4 tqr1 (by decide)))) (Eq.trans (show ivh12 bb 0 = ivh11 bb 0 from (fl12.i tb3 rfl 0)) (Eq.trans (show ivh11 bb 0 = ivh10 bb 0 from (fl11.i tb2 rfl 0)) (Eq.trans (show ivh10 bb 0 = ivn1 bb 0 from (fl10.i tb1 rfl 0)) (show ivn1 bb 0 = iv bb 0 from (by rw [hin1]; exact congrFun (up0_a (ne_in tbb.1 hqn1)) _)))))))))))) (fun bb tbb => by have tb1 := xl10.ty tbb; have tb2 := xl11.ty tb1; have tb3 := xl12.ty tb2; have tb4 := ty_rt tb3 hcr1 (ne_ty tb3 ty34 (by decide)); have tb5 := xl14.ty tb4; have tb6 := xl15.ty tb5; have tb7 := ty_rt tb6 hcr2 (ne_ty tb6 tqn2 (by decide)); exact (Eq.trans (show rvh15 bb 1 = rvh14 bb 1 from (fl15.r tb7 rfl 1)) (Eq.trans (show rvh14 bb 1 = rvn2 bb 1 from (fl14.r tb6 rfl 1)) (Eq.trans (show rvn2 bb 1 = rvh13 bb 1 from (by rw [hrn2]; exact congrFun (up0_a (ne_in tb5.1 hqn2)) _)) (Eq.trans (show rvh13 bb 1 = rvh12 bb 1 from (fl13.r tb4 rfl 1)) (Eq.trans (show rvh12 bb 1 = rvh11 bb 1 from (fl12.r tb3 rfl 1)) (Eq.trans (show rvh11 bb 1 = rvh10 bb 1 from (fl11.r tb2 rfl 1)) (Eq.trans (show rvh10 bb 1 = rvn1 bb 1 from (fl10.r tb1 rfl 1)) (show rvn1 bb 1 = rv bb 1 from (by rw [hrn1]; exact congrFun (up0_a (ne_in tbb.1 hqn1)) _)))))))))), ⟨qn2, (by rw [show (iv (sk 23) 2).toNat = (ivh14 (sk 23) 2).toNat from congrArg Int.toNat (by omega)]; exact rmef15.1), (by omega), re24⟩⟩⟩), (Or.inr ⟨ob1, rb3, s5, x5, qn1, f10, f11, ⟨akob1.2, rq3, hs5, hx5, by omega⟩, kp11, ⟨(by rw [(show (iv rb3 2).toNat = (iv1 rb3 2).toNat from congrArg Int.toNat (by omega))]; exact (el_kp W16 ty70 ((show ∀ bb, ty Lh13 clh13 bb 26 → rvh15 bb 1 = rvh13 bb 1 from fun bb tbb => by have tb6 := xl15.ty tbb; have tb7 := ty_rt tb6 hcr2 (ne_ty tb6 tqn2 (by decide)); exact (Eq.trans (show rvh15 bb 1 = rvh14 bb 1 from (fl15.r tb7 rfl 1)) (Eq.trans (show rvh14 bb 1 = rvn2 bb 1 from (fl14.r tb6 rfl 1)) (show rvn2 bb 1 = rvh13 bb 1 from (by rw [hrn2]; exact congrFun (up0_a (ne_in tbb.1 hqn2)) _))))) rb3 ty70) (fun bb tbb _ kk => by have tb6 := xl15.ty tbb; have tb7 := ty_rt tb6 hcr2 (ne_ty tb6 tqn2 (by decide)); exact (Eq.trans (show rvh15 bb kk = rvh14 bb kk from (fl15.r tb7 rfl kk)) (Eq.trans (show rvh14 bb kk = rvn2 bb kk from (fl14.r tb6 rfl kk)) (show rvn2 bb kk = rvh13 bb kk from (by rw [hrn2]; exact congrFun (up0_a (ne_in tbb.1 hqn2)) _))))) (by omega)).trans ak2), by omega, fun r hr => ((el_kp W16 ty70 ((show ∀ bb, ty Lh13 clh13 bb 26 → rvh15 bb 1 = rvh13 bb 1 from fun bb tbb => by have tb6 := xl15.ty tbb; have tb7 := ty_rt tb6 hcr2 (ne_ty tb6 tqn2 (by decide)); exact (Eq.trans (show rvh15 bb 1 = rvh14 bb 1 from (fl15.r tb7 rfl 1)) (Eq.trans (show rvh14 bb 1 = rvn2 bb 1 from (fl14.r tb6 rfl 1)) (show rvn2 bb 1 = rvh13 bb 1 from (by rw [hrn2]; exact congrFun (up0_a (ne_in tbb.1 hqn2)) _))))) rb3 ty70) (fun bb tbb _ kk => by have tb6 := xl15.ty tbb; have tb7 := ty_rt tb6 hcr2 (ne_ty tb6 tqn2 (by decide)); exact (Eq.trans (show rvh15 bb kk = rvh14 bb kk from (fl15.r tb7 rfl kk)) (Eq.trans (show rvh14 bb kk = rvn2 bb kk from (fl14.r tb6 rfl kk)) (show rvn2 bb kk = rvh13 bb kk from (by rw [hrn2]; exact congrFun (up0_a (ne_in tbb.1 hqn2)) _))))) (by omega)).trans (ak3 r (by omega))).trans (el_kp hW trb3 (ap1a) (ap1b) hr)⟩, ⟨(fun hm => hqn1 (hX0 _ hm).1), ty134, by omega, by omega, re28, re32⟩, ⟨ty136, by omega, (fun ss hs kk hk => Eq.trans ((show ∀ bb, ty Lh10 clh10 bb 65 → ivh17 bb kk = ivh10 bb kk from fun bb tbb => by have tb3 := xl12.ty tbb; have tb4 := ty_rt tb3 hcr1 (ne_ty tb3 ty34 (by decide)); have tb5 := xl14.ty tb4; have tb6 := xl15.ty tb5; have tb7 := ty_rt tb6 hcr2 (ne_ty tb6 tqn2 (by decide)); have tb8 := xl17.ty tb7; exact (Eq.trans (show ivh17 bb kk = ivh15 bb kk from (fl17.i tb8 rfl kk)) (Eq.trans (show ivh15 bb kk = ivh14 bb kk from (fl15.i tb7 rfl kk)) (Eq.trans (show ivh14 bb kk = ivn2 bb kk from (fl14.i tb6 rfl kk)) (Eq.trans (show ivn2 bb kk = ivh13 bb kk from (by rw [hin2]; exact congrFun (up0_a (ne_in tb5.1 hqn2)) _)) (Eq.trans (show ivh13 bb kk = iv1 bb kk from (fl13.i tb4 rfl kk)) (Eq.trans (show iv1 bb kk = ivh12 bb kk from (by rw [pq1]; exact up2_k (ne_ty tb4 tqr1 (by decide)))) (Eq.trans (show ivh12 bb kk = ivh11 bb kk from (fl12.i tb3 rfl kk)) (show ivh11 bb kk = ivh10 bb kk from (fl11.i tbb rfl kk)))))))))) f10 rgf10) (Eq.trans (slnf10.2.2 ss (CT.fr hs hW tsk2 F6 rfl rfl rfl rfl rfl) (by omega) kk (by omega)) (congrArg ss (by omega))))⟩, ⟨ty137, by omega, (fun ss hs kk hk => Eq.trans ((show ∀ bb, ty Lh11 clh11 bb 66 → ivh17 bb kk = ivh11 bb kk from fun bb tbb => by have tb4 := ty_rt tbb hcr1 (ne_ty tbb ty34 (by decide)); have tb5 := xl14.ty tb4; have tb6 := xl15.ty tb5; have tb7 := ty_rt tb6 hcr2 (ne_ty tb6 tqn2 (by decide)); have tb8 := xl17.ty tb7; exact (Eq.trans (show ivh17 bb kk = ivh15 bb kk from (fl17.i tb8 rfl kk)) (Eq.trans (show ivh15 bb kk = ivh14 bb kk from (fl15.i tb7 rfl kk)) (Eq.trans (show ivh14 bb kk = ivn2 bb kk from (fl14.i tb6 rfl kk)) (Eq.trans (show ivn2 bb kk = ivh13 bb kk from (by rw [hin2]; exact congrFun (up0_a (ne_in tb5.1 hqn2)) _)) (Eq.trans (show ivh13 bb kk = iv1 bb kk from (fl13.i tb4 rfl kk)) (Eq.trans (show iv1 bb kk = ivh12 bb kk from (by rw [pq1]; exact up2_k (ne_ty tb4 tqr1 (by decide)))) (show ivh12 bb kk = ivh11 bb kk from (fl12.i tbb rfl kk))))))))) f11 rgf11) (Eq.trans (slnf11.2.2 ss (CT.fr hs hW tsk2 F7 rfl rfl rfl rfl rfl) (by omega) kk (by omega)) (congrArg ss (by omega))))⟩, ⟨fun _ => by omega, fun x2 h2 => (ak5 x2 ((((show ∀ bb, ty Lh13 clh13 bb 12 → rvh15 bb 1 = rvh13 bb 1 from fun bb tbb => by have tb6 := xl15.ty tbb; have tb7 := ty_rt tb6 hcr2 (ne_ty tb6 tqn2 (by decide)); exact (Eq.trans (show rvh15 bb 1 = rvh14 bb 1 from (fl15.r tb7 rfl 1)) (Eq.trans (show rvh14 bb 1 = rvn2 bb 1 from (fl14.r tb6 rfl 1)) (show rvn2 bb 1 = rvh13 bb 1 from (by rw [hrn2]; exact congrFun (up0_a (ne_in tbb.1 hqn2)) _))))) s5 ty71)).symm.trans h2)).elim Or.inl (fun e => Or.inr (fun hm => e ((X4) _ hm).1)), (fun ss hs h2 tt ht => by
                            have g1 := ak7 ss (CT.of3 hs (ap1c) (ap1d) (ap1e)) (by omega)
                            rw [ak6 _ exf12r (by omega), show (iv1 s5 2).toNat = (iv s5 2).toNat from congrArg Int.toNat (by omega)] at g1
                            have g2 := g1
                            rw [ap1f tt ht] at g2
                            exact (CT.of3 g2 ((show ∀ bb, ty Lh13 clh13 bb 12 → rvh15 bb 1 = rvh13 bb 1 from fun bb tbb => by have tb6 := xl15.ty tbb; have tb7 := ty_rt tb6 hcr2 (ne_ty tb6 tqn2 (by decide)); exact (Eq.trans (show rvh15 bb 1 = rvh14 bb 1 from (fl15.r tb7 rfl 1)) (Eq.trans (show rvh14 bb 1 = rvn2 bb 1 from (fl14.r tb6 rfl 1)) (show rvn2 bb 1 = rvh13 bb 1 from (by rw [hrn2]; exact congrFun (up0_a (ne_in tbb.1 hqn2)) _))))) s5 ty71) ((show ∀ bb, ty Lh13 clh13 bb 12 → ivh17 bb 2 = ivh13 bb 2 from fun bb tbb => by have tb6 := xl15.ty tbb; have tb7 := ty_rt tb6 hcr2 (ne_ty tb6 tqn2 (by decide)); have tb8 := xl17.ty tb7; exact (Eq.trans (show ivh17 bb 2 = ivh15 bb 2 from (fl17.i tb8 rfl 2)) (Eq.trans (show ivh15 bb 2 = ivh14 bb 2 from (fl15.i tb7 rfl 2)) (Eq.trans (show ivh14 bb 2 = ivn2 bb 2 from (fl14.i tb6 rfl 2)) (show ivn2 bb 2 = ivh13 bb 2 from (by rw [hin2]; exact congrFun (up0_a (ne_in tbb.1 hqn2)) _)))))) s5 ty71) (fun bq hbq kk => by
                            obtain ⟨b9, w1, w2⟩ := W16.ref ty71 1 rfl rfl rfl
                            rw [w1] at hbq; cases hbq
                            exact (show ∀ bb, ty Lh13 clh13 bb 42 → ivh17 bb kk = ivh13 bb kk from fun bb tbb => by have tb6 := xl15.ty tbb; have tb7 := ty_rt tb6 hcr2 (ne_ty tb6 tqn2 (by decide)); have tb8 := xl17.ty tb7; exact (Eq.trans (show ivh17 bb kk = ivh15 bb kk from (fl17.i tb8 rfl kk)) (Eq.trans (show ivh15 bb kk = ivh14 bb kk from (fl15.i tb7 rfl kk)) (Eq.trans (show ivh14 bb kk = ivn2 bb kk from (fl14.i tb6 rfl kk)) (show ivn2 bb kk = ivh13 bb kk from (by rw [hin2]; exact congrFun (up0_a (ne_in tbb.1 hqn2)) _)))))) _ w2)))⟩⟩), (Eq.trans (show rvh15 a0 9 = rvh14 a0 9 from (fl15.r ty92 rfl 9)) (Eq.trans (show rvh14 a0 9 = rvn2 a0 9 from (fl14.r ty91 rfl 9)) (Eq.trans (show rvn2 a0 9 = rvh13 a0 9 from (by rw [hrn2]; exact congrFun (up0_a (ne_in ty72.1 hqn2)) _)) (Eq.trans (show rvh13 a0 9 = rvh12 a0 9 from (fl13.r ty37 rfl 9)) (Eq.trans (show rvh12 a0 9 = rvh11 a0 9 from (fl12.r ty36 rfl 9)) (Eq.trans (show rvh11 a0 9 = rvh10 a0 9 from (fl11.r ty17 rfl 9)) (Eq.trans (show rvh10 a0 9 = rvn1 a0 9 from (fl10.r ty1 rfl 9)) (show rvn1 a0 9 = rv a0 9 from (by rw [hrn1]; exact congrFun (up0_a (ne_in t_a0.1 hqn1)) _))))))))), (Eq.trans (show rvh15 a0 10 = rvh14 a0 10 from (fl15.r ty92 rfl 10)) (Eq.trans (show rvh14 a0 10 = rvn2 a0 10 from (fl14.r ty91 rfl 10)) (Eq.trans (show rvn2 a0 10 = rvh13 a0 10 from (by rw [hrn2]; exact congrFun (up0_a (ne_in ty72.1 hqn2)) _)) (Eq.trans (show rvh13 a0 10 = rvh12 a0 10 from (fl13.r ty37 rfl 10)) (Eq.trans (show rvh12 a0 10 = rvh11 a0 10 from (fl12.r ty36 rfl 10)) (Eq.trans (show rvh11 a0 10 = rvh10 a0 10 from (fl11.r ty17 rfl 10)) (Eq.trans (show rvh10 a0 10 = rvn1 a0 10 from (fl10.r ty1 rfl 10)) (show rvn1 a0 10 = rv a0 10 from (by rw [hrn1]; exact congrFun (up0_a (ne_in t_a0.1 hqn1)) _)))))))))⟩
                    · refine c_aload_n (j := 1) (x := a0) C dX11_addRule_118 rfl ?_
                      refine c_bipush (z := 6) C dX11_addRule_119 (by decide) ?_
                      refine d_callV (As := [.int (iI 6)]) (rest := []) C hM (C_refuse (a0 := a0) (x := 6) hW hS t_a0 ⟨by decide, by decide⟩ ) dX11_addRule_121 kV_X11_102 rfl t_a0 rfl rfl (by decide) ck_12 rfl (Nat.le_of_ble_eq_true rfl) ⟨(Nat.le_of_ble_eq_true rfl), (Nat.le_of_ble_eq_true rfl)⟩ hph hph (show 0 + 0 = 0 from rfl) (by decide) (fun rh18 Lh18 clh18 lnh18 ivh18 rvh18 h18 => ?_)
                      obtain ⟨f18, rfl, rfl, rfl, rfl, rfl, fl18, W23, rgf18, exf18, kp11f18, kp12f18, kp13f18, kp14f18, kp15f18, kp16f18⟩ := h18
                      have ri116 : 1 ≤ iv a0 11 ∧ iv a0 11 ≤ 100 := hW.int t_a0 11
                      have ri117 : 1 ≤ iv a0 12 ∧ iv a0 12 ≤ 50 := hW.int t_a0 12
                      have ri118 : (-2147483648) ≤ iv a0 13 ∧ iv a0 13 ≤ 2147483647 := hW.int t_a0 13
                      have ri119 : (-2147483648) ≤ iv a0 14 ∧ iv a0 14 ≤ 2147483647 := hW.int t_a0 14
                      have ri120 : (-2147483648) ≤ iv a0 15 ∧ iv a0 15 ≤ 2147483647 := hW.int t_a0 15
                      have ri121 : (-2147483648) ≤ iv a0 16 ∧ iv a0 16 ≤ 2147483647 := hW.int t_a0 16
                      have F16 := hF0.call hX0 fl18 rfl
                      have mr18 := MRK.call hmr hW hS XT.refl fl18 rfl rfl
                      refine c_st (st2 := [.int (iI f18)]) rfl ?_
                      have gk11f18 : ivh18 a0 11 = iv a0 11 := kp11f18
                      have gk12f18 : ivh18 a0 12 = iv a0 12 := kp12f18
                      have gk13f18 : ivh18 a0 13 = iv a0 13 := kp13f18
                      have gk14f18 : ivh18 a0 14 = iv a0 14 := kp14f18
                      have gk15f18 : ivh18 a0 15 = iv a0 15 := kp15f18
                      have gk16f18 : ivh18 a0 16 = iv a0 16 := kp16f18
                      have gf18 : f18 = -1 := exf18
                      have ri122 : 1 ≤ ivh18 a0 11 ∧ ivh18 a0 11 ≤ 100 := W23.int t_a0 11
                      have ri123 : 1 ≤ ivh18 a0 12 ∧ ivh18 a0 12 ≤ 50 := W23.int t_a0 12
                      have ri124 : (-2147483648) ≤ ivh18 a0 13 ∧ ivh18 a0 13 ≤ 2147483647 := W23.int t_a0 13
                      have ri125 : (-2147483648) ≤ ivh18 a0 14 ∧ ivh18 a0 14 ≤ 2147483647 := W23.int t_a0 14
                      have ri126 : (-2147483648) ≤ ivh18 a0 15 ∧ ivh18 a0 15 ≤ 2147483647 := W23.int t_a0 15
                      have ri127 : (-2147483648) ≤ ivh18 a0 16 ∧ ivh18 a0 16 ≤ 2147483647 := W23.int t_a0 16
                      have ri128 : 0 ≤ ivh18 (sk 23) 2 ∧ ivh18 (sk 23) 2 ≤ 512 := W23.int tsk23 2
                      have ie181 : ivh18 (sk 23) 2 = iv (sk 23) 2 := fl18.i tsk23 rfl 2
                      have ri129 : 0 ≤ ivh18 (sk 22) 2 ∧ ivh18 (sk 22) 2 ≤ 30 := W23.int tsk22 2
                      have ie182 : ivh18 (sk 22) 2 = iv (sk 22) 2 := fl18.i tsk22 rfl 2
                      have ri130 : (-2147483648) ≤ ivh18 ob1 0 ∧ ivh18 ob1 0 ≤ 2147483647 := W23.int tob1 0
                      have ie183 : ivh18 ob1 0 = iv ob1 0 := fl18.i tob1 rfl 0
                      have ri131 : 0 ≤ ivh18 (sk 2) 2 ∧ ivh18 (sk 2) 2 ≤ 3000 := W23.int tsk2 2
                      have ie184 : ivh18 (sk 2) 2 = iv (sk 2) 2 := fl18.i tsk2 rfl 2
                      have ri132 : 0 ≤ ivh18 rb3 2 ∧ ivh18 rb3 2 ≤ 200 := W23.int trb3 2
                      have ie185 : ivh18 rb3 2 = iv rb3 2 := fl18.i trb3 rfl 2
                      exact c_iret C dX11_addRule_124 rfl (by decide) (rom0 hph hph (by decide)) ⟨f18, rfl, hX0, F16, W23, ⟨by omega, by omega⟩, ⟨(by omega), mr18⟩, (by omega), (by omega), (by omega), (by omega), (by omega), (by omega), (Or.inl ⟨by omega, PSAME.fr hW hS fl18 rfl rfl rfl rfl rfl rfl rfl, (fun ss t q hs ht hq hd h => by
                          have e := ht.uni akob1.2
                          subst e
                          obtain ⟨h1, h2, h3, h4, h5, h6, h7, h8⟩ := h.1
                          first | omega | (have e1 := gf5 ss hs (by omega) (by omega); have e2 := e1.mpr (fun x q1 q2 => h.2.2 x q2); omega) | (have e1 := irxf7 ss hs (by omega) hd; have e2 := e1.mpr ⟨by omega, h.2.1⟩; omega) | (rw [rq3] at hq; cases hq; omega))⟩), (Or.inl ⟨by omega, KP.fr hW fl18 rfl⟩), rfl, rfl⟩
        · refine c_st (st2 := [.int (iI 0)]) (by rw [show inn (iI cnd) 0 5 = iI 0 from hs1e]) ?_
          refine c_if_eq (tgt := 118) C ⟨by decide, by decide⟩ dX11_addRule_50 (by decide) (fun _ => ?_) (fun z => absurd z (by omega))
          refine c_aload_n (j := 1) (x := a0) C dX11_addRule_118 rfl ?_
          refine c_bipush (z := 6) C dX11_addRule_119 (by decide) ?_
          refine d_callV (As := [.int (iI 6)]) (rest := []) C hM (C_refuse (a0 := a0) (x := 6) hW hS t_a0 ⟨by decide, by decide⟩ ) dX11_addRule_121 kV_X11_102 rfl t_a0 rfl rfl (by decide) ck_12 rfl (Nat.le_of_ble_eq_true rfl) ⟨(Nat.le_of_ble_eq_true rfl), (Nat.le_of_ble_eq_true rfl)⟩ hph hph (show 0 + 0 = 0 from rfl) (by decide) (fun rh19 Lh19 clh19 lnh19 ivh19 rvh19 h19 => ?_)
          obtain ⟨f19, rfl, rfl, rfl, rfl, rfl, fl19, W24, rgf19, exf19, kp11f19, kp12f19, kp13f19, kp14f19, kp15f19, kp16f19⟩ := h19
          have ri133 : 1 ≤ iv a0 11 ∧ iv a0 11 ≤ 100 := hW.int t_a0 11
          have ri134 : 1 ≤ iv a0 12 ∧ iv a0 12 ≤ 50 := hW.int t_a0 12
          have ri135 : (-2147483648) ≤ iv a0 13 ∧ iv a0 13 ≤ 2147483647 := hW.int t_a0 13
          have ri136 : (-2147483648) ≤ iv a0 14 ∧ iv a0 14 ≤ 2147483647 := hW.int t_a0 14
          have ri137 : (-2147483648) ≤ iv a0 15 ∧ iv a0 15 ≤ 2147483647 := hW.int t_a0 15
          have ri138 : (-2147483648) ≤ iv a0 16 ∧ iv a0 16 ≤ 2147483647 := hW.int t_a0 16
          have F17 := hF0.call hX0 fl19 rfl
          have mr19 := MRK.call hmr hW hS XT.refl fl19 rfl rfl
          refine c_st (st2 := [.int (iI f19)]) rfl ?_
          have gk11f19 : ivh19 a0 11 = iv a0 11 := kp11f19
          have gk12f19 : ivh19 a0 12 = iv a0 12 := kp12f19
          have gk13f19 : ivh19 a0 13 = iv a0 13 := kp13f19
          have gk14f19 : ivh19 a0 14 = iv a0 14 := kp14f19
          have gk15f19 : ivh19 a0 15 = iv a0 15 := kp15f19
          have gk16f19 : ivh19 a0 16 = iv a0 16 := kp16f19
          have gf19 : f19 = -1 := exf19
          have ri139 : 1 ≤ ivh19 a0 11 ∧ ivh19 a0 11 ≤ 100 := W24.int t_a0 11
          have ri140 : 1 ≤ ivh19 a0 12 ∧ ivh19 a0 12 ≤ 50 := W24.int t_a0 12
          have ri141 : (-2147483648) ≤ ivh19 a0 13 ∧ ivh19 a0 13 ≤ 2147483647 := W24.int t_a0 13
          have ri142 : (-2147483648) ≤ ivh19 a0 14 ∧ ivh19 a0 14 ≤ 2147483647 := W24.int t_a0 14
          have ri143 : (-2147483648) ≤ ivh19 a0 15 ∧ ivh19 a0 15 ≤ 2147483647 := W24.int t_a0 15
          have ri144 : (-2147483648) ≤ ivh19 a0 16 ∧ ivh19 a0 16 ≤ 2147483647 := W24.int t_a0 16
          have ri145 : 0 ≤ ivh19 (sk 23) 2 ∧ ivh19 (sk 23) 2 ≤ 512 := W24.int tsk23 2
          have ie192 : ivh19 (sk 23) 2 = iv (sk 23) 2 := fl19.i tsk23 rfl 2
          have ri146 : 0 ≤ ivh19 (sk 22) 2 ∧ ivh19 (sk 22) 2 ≤ 30 := W24.int tsk22 2
          have ie193 : ivh19 (sk 22) 2 = iv (sk 22) 2 := fl19.i tsk22 rfl 2
          have ri147 : (-2147483648) ≤ ivh19 ob1 0 ∧ ivh19 ob1 0 ≤ 2147483647 := W24.int tob1 0
          have ie194 : ivh19 ob1 0 = iv ob1 0 := fl19.i tob1 rfl 0
          have ri148 : 0 ≤ ivh19 (sk 2) 2 ∧ ivh19 (sk 2) 2 ≤ 3000 := W24.int tsk2 2
          have ie195 : ivh19 (sk 2) 2 = iv (sk 2) 2 := fl19.i tsk2 rfl 2
          exact c_iret C dX11_addRule_124 rfl (by decide) (rom0 hph hph (by decide)) ⟨f19, rfl, hX0, F17, W24, ⟨by omega, by omega⟩, ⟨(by omega), mr19⟩, (by omega), (by omega), (by omega), (by omega), (by omega), (by omega), (Or.inl ⟨by omega, PSAME.fr hW hS fl19 rfl rfl rfl rfl rfl rfl rfl, (fun ss t q hs ht hq hd h => by
              have e := ht.uni akob1.2
              subst e
              obtain ⟨h1, h2, h3, h4, h5, h6, h7, h8⟩ := h.1
              first | omega)⟩), (Or.inl ⟨by omega, KP.fr hW fl19 rfl⟩), rfl, rfl⟩
      · refine c_aload_n (j := 1) (x := a0) C dX11_addRule_40 rfl ?_
        refine c_iconst C dX11_addRule_41 ?_
        refine d_callV (As := [.int (iI 5)]) (rest := []) C hM (C_refuse (a0 := a0) (x := 5) hW hS t_a0 ⟨by decide, by decide⟩ ) dX11_addRule_42 kV_X11_102 rfl t_a0 rfl rfl (by decide) ck_12 rfl (Nat.le_of_ble_eq_true rfl) ⟨(Nat.le_of_ble_eq_true rfl), (Nat.le_of_ble_eq_true rfl)⟩ hph hph (show 0 + 0 = 0 from rfl) (by decide) (fun rh20 Lh20 clh20 lnh20 ivh20 rvh20 h20 => ?_)
        obtain ⟨f20, rfl, rfl, rfl, rfl, rfl, fl20, W25, rgf20, exf20, kp11f20, kp12f20, kp13f20, kp14f20, kp15f20, kp16f20⟩ := h20
        have ri149 : 1 ≤ iv a0 11 ∧ iv a0 11 ≤ 100 := hW.int t_a0 11
        have ri150 : 1 ≤ iv a0 12 ∧ iv a0 12 ≤ 50 := hW.int t_a0 12
        have ri151 : (-2147483648) ≤ iv a0 13 ∧ iv a0 13 ≤ 2147483647 := hW.int t_a0 13
        have ri152 : (-2147483648) ≤ iv a0 14 ∧ iv a0 14 ≤ 2147483647 := hW.int t_a0 14
        have ri153 : (-2147483648) ≤ iv a0 15 ∧ iv a0 15 ≤ 2147483647 := hW.int t_a0 15
        have ri154 : (-2147483648) ≤ iv a0 16 ∧ iv a0 16 ≤ 2147483647 := hW.int t_a0 16
        have F18 := hF0.call hX0 fl20 rfl
        have mr20 := MRK.call hmr hW hS XT.refl fl20 rfl rfl
        refine c_st (st2 := [.int (iI f20)]) rfl ?_
        have gk11f20 : ivh20 a0 11 = iv a0 11 := kp11f20
        have gk12f20 : ivh20 a0 12 = iv a0 12 := kp12f20
        have gk13f20 : ivh20 a0 13 = iv a0 13 := kp13f20
        have gk14f20 : ivh20 a0 14 = iv a0 14 := kp14f20
        have gk15f20 : ivh20 a0 15 = iv a0 15 := kp15f20
        have gk16f20 : ivh20 a0 16 = iv a0 16 := kp16f20
        have gf20 : f20 = -1 := exf20
        have ri155 : 1 ≤ ivh20 a0 11 ∧ ivh20 a0 11 ≤ 100 := W25.int t_a0 11
        have ri156 : 1 ≤ ivh20 a0 12 ∧ ivh20 a0 12 ≤ 50 := W25.int t_a0 12
        have ri157 : (-2147483648) ≤ ivh20 a0 13 ∧ ivh20 a0 13 ≤ 2147483647 := W25.int t_a0 13
        have ri158 : (-2147483648) ≤ ivh20 a0 14 ∧ ivh20 a0 14 ≤ 2147483647 := W25.int t_a0 14
        have ri159 : (-2147483648) ≤ ivh20 a0 15 ∧ ivh20 a0 15 ≤ 2147483647 := W25.int t_a0 15
        have ri160 : (-2147483648) ≤ ivh20 a0 16 ∧ ivh20 a0 16 ≤ 2147483647 := W25.int t_a0 16
        have ri161 : 0 ≤ ivh20 (sk 23) 2 ∧ ivh20 (sk 23) 2 ≤ 512 := W25.int tsk23 2
        have ie202 : ivh20 (sk 23) 2 = iv (sk 23) 2 := fl20.i tsk23 rfl 2
        have ri162 : 0 ≤ ivh20 (sk 22) 2 ∧ ivh20 (sk 22) 2 ≤ 30 := W25.int tsk22 2
        have ie203 : ivh20 (sk 22) 2 = iv (sk 22) 2 := fl20.i tsk22 rfl 2
        have ri163 : (-2147483648) ≤ ivh20 ob1 0 ∧ ivh20 ob1 0 ≤ 2147483647 := W25.int tob1 0
        have ie204 : ivh20 ob1 0 = iv ob1 0 := fl20.i tob1 rfl 0
        have ri164 : 0 ≤ ivh20 (sk 2) 2 ∧ ivh20 (sk 2) 2 ≤ 3000 := W25.int tsk2 2
        have ie205 : ivh20 (sk 2) 2 = iv (sk 2) 2 := fl20.i tsk2 rfl 2
        exact c_iret C dX11_addRule_45 rfl (by decide) (rom0 hph hph (by decide)) ⟨f20, rfl, hX0, F18, W25, ⟨by omega, by omega⟩, ⟨(by omega), mr20⟩, (by omega), (by omega), (by omega), (by omega), (by omega), (by omega), (Or.inl ⟨by omega, PSAME.fr hW hS fl20 rfl rfl rfl rfl rfl rfl rfl, (fun ss t q hs ht hq hd h => by
            have e := ht.uni akob1.2
            subst e
            obtain ⟨h1, h2, h3, h4, h5, h6, h7, h8⟩ := h.1
            first | omega)⟩), (Or.inl ⟨by omega, KP.fr hW fl20 rfl⟩), rfl, rfl⟩
    · refine c_aload_n (j := 1) (x := a0) C dX11_addRule_30 rfl ?_
      refine c_iconst C dX11_addRule_31 ?_
      refine d_callV (As := [.int (iI 4)]) (rest := []) C hM (C_refuse (a0 := a0) (x := 4) hW hS t_a0 ⟨by decide, by decide⟩ ) dX11_addRule_32 kV_X11_102 rfl t_a0 rfl rfl (by decide) ck_12 rfl (Nat.le_of_ble_eq_true rfl) ⟨(Nat.le_of_ble_eq_true rfl), (Nat.le_of_ble_eq_true rfl)⟩ hph hph (show 0 + 0 = 0 from rfl) (by decide) (fun rh21 Lh21 clh21 lnh21 ivh21 rvh21 h21 => ?_)
      obtain ⟨f21, rfl, rfl, rfl, rfl, rfl, fl21, W26, rgf21, exf21, kp11f21, kp12f21, kp13f21, kp14f21, kp15f21, kp16f21⟩ := h21
      have ri165 : 1 ≤ iv a0 11 ∧ iv a0 11 ≤ 100 := hW.int t_a0 11
      have ri166 : 1 ≤ iv a0 12 ∧ iv a0 12 ≤ 50 := hW.int t_a0 12
      have ri167 : (-2147483648) ≤ iv a0 13 ∧ iv a0 13 ≤ 2147483647 := hW.int t_a0 13
      have ri168 : (-2147483648) ≤ iv a0 14 ∧ iv a0 14 ≤ 2147483647 := hW.int t_a0 14
      have ri169 : (-2147483648) ≤ iv a0 15 ∧ iv a0 15 ≤ 2147483647 := hW.int t_a0 15
      have ri170 : (-2147483648) ≤ iv a0 16 ∧ iv a0 16 ≤ 2147483647 := hW.int t_a0 16
      have F19 := hF0.call hX0 fl21 rfl
      have mr21 := MRK.call hmr hW hS XT.refl fl21 rfl rfl
      refine c_st (st2 := [.int (iI f21)]) rfl ?_
      have gk11f21 : ivh21 a0 11 = iv a0 11 := kp11f21
      have gk12f21 : ivh21 a0 12 = iv a0 12 := kp12f21
      have gk13f21 : ivh21 a0 13 = iv a0 13 := kp13f21
      have gk14f21 : ivh21 a0 14 = iv a0 14 := kp14f21
      have gk15f21 : ivh21 a0 15 = iv a0 15 := kp15f21
      have gk16f21 : ivh21 a0 16 = iv a0 16 := kp16f21
      have gf21 : f21 = -1 := exf21
      have ri171 : 1 ≤ ivh21 a0 11 ∧ ivh21 a0 11 ≤ 100 := W26.int t_a0 11
      have ri172 : 1 ≤ ivh21 a0 12 ∧ ivh21 a0 12 ≤ 50 := W26.int t_a0 12
      have ri173 : (-2147483648) ≤ ivh21 a0 13 ∧ ivh21 a0 13 ≤ 2147483647 := W26.int t_a0 13
      have ri174 : (-2147483648) ≤ ivh21 a0 14 ∧ ivh21 a0 14 ≤ 2147483647 := W26.int t_a0 14
      have ri175 : (-2147483648) ≤ ivh21 a0 15 ∧ ivh21 a0 15 ≤ 2147483647 := W26.int t_a0 15
      have ri176 : (-2147483648) ≤ ivh21 a0 16 ∧ ivh21 a0 16 ≤ 2147483647 := W26.int t_a0 16
      have ri177 : 0 ≤ ivh21 (sk 23) 2 ∧ ivh21 (sk 23) 2 ≤ 512 := W26.int tsk23 2
      have ie212 : ivh21 (sk 23) 2 = iv (sk 23) 2 := fl21.i tsk23 rfl 2
      have ri178 : 0 ≤ ivh21 (sk 22) 2 ∧ ivh21 (sk 22) 2 ≤ 30 := W26.int tsk22 2
      have ie213 : ivh21 (sk 22) 2 = iv (sk 22) 2 := fl21.i tsk22 rfl 2
      have ri179 : (-2147483648) ≤ ivh21 ob1 0 ∧ ivh21 ob1 0 ≤ 2147483647 := W26.int tob1 0
      have ie214 : ivh21 ob1 0 = iv ob1 0 := fl21.i tob1 rfl 0
      have ri180 : 0 ≤ ivh21 (sk 2) 2 ∧ ivh21 (sk 2) 2 ≤ 3000 := W26.int tsk2 2
      have ie215 : ivh21 (sk 2) 2 = iv (sk 2) 2 := fl21.i tsk2 rfl 2
      exact c_iret C dX11_addRule_35 rfl (by decide) (rom0 hph hph (by decide)) ⟨f21, rfl, hX0, F19, W26, ⟨by omega, by omega⟩, ⟨(by omega), mr21⟩, (by omega), (by omega), (by omega), (by omega), (by omega), (by omega), (Or.inl ⟨by omega, PSAME.fr hW hS fl21 rfl rfl rfl rfl rfl rfl rfl, (fun ss t q hs ht hq hd h => by
          have e := ht.uni akob1.2
          subst e
          obtain ⟨h1, h2, h3, h4, h5, h6, h7, h8⟩ := h.1
          first | omega)⟩), (Or.inl ⟨by omega, KP.fr hW fl21 rfl⟩), rfl, rfl⟩
  · subst oq1
    refine c_lv (lv2 := [(4, .null), (0, .ref a0), (1, .int (iI i)), (2, .int (iI cnd)), (3, .int (iI n))]) [0, 1, 2, 3, 4] rfl ?_
    refine c_st (st2 := []) rfl ?_
    refine c_aload_n (j := 1) (x := a0) C dX11_addRule_15 rfl ?_
    refine c_iconst C dX11_addRule_16 ?_
    refine d_callV (As := [.int (iI 3)]) (rest := []) C hM (C_refuse (a0 := a0) (x := 3) hW hS t_a0 ⟨by decide, by decide⟩ ) dX11_addRule_17 kV_X11_102 rfl t_a0 rfl rfl (by decide) ck_12 rfl (Nat.le_of_ble_eq_true rfl) ⟨(Nat.le_of_ble_eq_true rfl), (Nat.le_of_ble_eq_true rfl)⟩ hph hph (show 0 + 0 = 0 from rfl) (by decide) (fun rh22 Lh22 clh22 lnh22 ivh22 rvh22 h22 => ?_)
    obtain ⟨f22, rfl, rfl, rfl, rfl, rfl, fl22, W27, rgf22, exf22, kp11f22, kp12f22, kp13f22, kp14f22, kp15f22, kp16f22⟩ := h22
    have ri181 : 1 ≤ iv a0 11 ∧ iv a0 11 ≤ 100 := hW.int t_a0 11
    have ri182 : 1 ≤ iv a0 12 ∧ iv a0 12 ≤ 50 := hW.int t_a0 12
    have ri183 : (-2147483648) ≤ iv a0 13 ∧ iv a0 13 ≤ 2147483647 := hW.int t_a0 13
    have ri184 : (-2147483648) ≤ iv a0 14 ∧ iv a0 14 ≤ 2147483647 := hW.int t_a0 14
    have ri185 : (-2147483648) ≤ iv a0 15 ∧ iv a0 15 ≤ 2147483647 := hW.int t_a0 15
    have ri186 : (-2147483648) ≤ iv a0 16 ∧ iv a0 16 ≤ 2147483647 := hW.int t_a0 16
    have F20 := hF0.call hX0 fl22 rfl
    have mr22 := MRK.call hmr hW hS XT.refl fl22 rfl rfl
    refine c_st (st2 := [.int (iI f22)]) rfl ?_
    have gk11f22 : ivh22 a0 11 = iv a0 11 := kp11f22
    have gk12f22 : ivh22 a0 12 = iv a0 12 := kp12f22
    have gk13f22 : ivh22 a0 13 = iv a0 13 := kp13f22
    have gk14f22 : ivh22 a0 14 = iv a0 14 := kp14f22
    have gk15f22 : ivh22 a0 15 = iv a0 15 := kp15f22
    have gk16f22 : ivh22 a0 16 = iv a0 16 := kp16f22
    have gf22 : f22 = -1 := exf22
    have ri187 : 1 ≤ ivh22 a0 11 ∧ ivh22 a0 11 ≤ 100 := W27.int t_a0 11
    have ri188 : 1 ≤ ivh22 a0 12 ∧ ivh22 a0 12 ≤ 50 := W27.int t_a0 12
    have ri189 : (-2147483648) ≤ ivh22 a0 13 ∧ ivh22 a0 13 ≤ 2147483647 := W27.int t_a0 13
    have ri190 : (-2147483648) ≤ ivh22 a0 14 ∧ ivh22 a0 14 ≤ 2147483647 := W27.int t_a0 14
    have ri191 : (-2147483648) ≤ ivh22 a0 15 ∧ ivh22 a0 15 ≤ 2147483647 := W27.int t_a0 15
    have ri192 : (-2147483648) ≤ ivh22 a0 16 ∧ ivh22 a0 16 ≤ 2147483647 := W27.int t_a0 16
    have ri193 : 0 ≤ ivh22 (sk 23) 2 ∧ ivh22 (sk 23) 2 ≤ 512 := W27.int tsk23 2
    have ie222 : ivh22 (sk 23) 2 = iv (sk 23) 2 := fl22.i tsk23 rfl 2
    have ri194 : 0 ≤ ivh22 (sk 22) 2 ∧ ivh22 (sk 22) 2 ≤ 30 := W27.int tsk22 2
    have ie223 : ivh22 (sk 22) 2 = iv (sk 22) 2 := fl22.i tsk22 rfl 2
    exact c_iret C dX11_addRule_20 rfl (by decide) (rom0 hph hph (by decide)) ⟨f22, rfl, hX0, F20, W27, ⟨by omega, by omega⟩, ⟨(by omega), mr22⟩, (by omega), (by omega), (by omega), (by omega), (by omega), (by omega), (Or.inl ⟨by omega, PSAME.fr hW hS fl22 rfl rfl rfl rfl rfl rfl rfl, (fun ss t q hs ht hq hd _ => gf1.2 rfl t ht)⟩), (Or.inl ⟨by omega, KP.fr hW fl22 rfl⟩), rfl, rfl⟩
set_option maxHeartbeats 4000000 in
set_option maxRecDepth 100000 in
theorem C_rule {l : Launch} {G : GT} {mi : Nat} {sk : Nat → Nat} {L : List Nat} {cl ln : Nat → Nat} {iv : Nat → Nat → Int} {rv : Nat → Nat → Option Nat}  {a0 : Nat} {i : Int} {cnd : Int} {n : Int} (hW : WT (g0 G) sk L cl ln iv rv) (hS : SKL sk L cl) (t_a0 : ty L cl a0 1) (h_i : -2147483648 ≤ i ∧ i ≤ 2147483647) (h_cnd : -2147483648 ≤ cnd ∧ cnd ≤ 2147483647) (h_n : -2147483648 ≤ n ∧ n ≤ 2147483647) (hmr : MRK sk cl iv rv) (hch : iv (sk 23) 2 < 512) : Mc l G mi (Phi (g0 G) sk) PHM yX11_rule cX11_rule 5 (some .int) 9 [.ref a0, .int (iI i), .int (iI cnd), .int (iI n)] L cl ln iv rv 2320 (fun v L2 cl2 ln2 iv2 rv2 => ∃ f : Int, v = some (.int (iI f)) ∧ XT L cl ln L2 cl2 ln2 ∧ fT [1, 65, 66, 206, 20, 26, 1004, 12, 42, 23, 1001, 201, 2] L cl iv rv iv2 rv2 ∧ WT (g0 G) sk L2 cl2 ln2 iv2 rv2 ∧ (-2147483648 ≤ f ∧ f ≤ 2147483647) ∧ (iv2 (sk 23) 2 ≤ iv (sk 23) 2 + 1 ∧ MRK sk cl2 iv2 rv2) ∧ iv2 a0 11 = iv a0 11 ∧ iv2 a0 12 = iv a0 12 ∧ iv2 a0 13 = iv a0 13 ∧ iv2 a0 14 = iv a0 14 ∧ iv2 a0 15 = iv a0 15 ∧ iv2 a0 16 = iv a0 16 ∧ iv2 (sk 2) 2 = 0 ∧ (PRUL i cnd n f sk iv rv iv2 rv2) ∧ (KRU L cl sk iv rv L2 cl2 ln2 iv2 rv2 i cnd n f) ∧ rv2 a0 9 = rv a0 9 ∧ rv2 a0 10 = rv a0 10) := by
  refine Mc.mk (by decide) (Nat.le_of_ble_eq_true rfl) ?_
  intro p e s m args below meth c A C hM
  have hph := Phi.le hW hS
  have tsk2 : ty L cl (sk 2) 2 := ⟨(hS 2 rfl).1, by rw [(hS 2 rfl).2]; rfl⟩
  have tsk3 : ty L cl (sk 3) 3 := ⟨(hS 3 rfl).1, by rw [(hS 3 rfl).2]; rfl⟩
  have tsk4 : ty L cl (sk 4) 4 := ⟨(hS 4 rfl).1, by rw [(hS 4 rfl).2]; rfl⟩
  have tsk5 : ty L cl (sk 5) 5 := ⟨(hS 5 rfl).1, by rw [(hS 5 rfl).2]; rfl⟩
  have tsk13 : ty L cl (sk 13) 13 := ⟨(hS 13 rfl).1, by rw [(hS 13 rfl).2]; rfl⟩
  have tsk14 : ty L cl (sk 14) 14 := ⟨(hS 14 rfl).1, by rw [(hS 14 rfl).2]; rfl⟩
  have tsk15 : ty L cl (sk 15) 15 := ⟨(hS 15 rfl).1, by rw [(hS 15 rfl).2]; rfl⟩
  have tsk16 : ty L cl (sk 16) 16 := ⟨(hS 16 rfl).1, by rw [(hS 16 rfl).2]; rfl⟩
  have tsk17 : ty L cl (sk 17) 17 := ⟨(hS 17 rfl).1, by rw [(hS 17 rfl).2]; rfl⟩
  have tsk22 : ty L cl (sk 22) 22 := ⟨(hS 22 rfl).1, by rw [(hS 22 rfl).2]; rfl⟩
  have tsk23 : ty L cl (sk 23) 23 := ⟨(hS 23 rfl).1, by rw [(hS 23 rfl).2]; rfl⟩
  have hX0 : XT L cl ln L cl ln := XT.refl
  have hF0 : fT [1, 65, 66, 206, 20, 26, 1004, 12, 42, 23, 1001, 201, 2] L cl iv rv iv rv := fT.refl
  have ri1 : 0 ≤ iv (sk 23) 2 ∧ iv (sk 23) 2 ≤ 512 := hW.int tsk23 2
  refine c_aload_n (j := 0) (x := a0) C dX11_rule_0 rfl ?_
  refine c_iload_n (j := 1) C dX11_rule_1 rfl ?_
  refine c_iload_n (j := 2) C dX11_rule_2 rfl ?_
  refine c_iload_n (j := 3) C dX11_rule_3 rfl ?_
  refine d_callV (As := [.int (iI i), .int (iI cnd), .int (iI n)]) (rest := []) C hM (C_addRule (a0 := a0) (i := i) (cnd := cnd) (n := n) hW hS t_a0 (by omega) (by omega) (by omega) hmr (by show iv (sk 23) 2 < 512; omega)) dX11_rule_4 kV_X11_160 rfl t_a0 rfl rfl (by decide) ck_12 rfl (Nat.le_of_ble_eq_true rfl) ⟨(Nat.le_of_ble_eq_true rfl), (Nat.le_of_ble_eq_true rfl)⟩ hph hph (show 0 + 2320 = 2320 from rfl) (by decide) (fun rh1 Lh1 clh1 lnh1 ivh1 rvh1 h1 => ?_)
  obtain ⟨f1, rfl, xl1, fl1, W1, rgf1, exf1, kp11f1, kp12f1, kp13f1, kp14f1, kp15f1, kp16f1, tbxf1, kbxf1, kr9f1, kr10f1⟩ := h1
  have ri2 : 1 ≤ iv a0 11 ∧ iv a0 11 ≤ 100 := hW.int t_a0 11
  have ri3 : 1 ≤ iv a0 12 ∧ iv a0 12 ≤ 50 := hW.int t_a0 12
  have ri4 : (-2147483648) ≤ iv a0 13 ∧ iv a0 13 ≤ 2147483647 := hW.int t_a0 13
  have ri5 : (-2147483648) ≤ iv a0 14 ∧ iv a0 14 ≤ 2147483647 := hW.int t_a0 14
  have ri6 : (-2147483648) ≤ iv a0 15 ∧ iv a0 15 ≤ 2147483647 := hW.int t_a0 15
  have ri7 : (-2147483648) ≤ iv a0 16 ∧ iv a0 16 ≤ 2147483647 := hW.int t_a0 16
  have F1 := hF0.call hX0 fl1 rfl
  have mr1 := MRK.call hmr hW hS xl1 fl1 rfl rfl
  have X1 := hX0.trans xl1
  have sk1 := xl1.skl hS
  refine c_st (st2 := [.int (iI f1)]) rfl ?_
  have gk11f1 : ivh1 a0 11 = iv a0 11 := kp11f1
  have gk12f1 : ivh1 a0 12 = iv a0 12 := kp12f1
  have gk13f1 : ivh1 a0 13 = iv a0 13 := kp13f1
  have gk14f1 : ivh1 a0 14 = iv a0 14 := kp14f1
  have gk15f1 : ivh1 a0 15 = iv a0 15 := kp15f1
  have gk16f1 : ivh1 a0 16 = iv a0 16 := kp16f1
  have ty1 := xl1.ty tsk23
  have ri8 : 0 ≤ ivh1 (sk 23) 2 ∧ ivh1 (sk 23) 2 ≤ 512 := W1.int ty1 2
  have gf1 : ivh1 (sk 23) 2 ≤ iv (sk 23) 2 + 1 ∧ MRK sk clh1 ivh1 rvh1 := exf1
  refine c_istore (lv2 := [(4, .int (iI f1)), (0, .ref a0), (1, .int (iI i)), (2, .int (iI cnd)), (3, .int (iI n))]) C dX11_rule_7 (by decide) rfl ?_
  refine c_aload_n (j := 1) (x := a0) C dX11_rule_9 rfl ?_
  have ty2 := xl1.ty t_a0
  obtain ⟨rb1, rq1, trb1⟩ := W1.ref ty2 0 rfl rfl rfl
  have erb1 := W1.sk trb1 (by decide) rfl
  subst erb1
  refine c_getr (k := 0) C ck_12 dX11_rule_10 w2_44 (by decide) ty2 rfl rfl (by decide) rfl rq1 ?_
  refine c_st (st2 := [.ref (sk 2)]) rfl ?_
  have ty3 := xl1.ty tsk2
  have pl1 := Phi.le W1 sk1
  refine d_callV (As := []) (rest := []) C hM (C_clear_2 (a0 := (sk 2)) W1 sk1 ty3  ) dX11_rule_13 kV_X11_164 rfl ty3 rfl rfl (by decide) ck_2 rfl (Nat.le_of_ble_eq_true rfl) ⟨(Nat.le_of_ble_eq_true rfl), (Nat.le_of_ble_eq_true rfl)⟩ hph pl1 (show 2320 + 0 = 2320 from rfl) (by decide) (fun rh2 Lh2 clh2 lnh2 ivh2 rvh2 h2 => ?_)
  obtain ⟨rfl, rfl, rfl, rfl, rfl, fl2, W2, exf2⟩ := h2
  have F2 := F1.call X1 fl2 rfl
  have mr2 := MRK.call mr1 W1 sk1 XT.refl fl2 rfl rfl
  refine c_st (st2 := []) rfl ?_
  have ri9 : 0 ≤ ivh2 (sk 2) 2 ∧ ivh2 (sk 2) 2 ≤ 3000 := W2.int ty3 2
  have gf2 : ivh2 (sk 2) 2 = 0 := exf2
  refine c_iload (j := 0) C dX11_rule_16 rfl ?_
  have ri10 : 1 ≤ ivh2 a0 11 ∧ ivh2 a0 11 ≤ 100 := W2.int ty2 11
  have ie3 : ivh2 a0 11 = ivh1 a0 11 := fl2.i ty2 rfl 11
  have ri11 : 1 ≤ ivh2 a0 12 ∧ ivh2 a0 12 ≤ 50 := W2.int ty2 12
  have ie5 : ivh2 a0 12 = ivh1 a0 12 := fl2.i ty2 rfl 12
  have ri12 : (-2147483648) ≤ ivh2 a0 13 ∧ ivh2 a0 13 ≤ 2147483647 := W2.int ty2 13
  have ie7 : ivh2 a0 13 = ivh1 a0 13 := fl2.i ty2 rfl 13
  have ri13 : (-2147483648) ≤ ivh2 a0 14 ∧ ivh2 a0 14 ≤ 2147483647 := W2.int ty2 14
  have ie9 : ivh2 a0 14 = ivh1 a0 14 := fl2.i ty2 rfl 14
  have ri14 : (-2147483648) ≤ ivh2 a0 15 ∧ ivh2 a0 15 ≤ 2147483647 := W2.int ty2 15
  have ie11 : ivh2 a0 15 = ivh1 a0 15 := fl2.i ty2 rfl 15
  have ri15 : (-2147483648) ≤ ivh2 a0 16 ∧ ivh2 a0 16 ≤ 2147483647 := W2.int ty2 16
  have ie13 : ivh2 a0 16 = ivh1 a0 16 := fl2.i ty2 rfl 16
  have ri16 : 0 ≤ ivh2 (sk 23) 2 ∧ ivh2 (sk 23) 2 ≤ 512 := W2.int ty1 2
  have ie15 : ivh2 (sk 23) 2 = ivh1 (sk 23) 2 := fl2.i ty1 rfl 2
  have tx1 := TX.xt TX.refl xl1
  exact c_iret C dX11_rule_18 rfl (by decide) (rom0 hph pl1 (by decide)) ⟨f1, rfl, X1, F2, W2, ⟨by omega, by omega⟩, ⟨(by omega), mr2⟩, (by omega), (by omega), (by omega), (by omega), (by omega), (by omega), (by omega), (PRUL.after tbxf1 (by omega) (PSAME.fr W1 sk1 fl2 rfl rfl rfl rfl rfl rfl rfl)), (KRU.after kbxf1 hW hS tx1 W1 fl2 rfl), (show rvh1 a0 9 = rv a0 9 from kr9f1), (show rvh1 a0 10 = rv a0 10 from kr10f1)⟩
