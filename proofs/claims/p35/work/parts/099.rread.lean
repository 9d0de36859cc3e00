section
def SDX (a : Nat → Nat → Int) (w x u f : Int) : Prop := f = 1 ↔ (x + a 46 w.toNat ≤ u ∧ ∀ k : Int, 0 ≤ k → k < a 46 w.toNat → rcl a w k = a 48 (x + k).toNat)
def SDI (a : Nat → Nat → Int) (w x u k g : Int) : Prop := g = 1 ↔ (x + a 46 w.toNat ≤ u ∧ ∀ j : Int, 0 ≤ j → j < k → rcl a w j = a 48 (x + j).toNat)
def LCX (a : Nat → Nat → Int) (q x u : Int) (l : List Int) (R : Nat → Int) : Prop := HLD a a q l ∧ NZL a l ∧ (∀ j : Int, x ≤ j → j < u → R j.toNat = a 48 j.toNat) ∧ R u.toNat = 0
def bix (q b : Int) : Int := if b < 0 then -1 else b - 6008 * q
def LGI (a : Nat → Nat → Int) (q x u r b : Int) : Prop := ∀ l R, LCX a q x u l R → BSI a R x l (r - 6008 * q) (bix q b)
def LGX (a : Nat → Nat → Int) (q x u f : Int) : Prop := ∀ l R, LCX a q x u l R → (f = -1 ∧ BSQ a R x l none) ∨ ((6008 * q ≤ f ∧ f < 6008 * q + a 47 q.toNat) ∧ ∃ d, l[(f - 6008 * q).toNat]? = some d ∧ rent a a f d ∧ BSQ a R x l (some d))
def OUTL (v : Nat → Int) (a : Nat → Nat → Int) (bs : List Int) : Prop := v 52 = ((bs.length : Nat) : Int) ∧ ∀ (j : Nat) (x : Int), bs[j]? = some x → a 51 j = x
def TLX (v : Nat → Int) (a : Nat → Nat → Int) (v2 : Nat → Int) (a2 : Nat → Nat → Int) (x f : Int) : Prop := ∀ bs, OUTL v a bs → (f = 1 ∧ OUTL v2 a2 (bs ++ [x])) ∨ (f = 0 ∧ bs.length = 4000)
section RRD1
variable {v v1 v2 : Nat → Int} {a a1 a2 : Nat → Nat → Int} {l : List Int} {R : Nat → Int} {w x u k g f q r b d e y : Int} {bs : List Int}
theorem SDI.init1 (h : x + a 46 w.toNat ≤ u) : SDI a w x u 0 1 := ⟨fun _ => ⟨h, fun j h1 h2 => absurd h1 (by omega)⟩, fun _ => rfl⟩
theorem SDI.init0 (h : u < x + a 46 w.toNat) : SDI a w x u 0 0 := ⟨fun e => absurd e (by decide), fun e => absurd e.1 (by omega)⟩
theorem SDI.step1 (h : SDI a w x u k g) (hg : g = 1) (e : rcl a w k = a 48 (x + k).toNat) : SDI a w x u (k + 1) 1 := ⟨fun _ => ⟨(h.mp hg).1, fun j h1 h2 => by
  by_cases c : j < k
  · exact (h.mp hg).2 j h1 c
  · rw [show j = k by omega]; exact e⟩, fun _ => rfl⟩
theorem SDI.step0 (hk : 0 ≤ k) (e : ¬ rcl a w k = a 48 (x + k).toNat) : SDI a w x u (k + 1) 0 := ⟨fun e => absurd e (by decide), fun q => absurd (q.2 k hk (by omega)) e⟩
theorem SDI.fin (h : SDI a w x u k g) (hk : k = a 46 w.toNat) : SDX a w x u g := by
  subst hk
  exact h
theorem SDI.no (h : SDI a w x u k g) (hg : g = 0) (hk : k ≤ a 46 w.toNat) : SDX a w x u g := ⟨fun e => absurd e (by omega), fun q => absurd (h.mpr ⟨q.1, fun j h1 h2 => q.2 j h1 (by omega)⟩) (by omega)⟩
theorem SDX.std (h : SDX a w x u f) (hr : rent a a w d) (hd : (1 ≤ rlen a d ∧ rlen a d ≤ 4) ∧ ∀ k : Int, 0 ≤ k → k < rlen a d → dcl a d k ≠ 0) (hR : ∀ j : Int, x ≤ j → j < u → R j.toNat = a 48 j.toNat) (hu : R u.toNat = 0) (hx : x ≤ u) : f = 1 ↔ STD a R x d := by
  obtain ⟨e1, e2⟩ := hr.rc1 rfl rfl
  unfold SDX at h
  rw [h, e1]
  refine ⟨fun g k h1 h2 => ?_, fun g => ?_⟩
  · rw [← e2 k, hR (x + k) (by omega) (by omega)]
    exact g.2 k h1 h2
  · have le : x + rlen a d ≤ u := by
      by_cases c : x + rlen a d ≤ u
      · exact c
      · have q := g (u - x) (by omega) (by omega)
        rw [show x + (u - x) = u by omega, hu] at q
        exact absurd q (hd.2 (u - x) (by omega) (by omega))
    refine ⟨le, fun k h1 h2 => ?_⟩
    rw [e2 k, g k h1 h2, hR (x + k) (by omega) (by omega)]
theorem HLD.tt (h : HLD a a2 q l) (hq : 0 ≤ q) (h0 : 6008 * q ≤ r) (h1 : r < 6008 * q + a2 47 q.toNat) : ∃ d, l[(r - 6008 * q).toNat]? = some d ∧ rent a a2 r d := by
  have e := h.1
  have lt : (r - 6008 * q).toNat < l.length := by omega
  have g := List.getElem?_eq_getElem lt
  refine ⟨_, g, ?_⟩
  have w := h.2.2 _ _ g
  rw [show 6008 * q + (((r - 6008 * q).toNat : Nat) : Int) = r by omega] at w
  exact w
theorem LGI.init : LGI a q x u (6008 * q) (-1) := fun l R _ => by
  rw [show 6008 * q - 6008 * q = 0 by omega]
  exact BSI.zero
theorem LGI.skip (h : LGI a q x u r b) (hq : q = 0 ∨ q = 1) (hr : 6008 * q ≤ r ∧ r < 6008 * q + a 47 q.toNat) (hs : SDX a r x u f) (hf : f ≠ 1) (hx : x ≤ u) : LGI a q x u (r + 1) b := fun l R hc => by
  obtain ⟨c1, c2, c3, c4⟩ := hc
  obtain ⟨d, d1, d2⟩ := c1.tt (by omega) hr.1 hr.2
  have g := h l R ⟨c1, c2, c3, c4⟩
  rw [show r + 1 - 6008 * q = (r - 6008 * q) + 1 by omega]
  exact g.skip (by omega) d1 (fun q2 => hf ((hs.std d2 (c2 _ _ d1) c3 c4 hx).mpr q2))
theorem bix_p (h : 0 ≤ b) : bix q b = b - 6008 * q := if_neg (by omega)
theorem LGI.less (h : LGI a q x u r b) (hq : q = 0 ∨ q = 1) (hr : 6008 * q ≤ r ∧ r < 6008 * q + a 47 q.toNat) (hb : 6008 * q ≤ b ∧ b < r) (hl : a 46 r.toNat ≤ a 46 b.toNat) : LGI a q x u (r + 1) b := fun l R hc => by
  obtain ⟨c1, c2, c3, c4⟩ := hc
  obtain ⟨d, d1, d2⟩ := c1.tt (by omega) hr.1 hr.2
  obtain ⟨e, e1, e2⟩ := c1.tt (r := b) (by omega) hb.1 (by omega)
  have g := h l R ⟨c1, c2, c3, c4⟩
  rw [bix_p (by omega)] at g
  rw [show r + 1 - 6008 * q = (r - 6008 * q) + 1 by omega, bix_p (by omega)]
  refine hv2 ((d2.rc1 rfl rfl).1) ((e2.rc1 rfl rfl).1) (fun w1 w2 => ?_)
  exact g.less (by omega) d1 (by omega) e1 (by omega)
theorem LGI.take (h : LGI a q x u r b) (hq : q = 0 ∨ q = 1) (hr : 6008 * q ≤ r ∧ r < 6008 * q + a 47 q.toNat) (hs : SDX a r x u f) (hf : f = 1) (hx : x ≤ u) (hb : b < 0 ∨ ((6008 * q ≤ b ∧ b < r) ∧ a 46 b.toNat < a 46 r.toNat)) : LGI a q x u (r + 1) r := fun l R hc => by
  obtain ⟨c1, c2, c3, c4⟩ := hc
  obtain ⟨d, d1, d2⟩ := c1.tt (by omega) hr.1 hr.2
  have g := h l R ⟨c1, c2, c3, c4⟩
  rw [show r + 1 - 6008 * q = (r - 6008 * q) + 1 by omega, bix_p (by omega)]
  refine g.take (by omega) d1 ((hs.std d2 (c2 _ _ d1) c3 c4 hx).mp hf) ?_
  rcases hb with hb | ⟨hb, hl⟩
  · exact Or.inl (if_pos hb)
  · obtain ⟨e, e1, e2⟩ := c1.tt (r := b) (by omega) hb.1 (by omega)
    refine hv2 ((d2.rc1 rfl rfl).1) ((e2.rc1 rfl rfl).1) (fun w1 w2 => ?_)
    refine Or.inr ⟨e, ?_, by omega⟩
    rw [bix_p (by omega)]
    exact e1
theorem LGX.mk (h : LGI a q x u r b) (hq : q = 0 ∨ q = 1) (hr : r = 6008 * q + a 47 q.toNat) (hb : b = -1 ∨ (6008 * q ≤ b ∧ b < r)) : LGX a q x u b := fun l R hc => by
  refine hv2 (h l R hc) (hc.1.1) (fun g e => ?_)
  rw [show r - 6008 * q = ((l.length : Nat) : Int) by omega] at g
  rcases hb with hb | hb
  · subst hb
    exact Or.inl ⟨rfl, g.none (by unfold bix; rw [if_pos (by decide)]; decide)⟩
  · obtain ⟨d, d1, d2⟩ := hc.1.tt (r := b) (by omega) hb.1 (by omega)
    rw [bix_p (by omega)] at g
    exact Or.inr ⟨⟨hb.1, by omega⟩, d, d1, d2, g.some (by omega) d1⟩
theorem OUTL.fr (h : OUTL v a bs) (h52 : v2 52 = v 52) (h51 : a2 51 = a 51) : OUTL v2 a2 bs := ⟨h52.trans h.1, fun j x e => by rw [h51]; exact h.2 j x e⟩
theorem OUTL.snoc (h : OUTL v a bs) (h52 : v2 52 = v 52 + 1) (h51 : a2 51 = va_up (a 51) (v 52).toNat x) : OUTL v2 a2 (bs ++ [x]) := by
  have e := h.1
  refine ⟨by rw [len1]; omega, fun j y ej => ?_⟩
  rw [h51]
  rcases ap1 ej with ⟨c, ej⟩ | ⟨c, ej⟩
  · rw [va_up_ne _ _ (by omega)]
    exact h.2 j y ej
  · rw [show j = (v 52).toNat by omega, va_up_self]
    exact ej
end RRD1
set_option maxHeartbeats 4000000 in
set_option maxRecDepth 100000 in
theorem E_stands {l : Launch} {G : GT} {h0 : Nat} {ad ln : Nat → Nat} {v : Nat → Int} {a : Nat → Nat → Int}  {w x u : Int} (hB : BX v a) (hx : RowOK a w) (hq : 0 ≤ x ∧ x ≤ u ∧ u ≤ 40200) : Mm l G yX12_stands cX12_stands 6 (some .boolean) 1 [.int (iI w), .int (iI x), .int (iI u)] h0 ad ln v a 0 0 (fun r v2 a2 => ∃ f : Int, r = some (.int (iI f)) ∧ fr [] [] v a v2 a2 ∧ BX v2 a2 ∧ ((f = 0 ∨ (f = 1 ∧ x + a 46 w.toNat ≤ u)) ∧ SDX a w x u f)) := by
  refine Mm.mk (by decide) (Nat.le_of_ble_eq_true rfl) ?_
  intro p e s m args below meth c A C
  have uhx := hx
  unfold RowOK at uhx
  have fp0 : fr [] [] v a v a := fr.refl
  refine m_iload_n (j := 2) C dX12_stands_0 rfl ?_
  refine m_aload_n (j := 0) C dX12_stands_1 rfl ?_
  refine m_geta (k := 46) C dX12_stands_2 w6_105 (by decide) rfl ?_
  refine m_iload_n (j := 1) C dX12_stands_5 rfl ?_
  refine m_ald (k := 46) C dX12_stands_6 rfl rfl (by decide) (by omega) (by show _ < ((_ : Nat) : Int); simp only [mlen]; omega) (by decide) ?_
  have ra1 : 0 ≤ a 46 w.toNat ∧ a 46 w.toNat ≤ 4 := hB.2 46 (w.toNat)
  refine m_iadd C dX12_stands_7 ?_
  refine m_iload_n (j := 3) C dX12_stands_8 rfl ?_
  refine m_icmp_gt (tgt := 16) C ⟨by omega, by omega⟩ ⟨by omega, by omega⟩ dX12_stands_9 (by decide) (fun c1 => ?_) (fun c1 => ?_)
  · refine m_iconst C dX12_stands_16 ?_
    refine m_istore (lv2 := [(4, .int (iI 0)), (0, .ref h0), (1, .int (iI w)), (2, .int (iI x)), (3, .int (iI u))]) C dX12_stands_17 (by decide) rfl ?_
    refine m_iconst C dX12_stands_19 ?_
    refine m_istore (lv2 := [(5, .int (iI 0)), (4, .int (iI 0)), (0, .ref h0), (1, .int (iI w)), (2, .int (iI x)), (3, .int (iI u))]) C dX12_stands_20 (by decide) rfl ?_
    have Lp1 : ∀ (nn : Nat) (g k : Int) (vb1 : Nat → Int) (ab1 : Nat → Nat → Int), 5 - k < (nn : Int) → BX vb1 ab1 → fr [] [] v a vb1 ab1 → (g = 0 ∨ (g = 1 ∧ x + a 46 w.toNat ≤ u)) → (0 ≤ k ∧ k ≤ a 46 w.toNat) → (SDI a w x u k g) → mw p l e (rmq 1 0 0) s m args below meth c G A 6 (MQ below (Qm G A (fun rq Lq Eq => ∃ (vq : Nat → Int) (aq : Nat → Nat → Int), mI G h0 ad ln vq aq Lq Eq ∧ (fun r v2 a2 => ∃ f : Int, r = some (.int (iI f)) ∧ fr [] [] v a v2 a2 ∧ BX v2 a2 ∧ ((f = 0 ∨ (f = 1 ∧ x + a 46 w.toNat ≤ u)) ∧ SDX a w x u f)) rq vq aq)) args s 0 0 A) h0 ad ln vb1 ab1 0 0 22 [(4, .int (iI g)), (5, .int (iI k)), (0, .ref h0), (1, .int (iI w)), (2, .int (iI x)), (3, .int (iI u))] [] := by
      intro nn
      induction nn with
      | zero =>
        intro g k vb1 ab1 hm bxb1 fpb1 hg hk hI
        exact absurd hm (by omega)
      | succ nn ih1 =>
        intro g k vb1 ab1 hm bxb1 fpb1 hg hk hI
        refine m_iload (j := 1) C dX12_stands_22 rfl ?_
        refine m_aload_n (j := 2) C dX12_stands_24 rfl ?_
        refine m_geta (k := 46) C dX12_stands_25 w6_105 (by decide) rfl ?_
        refine m_iload_n (j := 3) C dX12_stands_28 rfl ?_
        refine m_ald (k := 46) C dX12_stands_29 rfl rfl (by decide) (by omega) (by show _ < ((_ : Nat) : Int); simp only [mlen]; omega) (by decide) ?_
        refine hv2 (show 0 ≤ ab1 46 w.toNat ∧ ab1 46 w.toNat ≤ 4 from bxb1.2 46 (w.toNat)) (show ab1 46 (w.toNat) = a 46 (w.toNat) from congrFun (fpb1.2 46 rfl) (w.toNat)) (fun ra2 ae1 => ?_)
        refine m_st (st2 := [.int (iI (a 46 w.toNat)), .int (iI k)]) (congrArg (fun z => Value.int (iI z) :: [.int (iI k)]) (congrFun (fpb1.2 46 rfl) (w.toNat))) ?_
        refine m_icmp_ge (tgt := 70) C ⟨by omega, by omega⟩ (r32_c (lo := 0) (hi := 4) ra1.1 ra1.2 (by decide) (by decide)) dX12_stands_30 (by decide) (fun c2 => ?_) (fun c2 => ?_)
        · refine m_iload (j := 0) C dX12_stands_70 rfl ?_
          exact m_zret C dX12_stands_72 rfl (by omega) (Nat.le_of_ble_eq_true rfl) (Nat.le_of_ble_eq_true rfl) ⟨g, rfl, fpb1, bxb1, ⟨by omega, hI.fin (by omega)⟩⟩
        · refine m_iload (j := 0) C dX12_stands_33 rfl ?_
          refine m_if_eq (tgt := 70) C ⟨by omega, by omega⟩ dX12_stands_35 (by decide) (fun c3 => ?_) (fun c3 => ?_)
          · clear hg
            refine m_iload (j := 0) C dX12_stands_70 rfl ?_
            exact m_zret C dX12_stands_72 rfl (by omega) (Nat.le_of_ble_eq_true rfl) (Nat.le_of_ble_eq_true rfl) ⟨g, rfl, fpb1, bxb1, ⟨by omega, hI.no (by omega) (by omega)⟩⟩
          · replace hg := (hg.resolve_left c3)
            refine m_aload_n (j := 2) C dX12_stands_38 rfl ?_
            refine m_iload_n (j := 3) C dX12_stands_39 rfl ?_
            refine m_iload (j := 1) C dX12_stands_40 rfl ?_
            refine hv4 (show 0 ≤ ab1 45 w.toNat ∧ ab1 45 w.toNat ≤ 23999 from bxb1.2 45 (w.toNat)) (show ab1 45 (w.toNat) = a 45 (w.toNat) from congrFun (fpb1.2 45 rfl) (w.toNat)) (show (-4) ≤ ab1 44 w.toNat ∧ ab1 44 w.toNat ≤ 5999 from bxb1.2 44 (w.toNat)) (show ab1 44 (w.toNat) = a 44 (w.toNat) from congrFun (fpb1.2 44 rfl) (w.toNat)) (fun ra3 ae2 ra4 ae3 => ?_)
            refine m_call (mc2 := 0) (ms2 := 0) (As := [.int (iI w), .int (iI k)]) (rest := []) C (E_rowCell (w := w) (k := k) bxb1 (by show 0 ≤ w ∧ w < 12016; omega) (by show 0 ≤ ab1 45 w.toNat + k ∧ (0 ≤ ab1 44 w.toNat → ab1 45 w.toNat + k < 24000) ∧ (ab1 44 w.toNat < 0 → ab1 45 w.toNat + k < 480); omega)) dX12_stands_42 kV_X12_324 rfl ck_13 rfl (Nat.le_of_ble_eq_true rfl) ⟨Nat.le_of_ble_eq_true rfl, Nat.le_of_ble_eq_true rfl⟩ ⟨Nat.le_of_ble_eq_true rfl, Nat.le_of_ble_eq_true rfl⟩ (fun rh1 vh1 ah1 h1 => ?_)
            obtain ⟨f1, rfl, fn1, bn1, ex1⟩ := h1
            obtain ⟨rfl, rfl⟩ := fn1.eq
            obtain ⟨ex1, tl1⟩ := ex1
            have gf1 : -2147483648 ≤ f1 ∧ f1 ≤ 2147483647 := ex1
            refine m_st (st2 := [.int (iI f1)]) rfl ?_
            refine m_aload_n (j := 2) C dX12_stands_45 rfl ?_
            refine m_geta (k := 48) C dX12_stands_46 w6_107 (by decide) rfl ?_
            refine m_iload_n (j := 4) C dX12_stands_49 rfl ?_
            refine m_iload (j := 1) C dX12_stands_50 rfl ?_
            refine m_iadd C dX12_stands_52 ?_
            refine m_ald (k := 48) C dX12_stands_53 rfl rfl (by decide) (by omega) (by show _ < ((_ : Nat) : Int); simp only [mlen]; omega) (by decide) ?_
            refine hv2 (show (-2147483648) ≤ ab1 48 (x + k).toNat ∧ ab1 48 (x + k).toNat ≤ 2147483647 from bxb1.2 48 ((x + k).toNat)) (show ab1 48 ((x + k).toNat) = a 48 ((x + k).toNat) from congrFun (fpb1.2 48 rfl) ((x + k).toNat)) (fun ra5 ae4 => ?_)
            refine m_st (st2 := [.int (iI (a 48 (x + k).toNat)), .int (iI f1)]) (congrArg (fun z => Value.int (iI z) :: [.int (iI f1)]) (congrFun (fpb1.2 48 rfl) ((x + k).toNat))) ?_
            refine m_icmp_ne (tgt := 61) C (r32_c (lo := (-2147483648)) (hi := 2147483647) gf1.1 gf1.2 (by decide) (by decide)) ⟨by omega, by omega⟩ dX12_stands_54 (by decide) (fun c4 => ?_) (fun c4 => ?_)
            · refine m_iconst C dX12_stands_61 ?_
              refine m_istore (lv2 := [(4, .int (iI 0)), (5, .int (iI k)), (0, .ref h0), (1, .int (iI w)), (2, .int (iI x)), (3, .int (iI u))]) C dX12_stands_62 (by decide) rfl ?_
              refine m_iinc (z := k) (j := 1) (lv2 := [(5, .int (iI (k + 1))), (4, .int (iI 0)), (0, .ref h0), (1, .int (iI w)), (2, .int (iI x)), (3, .int (iI u))]) C dX12_stands_64 rfl (by decide) rfl ?_
              refine m_goto (tgt := 22) C dX12_stands_67 (by decide) ?_
              refine m_lv (lv2 := [(4, .int (iI 0)), (5, .int (iI (k + 1))), (0, .ref h0), (1, .int (iI w)), (2, .int (iI x)), (3, .int (iI u))]) [1, 0, 2, 3, 4, 5] rfl ?_
              exact ih1  0 (k + 1) _ _ (by omega) bxb1 fpb1 (by omega) (by omega) (SDI.step0 (by omega) (by rw [(fpb1.eq).2, ← tl1]; omega))
            · refine m_iconst C dX12_stands_57 ?_
              refine m_goto (tgt := 62) C dX12_stands_58 (by decide) ?_
              refine m_istore (lv2 := [(4, .int (iI 1)), (5, .int (iI k)), (0, .ref h0), (1, .int (iI w)), (2, .int (iI x)), (3, .int (iI u))]) C dX12_stands_62 (by decide) rfl ?_
              refine m_iinc (z := k) (j := 1) (lv2 := [(5, .int (iI (k + 1))), (4, .int (iI 1)), (0, .ref h0), (1, .int (iI w)), (2, .int (iI x)), (3, .int (iI u))]) C dX12_stands_64 rfl (by decide) rfl ?_
              refine m_goto (tgt := 22) C dX12_stands_67 (by decide) ?_
              refine m_lv (lv2 := [(4, .int (iI 1)), (5, .int (iI (k + 1))), (0, .ref h0), (1, .int (iI w)), (2, .int (iI x)), (3, .int (iI u))]) [1, 0, 2, 3, 4, 5] rfl ?_
              exact ih1  1 (k + 1) _ _ (by omega) bxb1 fpb1 (by omega) (by omega) (hI.step1 (by omega) (by rw [(fpb1.eq).2, ← tl1]; omega))
    refine m_lv (lv2 := [(4, .int (iI 0)), (5, .int (iI 0)), (0, .ref h0), (1, .int (iI w)), (2, .int (iI x)), (3, .int (iI u))]) [1, 0, 2, 3, 4, 5] rfl ?_
    exact Lp1 6 0 0 _ _ (by omega) hB fp0 (by omega) (by omega) (SDI.init0 (by omega))
  · refine m_iconst C dX12_stands_12 ?_
    refine m_goto (tgt := 17) C dX12_stands_13 (by decide) ?_
    refine m_istore (lv2 := [(4, .int (iI 1)), (0, .ref h0), (1, .int (iI w)), (2, .int (iI x)), (3, .int (iI u))]) C dX12_stands_17 (by decide) rfl ?_
    refine m_iconst C dX12_stands_19 ?_
    refine m_istore (lv2 := [(5, .int (iI 0)), (4, .int (iI 1)), (0, .ref h0), (1, .int (iI w)), (2, .int (iI x)), (3, .int (iI u))]) C dX12_stands_20 (by decide) rfl ?_
    have Lp2 : ∀ (nn : Nat) (g k : Int) (vb2 : Nat → Int) (ab2 : Nat → Nat → Int), 5 - k < (nn : Int) → BX vb2 ab2 → fr [] [] v a vb2 ab2 → (g = 0 ∨ (g = 1 ∧ x + a 46 w.toNat ≤ u)) → (0 ≤ k ∧ k ≤ a 46 w.toNat) → (SDI a w x u k g) → mw p l e (rmq 1 0 0) s m args below meth c G A 6 (MQ below (Qm G A (fun rq Lq Eq => ∃ (vq : Nat → Int) (aq : Nat → Nat → Int), mI G h0 ad ln vq aq Lq Eq ∧ (fun r v2 a2 => ∃ f : Int, r = some (.int (iI f)) ∧ fr [] [] v a v2 a2 ∧ BX v2 a2 ∧ ((f = 0 ∨ (f = 1 ∧ x + a 46 w.toNat ≤ u)) ∧ SDX a w x u f)) rq vq aq)) args s 0 0 A) h0 ad ln vb2 ab2 0 0 22 [(4, .int (iI g)), (5, .int (iI k)), (0, .ref h0), (1, .int (iI w)), (2, .int (iI x)), (3, .int (iI u))] [] := by
      intro nn
      induction nn with
      | zero =>
        intro g k vb2 ab2 hm bxb2 fpb2 hg hk hI
        exact absurd hm (by omega)
      | succ nn ih2 =>
        intro g k vb2 ab2 hm bxb2 fpb2 hg hk hI
        refine m_iload (j := 1) C dX12_stands_22 rfl ?_
        refine m_aload_n (j := 2) C dX12_stands_24 rfl ?_
        refine m_geta (k := 46) C dX12_stands_25 w6_105 (by decide) rfl ?_
        refine m_iload_n (j := 3) C dX12_stands_28 rfl ?_
        refine m_ald (k := 46) C dX12_stands_29 rfl rfl (by decide) (by omega) (by show _ < ((_ : Nat) : Int); simp only [mlen]; omega) (by decide) ?_
        refine hv2 (show 0 ≤ ab2 46 w.toNat ∧ ab2 46 w.toNat ≤ 4 from bxb2.2 46 (w.toNat)) (show ab2 46 (w.toNat) = a 46 (w.toNat) from congrFun (fpb2.2 46 rfl) (w.toNat)) (fun ra6 ae5 => ?_)
        refine m_st (st2 := [.int (iI (a 46 w.toNat)), .int (iI k)]) (congrArg (fun z => Value.int (iI z) :: [.int (iI k)]) (congrFun (fpb2.2 46 rfl) (w.toNat))) ?_
        refine m_icmp_ge (tgt := 70) C ⟨by omega, by omega⟩ (r32_c (lo := 0) (hi := 4) ra1.1 ra1.2 (by decide) (by decide)) dX12_stands_30 (by decide) (fun c5 => ?_) (fun c5 => ?_)
        · refine m_iload (j := 0) C dX12_stands_70 rfl ?_
          exact m_zret C dX12_stands_72 rfl (by omega) (Nat.le_of_ble_eq_true rfl) (Nat.le_of_ble_eq_true rfl) ⟨g, rfl, fpb2, bxb2, ⟨by omega, hI.fin (by omega)⟩⟩
        · refine m_iload (j := 0) C dX12_stands_33 rfl ?_
          refine m_if_eq (tgt := 70) C ⟨by omega, by omega⟩ dX12_stands_35 (by decide) (fun c6 => ?_) (fun c6 => ?_)
          · clear hg
            refine m_iload (j := 0) C dX12_stands_70 rfl ?_
            exact m_zret C dX12_stands_72 rfl (by omega) (Nat.le_of_ble_eq_true rfl) (Nat.le_of_ble_eq_true rfl) ⟨g, rfl, fpb2, bxb2, ⟨by omega, hI.no (by omega) (by omega)⟩⟩
          · replace hg := (hg.resolve_left c6)
            refine m_aload_n (j := 2) C dX12_stands_38 rfl ?_
            refine m_iload_n (j := 3) C dX12_stands_39 rfl ?_
            refine m_iload (j := 1) C dX12_stands_40 rfl ?_
            refine hv4 (show 0 ≤ ab2 45 w.toNat ∧ ab2 45 w.toNat ≤ 23999 from bxb2.2 45 (w.toNat)) (show ab2 45 (w.toNat) = a 45 (w.toNat) from congrFun (fpb2.2 45 rfl) (w.toNat)) (show (-4) ≤ ab2 44 w.toNat ∧ ab2 44 w.toNat ≤ 5999 from bxb2.2 44 (w.toNat)) (show ab2 44 (w.toNat) = a 44 (w.toNat) from congrFun (fpb2.2 44 rfl) (w.toNat)) (fun ra7 ae6 ra8 ae7 => ?_)
            refine m_call (mc2 := 0) (ms2 := 0) (As := [.int (iI w), .int (iI k)]) (rest := []) C (E_rowCell (w := w) (k := k) bxb2 (by show 0 ≤ w ∧ w < 12016; omega) (by show 0 ≤ ab2 45 w.toNat + k ∧ (0 ≤ ab2 44 w.toNat → ab2 45 w.toNat + k < 24000) ∧ (ab2 44 w.toNat < 0 → ab2 45 w.toNat + k < 480); omega)) dX12_stands_42 kV_X12_324 rfl ck_13 rfl (Nat.le_of_ble_eq_true rfl) ⟨Nat.le_of_ble_eq_true rfl, Nat.le_of_ble_eq_true rfl⟩ ⟨Nat.le_of_ble_eq_true rfl, Nat.le_of_ble_eq_true rfl⟩ (fun rh2 vh2 ah2 h2 => ?_)
            obtain ⟨f2, rfl, fn2, bn2, ex2⟩ := h2
            obtain ⟨rfl, rfl⟩ := fn2.eq
            obtain ⟨ex2, tl2⟩ := ex2
            have gf2 : -2147483648 ≤ f2 ∧ f2 ≤ 2147483647 := ex2
            refine m_st (st2 := [.int (iI f2)]) rfl ?_
            refine m_aload_n (j := 2) C dX12_stands_45 rfl ?_
            refine m_geta (k := 48) C dX12_stands_46 w6_107 (by decide) rfl ?_
            refine m_iload_n (j := 4) C dX12_stands_49 rfl ?_
            refine m_iload (j := 1) C dX12_stands_50 rfl ?_
            refine m_iadd C dX12_stands_52 ?_
            refine m_ald (k := 48) C dX12_stands_53 rfl rfl (by decide) (by omega) (by show _ < ((_ : Nat) : Int); simp only [mlen]; omega) (by decide) ?_
            refine hv2 (show (-2147483648) ≤ ab2 48 (x + k).toNat ∧ ab2 48 (x + k).toNat ≤ 2147483647 from bxb2.2 48 ((x + k).toNat)) (show ab2 48 ((x + k).toNat) = a 48 ((x + k).toNat) from congrFun (fpb2.2 48 rfl) ((x + k).toNat)) (fun ra9 ae8 => ?_)
            refine m_st (st2 := [.int (iI (a 48 (x + k).toNat)), .int (iI f2)]) (congrArg (fun z => Value.int (iI z) :: [.int (iI f2)]) (congrFun (fpb2.2 48 rfl) ((x + k).toNat))) ?_
            refine m_icmp_ne (tgt := 61) C (r32_c (lo := (-2147483648)) (hi := 2147483647) gf2.1 gf2.2 (by decide) (by decide)) ⟨by omega, by omega⟩ dX12_stands_54 (by decide) (fun c7 => ?_) (fun c7 => ?_)
            · refine m_iconst C dX12_stands_61 ?_
              refine m_istore (lv2 := [(4, .int (iI 0)), (5, .int (iI k)), (0, .ref h0), (1, .int (iI w)), (2, .int (iI x)), (3, .int (iI u))]) C dX12_stands_62 (by decide) rfl ?_
              refine m_iinc (z := k) (j := 1) (lv2 := [(5, .int (iI (k + 1))), (4, .int (iI 0)), (0, .ref h0), (1, .int (iI w)), (2, .int (iI x)), (3, .int (iI u))]) C dX12_stands_64 rfl (by decide) rfl ?_
              refine m_goto (tgt := 22) C dX12_stands_67 (by decide) ?_
              refine m_lv (lv2 := [(4, .int (iI 0)), (5, .int (iI (k + 1))), (0, .ref h0), (1, .int (iI w)), (2, .int (iI x)), (3, .int (iI u))]) [1, 0, 2, 3, 4, 5] rfl ?_
              exact ih2  0 (k + 1) _ _ (by omega) bxb2 fpb2 (by omega) (by omega) (SDI.step0 (by omega) (by rw [(fpb2.eq).2, ← tl2]; omega))
            · refine m_iconst C dX12_stands_57 ?_
              refine m_goto (tgt := 62) C dX12_stands_58 (by decide) ?_
              refine m_istore (lv2 := [(4, .int (iI 1)), (5, .int (iI k)), (0, .ref h0), (1, .int (iI w)), (2, .int (iI x)), (3, .int (iI u))]) C dX12_stands_62 (by decide) rfl ?_
              refine m_iinc (z := k) (j := 1) (lv2 := [(5, .int (iI (k + 1))), (4, .int (iI 1)), (0, .ref h0), (1, .int (iI w)), (2, .int (iI x)), (3, .int (iI u))]) C dX12_stands_64 rfl (by decide) rfl ?_
              refine m_goto (tgt := 22) C dX12_stands_67 (by decide) ?_
              refine m_lv (lv2 := [(4, .int (iI 1)), (5, .int (iI (k + 1))), (0, .ref h0), (1, .int (iI w)), (2, .int (iI x)), (3, .int (iI u))]) [1, 0, 2, 3, 4, 5] rfl ?_
              exact ih2  1 (k + 1) _ _ (by omega) bxb2 fpb2 (by omega) (by omega) (hI.step1 (by omega) (by rw [(fpb2.eq).2, ← tl2]; omega))
    refine m_lv (lv2 := [(4, .int (iI 1)), (5, .int (iI 0)), (0, .ref h0), (1, .int (iI w)), (2, .int (iI x)), (3, .int (iI u))]) [1, 0, 2, 3, 4, 5] rfl ?_
    exact Lp2 6 1 0 _ _ (by omega) hB fp0 (by omega) (by omega) (SDI.init1 (by omega))
set_option maxHeartbeats 4000000 in
set_option maxRecDepth 100000 in
theorem E_longest {l : Launch} {G : GT} {h0 : Nat} {ad ln : Nat → Nat} {v : Nat → Int} {a : Nat → Nat → Int}  {q x u : Int} (hB : BX v a) (hW : RWS a) (hq : q = 0 ∨ q = 1) (hx : 0 ≤ x ∧ x ≤ u ∧ u ≤ 40200) : Mm l G yX12_longest cX12_longest 6 (some .int) 2 [.int (iI q), .int (iI x), .int (iI u)] h0 ad ln v a 0 0 (fun r v2 a2 => ∃ f : Int, r = some (.int (iI f)) ∧ fr [] [] v a v2 a2 ∧ BX v2 a2 ∧ ((f = -1 ∨ (6008 * q ≤ f ∧ f < 6008 * q + a 47 q.toNat ∧ x + a 46 f.toNat ≤ u)) ∧ LGX a q x u f)) := by
  refine Mm.mk (by decide) (Nat.le_of_ble_eq_true rfl) ?_
  intro p e s m args below meth c A C
  refine hv2 (show 0 ≤ a 47 q.toNat ∧ a 47 q.toNat ≤ 6008 from hB.2 47 _) (show fr [] [] v a v a from fr.refl) (fun r47 fp0 => ?_)
  refine m_iconst C dX12_longest_0 ?_
  refine m_istore (lv2 := [(4, .int (iI (-1))), (0, .ref h0), (1, .int (iI q)), (2, .int (iI x)), (3, .int (iI u))]) C dX12_longest_1 (by decide) rfl ?_
  refine m_sipush (z := 6008) C dX12_longest_3 (by decide) ?_
  refine m_iload_n (j := 2) C dX12_longest_6 rfl ?_
  refine m_imul C dX12_longest_7 ?_
  refine m_istore (lv2 := [(5, .int (iI (6008 * q))), (4, .int (iI (-1))), (0, .ref h0), (1, .int (iI q)), (2, .int (iI x)), (3, .int (iI u))]) C dX12_longest_8 (by decide) rfl ?_
  have Lp1 : ∀ (nn : Nat) (b1 r1 : Int) (vb2 : Nat → Int) (ab2 : Nat → Nat → Int), 12018 - r1 < (nn : Int) → BX vb2 ab2 → fr [] [] v a vb2 ab2 → (6008 * q ≤ r1 ∧ r1 ≤ 6008 * q + a 47 q.toNat) → (b1 = -1 ∨ (6008 * q ≤ b1 ∧ b1 < r1 ∧ x + a 46 b1.toNat ≤ u)) → (LGI a q x u r1 b1) → mw p l e (rmq 2 0 0) s m args below meth c G A 6 (MQ below (Qm G A (fun rq Lq Eq => ∃ (vq : Nat → Int) (aq : Nat → Nat → Int), mI G h0 ad ln vq aq Lq Eq ∧ (fun r v2 a2 => ∃ f : Int, r = some (.int (iI f)) ∧ fr [] [] v a v2 a2 ∧ BX v2 a2 ∧ ((f = -1 ∨ (6008 * q ≤ f ∧ f < 6008 * q + a 47 q.toNat ∧ x + a 46 f.toNat ≤ u)) ∧ LGX a q x u f)) rq vq aq)) args s 0 0 A) h0 ad ln vb2 ab2 0 0 10 [(4, .int (iI b1)), (5, .int (iI r1)), (0, .ref h0), (1, .int (iI q)), (2, .int (iI x)), (3, .int (iI u))] [] := by
    intro nn
    induction nn with
    | zero =>
      intro b1 r1 vb2 ab2 hm bxb2 fpb2 hr hb hI
      exact absurd hm (by omega)
    | succ nn ih1 =>
      intro b1 r1 vb2 ab2 hm bxb2 fpb2 hr hb hI
      refine m_iload (j := 1) C dX12_longest_10 rfl ?_
      refine m_sipush (z := 6008) C dX12_longest_12 (by decide) ?_
      refine m_iload_n (j := 3) C dX12_longest_15 rfl ?_
      refine m_imul C dX12_longest_16 ?_
      refine m_aload_n (j := 2) C dX12_longest_17 rfl ?_
      refine m_geta (k := 47) C dX12_longest_18 w6_106 (by decide) rfl ?_
      refine m_iload_n (j := 3) C dX12_longest_21 rfl ?_
      refine m_ald (k := 47) C dX12_longest_22 rfl rfl (by decide) (by omega) (by show _ < ((_ : Nat) : Int); simp only [mlen]; omega) (by decide) ?_
      refine hv2 (show 0 ≤ ab2 47 q.toNat ∧ ab2 47 q.toNat ≤ 6008 from bxb2.2 47 (q.toNat)) (show ab2 47 (q.toNat) = a 47 (q.toNat) from congrFun (fpb2.2 47 rfl) (q.toNat)) (fun ra1 ae1 => ?_)
      refine m_st (st2 := [.int (iI (a 47 q.toNat)), .int (iI (6008 * q)), .int (iI r1)]) (congrArg (fun z => Value.int (iI z) :: [.int (iI (6008 * q)), .int (iI r1)]) (congrFun (fpb2.2 47 rfl) (q.toNat))) ?_
      refine m_iadd C dX12_longest_23 ?_
      refine m_icmp_ge (tgt := 70) C ⟨by omega, by omega⟩ ⟨by omega, by omega⟩ dX12_longest_24 (by decide) (fun c1 => ?_) (fun c1 => ?_)
      · refine m_iload (j := 0) C dX12_longest_70 rfl ?_
        exact m_iret C dX12_longest_72 rfl (Nat.le_of_ble_eq_true rfl) (Nat.le_of_ble_eq_true rfl) ⟨b1, rfl, fpb2, bxb2, ⟨by omega, LGX.mk hI hq (by omega) (by omega)⟩⟩
      · refine m_iload (j := 0) C dX12_longest_27 rfl ?_
        refine m_if_lt (tgt := 49) C ⟨by omega, by omega⟩ dX12_longest_29 (by decide) (fun c2 => ?_) (fun c2 => ?_)
        · refine m_aload_n (j := 2) C dX12_longest_49 rfl ?_
          refine m_iload (j := 1) C dX12_longest_50 rfl ?_
          refine m_iload_n (j := 4) C dX12_longest_52 rfl ?_
          refine m_iload_n (j := 5) C dX12_longest_53 rfl ?_
          refine m_call (mc2 := 0) (ms2 := 0) (As := [.int (iI r1), .int (iI x), .int (iI u)]) (rest := []) C (E_stands (w := r1) (x := x) (u := u) bxb2 (((RWS.fr hW fpb2 rfl) q (by omega)).2 (r1) (by omega) (by show r1 < 6008 * q + ab2 47 q.toNat; omega)) (by omega)) dX12_longest_54 kV_X12_327 rfl ck_13 rfl (Nat.le_of_ble_eq_true rfl) ⟨Nat.le_of_ble_eq_true rfl, Nat.le_of_ble_eq_true rfl⟩ ⟨Nat.le_of_ble_eq_true rfl, Nat.le_of_ble_eq_true rfl⟩ (fun rh1 vh1 ah1 h1 => ?_)
          obtain ⟨f1, rfl, fn1, _, ef1, sd1⟩ := h1
          obtain ⟨rfl, rfl⟩ := fn1.eq
          refine hv4 (show f1 = 0 ∨ (f1 = 1 ∧ x + ab2 46 r1.toNat ≤ u) from ef1) (show SDX a r1 x u f1 from by rw [(fpb2.eq).2]; exact sd1) (show 0 ≤ ab2 46 r1.toNat ∧ ab2 46 r1.toNat ≤ 4 from bxb2.2 46 (r1.toNat)) (show ab2 46 (r1.toNat) = a 46 (r1.toNat) from congrFun (fpb2.2 46 rfl) (r1.toNat)) (fun gf1 se1 ra2 ae2 => ?_)
          refine m_st (st2 := [.int (iI f1)]) rfl ?_
          refine m_if_eq (tgt := 64) C (r32_0p gf1) dX12_longest_57 (by decide) (fun c3 => ?_) (fun c3 => ?_)
          · clear gf1
            refine m_iinc (z := r1) (j := 1) (lv2 := [(5, .int (iI (r1 + 1))), (4, .int (iI b1)), (0, .ref h0), (1, .int (iI q)), (2, .int (iI x)), (3, .int (iI u))]) C dX12_longest_64 rfl (by decide) rfl ?_
            refine m_goto (tgt := 10) C dX12_longest_67 (by decide) ?_
            refine m_lv (lv2 := [(4, .int (iI b1)), (5, .int (iI (r1 + 1))), (0, .ref h0), (1, .int (iI q)), (2, .int (iI x)), (3, .int (iI u))]) [1, 0, 2, 3, 4, 5] rfl ?_
            exact ih1  b1 (r1 + 1) _ _ (by omega) bxb2 fpb2 (by omega) (by omega) (hI.skip hq ⟨by omega, by omega⟩ se1 (by omega) (by omega))
          · replace gf1 := (gf1.resolve_left c3)
            refine m_iload (j := 1) C dX12_longest_60 rfl ?_
            refine m_istore (lv2 := [(4, .int (iI r1)), (5, .int (iI r1)), (0, .ref h0), (1, .int (iI q)), (2, .int (iI x)), (3, .int (iI u))]) C dX12_longest_62 (by decide) rfl ?_
            refine m_iinc (z := r1) (j := 1) (lv2 := [(5, .int (iI (r1 + 1))), (4, .int (iI r1)), (0, .ref h0), (1, .int (iI q)), (2, .int (iI x)), (3, .int (iI u))]) C dX12_longest_64 rfl (by decide) rfl ?_
            refine m_goto (tgt := 10) C dX12_longest_67 (by decide) ?_
            refine m_lv (lv2 := [(4, .int (iI r1)), (5, .int (iI (r1 + 1))), (0, .ref h0), (1, .int (iI q)), (2, .int (iI x)), (3, .int (iI u))]) [1, 0, 2, 3, 4, 5] rfl ?_
            exact ih1  r1 (r1 + 1) _ _ (by omega) bxb2 fpb2 (by omega) (by omega) (hI.take hq ⟨by omega, by omega⟩ se1 (by omega) (by omega) (by omega))
        · refine m_aload_n (j := 2) C dX12_longest_32 rfl ?_
          refine m_geta (k := 46) C dX12_longest_33 w6_105 (by decide) rfl ?_
          refine m_iload (j := 1) C dX12_longest_36 rfl ?_
          refine m_ald (k := 46) C dX12_longest_38 rfl rfl (by decide) (by omega) (by show _ < ((_ : Nat) : Int); simp only [mlen]; omega) (by decide) ?_
          refine hv2 (show 0 ≤ ab2 46 r1.toNat ∧ ab2 46 r1.toNat ≤ 4 from bxb2.2 46 (r1.toNat)) (show ab2 46 (r1.toNat) = a 46 (r1.toNat) from congrFun (fpb2.2 46 rfl) (r1.toNat)) (fun ra3 ae3 => ?_)
          refine m_st (st2 := [.int (iI (a 46 r1.toNat))]) (congrArg (fun z => Value.int (iI z) :: []) (congrFun (fpb2.2 46 rfl) (r1.toNat))) ?_
          refine m_aload_n (j := 2) C dX12_longest_39 rfl ?_
          refine m_geta (k := 46) C dX12_longest_40 w6_105 (by decide) rfl ?_
          refine m_iload (j := 0) C dX12_longest_43 rfl ?_
          refine m_ald (k := 46) C dX12_longest_45 rfl rfl (by decide) (by omega) (by show _ < ((_ : Nat) : Int); simp only [mlen]; omega) (by decide) ?_
          refine hv2 (show 0 ≤ ab2 46 b1.toNat ∧ ab2 46 b1.toNat ≤ 4 from bxb2.2 46 (b1.toNat)) (show ab2 46 (b1.toNat) = a 46 (b1.toNat) from congrFun (fpb2.2 46 rfl) (b1.toNat)) (fun ra4 ae4 => ?_)
          refine m_st (st2 := [.int (iI (a 46 b1.toNat)), .int (iI (a 46 r1.toNat))]) (congrArg (fun z => Value.int (iI z) :: [.int (iI (a 46 r1.toNat))]) (congrFun (fpb2.2 46 rfl) (b1.toNat))) ?_
          refine m_icmp_le (tgt := 64) C ⟨by omega, by omega⟩ ⟨by omega, by omega⟩ dX12_longest_46 (by decide) (fun c4 => ?_) (fun c4 => ?_)
          · refine m_iinc (z := r1) (j := 1) (lv2 := [(5, .int (iI (r1 + 1))), (4, .int (iI b1)), (0, .ref h0), (1, .int (iI q)), (2, .int (iI x)), (3, .int (iI u))]) C dX12_longest_64 rfl (by decide) rfl ?_
            refine m_goto (tgt := 10) C dX12_longest_67 (by decide) ?_
            refine m_lv (lv2 := [(4, .int (iI b1)), (5, .int (iI (r1 + 1))), (0, .ref h0), (1, .int (iI q)), (2, .int (iI x)), (3, .int (iI u))]) [1, 0, 2, 3, 4, 5] rfl ?_
            exact ih1  b1 (r1 + 1) _ _ (by omega) bxb2 fpb2 (by omega) (by omega) (hI.less hq ⟨by omega, by omega⟩ ⟨by omega, by omega⟩ (by omega))
          · refine m_aload_n (j := 2) C dX12_longest_49 rfl ?_
            refine m_iload (j := 1) C dX12_longest_50 rfl ?_
            refine m_iload_n (j := 4) C dX12_longest_52 rfl ?_
            refine m_iload_n (j := 5) C dX12_longest_53 rfl ?_
            refine m_call (mc2 := 0) (ms2 := 0) (As := [.int (iI r1), .int (iI x), .int (iI u)]) (rest := []) C (E_stands (w := r1) (x := x) (u := u) bxb2 (((RWS.fr hW fpb2 rfl) q (by omega)).2 (r1) (by omega) (by show r1 < 6008 * q + ab2 47 q.toNat; omega)) (by omega)) dX12_longest_54 kV_X12_327 rfl ck_13 rfl (Nat.le_of_ble_eq_true rfl) ⟨Nat.le_of_ble_eq_true rfl, Nat.le_of_ble_eq_true rfl⟩ ⟨Nat.le_of_ble_eq_true rfl, Nat.le_of_ble_eq_true rfl⟩ (fun rh2 vh2 ah2 h2 => ?_)
            obtain ⟨f2, rfl, fn2, _, ef2, sd2⟩ := h2
            obtain ⟨rfl, rfl⟩ := fn2.eq
            refine hv2 (show f2 = 0 ∨ (f2 = 1 ∧ x + ab2 46 r1.toNat ≤ u) from ef2) (show SDX a r1 x u f2 from by rw [(fpb2.eq).2]; exact sd2) (fun gf2 se2 => ?_)
            refine m_st (st2 := [.int (iI f2)]) rfl ?_
            refine m_if_eq (tgt := 64) C (r32_0p gf2) dX12_longest_57 (by decide) (fun c5 => ?_) (fun c5 => ?_)
            · clear gf2
              refine m_iinc (z := r1) (j := 1) (lv2 := [(5, .int (iI (r1 + 1))), (4, .int (iI b1)), (0, .ref h0), (1, .int (iI q)), (2, .int (iI x)), (3, .int (iI u))]) C dX12_longest_64 rfl (by decide) rfl ?_
              refine m_goto (tgt := 10) C dX12_longest_67 (by decide) ?_
              refine m_lv (lv2 := [(4, .int (iI b1)), (5, .int (iI (r1 + 1))), (0, .ref h0), (1, .int (iI q)), (2, .int (iI x)), (3, .int (iI u))]) [1, 0, 2, 3, 4, 5] rfl ?_
              exact ih1  b1 (r1 + 1) _ _ (by omega) bxb2 fpb2 (by omega) (by omega) (hI.skip hq ⟨by omega, by omega⟩ se2 (by omega) (by omega))
            · replace gf2 := (gf2.resolve_left c5)
              refine m_iload (j := 1) C dX12_longest_60 rfl ?_
              refine m_istore (lv2 := [(4, .int (iI r1)), (5, .int (iI r1)), (0, .ref h0), (1, .int (iI q)), (2, .int (iI x)), (3, .int (iI u))]) C dX12_longest_62 (by decide) rfl ?_
              refine m_iinc (z := r1) (j := 1) (lv2 := [(5, .int (iI (r1 + 1))), (4, .int (iI r1)), (0, .ref h0), (1, .int (iI q)), (2, .int (iI x)), (3, .int (iI u))]) C dX12_longest_64 rfl (by decide) rfl ?_
              refine m_goto (tgt := 10) C dX12_longest_67 (by decide) ?_
              refine m_lv (lv2 := [(4, .int (iI r1)), (5, .int (iI (r1 + 1))), (0, .ref h0), (1, .int (iI q)), (2, .int (iI x)), (3, .int (iI u))]) [1, 0, 2, 3, 4, 5] rfl ?_
              exact ih1  r1 (r1 + 1) _ _ (by omega) bxb2 fpb2 (by omega) (by omega) (hI.take hq ⟨by omega, by omega⟩ se2 (by omega) (by omega) (by omega))
  refine m_lv (lv2 := [(4, .int (iI (-1))), (5, .int (iI (6008 * q))), (0, .ref h0), (1, .int (iI q)), (2, .int (iI x)), (3, .int (iI u))]) [1, 0, 2, 3, 4, 5] rfl ?_
  exact Lp1 12019 (-1) (6008 * q) _ _ (by omega) hB fp0 (by omega) (by omega) LGI.init
set_option maxHeartbeats 4000000 in
set_option maxRecDepth 100000 in
theorem E_tell {l : Launch} {G : GT} {h0 : Nat} {ad ln : Nat → Nat} {v : Nat → Int} {a : Nat → Nat → Int}  {x : Int} (hB : BX v a) (hx : -2147483648 ≤ x ∧ x ≤ 2147483647) : Mm l G yX12_tell cX12_tell 2 (some .boolean) 0 [.int (iI x)] h0 ad ln v a 0 0 (fun r v2 a2 => ∃ f : Int, r = some (.int (iI f)) ∧ fr [52] [51] v a v2 a2 ∧ BX v2 a2 ∧ ((f = 0 ∨ f = 1) ∧ TLX v a v2 a2 x f)) := by
  refine Mm.mk (by decide) (Nat.le_of_ble_eq_true rfl) ?_
  intro p e s m args below meth c A C
  have fp0 : fr [52] [51] v a v a := fr.refl
  refine m_aload_n (j := 0) C dX12_tell_0 rfl ?_
  have rv1 : 0 ≤ v 52 ∧ v 52 ≤ 4000 := hB.1 52
  refine m_get (k := 52) C dX12_tell_1 w6_111 (by decide) rfl ?_
  refine m_sipush (z := 4000) C dX12_tell_4 (by decide) ?_
  refine m_icmp_ne (tgt := 12) C (r32_c (lo := 0) (hi := 4000) rv1.1 rv1.2 (by decide) (by decide)) ⟨by decide, by decide⟩ dX12_tell_7 (by decide) (fun c1 => ?_) (fun c1 => ?_)
  · refine m_aload_n (j := 0) C dX12_tell_12 rfl ?_
    refine m_geta (k := 51) C dX12_tell_13 w6_110 (by decide) rfl ?_
    refine m_aload_n (j := 0) C dX12_tell_16 rfl ?_
    refine m_get (k := 52) C dX12_tell_17 w6_111 (by decide) rfl ?_
    refine m_iload_n (j := 1) C dX12_tell_20 rfl ?_
    refine m_ast (k := 51) C dX12_tell_21 rfl rfl (by decide) (by omega) (by show _ < ((_ : Nat) : Int); simp only [mlen]; omega) (by decide) ?_
    refine hv2 (show BX v (up2 a 51 (v 52).toNat x) from hB.set (k := 51) (i := (v 52).toNat) (z := x) (show (-2147483648) ≤ x ∧ x ≤ 2147483647 by omega)) (fp0.set (k := 51) (i := (v 52).toNat) (z := x) rfl) (fun bq1 fq1 => ?_)
    refine m_aload_n (j := 0) C dX12_tell_22 rfl ?_
    refine m_dup C dX12_tell_23 rfl ?_
    refine m_get (k := 52) C dX12_tell_24 w6_111 (by decide) rfl ?_
    refine m_iconst C dX12_tell_27 ?_
    refine m_iadd C dX12_tell_28 ?_
    refine m_put (k := 52) (z := (v 52) + 1) C dX12_tell_29 w6_111 (by decide) rfl rfl rfl ?_
    refine hv2 (show BX (va_up v 52 ((v 52) + 1)) (up2 a 51 (v 52).toNat x) from bq1.put (k := 52) (z := (v 52) + 1) (show 0 ≤ ((v 52) + 1) ∧ ((v 52) + 1) ≤ 4000 by omega)) (fq1.put (k := 52) (z := (v 52) + 1) rfl) (fun bq2 fq2 => ?_)
    refine m_iconst C dX12_tell_32 ?_
    exact m_zret C dX12_tell_33 rfl (Or.inr rfl) (Nat.le_of_ble_eq_true rfl) (Nat.le_of_ble_eq_true rfl) ⟨1, rfl, fq2, bq2, ⟨by omega, fun bs hb => Or.inl ⟨by omega, hb.snoc rfl (by unfold up2; rfl)⟩⟩⟩
  · refine m_iconst C dX12_tell_10 ?_
    exact m_zret C dX12_tell_11 rfl (Or.inl rfl) (Nat.le_of_ble_eq_true rfl) (Nat.le_of_ble_eq_true rfl) ⟨0, rfl, fp0, hB, ⟨by omega, fun bs hb => Or.inr ⟨by omega, by have q := hb.1; omega⟩⟩⟩
def RCQ (a : Nat → Nat → Int) (q u : Int) (l0 l1 : List Int) (R : Nat → Int) : Prop := (HLD a a 0 l0 ∧ HLD a a 1 l1) ∧ (NZL a l0 ∧ NZL a l1) ∧ ((∀ (j : Nat) (d : Int), l0[j]? = some d → rol d ≠ 3) ∧ ∀ (j : Nat) (d : Int), l1[j]? = some d → rol d ≠ 2) ∧ (∀ j : Int, q ≤ j → j < u → R j.toNat = a 48 j.toNat ∧ R j.toNat ≠ 0) ∧ R u.toNat = 0
def RWC (v : Nat → Int) (a : Nat → Nat → Int) (q u : Int) (l0 l1 : List Int) (R : Nat → Int) (bs : List Int) : Prop := RCQ a q u l0 l1 R ∧ OUTL v a bs ∧ MRC a l0 l1 R (q, 0, 0, 1, 1) bs
def RWX (v : Nat → Int) (a : Nat → Nat → Int) (v2 : Nat → Int) (a2 : Nat → Nat → Int) (q u f : Int) : Prop := ∀ l0 l1 R bs, RWC v a q u l0 l1 R bs → (f = 0 ∧ ∃ g b2, MRC a l0 l1 R (u, g, 0, 1, 1) b2 ∧ OUTL v2 a2 b2) ∨ (f = 9 ∧ RWG a l0 l1 R) ∨ (f = 6 ∧ ROV a l0 l1 R 4000)
def RW8 (v : Nat → Int) (a : Nat → Nat → Int) (v1 : Nat → Int) (a1 : Nat → Nat → Int) (q u pt g x : Int) : Prop := ∀ l0 l1 R bs, RWC v a q u l0 l1 R bs → ∃ b1, MRC a l0 l1 R (x, pt, g, 1, 1) b1 ∧ OUTL v1 a1 b1
def RRB (a : Nat → Nat → Int) (l0 l1 : List Int) (R : Nat → Int) (x pt g : Int) (b1 : List Int) (r d : Int) : Prop := MRC a l0 l1 R (x, pt, g, 1, 1) b1 ∧ R x.toNat ≠ 0 ∧ rent a a r d ∧ BSQ a R x (if pt = 0 then l0 else l1) (some d) ∧ (g = 1 → SMR a d)
def RWB (v : Nat → Int) (a : Nat → Nat → Int) (v1 : Nat → Int) (a1 : Nat → Nat → Int) (q u pt g x r : Int) : Prop := ∀ l0 l1 R bs, RWC v a q u l0 l1 R bs → ∃ b1 d, RRB a l0 l1 R x pt g b1 r d ∧ OUTL v1 a1 b1
def RW6 (v : Nat → Int) (a : Nat → Nat → Int) (v1 : Nat → Int) (a1 : Nat → Nat → Int) (q u pt g x r k : Int) : Prop := ∀ l0 l1 R bs, RWC v a q u l0 l1 R bs → ∃ b1 d, RRB a l0 l1 R x pt g b1 r d ∧ 0 ≤ d ∧ OUTL v1 a1 (b1 ++ rlt a d g k.toNat)
def RW7 (v : Nat → Int) (a : Nat → Nat → Int) (v1 : Nat → Int) (a1 : Nat → Nat → Int) (q u pt g x r : Int) : Prop := ∀ l0 l1 R bs, RWC v a q u l0 l1 R bs → ∃ b1 d, RRB a l0 l1 R x pt g b1 r d ∧ OUTL v1 a1 (b1 ++ (if 0 ≤ d then rout a d g else []))
section RRD2
variable {v v1 v2 v3 : Nat → Int} {a a1 a2 a3 : Nat → Nat → Int} {l0 l1 : List Int} {R : Nat → Int} {w x u k g g2 f q r b d e y z c pt p2 : Int} {bs : List Int}
theorem rent.r44 (hr : rent a a2 r d) : (0 ≤ d ∧ a2 44 r.toNat = d ∧ rol d = 4) ∨ (d < 0 ∧ a2 44 r.toNat = -1 - rol d ∧ 0 ≤ rol d ∧ rol d ≤ 3) := by
  by_cases c : 0 ≤ d
  · exact Or.inl ⟨c, (hr.1 c).1, if_pos c⟩
  · have e : rol d = (-1 - d) % 4 := if_neg c
    have h := (hr.2 (by omega)).1
    exact Or.inr ⟨by omega, by rw [e]; exact h, by omega, by omega⟩
theorem rlt_len : ∀ n : Nat, (rlt a d g n).length = n := by
  intro n
  induction n with
  | zero => rfl
  | succ n ih =>
    show (rlt a d g n ++ [_]).length = n + 1
    rw [len1, ih]
theorem RCQ.lcx (h : RCQ a q u l0 l1 R) (hp : pt = 0 ∨ pt = 1) (hx : q ≤ x) : LCX a pt x u (if pt = 0 then l0 else l1) R := by
  obtain ⟨⟨h1, h2⟩, ⟨h3, h4⟩, _, h5, h6⟩ := h
  rcases hp with e | e
  · subst e
    rw [if_pos rfl]
    exact ⟨h1, h3, fun j g1 g2 => (h5 j (by omega) g2).1, h6⟩
  · subst e
    rw [if_neg (by decide)]
    exact ⟨h2, h4, fun j g1 g2 => (h5 j (by omega) g2).1, h6⟩
theorem RW8.init : RW8 v a v a q u 0 0 q := fun _ _ _ bs h => ⟨bs, h.2.2, h.2.1⟩
theorem RW8.w1 (h : RW8 v a v1 a1 q u pt g x) (hp : pt = 0 ∨ pt = 1) (hL : LGX a pt x u r) (hr : r < 0) (hx : q ≤ x ∧ x < u) : RWX v a v2 a2 q u 9 := fun l0 l1 R bs hc => by
  obtain ⟨b1, g1, g2⟩ := h l0 l1 R bs hc
  refine Or.inr (Or.inl ⟨rfl, ?_⟩)
  rcases hL _ _ (hc.1.lcx hp hx.1) with ⟨_, w⟩ | ⟨w, _⟩
  · exact g1.no (hc.1.2.2.2.1 x hx.1 hx.2).2 w
  · omega
theorem RW8.go (h : RW8 v a v1 a1 q u pt g x) (hp : pt = 0 ∨ pt = 1) (hL : LGX a pt x u r) (hr : 0 ≤ r) (hs : g = 1 → (0 ≤ a 44 r.toNat ∧ 97 ≤ a 14 (8 * a 44 r.toNat).toNat ∧ a 14 (8 * a 44 r.toNat).toNat ≤ 122)) (hx : q ≤ x ∧ x < u) : RWB v a v1 a1 q u pt g x r := fun l0 l1 R bs hc => by
  obtain ⟨b1, g1, g2⟩ := h l0 l1 R bs hc
  rcases hL _ _ (hc.1.lcx hp hx.1) with ⟨w, _⟩ | ⟨w, d, d1, d2, d3⟩
  · omega
  · refine ⟨b1, d, ⟨g1, (hc.1.2.2.2.1 x hx.1 hx.2).2, d2, d3, fun e => ?_⟩, g2⟩
    have s := hs e
    rcases d2.r44 with ⟨q1, q2, _⟩ | ⟨q1, q2, q3, _⟩
    · rw [q2] at s
      exact s
    · omega
theorem RW8.w2 (h : RW8 v a v1 a1 q u pt g x) (hp : pt = 0 ∨ pt = 1) (hL : LGX a pt x u r) (hr : 0 ≤ r) (hg : g = 1) (hs : ¬ (0 ≤ a 44 r.toNat ∧ 97 ≤ a 14 (8 * a 44 r.toNat).toNat ∧ a 14 (8 * a 44 r.toNat).toNat ≤ 122)) (hx : q ≤ x ∧ x < u) : RWX v a v2 a2 q u 9 := fun l0 l1 R bs hc => by
  obtain ⟨b1, g1, g2⟩ := h l0 l1 R bs hc
  refine Or.inr (Or.inl ⟨rfl, ?_⟩)
  rcases hL _ _ (hc.1.lcx hp hx.1) with ⟨w, _⟩ | ⟨w, d, d1, d2, d3⟩
  · omega
  · refine g1.ns (hc.1.2.2.2.1 x hx.1 hx.2).2 d3 hg (fun s => hs ?_)
    rcases d2.r44 with ⟨q1, q2, _⟩ | ⟨q1, q2, q3, _⟩
    · rw [q2]
      exact s
    · exact absurd s.1 (by omega)
theorem RW8.fin (h : RW8 v a v1 a1 q u pt g x) (hx : x = u) (hg : g = 0) (hf : f = 0) (h52 : v2 52 = v1 52) (h51 : a2 51 = a1 51) : RWX v a v2 a2 q u f := fun l0 l1 R bs hc => by
  obtain ⟨b1, g1, g2⟩ := h l0 l1 R bs hc
  subst hx
  subst hg
  exact Or.inl ⟨hf, pt, b1, g1, g2.fr h52 h51⟩
theorem RW8.fing (h : RW8 v a v1 a1 q u pt g x) (hx : x = u) (hg : g = 1) (hf : f = 9) : RWX v a v2 a2 q u f := fun l0 l1 R bs hc => by
  obtain ⟨b1, g1, g2⟩ := h l0 l1 R bs hc
  subst hx
  exact Or.inr (Or.inl ⟨hf, g1.ge hc.1.2.2.2.2 hg⟩)
theorem RWB.fr (h : RWB v a v1 a1 q u pt g x r) (h52 : v2 52 = v1 52) (h51 : a2 51 = a1 51) : RWB v a v2 a2 q u pt g x r := fun l0 l1 R bs hc => by
  obtain ⟨b1, d, g1, g2⟩ := h l0 l1 R bs hc
  exact ⟨b1, d, g1, g2.fr h52 h51⟩
theorem RWB.let0 (h : RWB v a v1 a1 q u pt g x r) (hi : 0 ≤ a 44 r.toNat) : RW6 v a v1 a1 q u pt g x r 0 := fun l0 l1 R bs hc => by
  obtain ⟨b1, d, g1, g2⟩ := h l0 l1 R bs hc
  refine ⟨b1, d, g1, ?_, ?_⟩
  · rcases g1.2.2.1.r44 with ⟨q1, _⟩ | ⟨q1, q2, q3, _⟩ <;> omega
  · show OUTL v1 a1 (b1 ++ [])
    rw [List.append_nil]
    exact g2
theorem RWB.neg (h : RWB v a v1 a1 q u pt g x r) (hi : a 44 r.toNat < 0) : RW7 v a v1 a1 q u pt g x r := fun l0 l1 R bs hc => by
  obtain ⟨b1, d, g1, g2⟩ := h l0 l1 R bs hc
  have hd : ¬ 0 ≤ d := by rcases g1.2.2.1.r44 with ⟨q1, q2, _⟩ | ⟨q1, q2, q3, _⟩ <;> omega
  refine ⟨b1, d, g1, ?_⟩
  rw [if_neg hd, List.append_nil]
  exact g2
theorem RW6.step (h : RW6 v a v1 a1 q u pt g x r k) (hk : 0 ≤ k) (ht : TLX v1 a1 v2 a2 z f) (hf : f = 1) (hz : z = a 14 (8 * a 44 r.toNat + k).toNat - (if g = 1 ∧ k = 0 then 32 else 0)) : RW6 v a v2 a2 q u pt g x r (k + 1) := fun l0 l1 R bs hc => by
  obtain ⟨b1, d, g1, g2, g3⟩ := h l0 l1 R bs hc
  refine ⟨b1, d, g1, g2, ?_⟩
  have e : a 44 r.toNat = d := by rcases g1.2.2.1.r44 with ⟨q1, q2, _⟩ | ⟨q1, q2, q3, _⟩ <;> omega
  rcases ht _ g3 with ⟨_, w⟩ | ⟨w, _⟩
  · rw [show (k + 1).toNat = k.toNat + 1 by omega]
    show OUTL v2 a2 (b1 ++ (rlt a d g k.toNat ++ [a 14 (8 * d + ((k.toNat : Nat) : Int)).toNat - (if g = 1 ∧ k.toNat = 0 then 32 else 0)]))
    rw [← List.append_assoc, show ((k.toNat : Nat) : Int) = k by omega]
    have e2 : (if g = 1 ∧ k.toNat = 0 then (32 : Int) else 0) = (if g = 1 ∧ k = 0 then 32 else 0) := by
      by_cases q1 : g = 1 ∧ k = 0
      · rw [if_pos q1, if_pos ⟨q1.1, by omega⟩]
      · rw [if_neg q1, if_neg (fun q2 => q1 ⟨q2.1, by omega⟩)]
    have hz2 : z = a 14 (8 * d + k).toNat - (if g = 1 ∧ k = 0 then 32 else 0) := by rw [hz, e]
    rw [e2, ← hz2]
    exact w
  · omega
theorem RW6.ov (h : RW6 v a v1 a1 q u pt g x r k) (hk : 0 ≤ k ∧ k < a 12 (a 44 r.toNat).toNat) (ht : TLX v1 a1 v2 a2 z f) (hf : f = 0) : RWX v a v3 a3 q u 6 := fun l0 l1 R bs hc => by
  obtain ⟨b1, d, g1, g2, g3⟩ := h l0 l1 R bs hc
  have e : a 44 r.toNat = d := by rcases g1.2.2.1.r44 with ⟨q1, q2, _⟩ | ⟨q1, q2, q3, _⟩ <;> omega
  rcases ht _ g3 with ⟨w, _⟩ | ⟨_, w⟩
  · omega
  · refine Or.inr (Or.inr ⟨rfl, (g1.1.row g1.2.1 g1.2.2.2.1 g1.2.2.2.2).ov ?_⟩)
    rw [List.length_append, rlt_len] at w
    have e3 : rout a d g = rlt a d g (a 12 d.toNat).toNat := if_pos g2
    rw [List.length_append, e3, rlt_len]
    rw [e] at hk
    omega
theorem RW6.fin (h : RW6 v a v1 a1 q u pt g x r k) (hk : k = a 12 (a 44 r.toNat).toNat) : RW7 v a v1 a1 q u pt g x r := fun l0 l1 R bs hc => by
  obtain ⟨b1, d, g1, g2, g3⟩ := h l0 l1 R bs hc
  have e : a 44 r.toNat = d := by rcases g1.2.2.1.r44 with ⟨q1, q2, _⟩ | ⟨q1, q2, q3, _⟩ <;> omega
  refine ⟨b1, d, g1, ?_⟩
  have e3 : rout a d g = rlt a d g (a 12 d.toNat).toNat := if_pos g2
  rw [if_pos g2, e3, ← e, ← hk, e]
  exact g3
theorem RW7.next (h : RW7 v a v1 a1 q u pt g x r) (hi : a 44 r.toNat ≠ -3 ∧ a 44 r.toNat ≠ -4) (hg2 : (g2 = 1 ∧ a 44 r.toNat = -1) ∨ (g2 = 0 ∧ a 44 r.toNat ≠ -1)) (hy : y = x + a 46 r.toNat) : RW8 v a v1 a1 q u pt g2 y := fun l0 l1 R bs hc => by
  obtain ⟨b1, d, g1, g3⟩ := h l0 l1 R bs hc
  refine hv3 (g1.1.row g1.2.1 g1.2.2.2.1 g1.2.2.2.2) ((g1.2.2.1.rc1 rfl rfl).1) (g1.2.2.1.r44) (fun w e1 k => ?_)
  have e2 : ngp d pt = pt := by
    unfold ngp
    rw [if_neg (by omega), if_neg (by omega)]
  have e3 : ngh d = g2 := by
    unfold ngh
    split <;> omega
  have e4 : (if 0 ≤ d then rout a d g else []) = rout a d g := by
    by_cases c : 0 ≤ d
    · rw [if_pos c]
    · rw [if_neg c]
      unfold rout
      rw [if_neg c, if_neg (by omega), if_neg (by omega)]
  rw [e2, e3, ← e1, ← hy] at w
  rw [e4] at g3
  exact ⟨_, w, g3⟩
theorem RW7.turn (h : RW7 v a v1 a1 q u pt g x r) (hi : (a 44 r.toNat = -3 ∧ c = 60) ∨ (a 44 r.toNat = -4 ∧ c = 62)) (ht : TLX v1 a1 v2 a2 c f) (hf : f = 1) (hg2 : g2 = 0) (hp : pt = 0 ∨ pt = 1) (hp2 : p2 = 1 - pt) (hy : y = x + a 46 r.toNat) : RW8 v a v2 a2 q u p2 g2 y := fun l0 l1 R bs hc => by
  obtain ⟨b1, d, g1, g3⟩ := h l0 l1 R bs hc
  refine hv3 (g1.1.row g1.2.1 g1.2.2.2.1 g1.2.2.2.2) ((g1.2.2.1.rc1 rfl rfl).1) (g1.2.2.1.r44) (fun w e1 k => ?_)
  obtain ⟨j, j1, _⟩ := BSQ.mem g1.2.2.2.1
  have hd : ¬ 0 ≤ d := by omega
  rw [if_neg hd, List.append_nil] at g3
  have e3 : ngh d = g2 := by
    unfold ngh
    rw [if_neg (by omega)]
    omega
  have e2 : ngp d pt = p2 := by
    rcases hp with e | e
    · subst e
      rw [if_pos rfl] at j1
      have n1 := hc.1.2.2.1.1 j d j1
      unfold ngp
      rw [if_pos (by omega)]
      omega
    · subst e
      rw [if_neg (by decide)] at j1
      have n1 := hc.1.2.2.1.2 j d j1
      unfold ngp
      rw [if_neg (by omega), if_pos (by omega)]
      omega
  have e4 : rout a d g = [c] := by
    unfold rout
    rw [if_neg hd]
    by_cases q1 : rol d = 2
    · rw [if_pos q1, show c = 60 by omega]
    · rw [if_neg q1, if_pos (by omega), show c = 62 by omega]
  rw [e2, e3, ← e1, ← hy, e4] at w
  rcases ht _ g3 with ⟨_, o⟩ | ⟨o, _⟩
  · exact ⟨_, w, o⟩
  · omega
theorem RW7.tov (h : RW7 v a v1 a1 q u pt g x r) (hi : (a 44 r.toNat = -3 ∧ c = 60) ∨ (a 44 r.toNat = -4 ∧ c = 62)) (ht : TLX v1 a1 v2 a2 c f) (hf : f = 0) : RWX v a v3 a3 q u 6 := fun l0 l1 R bs hc => by
  obtain ⟨b1, d, g1, g3⟩ := h l0 l1 R bs hc
  refine hv2 (g1.1.row g1.2.1 g1.2.2.2.1 g1.2.2.2.2) (g1.2.2.1.r44) (fun w k => ?_)
  have hd : ¬ 0 ≤ d := by omega
  rw [if_neg hd, List.append_nil] at g3
  have e4 : rout a d g = [c] := by
    unfold rout
    rw [if_neg hd]
    by_cases q1 : rol d = 2
    · rw [if_pos q1, show c = 60 by omega]
    · rw [if_neg q1, if_pos (by omega), show c = 62 by omega]
  rw [e4] at w
  rcases ht _ g3 with ⟨o, _⟩ | ⟨_, o⟩
  · omega
  · refine Or.inr (Or.inr ⟨rfl, w.ov ?_⟩)
    rw [len1]
    omega
end RRD2
def SMX (a : Nat → Nat → Int) (w f : Int) : Prop := f = 1 ↔ (0 ≤ a 44 w.toNat ∧ 97 ≤ a 14 (8 * a 44 w.toNat).toNat ∧ a 14 (8 * a 44 w.toNat).toNat ≤ 122)
set_option maxHeartbeats 4000000 in
set_option maxRecDepth 100000 in
theorem E_isSmallRule {l : Launch} {G : GT} {h0 : Nat} {ad ln : Nat → Nat} {v : Nat → Int} {a : Nat → Nat → Int}  {w : Int} (hB : BX v a) (hr : 0 ≤ w ∧ w < 12016) (h44 : a 44 w.toNat < 6000) : Mm l G yX12_isSmallRule cX12_isSmallRule 2 (some .boolean) 1 [.int (iI w)] h0 ad ln v a 0 0 (fun r v2 a2 => ∃ f : Int, r = some (.int (iI f)) ∧ fr [] [] v a v2 a2 ∧ BX v2 a2 ∧ ((f = 0 ∨ f = 1) ∧ SMX a w f)) := by
  refine Mm.mk (by decide) (Nat.le_of_ble_eq_true rfl) ?_
  intro p e s m args below meth c A C
  have fp0 : fr [] [] v a v a := fr.refl
  refine m_aload_n (j := 0) C dX12_isSmallRule_0 rfl ?_
  refine m_geta (k := 44) C dX12_isSmallRule_1 w6_103 (by decide) rfl ?_
  refine m_iload_n (j := 1) C dX12_isSmallRule_4 rfl ?_
  refine m_ald (k := 44) C dX12_isSmallRule_5 rfl rfl (by decide) (by omega) (by show _ < ((_ : Nat) : Int); simp only [mlen]; omega) (by decide) ?_
  have ra1 : (-4) ≤ a 44 w.toNat ∧ a 44 w.toNat ≤ 5999 := hB.2 44 (w.toNat)
  refine m_if_lt (tgt := 33) C (r32_c (lo := (-4)) (hi := 5999) ra1.1 ra1.2 (by decide) (by decide)) dX12_isSmallRule_6 (by decide) (fun c1 => ?_) (fun c1 => ?_)
  · refine m_iconst C dX12_isSmallRule_33 ?_
    exact m_zret C dX12_isSmallRule_34 rfl (Or.inl rfl) (Nat.le_of_ble_eq_true rfl) (Nat.le_of_ble_eq_true rfl) ⟨0, rfl, fp0, hB, ⟨by omega, by unfold SMX; omega⟩⟩
  · refine m_aload_n (j := 0) C dX12_isSmallRule_9 rfl ?_
    refine m_geta (k := 14) C dX12_isSmallRule_10 w6_73 (by decide) rfl ?_
    refine m_bipush (z := 8) C dX12_isSmallRule_13 (by decide) ?_
    refine m_aload_n (j := 0) C dX12_isSmallRule_15 rfl ?_
    refine m_geta (k := 44) C dX12_isSmallRule_16 w6_103 (by decide) rfl ?_
    refine m_iload_n (j := 1) C dX12_isSmallRule_19 rfl ?_
    refine m_ald (k := 44) C dX12_isSmallRule_20 rfl rfl (by decide) (by omega) (by show _ < ((_ : Nat) : Int); simp only [mlen]; omega) (by decide) ?_
    refine m_imul C dX12_isSmallRule_21 ?_
    refine m_ald (k := 14) C dX12_isSmallRule_22 rfl rfl (by decide) (by omega) (by show _ < ((_ : Nat) : Int); simp only [mlen]; omega) (by decide) ?_
    have ra2 : 0 ≤ a 14 (8 * (a 44 w.toNat)).toNat ∧ a 14 (8 * (a 44 w.toNat)).toNat ≤ 125 := hB.2 14 ((8 * (a 44 w.toNat)).toNat)
    refine m_callS (As := [.int (iI (a 14 (8 * (a 44 w.toNat)).toNat))]) (rest := []) C (fun L E => s_isSmall (iI (a 14 (8 * (a 44 w.toNat)).toNat))) dX12_isSmallRule_23 kS_X12_208 rfl rfl (Nat.le_of_ble_eq_true rfl) ⟨Nat.le_of_ble_eq_true rfl, Nat.le_of_ble_eq_true rfl⟩ ⟨Nat.le_of_ble_eq_true rfl, Nat.le_of_ble_eq_true rfl⟩ ?_
    rcases inn_c (x := a 14 (8 * (a 44 w.toNat)).toNat) (lo := 97) (hi := 122) (r32_c (lo := 0) (hi := 125) ra2.1 ra2.2 (by decide) (by decide)) ⟨by decide, by decide⟩ ⟨by decide, by decide⟩ with ⟨h1a, h1b, h1e⟩ | ⟨h1a, h1e⟩
    · refine m_st (st2 := [.int (iI 1)]) (by rw [show inn (iI (a 14 (8 * (a 44 w.toNat)).toNat)) 97 122 = iI 1 from h1e]) ?_
      refine m_if_eq (tgt := 33) C ⟨by decide, by decide⟩ dX12_isSmallRule_26 (by decide) (fun z => absurd z (by omega)) (fun _ => ?_)
      refine m_iconst C dX12_isSmallRule_29 ?_
      refine m_goto (tgt := 34) C dX12_isSmallRule_30 (by decide) ?_
      exact m_zret C dX12_isSmallRule_34 rfl (Or.inr rfl) (Nat.le_of_ble_eq_true rfl) (Nat.le_of_ble_eq_true rfl) ⟨1, rfl, fp0, hB, ⟨by omega, by unfold SMX; omega⟩⟩
    · refine m_st (st2 := [.int (iI 0)]) (by rw [show inn (iI (a 14 (8 * (a 44 w.toNat)).toNat)) 97 122 = iI 0 from h1e]) ?_
      refine m_if_eq (tgt := 33) C ⟨by decide, by decide⟩ dX12_isSmallRule_26 (by decide) (fun _ => ?_) (fun z => absurd z (by omega))
      refine m_iconst C dX12_isSmallRule_33 ?_
      exact m_zret C dX12_isSmallRule_34 rfl (Or.inl rfl) (Nat.le_of_ble_eq_true rfl) (Nat.le_of_ble_eq_true rfl) ⟨0, rfl, fp0, hB, ⟨by omega, by unfold SMX; omega⟩⟩
section RRD3
variable {v v2 : Nat → Int} {a a1 a2 : Nat → Nat → Int} {l : List Int} {q x u f w : Int} {V A : List Nat} {d k r : Int}
theorem rlen_cg (h13 : a1 13 = a 13) (h16 : a1 16 = a 16) : rlen a1 d = rlen a d := by
  unfold rlen
  rw [h13, h16]
theorem dcl_cg (h15 : a1 15 = a 15) (h17 : a1 17 = a 17) : dcl a1 d k = dcl a d k := by
  unfold dcl
  rw [h15, h17]
theorem rent_cg (h : rent a a r d) (h44 : a1 44 = a 44) (h45 : a1 45 = a 45) (h46 : a1 46 = a 46) (h13 : a1 13 = a 13) (h16 : a1 16 = a 16) : rent a1 a1 r d := by
  unfold rent at h ⊢
  rw [h44, h45, h46, h13, h16]
  exact h
theorem STD_cg {R : Nat → Int} {p : Int} (h13 : a1 13 = a 13) (h16 : a1 16 = a 16) (h15 : a1 15 = a 15) (h17 : a1 17 = a 17) : STD a1 R p d ↔ STD a R p d := by
  unfold STD
  rw [rlen_cg h13 h16]
  exact ⟨fun g k h1 h2 => by rw [← dcl_cg h15 h17]; exact g k h1 h2, fun g k h1 h2 => by rw [dcl_cg h15 h17]; exact g k h1 h2⟩
theorem BSQ_cg {R : Nat → Int} {p : Int} {c : Option Int} (h13 : a1 13 = a 13) (h16 : a1 16 = a 16) (h15 : a1 15 = a 15) (h17 : a1 17 = a 17) (h : BSQ a1 R p l c) : BSQ a R p l c := by
  obtain ⟨x, g1, g2⟩ := h
  refine ⟨x, ?_, g2⟩
  rcases g1 with ⟨e1, g1⟩ | ⟨e1, d, g1, g3, g4⟩
  · exact Or.inl ⟨e1, fun j d hj hd hs => g1 j d hj hd ((STD_cg h13 h16 h15 h17).mpr hs)⟩
  · refine Or.inr ⟨e1, d, g1, (STD_cg h13 h16 h15 h17).mp g3, fun j e hj he hs => ?_⟩
    have w := g4 j e hj he ((STD_cg h13 h16 h15 h17).mpr hs)
    rw [rlen_cg h13 h16, rlen_cg h13 h16] at w
    exact w
theorem LGX.fr (h : LGX a1 q x u f) (hf : fr V A v a v2 a1) (c13 : A.contains 13 = false := by rfl) (c15 : A.contains 15 = false := by rfl) (c16 : A.contains 16 = false := by rfl) (c17 : A.contains 17 = false := by rfl) (c44 : A.contains 44 = false := by rfl) (c45 : A.contains 45 = false := by rfl) (c46 : A.contains 46 = false := by rfl) (c47 : A.contains 47 = false := by rfl) (c48 : A.contains 48 = false := by rfl) : LGX a q x u f := fun l R hc => by
  obtain ⟨h1, h2, h3, h4⟩ := hc
  refine hv9 (hf.2 13 c13) (hf.2 15 c15) (hf.2 16 c16) (hf.2 17 c17) (hf.2 44 c44) (hf.2 45 c45) (hf.2 46 c46) (hf.2 47 c47) (hf.2 48 c48) (fun e13 e15 e16 e17 e44 e45 e46 e47 e48 => ?_)
  have k1 : HLD a1 a1 q l := ((h1.fr e44 e45 e46 (by rw [e47])).cg e13 e16)
  have k2 : NZL a1 l := fun j d hd => by
    rw [rlen_cg e13 e16]
    exact ⟨(h2 j d hd).1, fun k g1 g2 => by rw [dcl_cg e15 e17]; exact (h2 j d hd).2 k g1 g2⟩
  have k3 : LCX a1 q x u l R := ⟨k1, k2, fun j g1 g2 => by rw [e48]; exact h3 j g1 g2, h4⟩
  rcases h l R k3 with ⟨g1, g2⟩ | ⟨g1, d, g2, g3, g4⟩
  · exact Or.inl ⟨g1, BSQ_cg e13 e16 e15 e17 g2⟩
  · rw [e47] at g1
    exact Or.inr ⟨g1, d, g2, rent_cg g3 e44.symm e45.symm e46.symm e13.symm e16.symm, BSQ_cg e13 e16 e15 e17 g4⟩
theorem SMX.fr (h : SMX a1 w f) (hf : fr V A v a v2 a1) (c14 : A.contains 14 = false := by rfl) (c44 : A.contains 44 = false := by rfl) : SMX a w f := by
  unfold SMX at h ⊢
  rw [← hf.2 14 c14, ← hf.2 44 c44]
  exact h
end RRD3
set_option maxHeartbeats 4000000 in
set_option maxRecDepth 100000 in
theorem E_readWord {l : Launch} {G : GT} {h0 : Nat} {ad ln : Nat → Nat} {v : Nat → Int} {a : Nat → Nat → Int}  {q u : Int} (hB : BX v a) (hW : RWS a) (hq : 0 ≤ q ∧ q ≤ u ∧ u ≤ 40200) : Mm l G yX12_readWord cX12_readWord 9 (some .int) 3 [.int (iI q), .int (iI u)] h0 ad ln v a 0 0 (fun r v2 a2 => ∃ f : Int, r = some (.int (iI f)) ∧ fr [52, 53] [51] v a v2 a2 ∧ BX v2 a2 ∧ ((f = 0 ∨ f = 6 ∨ f = 9) ∧ RWX v a v2 a2 q u f)) := by
  refine Mm.mk (by decide) (Nat.le_of_ble_eq_true rfl) ?_
  intro p e s m args below meth c A C
  have fp0 : fr [52, 53] [51] v a v a := fr.refl
  refine m_iconst C dX12_readWord_0 ?_
  refine m_istore_n (lv2 := [(3, .int (iI 0)), (0, .ref h0), (1, .int (iI q)), (2, .int (iI u))]) C dX12_readWord_1 (by decide) rfl ?_
  refine m_iconst C dX12_readWord_2 ?_
  refine m_istore (lv2 := [(4, .int (iI 0)), (3, .int (iI 0)), (0, .ref h0), (1, .int (iI q)), (2, .int (iI u))]) C dX12_readWord_3 (by decide) rfl ?_
  refine m_iload_n (j := 3) C dX12_readWord_5 rfl ?_
  refine m_istore (lv2 := [(5, .int (iI q)), (4, .int (iI 0)), (3, .int (iI 0)), (0, .ref h0), (1, .int (iI q)), (2, .int (iI u))]) C dX12_readWord_6 (by decide) rfl ?_
  have Lp1 : ∀ (nn : Nat) (pt g x : Int) (vb1 : Nat → Int) (ab1 : Nat → Nat → Int), 40201 - x < (nn : Int) → BX vb1 ab1 → fr [52, 53] [51] v a vb1 ab1 → (pt = 0 ∨ pt = 1) → (g = 0 ∨ g = 1) → (q ≤ x ∧ x ≤ u) → (RW8 v a vb1 ab1 q u pt g x) → mw p l e (rmq 3 0 0) s m args below meth c G A 9 (MQ below (Qm G A (fun rq Lq Eq => ∃ (vq : Nat → Int) (aq : Nat → Nat → Int), mI G h0 ad ln vq aq Lq Eq ∧ (fun r v2 a2 => ∃ f : Int, r = some (.int (iI f)) ∧ fr [52, 53] [51] v a v2 a2 ∧ BX v2 a2 ∧ ((f = 0 ∨ f = 6 ∨ f = 9) ∧ RWX v a v2 a2 q u f)) rq vq aq)) args s 0 0 A) h0 ad ln vb1 ab1 0 0 8 [(5, .int (iI x)), (4, .int (iI g)), (3, .int (iI pt)), (0, .ref h0), (1, .int (iI q)), (2, .int (iI u))] [] := by
    intro nn
    induction nn with
    | zero =>
      intro pt g x vb1 ab1 hm bxb1 fpb1 hp hg hx hI
      exact absurd hm (by omega)
    | succ nn ih1 =>
      intro pt g x vb1 ab1 hm bxb1 fpb1 hp hg hx hI
      refine m_iload (j := 0) C dX12_readWord_8 rfl ?_
      refine m_iload_n (j := 5) C dX12_readWord_10 rfl ?_
      refine m_icmp_ge (tgt := 197) C ⟨by omega, by omega⟩ ⟨by omega, by omega⟩ dX12_readWord_11 (by decide) (fun c1 => ?_) (fun c1 => ?_)
      · refine m_aload_n (j := 3) C dX12_readWord_197 rfl ?_
        refine m_iload_n (j := 5) C dX12_readWord_198 rfl ?_
        refine m_put (k := 53) (z := u) C dX12_readWord_199 w6_112 (by decide) rfl rfl rfl ?_
        refine hv2 (show BX (va_up vb1 53 u) ab1 from bxb1.put (k := 53) (z := u) (show 0 ≤ u ∧ u ≤ 40200 by omega)) (fpb1.put (k := 53) (z := u) rfl) (fun bq1 fq1 => ?_)
        refine m_iload (j := 1) C dX12_readWord_202 rfl ?_
        refine m_if_eq (tgt := 212) C (r32_01 hg) dX12_readWord_204 (by decide) (fun c2 => ?_) (fun c2 => ?_)
        · clear hg
          refine m_iconst C dX12_readWord_212 ?_
          exact m_iret C dX12_readWord_213 rfl (Nat.le_of_ble_eq_true rfl) (Nat.le_of_ble_eq_true rfl) ⟨0, rfl, fq1, bq1, ⟨(by omega), hI.fin (by omega) (by omega) rfl rfl rfl⟩⟩
        · replace hg := (hg.resolve_left c2)
          refine m_bipush (z := 9) C dX12_readWord_207 (by decide) ?_
          refine m_goto (tgt := 213) C dX12_readWord_209 (by decide) ?_
          exact m_iret C dX12_readWord_213 rfl (Nat.le_of_ble_eq_true rfl) (Nat.le_of_ble_eq_true rfl) ⟨9, rfl, fq1, bq1, ⟨(by omega), hI.fing (by omega) (by omega) rfl⟩⟩
      · refine m_aload_n (j := 3) C dX12_readWord_14 rfl ?_
        refine m_iload_n (j := 2) C dX12_readWord_15 rfl ?_
        refine m_iload (j := 0) C dX12_readWord_16 rfl ?_
        refine m_iload_n (j := 5) C dX12_readWord_18 rfl ?_
        refine m_call (mc2 := 0) (ms2 := 0) (As := [.int (iI pt), .int (iI x), .int (iI u)]) (rest := []) C (E_longest (q := pt) (x := x) (u := u) bxb1 (RWS.fr hW fpb1 rfl) (by omega) (by omega)) dX12_readWord_19 kV_X12_342 rfl ck_13 rfl (Nat.le_of_ble_eq_true rfl) ⟨Nat.le_of_ble_eq_true rfl, Nat.le_of_ble_eq_true rfl⟩ ⟨Nat.le_of_ble_eq_true rfl, Nat.le_of_ble_eq_true rfl⟩ (fun rh1 vh1 ah1 h1 => ?_)
        obtain ⟨f1, rfl, fn1, _, hf1, lg1⟩ := h1
        obtain ⟨rfl, rfl⟩ := fn1.eq
        have gf1 : f1 = -1 ∨ (6008 * pt ≤ f1 ∧ f1 < 6008 * pt + ab1 47 pt.toNat ∧ x + ab1 46 f1.toNat ≤ u) := hf1
        have kf1 : f1 = -1 ∨ ((0 ≤ f1 ∧ f1 < 12016) ∧ (-4 ≤ ab1 44 f1.toNat ∧ ab1 44 f1.toNat < 6000) ∧ (1 ≤ ab1 46 f1.toNat ∧ ab1 46 f1.toNat ≤ 4)) := by
          rcases hf1 with q9 | q9
          · exact Or.inl q9
          · have g9 := ((RWS.fr hW fpb1 rfl) (pt) (by omega)).2 f1 q9.1 q9.2.1
            exact Or.inr ⟨g9.1, g9.2.1, g9.2.2.1⟩
        refine hv5 (show (-4) ≤ ab1 44 f1.toNat ∧ ab1 44 f1.toNat ≤ 5999 from bxb1.2 44 (f1.toNat)) (show ab1 44 (f1.toNat) = a 44 (f1.toNat) from congrFun (fpb1.2 44 rfl) (f1.toNat)) (show 0 ≤ ab1 46 f1.toNat ∧ ab1 46 f1.toNat ≤ 4 from bxb1.2 46 (f1.toNat)) (show ab1 46 (f1.toNat) = a 46 (f1.toNat) from congrFun (fpb1.2 46 rfl) (f1.toNat)) (show LGX a pt x u f1 from LGX.fr lg1 fpb1) (fun ra1 ae1 ra2 ae2 lh1 => ?_)
        refine m_st (st2 := [.int (iI f1)]) rfl ?_
        refine m_istore (lv2 := [(6, .int (iI f1)), (5, .int (iI x)), (4, .int (iI g)), (3, .int (iI pt)), (0, .ref h0), (1, .int (iI q)), (2, .int (iI u))]) C dX12_readWord_22 (by decide) rfl ?_
        refine m_aload_n (j := 4) C dX12_readWord_24 rfl ?_
        refine m_iload (j := 1) C dX12_readWord_25 rfl ?_
        refine m_put (k := 53) (z := x) C dX12_readWord_27 w6_112 (by decide) rfl rfl rfl ?_
        refine hv2 (show BX (va_up vb1 53 x) ab1 from bxb1.put (k := 53) (z := x) (show 0 ≤ x ∧ x ≤ 40200 by omega)) (fpb1.put (k := 53) (z := x) rfl) (fun bq2 fq2 => ?_)
        refine m_iload (j := 0) C dX12_readWord_30 rfl ?_
        refine m_if_lt (tgt := 49) C ⟨by omega, by omega⟩ dX12_readWord_32 (by decide) (fun c3 => ?_) (fun c3 => ?_)
        · refine m_bipush (z := 9) C dX12_readWord_49 (by decide) ?_
          exact m_iret C dX12_readWord_51 rfl (Nat.le_of_ble_eq_true rfl) (Nat.le_of_ble_eq_true rfl) ⟨9, rfl, fq2, bq2, ⟨(by omega), hI.w1 hp lh1 (by omega) ⟨by omega, by omega⟩⟩⟩
        · replace gf1 := gf1.resolve_left (fun q => by omega)
          refine m_iload (j := 2) C dX12_readWord_35 rfl ?_
          refine m_if_eq (tgt := 52) C (r32_01 hg) dX12_readWord_37 (by decide) (fun c4 => ?_) (fun c4 => ?_)
          · clear hg
            have hB9 : RWB v a (va_up vb1 53 x) ab1 q u pt g x f1 := (hI.go hp lh1 (by omega) (fun e => absurd e (by omega)) ⟨by omega, by omega⟩).fr rfl rfl
            refine m_aload_n (j := 4) C dX12_readWord_52 rfl ?_
            refine m_geta (k := 44) C dX12_readWord_53 w6_103 (by decide) rfl ?_
            refine m_iload (j := 0) C dX12_readWord_56 rfl ?_
            refine m_ald (k := 44) C dX12_readWord_58 rfl rfl (by decide) (by omega) (by show _ < ((_ : Nat) : Int); simp only [mlen]; omega) (by decide) ?_
            refine m_st (st2 := [.int (iI (a 44 f1.toNat))]) (congrArg (fun z => Value.int (iI z) :: []) (congrFun (fq2.2 44 rfl) (f1.toNat))) ?_
            refine m_istore (lv2 := [(7, .int (iI (a 44 f1.toNat))), (6, .int (iI f1)), (5, .int (iI x)), (4, .int (iI g)), (3, .int (iI pt)), (0, .ref h0), (1, .int (iI q)), (2, .int (iI u))]) C dX12_readWord_59 (by decide) rfl ?_
            have J1 : ∀ (vb2 : Nat → Int) (ab2 : Nat → Nat → Int), BX vb2 ab2 → fr [52, 53] [51] v a vb2 ab2 → (RW7 v a vb2 ab2 q u pt g x f1) → mw p l e (rmq 3 0 0) s m args below meth c G A 9 (MQ below (Qm G A (fun rq Lq Eq => ∃ (vq : Nat → Int) (aq : Nat → Nat → Int), mI G h0 ad ln vq aq Lq Eq ∧ (fun r v2 a2 => ∃ f : Int, r = some (.int (iI f)) ∧ fr [52, 53] [51] v a v2 a2 ∧ BX v2 a2 ∧ ((f = 0 ∨ f = 6 ∨ f = 9) ∧ RWX v a v2 a2 q u f)) rq vq aq)) args s 0 0 A) h0 ad ln vb2 ab2 0 0 127 [(7, .int (iI (a 44 f1.toNat))), (6, .int (iI f1)), (5, .int (iI x)), (4, .int (iI g)), (3, .int (iI pt)), (0, .ref h0), (1, .int (iI q)), (2, .int (iI u))] [] := by
              intro  vb2 ab2 bxb2 fpb2 h7
              refine m_iload (j := 0) C dX12_readWord_127 rfl ?_
              refine m_iconst C dX12_readWord_129 ?_
              have J2 : ∀ (g2 : Int) (vb3 : Nat → Int) (ab3 : Nat → Nat → Int), BX vb3 ab3 → fr [52, 53] [51] v a vb3 ab3 → (g2 = 0 ∨ g2 = 1) → ((g2 = 1 ∧ a 44 f1.toNat = -1) ∨ (g2 = 0 ∧ a 44 f1.toNat ≠ -1)) → (RW7 v a vb3 ab3 q u pt g x f1) → mw p l e (rmq 3 0 0) s m args below meth c G A 9 (MQ below (Qm G A (fun rq Lq Eq => ∃ (vq : Nat → Int) (aq : Nat → Nat → Int), mI G h0 ad ln vq aq Lq Eq ∧ (fun r v2 a2 => ∃ f : Int, r = some (.int (iI f)) ∧ fr [52, 53] [51] v a v2 a2 ∧ BX v2 a2 ∧ ((f = 0 ∨ f = 6 ∨ f = 9) ∧ RWX v a v2 a2 q u f)) rq vq aq)) args s 0 0 A) h0 ad ln vb3 ab3 0 0 138 [(7, .int (iI (a 44 f1.toNat))), (6, .int (iI f1)), (5, .int (iI x)), (4, .int (iI g)), (3, .int (iI pt)), (0, .ref h0), (1, .int (iI q)), (2, .int (iI u))] [.int (iI g2)] := by
                intro g2 vb3 ab3 bxb3 fpb3 hg2 hg3 h71
                refine m_istore (lv2 := [(4, .int (iI g2)), (7, .int (iI (a 44 f1.toNat))), (6, .int (iI f1)), (5, .int (iI x)), (3, .int (iI pt)), (0, .ref h0), (1, .int (iI q)), (2, .int (iI u))]) C dX12_readWord_138 (by decide) rfl ?_
                refine m_iload (j := 1) C dX12_readWord_140 rfl ?_
                refine m_bipush (z := (-3)) C dX12_readWord_142 (by decide) ?_
                refine m_icmp_eq (tgt := 154) C ⟨by omega, by omega⟩ ⟨by decide, by decide⟩ dX12_readWord_144 (by decide) (fun c5 => ?_) (fun c5 => ?_)
                · refine m_iconst C dX12_readWord_154 ?_
                  refine m_iload_n (j := 4) C dX12_readWord_155 rfl ?_
                  refine m_isub C dX12_readWord_156 ?_
                  refine m_istore_n (lv2 := [(3, .int (iI (1 - pt))), (4, .int (iI g2)), (7, .int (iI (a 44 f1.toNat))), (6, .int (iI f1)), (5, .int (iI x)), (0, .ref h0), (1, .int (iI q)), (2, .int (iI u))]) C dX12_readWord_157 (by decide) rfl ?_
                  refine m_aload_n (j := 5) C dX12_readWord_158 rfl ?_
                  refine m_iload (j := 2) C dX12_readWord_159 rfl ?_
                  refine m_bipush (z := (-3)) C dX12_readWord_161 (by decide) ?_
                  refine m_icmp_ne (tgt := 171) C ⟨by omega, by omega⟩ ⟨by decide, by decide⟩ dX12_readWord_163 (by decide) (fun z => absurd z (by omega)) (fun _ => ?_)
                  refine m_bipush (z := 60) C dX12_readWord_166 (by decide) ?_
                  refine m_goto (tgt := 173) C dX12_readWord_168 (by decide) ?_
                  refine m_call (mc2 := 0) (ms2 := 0) (As := [.int (iI 60)]) (rest := []) C (E_tell (x := 60) bxb3 (by omega)) dX12_readWord_173 kV_X12_336 rfl ck_13 rfl (Nat.le_of_ble_eq_true rfl) ⟨Nat.le_of_ble_eq_true rfl, Nat.le_of_ble_eq_true rfl⟩ ⟨Nat.le_of_ble_eq_true rfl, Nat.le_of_ble_eq_true rfl⟩ (fun rh2 vh2 ah2 h2 => ?_)
                  obtain ⟨f2, rfl, fn2, bn1, ex1, tx1⟩ := h2
                  refine hv2 (fpb3.call fn2 rfl rfl) (show f2 = 0 ∨ f2 = 1 from ex1) (fun fq3 gf2 => ?_)
                  refine m_st (st2 := [.int (iI f2)]) rfl ?_
                  refine m_if_ne (tgt := 182) C (r32_01 gf2) dX12_readWord_176 (by decide) (fun c6 => ?_) (fun c6 => ?_)
                  · replace gf2 := (gf2.resolve_left c6)
                    refine m_iload (j := 4) C dX12_readWord_182 rfl ?_
                    refine m_aload_n (j := 5) C dX12_readWord_184 rfl ?_
                    refine m_geta (k := 46) C dX12_readWord_185 w6_105 (by decide) rfl ?_
                    refine m_iload (j := 3) C dX12_readWord_188 rfl ?_
                    refine m_ald (k := 46) C dX12_readWord_190 rfl rfl (by decide) (by omega) (by show _ < ((_ : Nat) : Int); simp only [mlen]; omega) (by decide) ?_
                    refine hv3 (show 0 ≤ ah2 46 f1.toNat ∧ ah2 46 f1.toNat ≤ 4 from bn1.2 46 (f1.toNat)) (show ah2 46 (f1.toNat) = ab3 46 (f1.toNat) from congrFun (fn2.2 46 rfl) (f1.toNat)) (show ab3 46 (f1.toNat) = a 46 (f1.toNat) from congrFun (fpb3.2 46 rfl) (f1.toNat)) (fun ra3 ae3 ae4 => ?_)
                    refine m_st (st2 := [.int (iI (a 46 f1.toNat)), .int (iI x)]) (congrArg (fun z => Value.int (iI z) :: [.int (iI x)]) (congrFun (fq3.2 46 rfl) (f1.toNat))) ?_
                    refine m_iadd C dX12_readWord_191 ?_
                    refine m_istore (lv2 := [(5, .int (iI (x + (a 46 f1.toNat)))), (3, .int (iI (1 - pt))), (4, .int (iI g2)), (7, .int (iI (a 44 f1.toNat))), (6, .int (iI f1)), (0, .ref h0), (1, .int (iI q)), (2, .int (iI u))]) C dX12_readWord_192 (by decide) rfl ?_
                    refine m_goto (tgt := 8) C dX12_readWord_194 (by decide) ?_
                    refine m_lv (lv2 := [(5, .int (iI (x + (a 46 f1.toNat)))), (4, .int (iI g2)), (3, .int (iI (1 - pt))), (0, .ref h0), (1, .int (iI q)), (2, .int (iI u))]) [0, 2, 1, 5, 6, 7] rfl ?_
                    exact ih1  (1 - pt) g2 (x + (a 46 f1.toNat)) _ _ (by omega) bn1 fq3 (by omega) (by omega) (by omega) (h71.turn (by omega) tx1 (by omega) (by omega) hp rfl (by omega))
                  · clear gf2
                    refine m_bipush (z := 6) C dX12_readWord_179 (by decide) ?_
                    exact m_iret C dX12_readWord_181 rfl (Nat.le_of_ble_eq_true rfl) (Nat.le_of_ble_eq_true rfl) ⟨6, rfl, fq3, bn1, ⟨(by omega), h71.tov (by omega) tx1 (by omega)⟩⟩
                · refine m_iload (j := 1) C dX12_readWord_147 rfl ?_
                  refine m_bipush (z := (-4)) C dX12_readWord_149 (by decide) ?_
                  refine m_icmp_ne (tgt := 182) C ⟨by omega, by omega⟩ ⟨by decide, by decide⟩ dX12_readWord_151 (by decide) (fun c7 => ?_) (fun c7 => ?_)
                  · refine m_iload (j := 3) C dX12_readWord_182 rfl ?_
                    refine m_aload_n (j := 5) C dX12_readWord_184 rfl ?_
                    refine m_geta (k := 46) C dX12_readWord_185 w6_105 (by decide) rfl ?_
                    refine m_iload (j := 2) C dX12_readWord_188 rfl ?_
                    refine m_ald (k := 46) C dX12_readWord_190 rfl rfl (by decide) (by omega) (by show _ < ((_ : Nat) : Int); simp only [mlen]; omega) (by decide) ?_
                    refine hv2 (show 0 ≤ ab3 46 f1.toNat ∧ ab3 46 f1.toNat ≤ 4 from bxb3.2 46 (f1.toNat)) (show ab3 46 (f1.toNat) = a 46 (f1.toNat) from congrFun (fpb3.2 46 rfl) (f1.toNat)) (fun ra4 ae5 => ?_)
                    refine m_st (st2 := [.int (iI (a 46 f1.toNat)), .int (iI x)]) (congrArg (fun z => Value.int (iI z) :: [.int (iI x)]) (congrFun (fpb3.2 46 rfl) (f1.toNat))) ?_
                    refine m_iadd C dX12_readWord_191 ?_
                    refine m_istore (lv2 := [(5, .int (iI (x + (a 46 f1.toNat)))), (4, .int (iI g2)), (7, .int (iI (a 44 f1.toNat))), (6, .int (iI f1)), (3, .int (iI pt)), (0, .ref h0), (1, .int (iI q)), (2, .int (iI u))]) C dX12_readWord_192 (by decide) rfl ?_
                    refine m_goto (tgt := 8) C dX12_readWord_194 (by decide) ?_
                    refine m_lv (lv2 := [(5, .int (iI (x + (a 46 f1.toNat)))), (4, .int (iI g2)), (3, .int (iI pt)), (0, .ref h0), (1, .int (iI q)), (2, .int (iI u))]) [0, 1, 4, 5, 6, 7] rfl ?_
                    exact ih1  pt g2 (x + (a 46 f1.toNat)) _ _ (by omega) bxb3 fpb3 (by omega) (by omega) (by omega) (h71.next ⟨by omega, by omega⟩ (by omega) (by omega))
                  · refine m_iconst C dX12_readWord_154 ?_
                    refine m_iload_n (j := 4) C dX12_readWord_155 rfl ?_
                    refine m_isub C dX12_readWord_156 ?_
                    refine m_istore_n (lv2 := [(3, .int (iI (1 - pt))), (4, .int (iI g2)), (7, .int (iI (a 44 f1.toNat))), (6, .int (iI f1)), (5, .int (iI x)), (0, .ref h0), (1, .int (iI q)), (2, .int (iI u))]) C dX12_readWord_157 (by decide) rfl ?_
                    refine m_aload_n (j := 5) C dX12_readWord_158 rfl ?_
                    refine m_iload (j := 2) C dX12_readWord_159 rfl ?_
                    refine m_bipush (z := (-3)) C dX12_readWord_161 (by decide) ?_
                    refine m_icmp_ne (tgt := 171) C ⟨by omega, by omega⟩ ⟨by decide, by decide⟩ dX12_readWord_163 (by decide) (fun _ => ?_) (fun z => absurd z (by omega))
                    refine m_bipush (z := 62) C dX12_readWord_171 (by decide) ?_
                    refine m_call (mc2 := 0) (ms2 := 0) (As := [.int (iI 62)]) (rest := []) C (E_tell (x := 62) bxb3 (by omega)) dX12_readWord_173 kV_X12_336 rfl ck_13 rfl (Nat.le_of_ble_eq_true rfl) ⟨Nat.le_of_ble_eq_true rfl, Nat.le_of_ble_eq_true rfl⟩ ⟨Nat.le_of_ble_eq_true rfl, Nat.le_of_ble_eq_true rfl⟩ (fun rh3 vh3 ah3 h3 => ?_)
                    obtain ⟨f3, rfl, fn3, bn2, ex2, tx2⟩ := h3
                    refine hv2 (fpb3.call fn3 rfl rfl) (show f3 = 0 ∨ f3 = 1 from ex2) (fun fq4 gf3 => ?_)
                    refine m_st (st2 := [.int (iI f3)]) rfl ?_
                    refine m_if_ne (tgt := 182) C (r32_01 gf3) dX12_readWord_176 (by decide) (fun c8 => ?_) (fun c8 => ?_)
                    · replace gf3 := (gf3.resolve_left c8)
                      refine m_iload (j := 4) C dX12_readWord_182 rfl ?_
                      refine m_aload_n (j := 5) C dX12_readWord_184 rfl ?_
                      refine m_geta (k := 46) C dX12_readWord_185 w6_105 (by decide) rfl ?_
                      refine m_iload (j := 3) C dX12_readWord_188 rfl ?_
                      refine m_ald (k := 46) C dX12_readWord_190 rfl rfl (by decide) (by omega) (by show _ < ((_ : Nat) : Int); simp only [mlen]; omega) (by decide) ?_
                      refine hv3 (show 0 ≤ ah3 46 f1.toNat ∧ ah3 46 f1.toNat ≤ 4 from bn2.2 46 (f1.toNat)) (show ah3 46 (f1.toNat) = ab3 46 (f1.toNat) from congrFun (fn3.2 46 rfl) (f1.toNat)) (show ab3 46 (f1.toNat) = a 46 (f1.toNat) from congrFun (fpb3.2 46 rfl) (f1.toNat)) (fun ra5 ae6 ae7 => ?_)
                      refine m_st (st2 := [.int (iI (a 46 f1.toNat)), .int (iI x)]) (congrArg (fun z => Value.int (iI z) :: [.int (iI x)]) (congrFun (fq4.2 46 rfl) (f1.toNat))) ?_
                      refine m_iadd C dX12_readWord_191 ?_
                      refine m_istore (lv2 := [(5, .int (iI (x + (a 46 f1.toNat)))), (3, .int (iI (1 - pt))), (4, .int (iI g2)), (7, .int (iI (a 44 f1.toNat))), (6, .int (iI f1)), (0, .ref h0), (1, .int (iI q)), (2, .int (iI u))]) C dX12_readWord_192 (by decide) rfl ?_
                      refine m_goto (tgt := 8) C dX12_readWord_194 (by decide) ?_
                      refine m_lv (lv2 := [(5, .int (iI (x + (a 46 f1.toNat)))), (4, .int (iI g2)), (3, .int (iI (1 - pt))), (0, .ref h0), (1, .int (iI q)), (2, .int (iI u))]) [0, 2, 1, 5, 6, 7] rfl ?_
                      exact ih1  (1 - pt) g2 (x + (a 46 f1.toNat)) _ _ (by omega) bn2 fq4 (by omega) (by omega) (by omega) (h71.turn (by omega) tx2 (by omega) (by omega) hp rfl (by omega))
                    · clear gf3
                      refine m_bipush (z := 6) C dX12_readWord_179 (by decide) ?_
                      exact m_iret C dX12_readWord_181 rfl (Nat.le_of_ble_eq_true rfl) (Nat.le_of_ble_eq_true rfl) ⟨6, rfl, fq4, bn2, ⟨(by omega), h71.tov (by omega) tx2 (by omega)⟩⟩
              refine m_icmp_ne (tgt := 137) C ⟨by omega, by omega⟩ ⟨by decide, by decide⟩ dX12_readWord_130 (by decide) (fun c9 => ?_) (fun c9 => ?_)
              · refine m_iconst C dX12_readWord_137 ?_
                refine m_lv (lv2 := [(7, .int (iI (a 44 f1.toNat))), (6, .int (iI f1)), (5, .int (iI x)), (4, .int (iI g)), (3, .int (iI pt)), (0, .ref h0), (1, .int (iI q)), (2, .int (iI u))]) [0, 1, 2, 3, 4, 5, 6, 7] rfl ?_
                exact J2  0 _ _  bxb2 fpb2 (by omega) (by omega) h7
              · refine m_iconst C dX12_readWord_133 ?_
                refine m_goto (tgt := 138) C dX12_readWord_134 (by decide) ?_
                refine m_lv (lv2 := [(7, .int (iI (a 44 f1.toNat))), (6, .int (iI f1)), (5, .int (iI x)), (4, .int (iI g)), (3, .int (iI pt)), (0, .ref h0), (1, .int (iI q)), (2, .int (iI u))]) [0, 1, 2, 3, 4, 5, 6, 7] rfl ?_
                exact J2  1 _ _  bxb2 fpb2 (by omega) (by omega) h7
            refine m_iload (j := 0) C dX12_readWord_61 rfl ?_
            refine m_if_lt (tgt := 127) C ⟨by omega, by omega⟩ dX12_readWord_63 (by decide) (fun c10 => ?_) (fun c10 => ?_)
            · refine m_lv (lv2 := [(7, .int (iI (a 44 f1.toNat))), (6, .int (iI f1)), (5, .int (iI x)), (4, .int (iI g)), (3, .int (iI pt)), (0, .ref h0), (1, .int (iI q)), (2, .int (iI u))]) [0, 1, 2, 3, 4, 5, 6, 7] rfl ?_
              exact J1   _ _  bq2 fq2 (hB9.neg (by omega))
            · refine m_iconst C dX12_readWord_66 ?_
              refine m_istore (lv2 := [(8, .int (iI 0)), (7, .int (iI (a 44 f1.toNat))), (6, .int (iI f1)), (5, .int (iI x)), (4, .int (iI g)), (3, .int (iI pt)), (0, .ref h0), (1, .int (iI q)), (2, .int (iI u))]) C dX12_readWord_67 (by decide) rfl ?_
              have Lp2 : ∀ (nn : Nat) (k : Int) (vb4 : Nat → Int) (ab4 : Nat → Nat → Int), 9 - k < (nn : Int) → BX vb4 ab4 → fr [52, 53] [51] v a vb4 ab4 → (0 ≤ k ∧ k ≤ 8 ∧ k ≤ a 12 (a 44 f1.toNat).toNat) → (RW6 v a vb4 ab4 q u pt g x f1 k) → mw p l e (rmq 3 0 0) s m args below meth c G A 9 (MQ below (Qm G A (fun rq Lq Eq => ∃ (vq : Nat → Int) (aq : Nat → Nat → Int), mI G h0 ad ln vq aq Lq Eq ∧ (fun r v2 a2 => ∃ f : Int, r = some (.int (iI f)) ∧ fr [52, 53] [51] v a v2 a2 ∧ BX v2 a2 ∧ ((f = 0 ∨ f = 6 ∨ f = 9) ∧ RWX v a v2 a2 q u f)) rq vq aq)) args s 0 0 A) h0 ad ln vb4 ab4 0 0 69 [(8, .int (iI k)), (7, .int (iI (a 44 f1.toNat))), (6, .int (iI f1)), (5, .int (iI x)), (4, .int (iI g)), (3, .int (iI pt)), (0, .ref h0), (1, .int (iI q)), (2, .int (iI u))] [] := by
                intro nn
                induction nn with
                | zero =>
                  intro k vb4 ab4 hm bxb4 fpb4 hk hJ
                  exact absurd hm (by omega)
                | succ nn ih2 =>
                  intro k vb4 ab4 hm bxb4 fpb4 hk hJ
                  refine m_iload (j := 0) C dX12_readWord_69 rfl ?_
                  refine m_aload_n (j := 6) C dX12_readWord_71 rfl ?_
                  refine m_geta (k := 12) C dX12_readWord_72 w6_71 (by decide) rfl ?_
                  refine m_iload (j := 1) C dX12_readWord_75 rfl ?_
                  refine m_ald (k := 12) C dX12_readWord_77 rfl rfl (by decide) (by omega) (by show _ < ((_ : Nat) : Int); simp only [mlen]; omega) (by decide) ?_
                  refine hv2 (show 0 ≤ ab4 12 (a 44 f1.toNat).toNat ∧ ab4 12 (a 44 f1.toNat).toNat ≤ 8 from bxb4.2 12 ((a 44 f1.toNat).toNat)) (show ab4 12 ((a 44 f1.toNat).toNat) = a 12 ((a 44 f1.toNat).toNat) from congrFun (fpb4.2 12 rfl) ((a 44 f1.toNat).toNat)) (fun ra6 ae8 => ?_)
                  refine m_st (st2 := [.int (iI (a 12 (a 44 f1.toNat).toNat)), .int (iI k)]) (congrArg (fun z => Value.int (iI z) :: [.int (iI k)]) (congrFun (fpb4.2 12 rfl) ((a 44 f1.toNat).toNat))) ?_
                  refine m_icmp_ge (tgt := 127) C (r32_c (lo := 0) (hi := 8) hk.1 hk.2.1 (by decide) (by decide)) ⟨by omega, by omega⟩ dX12_readWord_78 (by decide) (fun c11 => ?_) (fun c11 => ?_)
                  · refine m_lv (lv2 := [(7, .int (iI (a 44 f1.toNat))), (6, .int (iI f1)), (5, .int (iI x)), (4, .int (iI g)), (3, .int (iI pt)), (0, .ref h0), (1, .int (iI q)), (2, .int (iI u))]) [1, 2, 3, 4, 5, 6, 7, 8] rfl ?_
                    exact J1   _ _  bxb4 fpb4 (hJ.fin (by omega))
                  · refine m_aload_n (j := 6) C dX12_readWord_81 rfl ?_
                    refine m_aload_n (j := 6) C dX12_readWord_82 rfl ?_
                    refine m_geta (k := 14) C dX12_readWord_83 w6_73 (by decide) rfl ?_
                    refine m_bipush (z := 8) C dX12_readWord_86 (by decide) ?_
                    refine m_iload (j := 1) C dX12_readWord_88 rfl ?_
                    refine m_imul C dX12_readWord_90 ?_
                    refine m_iload (j := 0) C dX12_readWord_91 rfl ?_
                    refine m_iadd C dX12_readWord_93 ?_
                    refine m_ald (k := 14) C dX12_readWord_94 rfl rfl (by decide) (by omega) (by show _ < ((_ : Nat) : Int); simp only [mlen]; omega) (by decide) ?_
                    refine hv2 (show 0 ≤ ab4 14 ((8 * (a 44 f1.toNat)) + k).toNat ∧ ab4 14 ((8 * (a 44 f1.toNat)) + k).toNat ≤ 125 from bxb4.2 14 (((8 * (a 44 f1.toNat)) + k).toNat)) (show ab4 14 (((8 * (a 44 f1.toNat)) + k).toNat) = a 14 (((8 * (a 44 f1.toNat)) + k).toNat) from congrFun (fpb4.2 14 rfl) (((8 * (a 44 f1.toNat)) + k).toNat)) (fun ra7 ae9 => ?_)
                    refine m_st (st2 := [.int (iI (a 14 ((8 * (a 44 f1.toNat)) + k).toNat)), .ref h0]) (congrArg (fun z => Value.int (iI z) :: [.ref h0]) (congrFun (fpb4.2 14 rfl) (((8 * (a 44 f1.toNat)) + k).toNat))) ?_
                    refine m_iload (j := 4) C dX12_readWord_95 rfl ?_
                    refine m_if_eq (tgt := 110) C ⟨by omega, by omega⟩ dX12_readWord_97 (by decide) (fun _ => ?_) (fun z => absurd z (by omega))
                    refine m_iconst C dX12_readWord_110 ?_
                    refine m_isub C dX12_readWord_111 ?_
                    refine m_call (mc2 := 0) (ms2 := 0) (As := [.int (iI ((a 14 ((8 * (a 44 f1.toNat)) + k).toNat) - 0))]) (rest := []) C (E_tell (x := (a 14 ((8 * (a 44 f1.toNat)) + k).toNat) - 0) bxb4 (by omega)) dX12_readWord_112 kV_X12_336 rfl ck_13 rfl (Nat.le_of_ble_eq_true rfl) ⟨Nat.le_of_ble_eq_true rfl, Nat.le_of_ble_eq_true rfl⟩ ⟨Nat.le_of_ble_eq_true rfl, Nat.le_of_ble_eq_true rfl⟩ (fun rh4 vh4 ah4 h4 => ?_)
                    obtain ⟨f4, rfl, fn4, bn3, ex3, tx3⟩ := h4
                    refine hv2 (fpb4.call fn4 rfl rfl) (show f4 = 0 ∨ f4 = 1 from ex3) (fun fq5 gf4 => ?_)
                    refine m_st (st2 := [.int (iI f4)]) rfl ?_
                    refine m_if_ne (tgt := 121) C (r32_01 gf4) dX12_readWord_115 (by decide) (fun c12 => ?_) (fun c12 => ?_)
                    · replace gf4 := (gf4.resolve_left c12)
                      refine m_iinc (z := k) (j := 0) (lv2 := [(8, .int (iI (k + 1))), (7, .int (iI (a 44 f1.toNat))), (6, .int (iI f1)), (5, .int (iI x)), (4, .int (iI g)), (3, .int (iI pt)), (0, .ref h0), (1, .int (iI q)), (2, .int (iI u))]) C dX12_readWord_121 rfl (by decide) rfl ?_
                      refine m_goto (tgt := 69) C dX12_readWord_124 (by decide) ?_
                      refine m_lv (lv2 := [(8, .int (iI (k + 1))), (7, .int (iI (a 44 f1.toNat))), (6, .int (iI f1)), (5, .int (iI x)), (4, .int (iI g)), (3, .int (iI pt)), (0, .ref h0), (1, .int (iI q)), (2, .int (iI u))]) [0, 1, 2, 3, 4, 5, 6, 7, 8] rfl ?_
                      exact ih2  (k + 1) _ _ (by omega) bn3 fq5 (by have q : 0 ≤ a 12 (a 44 f1.toNat).toNat ∧ a 12 (a 44 f1.toNat).toNat ≤ 8 := hB.2 12 _; omega) (hJ.step (by omega) tx3 (by omega) (by split <;> omega))
                    · clear gf4
                      refine m_bipush (z := 6) C dX12_readWord_118 (by decide) ?_
                      exact m_iret C dX12_readWord_120 rfl (Nat.le_of_ble_eq_true rfl) (Nat.le_of_ble_eq_true rfl) ⟨6, rfl, fq5, bn3, ⟨(by omega), hJ.ov ⟨by omega, by omega⟩ tx3 (by omega)⟩⟩
              refine m_lv (lv2 := [(8, .int (iI 0)), (7, .int (iI (a 44 f1.toNat))), (6, .int (iI f1)), (5, .int (iI x)), (4, .int (iI g)), (3, .int (iI pt)), (0, .ref h0), (1, .int (iI q)), (2, .int (iI u))]) [0, 1, 2, 3, 4, 5, 6, 7, 8] rfl ?_
              exact Lp2 10 0 _ _ (by omega) bq2 fq2 (by have q : 0 ≤ a 12 (a 44 f1.toNat).toNat ∧ a 12 (a 44 f1.toNat).toNat ≤ 8 := hB.2 12 _; omega) (hB9.let0 (by omega))
          · replace hg := (hg.resolve_left c4)
            refine m_aload_n (j := 4) C dX12_readWord_40 rfl ?_
            refine m_iload (j := 0) C dX12_readWord_41 rfl ?_
            refine m_call (mc2 := 0) (ms2 := 0) (As := [.int (iI f1)]) (rest := []) C (E_isSmallRule (w := f1) bq2 (by omega) (by show ab1 44 f1.toNat < 6000; omega)) dX12_readWord_43 kV_X12_348 rfl ck_13 rfl (Nat.le_of_ble_eq_true rfl) ⟨Nat.le_of_ble_eq_true rfl, Nat.le_of_ble_eq_true rfl⟩ ⟨Nat.le_of_ble_eq_true rfl, Nat.le_of_ble_eq_true rfl⟩ (fun rh5 vh5 ah5 h5 => ?_)
            obtain ⟨f5, rfl, fn5, _, ef5, sm1⟩ := h5
            obtain ⟨rfl, rfl⟩ := fn5.eq
            refine hv2 (show f5 = 0 ∨ f5 = 1 from ef5) (show SMX a f1 f5 from SMX.fr sm1 fq2) (fun gf5 sn1 => ?_)
            refine m_st (st2 := [.int (iI f5)]) rfl ?_
            refine m_if_ne (tgt := 52) C (r32_01 gf5) dX12_readWord_46 (by decide) (fun c13 => ?_) (fun c13 => ?_)
            · replace gf5 := (gf5.resolve_left c13)
              have hB9 : RWB v a (va_up vb1 53 x) ab1 q u pt g x f1 := (hI.go hp lh1 (by omega) (fun _ => sn1.mp (by omega)) ⟨by omega, by omega⟩).fr rfl rfl
              refine m_aload_n (j := 4) C dX12_readWord_52 rfl ?_
              refine m_geta (k := 44) C dX12_readWord_53 w6_103 (by decide) rfl ?_
              refine m_iload (j := 0) C dX12_readWord_56 rfl ?_
              refine m_ald (k := 44) C dX12_readWord_58 rfl rfl (by decide) (by omega) (by show _ < ((_ : Nat) : Int); simp only [mlen]; omega) (by decide) ?_
              refine m_st (st2 := [.int (iI (a 44 f1.toNat))]) (congrArg (fun z => Value.int (iI z) :: []) (congrFun (fq2.2 44 rfl) (f1.toNat))) ?_
              refine m_istore (lv2 := [(7, .int (iI (a 44 f1.toNat))), (6, .int (iI f1)), (5, .int (iI x)), (4, .int (iI g)), (3, .int (iI pt)), (0, .ref h0), (1, .int (iI q)), (2, .int (iI u))]) C dX12_readWord_59 (by decide) rfl ?_
              have J3 : ∀ (vb5 : Nat → Int) (ab5 : Nat → Nat → Int), BX vb5 ab5 → fr [52, 53] [51] v a vb5 ab5 → (RW7 v a vb5 ab5 q u pt g x f1) → mw p l e (rmq 3 0 0) s m args below meth c G A 9 (MQ below (Qm G A (fun rq Lq Eq => ∃ (vq : Nat → Int) (aq : Nat → Nat → Int), mI G h0 ad ln vq aq Lq Eq ∧ (fun r v2 a2 => ∃ f : Int, r = some (.int (iI f)) ∧ fr [52, 53] [51] v a v2 a2 ∧ BX v2 a2 ∧ ((f = 0 ∨ f = 6 ∨ f = 9) ∧ RWX v a v2 a2 q u f)) rq vq aq)) args s 0 0 A) h0 ad ln vb5 ab5 0 0 127 [(7, .int (iI (a 44 f1.toNat))), (6, .int (iI f1)), (5, .int (iI x)), (4, .int (iI g)), (3, .int (iI pt)), (0, .ref h0), (1, .int (iI q)), (2, .int (iI u))] [] := by
                intro  vb5 ab5 bxb5 fpb5 h7
                refine m_iload (j := 0) C dX12_readWord_127 rfl ?_
                refine m_iconst C dX12_readWord_129 ?_
                have J4 : ∀ (g2 : Int) (vb6 : Nat → Int) (ab6 : Nat → Nat → Int), BX vb6 ab6 → fr [52, 53] [51] v a vb6 ab6 → (g2 = 0 ∨ g2 = 1) → ((g2 = 1 ∧ a 44 f1.toNat = -1) ∨ (g2 = 0 ∧ a 44 f1.toNat ≠ -1)) → (RW7 v a vb6 ab6 q u pt g x f1) → mw p l e (rmq 3 0 0) s m args below meth c G A 9 (MQ below (Qm G A (fun rq Lq Eq => ∃ (vq : Nat → Int) (aq : Nat → Nat → Int), mI G h0 ad ln vq aq Lq Eq ∧ (fun r v2 a2 => ∃ f : Int, r = some (.int (iI f)) ∧ fr [52, 53] [51] v a v2 a2 ∧ BX v2 a2 ∧ ((f = 0 ∨ f = 6 ∨ f = 9) ∧ RWX v a v2 a2 q u f)) rq vq aq)) args s 0 0 A) h0 ad ln vb6 ab6 0 0 138 [(7, .int (iI (a 44 f1.toNat))), (6, .int (iI f1)), (5, .int (iI x)), (4, .int (iI g)), (3, .int (iI pt)), (0, .ref h0), (1, .int (iI q)), (2, .int (iI u))] [.int (iI g2)] := by
                  intro g2 vb6 ab6 bxb6 fpb6 hg2 hg3 h71
                  refine m_istore (lv2 := [(4, .int (iI g2)), (7, .int (iI (a 44 f1.toNat))), (6, .int (iI f1)), (5, .int (iI x)), (3, .int (iI pt)), (0, .ref h0), (1, .int (iI q)), (2, .int (iI u))]) C dX12_readWord_138 (by decide) rfl ?_
                  refine m_iload (j := 1) C dX12_readWord_140 rfl ?_
                  refine m_bipush (z := (-3)) C dX12_readWord_142 (by decide) ?_
                  refine m_icmp_eq (tgt := 154) C ⟨by omega, by omega⟩ ⟨by decide, by decide⟩ dX12_readWord_144 (by decide) (fun c14 => ?_) (fun c14 => ?_)
                  · refine m_iconst C dX12_readWord_154 ?_
                    refine m_iload_n (j := 4) C dX12_readWord_155 rfl ?_
                    refine m_isub C dX12_readWord_156 ?_
                    refine m_istore_n (lv2 := [(3, .int (iI (1 - pt))), (4, .int (iI g2)), (7, .int (iI (a 44 f1.toNat))), (6, .int (iI f1)), (5, .int (iI x)), (0, .ref h0), (1, .int (iI q)), (2, .int (iI u))]) C dX12_readWord_157 (by decide) rfl ?_
                    refine m_aload_n (j := 5) C dX12_readWord_158 rfl ?_
                    refine m_iload (j := 2) C dX12_readWord_159 rfl ?_
                    refine m_bipush (z := (-3)) C dX12_readWord_161 (by decide) ?_
                    refine m_icmp_ne (tgt := 171) C ⟨by omega, by omega⟩ ⟨by decide, by decide⟩ dX12_readWord_163 (by decide) (fun z => absurd z (by omega)) (fun _ => ?_)
                    refine m_bipush (z := 60) C dX12_readWord_166 (by decide) ?_
                    refine m_goto (tgt := 173) C dX12_readWord_168 (by decide) ?_
                    refine m_call (mc2 := 0) (ms2 := 0) (As := [.int (iI 60)]) (rest := []) C (E_tell (x := 60) bxb6 (by omega)) dX12_readWord_173 kV_X12_336 rfl ck_13 rfl (Nat.le_of_ble_eq_true rfl) ⟨Nat.le_of_ble_eq_true rfl, Nat.le_of_ble_eq_true rfl⟩ ⟨Nat.le_of_ble_eq_true rfl, Nat.le_of_ble_eq_true rfl⟩ (fun rh6 vh6 ah6 h6 => ?_)
                    obtain ⟨f6, rfl, fn6, bn4, ex4, tx4⟩ := h6
                    refine hv2 (fpb6.call fn6 rfl rfl) (show f6 = 0 ∨ f6 = 1 from ex4) (fun fq6 gf6 => ?_)
                    refine m_st (st2 := [.int (iI f6)]) rfl ?_
                    refine m_if_ne (tgt := 182) C (r32_01 gf6) dX12_readWord_176 (by decide) (fun c15 => ?_) (fun c15 => ?_)
                    · replace gf6 := (gf6.resolve_left c15)
                      refine m_iload (j := 4) C dX12_readWord_182 rfl ?_
                      refine m_aload_n (j := 5) C dX12_readWord_184 rfl ?_
                      refine m_geta (k := 46) C dX12_readWord_185 w6_105 (by decide) rfl ?_
                      refine m_iload (j := 3) C dX12_readWord_188 rfl ?_
                      refine m_ald (k := 46) C dX12_readWord_190 rfl rfl (by decide) (by omega) (by show _ < ((_ : Nat) : Int); simp only [mlen]; omega) (by decide) ?_
                      refine hv3 (show 0 ≤ ah6 46 f1.toNat ∧ ah6 46 f1.toNat ≤ 4 from bn4.2 46 (f1.toNat)) (show ah6 46 (f1.toNat) = ab6 46 (f1.toNat) from congrFun (fn6.2 46 rfl) (f1.toNat)) (show ab6 46 (f1.toNat) = a 46 (f1.toNat) from congrFun (fpb6.2 46 rfl) (f1.toNat)) (fun ra8 ae10 ae11 => ?_)
                      refine m_st (st2 := [.int (iI (a 46 f1.toNat)), .int (iI x)]) (congrArg (fun z => Value.int (iI z) :: [.int (iI x)]) (congrFun (fq6.2 46 rfl) (f1.toNat))) ?_
                      refine m_iadd C dX12_readWord_191 ?_
                      refine m_istore (lv2 := [(5, .int (iI (x + (a 46 f1.toNat)))), (3, .int (iI (1 - pt))), (4, .int (iI g2)), (7, .int (iI (a 44 f1.toNat))), (6, .int (iI f1)), (0, .ref h0), (1, .int (iI q)), (2, .int (iI u))]) C dX12_readWord_192 (by decide) rfl ?_
                      refine m_goto (tgt := 8) C dX12_readWord_194 (by decide) ?_
                      refine m_lv (lv2 := [(5, .int (iI (x + (a 46 f1.toNat)))), (4, .int (iI g2)), (3, .int (iI (1 - pt))), (0, .ref h0), (1, .int (iI q)), (2, .int (iI u))]) [0, 2, 1, 5, 6, 7] rfl ?_
                      exact ih1  (1 - pt) g2 (x + (a 46 f1.toNat)) _ _ (by omega) bn4 fq6 (by omega) (by omega) (by omega) (h71.turn (by omega) tx4 (by omega) (by omega) hp rfl (by omega))
                    · clear gf6
                      refine m_bipush (z := 6) C dX12_readWord_179 (by decide) ?_
                      exact m_iret C dX12_readWord_181 rfl (Nat.le_of_ble_eq_true rfl) (Nat.le_of_ble_eq_true rfl) ⟨6, rfl, fq6, bn4, ⟨(by omega), h71.tov (by omega) tx4 (by omega)⟩⟩
                  · refine m_iload (j := 1) C dX12_readWord_147 rfl ?_
                    refine m_bipush (z := (-4)) C dX12_readWord_149 (by decide) ?_
                    refine m_icmp_ne (tgt := 182) C ⟨by omega, by omega⟩ ⟨by decide, by decide⟩ dX12_readWord_151 (by decide) (fun c16 => ?_) (fun c16 => ?_)
                    · refine m_iload (j := 3) C dX12_readWord_182 rfl ?_
                      refine m_aload_n (j := 5) C dX12_readWord_184 rfl ?_
                      refine m_geta (k := 46) C dX12_readWord_185 w6_105 (by decide) rfl ?_
                      refine m_iload (j := 2) C dX12_readWord_188 rfl ?_
                      refine m_ald (k := 46) C dX12_readWord_190 rfl rfl (by decide) (by omega) (by show _ < ((_ : Nat) : Int); simp only [mlen]; omega) (by decide) ?_
                      refine hv2 (show 0 ≤ ab6 46 f1.toNat ∧ ab6 46 f1.toNat ≤ 4 from bxb6.2 46 (f1.toNat)) (show ab6 46 (f1.toNat) = a 46 (f1.toNat) from congrFun (fpb6.2 46 rfl) (f1.toNat)) (fun ra9 ae12 => ?_)
                      refine m_st (st2 := [.int (iI (a 46 f1.toNat)), .int (iI x)]) (congrArg (fun z => Value.int (iI z) :: [.int (iI x)]) (congrFun (fpb6.2 46 rfl) (f1.toNat))) ?_
                      refine m_iadd C dX12_readWord_191 ?_
                      refine m_istore (lv2 := [(5, .int (iI (x + (a 46 f1.toNat)))), (4, .int (iI g2)), (7, .int (iI (a 44 f1.toNat))), (6, .int (iI f1)), (3, .int (iI pt)), (0, .ref h0), (1, .int (iI q)), (2, .int (iI u))]) C dX12_readWord_192 (by decide) rfl ?_
                      refine m_goto (tgt := 8) C dX12_readWord_194 (by decide) ?_
                      refine m_lv (lv2 := [(5, .int (iI (x + (a 46 f1.toNat)))), (4, .int (iI g2)), (3, .int (iI pt)), (0, .ref h0), (1, .int (iI q)), (2, .int (iI u))]) [0, 1, 4, 5, 6, 7] rfl ?_
                      exact ih1  pt g2 (x + (a 46 f1.toNat)) _ _ (by omega) bxb6 fpb6 (by omega) (by omega) (by omega) (h71.next ⟨by omega, by omega⟩ (by omega) (by omega))
                    · refine m_iconst C dX12_readWord_154 ?_
                      refine m_iload_n (j := 4) C dX12_readWord_155 rfl ?_
                      refine m_isub C dX12_readWord_156 ?_
                      refine m_istore_n (lv2 := [(3, .int (iI (1 - pt))), (4, .int (iI g2)), (7, .int (iI (a 44 f1.toNat))), (6, .int (iI f1)), (5, .int (iI x)), (0, .ref h0), (1, .int (iI q)), (2, .int (iI u))]) C dX12_readWord_157 (by decide) rfl ?_
                      refine m_aload_n (j := 5) C dX12_readWord_158 rfl ?_
                      refine m_iload (j := 2) C dX12_readWord_159 rfl ?_
                      refine m_bipush (z := (-3)) C dX12_readWord_161 (by decide) ?_
                      refine m_icmp_ne (tgt := 171) C ⟨by omega, by omega⟩ ⟨by decide, by decide⟩ dX12_readWord_163 (by decide) (fun _ => ?_) (fun z => absurd z (by omega))
                      refine m_bipush (z := 62) C dX12_readWord_171 (by decide) ?_
                      refine m_call (mc2 := 0) (ms2 := 0) (As := [.int (iI 62)]) (rest := []) C (E_tell (x := 62) bxb6 (by omega)) dX12_readWord_173 kV_X12_336 rfl ck_13 rfl (Nat.le_of_ble_eq_true rfl) ⟨Nat.le_of_ble_eq_true rfl, Nat.le_of_ble_eq_true rfl⟩ ⟨Nat.le_of_ble_eq_true rfl, Nat.le_of_ble_eq_true rfl⟩ (fun rh8 vh8 ah8 h8 => ?_)
                      obtain ⟨f7, rfl, fn7, bn5, ex5, tx5⟩ := h8
                      refine hv2 (fpb6.call fn7 rfl rfl) (show f7 = 0 ∨ f7 = 1 from ex5) (fun fq7 gf7 => ?_)
                      refine m_st (st2 := [.int (iI f7)]) rfl ?_
                      refine m_if_ne (tgt := 182) C (r32_01 gf7) dX12_readWord_176 (by decide) (fun c17 => ?_) (fun c17 => ?_)
                      · replace gf7 := (gf7.resolve_left c17)
                        refine m_iload (j := 4) C dX12_readWord_182 rfl ?_
                        refine m_aload_n (j := 5) C dX12_readWord_184 rfl ?_
                        refine m_geta (k := 46) C dX12_readWord_185 w6_105 (by decide) rfl ?_
                        refine m_iload (j := 3) C dX12_readWord_188 rfl ?_
                        refine m_ald (k := 46) C dX12_readWord_190 rfl rfl (by decide) (by omega) (by show _ < ((_ : Nat) : Int); simp only [mlen]; omega) (by decide) ?_
                        refine hv3 (show 0 ≤ ah8 46 f1.toNat ∧ ah8 46 f1.toNat ≤ 4 from bn5.2 46 (f1.toNat)) (show ah8 46 (f1.toNat) = ab6 46 (f1.toNat) from congrFun (fn7.2 46 rfl) (f1.toNat)) (show ab6 46 (f1.toNat) = a 46 (f1.toNat) from congrFun (fpb6.2 46 rfl) (f1.toNat)) (fun ra10 ae13 ae14 => ?_)
                        refine m_st (st2 := [.int (iI (a 46 f1.toNat)), .int (iI x)]) (congrArg (fun z => Value.int (iI z) :: [.int (iI x)]) (congrFun (fq7.2 46 rfl) (f1.toNat))) ?_
                        refine m_iadd C dX12_readWord_191 ?_
                        refine m_istore (lv2 := [(5, .int (iI (x + (a 46 f1.toNat)))), (3, .int (iI (1 - pt))), (4, .int (iI g2)), (7, .int (iI (a 44 f1.toNat))), (6, .int (iI f1)), (0, .ref h0), (1, .int (iI q)), (2, .int (iI u))]) C dX12_readWord_192 (by decide) rfl ?_
                        refine m_goto (tgt := 8) C dX12_readWord_194 (by decide) ?_
                        refine m_lv (lv2 := [(5, .int (iI (x + (a 46 f1.toNat)))), (4, .int (iI g2)), (3, .int (iI (1 - pt))), (0, .ref h0), (1, .int (iI q)), (2, .int (iI u))]) [0, 2, 1, 5, 6, 7] rfl ?_
                        exact ih1  (1 - pt) g2 (x + (a 46 f1.toNat)) _ _ (by omega) bn5 fq7 (by omega) (by omega) (by omega) (h71.turn (by omega) tx5 (by omega) (by omega) hp rfl (by omega))
                      · clear gf7
                        refine m_bipush (z := 6) C dX12_readWord_179 (by decide) ?_
                        exact m_iret C dX12_readWord_181 rfl (Nat.le_of_ble_eq_true rfl) (Nat.le_of_ble_eq_true rfl) ⟨6, rfl, fq7, bn5, ⟨(by omega), h71.tov (by omega) tx5 (by omega)⟩⟩
                refine m_icmp_ne (tgt := 137) C ⟨by omega, by omega⟩ ⟨by decide, by decide⟩ dX12_readWord_130 (by decide) (fun c18 => ?_) (fun c18 => ?_)
                · refine m_iconst C dX12_readWord_137 ?_
                  refine m_lv (lv2 := [(7, .int (iI (a 44 f1.toNat))), (6, .int (iI f1)), (5, .int (iI x)), (4, .int (iI g)), (3, .int (iI pt)), (0, .ref h0), (1, .int (iI q)), (2, .int (iI u))]) [0, 1, 2, 3, 4, 5, 6, 7] rfl ?_
                  exact J4  0 _ _  bxb5 fpb5 (by omega) (by omega) h7
                · refine m_iconst C dX12_readWord_133 ?_
                  refine m_goto (tgt := 138) C dX12_readWord_134 (by decide) ?_
                  refine m_lv (lv2 := [(7, .int (iI (a 44 f1.toNat))), (6, .int (iI f1)), (5, .int (iI x)), (4, .int (iI g)), (3, .int (iI pt)), (0, .ref h0), (1, .int (iI q)), (2, .int (iI u))]) [0, 1, 2, 3, 4, 5, 6, 7] rfl ?_
                  exact J4  1 _ _  bxb5 fpb5 (by omega) (by omega) h7
              refine m_iload (j := 0) C dX12_readWord_61 rfl ?_
              refine m_if_lt (tgt := 127) C ⟨by omega, by omega⟩ dX12_readWord_63 (by decide) (fun c19 => ?_) (fun c19 => ?_)
              · refine m_lv (lv2 := [(7, .int (iI (a 44 f1.toNat))), (6, .int (iI f1)), (5, .int (iI x)), (4, .int (iI g)), (3, .int (iI pt)), (0, .ref h0), (1, .int (iI q)), (2, .int (iI u))]) [0, 1, 2, 3, 4, 5, 6, 7] rfl ?_
                exact J3   _ _  bq2 fq2 (hB9.neg (by omega))
              · refine m_iconst C dX12_readWord_66 ?_
                refine m_istore (lv2 := [(8, .int (iI 0)), (7, .int (iI (a 44 f1.toNat))), (6, .int (iI f1)), (5, .int (iI x)), (4, .int (iI g)), (3, .int (iI pt)), (0, .ref h0), (1, .int (iI q)), (2, .int (iI u))]) C dX12_readWord_67 (by decide) rfl ?_
                have Lp3 : ∀ (nn : Nat) (k : Int) (vb7 : Nat → Int) (ab7 : Nat → Nat → Int), 9 - k < (nn : Int) → BX vb7 ab7 → fr [52, 53] [51] v a vb7 ab7 → (0 ≤ k ∧ k ≤ 8 ∧ k ≤ a 12 (a 44 f1.toNat).toNat) → (RW6 v a vb7 ab7 q u pt g x f1 k) → mw p l e (rmq 3 0 0) s m args below meth c G A 9 (MQ below (Qm G A (fun rq Lq Eq => ∃ (vq : Nat → Int) (aq : Nat → Nat → Int), mI G h0 ad ln vq aq Lq Eq ∧ (fun r v2 a2 => ∃ f : Int, r = some (.int (iI f)) ∧ fr [52, 53] [51] v a v2 a2 ∧ BX v2 a2 ∧ ((f = 0 ∨ f = 6 ∨ f = 9) ∧ RWX v a v2 a2 q u f)) rq vq aq)) args s 0 0 A) h0 ad ln vb7 ab7 0 0 69 [(8, .int (iI k)), (7, .int (iI (a 44 f1.toNat))), (6, .int (iI f1)), (5, .int (iI x)), (4, .int (iI g)), (3, .int (iI pt)), (0, .ref h0), (1, .int (iI q)), (2, .int (iI u))] [] := by
                  intro nn
                  induction nn with
                  | zero =>
                    intro k vb7 ab7 hm bxb7 fpb7 hk hJ
                    exact absurd hm (by omega)
                  | succ nn ih3 =>
                    intro k vb7 ab7 hm bxb7 fpb7 hk hJ
                    refine m_iload (j := 0) C dX12_readWord_69 rfl ?_
                    refine m_aload_n (j := 6) C dX12_readWord_71 rfl ?_
                    refine m_geta (k := 12) C dX12_readWord_72 w6_71 (by decide) rfl ?_
                    refine m_iload (j := 1) C dX12_readWord_75 rfl ?_
                    refine m_ald (k := 12) C dX12_readWord_77 rfl rfl (by decide) (by omega) (by show _ < ((_ : Nat) : Int); simp only [mlen]; omega) (by decide) ?_
                    refine hv2 (show 0 ≤ ab7 12 (a 44 f1.toNat).toNat ∧ ab7 12 (a 44 f1.toNat).toNat ≤ 8 from bxb7.2 12 ((a 44 f1.toNat).toNat)) (show ab7 12 ((a 44 f1.toNat).toNat) = a 12 ((a 44 f1.toNat).toNat) from congrFun (fpb7.2 12 rfl) ((a 44 f1.toNat).toNat)) (fun ra11 ae15 => ?_)
                    refine m_st (st2 := [.int (iI (a 12 (a 44 f1.toNat).toNat)), .int (iI k)]) (congrArg (fun z => Value.int (iI z) :: [.int (iI k)]) (congrFun (fpb7.2 12 rfl) ((a 44 f1.toNat).toNat))) ?_
                    refine m_icmp_ge (tgt := 127) C (r32_c (lo := 0) (hi := 8) hk.1 hk.2.1 (by decide) (by decide)) ⟨by omega, by omega⟩ dX12_readWord_78 (by decide) (fun c20 => ?_) (fun c20 => ?_)
                    · refine m_lv (lv2 := [(7, .int (iI (a 44 f1.toNat))), (6, .int (iI f1)), (5, .int (iI x)), (4, .int (iI g)), (3, .int (iI pt)), (0, .ref h0), (1, .int (iI q)), (2, .int (iI u))]) [1, 2, 3, 4, 5, 6, 7, 8] rfl ?_
                      exact J3   _ _  bxb7 fpb7 (hJ.fin (by omega))
                    · refine m_aload_n (j := 6) C dX12_readWord_81 rfl ?_
                      refine m_aload_n (j := 6) C dX12_readWord_82 rfl ?_
                      refine m_geta (k := 14) C dX12_readWord_83 w6_73 (by decide) rfl ?_
                      refine m_bipush (z := 8) C dX12_readWord_86 (by decide) ?_
                      refine m_iload (j := 1) C dX12_readWord_88 rfl ?_
                      refine m_imul C dX12_readWord_90 ?_
                      refine m_iload (j := 0) C dX12_readWord_91 rfl ?_
                      refine m_iadd C dX12_readWord_93 ?_
                      refine m_ald (k := 14) C dX12_readWord_94 rfl rfl (by decide) (by omega) (by show _ < ((_ : Nat) : Int); simp only [mlen]; omega) (by decide) ?_
                      refine hv2 (show 0 ≤ ab7 14 ((8 * (a 44 f1.toNat)) + k).toNat ∧ ab7 14 ((8 * (a 44 f1.toNat)) + k).toNat ≤ 125 from bxb7.2 14 (((8 * (a 44 f1.toNat)) + k).toNat)) (show ab7 14 (((8 * (a 44 f1.toNat)) + k).toNat) = a 14 (((8 * (a 44 f1.toNat)) + k).toNat) from congrFun (fpb7.2 14 rfl) (((8 * (a 44 f1.toNat)) + k).toNat)) (fun ra12 ae16 => ?_)
                      refine m_st (st2 := [.int (iI (a 14 ((8 * (a 44 f1.toNat)) + k).toNat)), .ref h0]) (congrArg (fun z => Value.int (iI z) :: [.ref h0]) (congrFun (fpb7.2 14 rfl) (((8 * (a 44 f1.toNat)) + k).toNat))) ?_
                      refine m_iload (j := 4) C dX12_readWord_95 rfl ?_
                      refine m_if_eq (tgt := 110) C ⟨by omega, by omega⟩ dX12_readWord_97 (by decide) (fun z => absurd z (by omega)) (fun _ => ?_)
                      refine m_iload (j := 0) C dX12_readWord_100 rfl ?_
                      refine m_if_ne (tgt := 110) C (r32_c (lo := 0) (hi := 8) hk.1 hk.2.1 (by decide) (by decide)) dX12_readWord_102 (by decide) (fun c21 => ?_) (fun c21 => ?_)
                      · refine m_iconst C dX12_readWord_110 ?_
                        refine m_isub C dX12_readWord_111 ?_
                        refine m_call (mc2 := 0) (ms2 := 0) (As := [.int (iI ((a 14 ((8 * (a 44 f1.toNat)) + k).toNat) - 0))]) (rest := []) C (E_tell (x := (a 14 ((8 * (a 44 f1.toNat)) + k).toNat) - 0) bxb7 (by omega)) dX12_readWord_112 kV_X12_336 rfl ck_13 rfl (Nat.le_of_ble_eq_true rfl) ⟨Nat.le_of_ble_eq_true rfl, Nat.le_of_ble_eq_true rfl⟩ ⟨Nat.le_of_ble_eq_true rfl, Nat.le_of_ble_eq_true rfl⟩ (fun rh9 vh9 ah9 h9 => ?_)
                        obtain ⟨f8, rfl, fn8, bn6, ex6, tx6⟩ := h9
                        refine hv2 (fpb7.call fn8 rfl rfl) (show f8 = 0 ∨ f8 = 1 from ex6) (fun fq8 gf8 => ?_)
                        refine m_st (st2 := [.int (iI f8)]) rfl ?_
                        refine m_if_ne (tgt := 121) C (r32_01 gf8) dX12_readWord_115 (by decide) (fun c22 => ?_) (fun c22 => ?_)
                        · replace gf8 := (gf8.resolve_left c22)
                          refine m_iinc (z := k) (j := 0) (lv2 := [(8, .int (iI (k + 1))), (7, .int (iI (a 44 f1.toNat))), (6, .int (iI f1)), (5, .int (iI x)), (4, .int (iI g)), (3, .int (iI pt)), (0, .ref h0), (1, .int (iI q)), (2, .int (iI u))]) C dX12_readWord_121 rfl (by decide) rfl ?_
                          refine m_goto (tgt := 69) C dX12_readWord_124 (by decide) ?_
                          refine m_lv (lv2 := [(8, .int (iI (k + 1))), (7, .int (iI (a 44 f1.toNat))), (6, .int (iI f1)), (5, .int (iI x)), (4, .int (iI g)), (3, .int (iI pt)), (0, .ref h0), (1, .int (iI q)), (2, .int (iI u))]) [0, 1, 2, 3, 4, 5, 6, 7, 8] rfl ?_
                          exact ih3  (k + 1) _ _ (by omega) bn6 fq8 (by have q : 0 ≤ a 12 (a 44 f1.toNat).toNat ∧ a 12 (a 44 f1.toNat).toNat ≤ 8 := hB.2 12 _; omega) (hJ.step (by omega) tx6 (by omega) (by split <;> omega))
                        · clear gf8
                          refine m_bipush (z := 6) C dX12_readWord_118 (by decide) ?_
                          exact m_iret C dX12_readWord_120 rfl (Nat.le_of_ble_eq_true rfl) (Nat.le_of_ble_eq_true rfl) ⟨6, rfl, fq8, bn6, ⟨(by omega), hJ.ov ⟨by omega, by omega⟩ tx6 (by omega)⟩⟩
                      · refine m_bipush (z := 32) C dX12_readWord_105 (by decide) ?_
                        refine m_goto (tgt := 111) C dX12_readWord_107 (by decide) ?_
                        refine m_isub C dX12_readWord_111 ?_
                        refine m_call (mc2 := 0) (ms2 := 0) (As := [.int (iI ((a 14 ((8 * (a 44 f1.toNat)) + k).toNat) - 32))]) (rest := []) C (E_tell (x := (a 14 ((8 * (a 44 f1.toNat)) + k).toNat) - 32) bxb7 (by omega)) dX12_readWord_112 kV_X12_336 rfl ck_13 rfl (Nat.le_of_ble_eq_true rfl) ⟨Nat.le_of_ble_eq_true rfl, Nat.le_of_ble_eq_true rfl⟩ ⟨Nat.le_of_ble_eq_true rfl, Nat.le_of_ble_eq_true rfl⟩ (fun rh10 vh10 ah10 h10 => ?_)
                        obtain ⟨f9, rfl, fn9, bn7, ex7, tx7⟩ := h10
                        refine hv2 (fpb7.call fn9 rfl rfl) (show f9 = 0 ∨ f9 = 1 from ex7) (fun fq9 gf9 => ?_)
                        refine m_st (st2 := [.int (iI f9)]) rfl ?_
                        refine m_if_ne (tgt := 121) C (r32_01 gf9) dX12_readWord_115 (by decide) (fun c23 => ?_) (fun c23 => ?_)
                        · replace gf9 := (gf9.resolve_left c23)
                          refine m_iinc (z := k) (j := 0) (lv2 := [(8, .int (iI (k + 1))), (7, .int (iI (a 44 f1.toNat))), (6, .int (iI f1)), (5, .int (iI x)), (4, .int (iI g)), (3, .int (iI pt)), (0, .ref h0), (1, .int (iI q)), (2, .int (iI u))]) C dX12_readWord_121 rfl (by decide) rfl ?_
                          refine m_goto (tgt := 69) C dX12_readWord_124 (by decide) ?_
                          refine m_lv (lv2 := [(8, .int (iI (k + 1))), (7, .int (iI (a 44 f1.toNat))), (6, .int (iI f1)), (5, .int (iI x)), (4, .int (iI g)), (3, .int (iI pt)), (0, .ref h0), (1, .int (iI q)), (2, .int (iI u))]) [0, 1, 2, 3, 4, 5, 6, 7, 8] rfl ?_
                          exact ih3  (k + 1) _ _ (by omega) bn7 fq9 (by have q : 0 ≤ a 12 (a 44 f1.toNat).toNat ∧ a 12 (a 44 f1.toNat).toNat ≤ 8 := hB.2 12 _; omega) (hJ.step (by omega) tx7 (by omega) (by split <;> omega))
                        · clear gf9
                          refine m_bipush (z := 6) C dX12_readWord_118 (by decide) ?_
                          exact m_iret C dX12_readWord_120 rfl (Nat.le_of_ble_eq_true rfl) (Nat.le_of_ble_eq_true rfl) ⟨6, rfl, fq9, bn7, ⟨(by omega), hJ.ov ⟨by omega, by omega⟩ tx7 (by omega)⟩⟩
                refine m_lv (lv2 := [(8, .int (iI 0)), (7, .int (iI (a 44 f1.toNat))), (6, .int (iI f1)), (5, .int (iI x)), (4, .int (iI g)), (3, .int (iI pt)), (0, .ref h0), (1, .int (iI q)), (2, .int (iI u))]) [0, 1, 2, 3, 4, 5, 6, 7, 8] rfl ?_
                exact Lp3 10 0 _ _ (by omega) bq2 fq2 (by have q : 0 ≤ a 12 (a 44 f1.toNat).toNat ∧ a 12 (a 44 f1.toNat).toNat ≤ 8 := hB.2 12 _; omega) (hB9.let0 (by omega))
            · clear gf5
              refine m_bipush (z := 9) C dX12_readWord_49 (by decide) ?_
              exact m_iret C dX12_readWord_51 rfl (Nat.le_of_ble_eq_true rfl) (Nat.le_of_ble_eq_true rfl) ⟨9, rfl, fq2, bq2, ⟨(by omega), hI.w2 hp lh1 (by omega) (by omega) (fun q => absurd (sn1.mpr q) (by omega)) ⟨by omega, by omega⟩⟩⟩
  refine m_lv (lv2 := [(5, .int (iI q)), (4, .int (iI 0)), (3, .int (iI 0)), (0, .ref h0), (1, .int (iI q)), (2, .int (iI u))]) [0, 1, 2, 3, 4, 5] rfl ?_
  exact Lp1 40202 0 0 q _ _ (by omega) hB fp0 (by omega) (by omega) (by omega) RW8.init
def RAC (v : Nat → Int) (a : Nat → Nat → Int) (l0 l1 : List Int) (R : Nat → Int) : Prop := (HLD a a 0 l0 ∧ HLD a a 1 l1) ∧ (NZL a l0 ∧ NZL a l1) ∧ ((∀ (j : Nat) (d : Int), l0[j]? = some d → rol d ≠ 3) ∧ ∀ (j : Nat) (d : Int), l1[j]? = some d → rol d ≠ 2) ∧ ∀ j : Nat, (((j : Nat) : Int) < v 50 → R j = a 48 j) ∧ (v 50 ≤ ((j : Nat) : Int) → R j = 0)
def RAI (v : Nat → Int) (a : Nat → Nat → Int) (v1 : Nat → Int) (a1 : Nat → Nat → Int) (x g : Int) : Prop := ∀ l0 l1 R, RAC v a l0 l1 R → ∃ bs, MRC a l0 l1 R (x, 0, 0, g, 0) bs ∧ OUTL v1 a1 bs
def RAW (v : Nat → Int) (a : Nat → Nat → Int) (v1 : Nat → Int) (a1 : Nat → Nat → Int) (x : Int) : Prop := ∀ l0 l1 R, RAC v a l0 l1 R → ∃ bs, MRC a l0 l1 R (x, 0, 0, 1, 1) bs ∧ OUTL v1 a1 bs
def RAX (v : Nat → Int) (a : Nat → Nat → Int) (v2 : Nat → Int) (a2 : Nat → Nat → Int) (f : Int) : Prop := ∀ l0 l1 R, RAC v a l0 l1 R → (f = 0 ∧ ∃ bs, RFN a l0 l1 R bs ∧ OUTL v2 a2 bs) ∨ (f ≠ 0 ∧ (RWG a l0 l1 R ∨ ROV a l0 l1 R 4000))
section RRD4
variable {v v1 v2 v3 : Nat → Int} {a a1 a2 a3 : Nat → Nat → Int} {l0 l1 : List Int} {R : Nat → Int} {x y g f w f1 : Int}
theorem RAI.init (h : v1 52 = 0) : RAI v a v1 a1 0 0 := fun l0 l1 R _ => ⟨[], MRC.zero, h, fun j x e => by simp at e⟩
theorem RAI.blank (h : RAI v a v1 a1 x g) (hx : 0 ≤ x ∧ x < v 50) (h0 : a 48 x.toNat = 0) : RAI v a v1 a1 (x + 1) g := fun l0 l1 R hc => by
  obtain ⟨bs, g1, g2⟩ := h l0 l1 R hc
  have e := (hc.2.2.2 x.toNat).1 (by omega)
  exact ⟨bs, g1.blank (by rw [e]; exact h0), g2⟩
theorem RAI.word0 (h : RAI v a v1 a1 x g) (hx : 0 ≤ x ∧ x < v 50) (h0 : a 48 x.toNat ≠ 0) (hg : g = 0) : RAW v a v1 a1 x := fun l0 l1 R hc => by
  obtain ⟨bs, g1, g2⟩ := h l0 l1 R hc
  have e := (hc.2.2.2 x.toNat).1 (by omega)
  refine ⟨bs, g1.word (by rw [e]; exact h0) ?_, g2⟩
  rw [if_neg (by omega), List.append_nil]
theorem RAI.word1 (h : RAI v a v1 a1 x g) (hx : 0 ≤ x ∧ x < v 50) (h0 : a 48 x.toNat ≠ 0) (hg : g = 1) (ht : TLX v1 a1 v2 a2 32 f) (hf : f = 1) : RAW v a v2 a2 x := fun l0 l1 R hc => by
  obtain ⟨bs, g1, g2⟩ := h l0 l1 R hc
  have e := (hc.2.2.2 x.toNat).1 (by omega)
  rcases ht _ g2 with ⟨_, w⟩ | ⟨w, _⟩
  · refine ⟨_, g1.word (o2 := bs ++ [32]) (by rw [e]; exact h0) ?_, w⟩
    rw [if_pos hg]
  · omega
theorem RAI.wov (h : RAI v a v1 a1 x g) (hx : 0 ≤ x ∧ x < v 50) (h0 : a 48 x.toNat ≠ 0) (hg : g = 1) (ht : TLX v1 a1 v2 a2 32 f) (hf : f = 0) : RAX v a v3 a3 6 := fun l0 l1 R hc => by
  obtain ⟨bs, g1, g2⟩ := h l0 l1 R hc
  have e := (hc.2.2.2 x.toNat).1 (by omega)
  rcases ht _ g2 with ⟨w, _⟩ | ⟨_, w⟩
  · omega
  · refine Or.inr ⟨by decide, Or.inr ((g1.word (o2 := bs ++ [32]) (by rw [e]; exact h0) (by rw [if_pos hg])).ov ?_)⟩
    rw [len1]
    omega
theorem RAW.rwc (h : RAW v a v1 a1 x) (h48 : a1 48 = a 48) (hA : a1 13 = a 13 ∧ a1 15 = a 15 ∧ a1 16 = a 16 ∧ a1 17 = a 17 ∧ a1 44 = a 44 ∧ a1 45 = a 45 ∧ a1 46 = a 46 ∧ a1 47 = a 47) (hm : ∀ l0 l1 R s bs, MRC a l0 l1 R s bs → MRC a1 l0 l1 R s bs) (hx : 0 ≤ x ∧ x ≤ y ∧ y ≤ v 50) (hn : ∀ j : Int, x ≤ j → j < y → a 48 j.toNat ≠ 0) (he : y = v 50 ∨ a 48 y.toNat = 0) (hc : RAC v a l0 l1 R) : ∃ bs, RWC v1 a1 x y l0 l1 R bs := by
  obtain ⟨bs, g1, g2⟩ := h l0 l1 R hc
  obtain ⟨⟨c1, c2⟩, ⟨c3, c4⟩, c5, c6⟩ := hc
  obtain ⟨e13, e15, e16, e17, e44, e45, e46, e47⟩ := hA
  have nz : ∀ l, NZL a l → NZL a1 l := fun l hl j d hd => by
    rw [rlen_cg e13 e16]
    exact ⟨(hl j d hd).1, fun k k1 k2 => by rw [dcl_cg e15 e17]; exact (hl j d hd).2 k k1 k2⟩
  refine ⟨bs, ⟨⟨(c1.fr e44 e45 e46 (by rw [e47])).cg e13 e16, (c2.fr e44 e45 e46 (by rw [e47])).cg e13 e16⟩, ⟨nz _ c3, nz _ c4⟩, c5, fun j j1 j2 => ?_, ?_⟩, g2, hm _ _ _ _ _ g1⟩
  · have e := (c6 j.toNat).1 (by omega)
    rw [h48, e]
    exact ⟨rfl, hn j j1 j2⟩
  · by_cases q : y = v 50
    · exact (c6 y.toNat).2 (by omega)
    · rw [(c6 y.toNat).1 (by omega)]
      rcases he with he | he
      · exact absurd he q
      · exact he
theorem rout_cg {d h : Int} (h12 : a1 12 = a 12) (h14 : a1 14 = a 14) : rout a1 d h = rout a d h := by
  have e : ∀ n : Nat, rlt a1 d h n = rlt a d h n := by
    intro n
    induction n with
    | zero => rfl
    | succ n ih =>
      show rlt a1 d h n ++ [_] = rlt a d h n ++ [_]
      rw [ih, h14]
  unfold rout
  rw [e, h12]
theorem SMR_cg {d : Int} (h14 : a1 14 = a 14) : SMR a1 d ↔ SMR a d := by
  unfold SMR
  rw [h14]
theorem mst_cg {s s2 : Int × Int × Int × Int × Int} {o : List Int} (h12 : a1 12 = a 12) (h13 : a1 13 = a 13) (h14 : a1 14 = a 14) (h15 : a1 15 = a 15) (h16 : a1 16 = a 16) (h17 : a1 17 = a 17) (h : mst a1 l0 l1 R s s2 o) : mst a l0 l1 R s s2 o := by
  rcases h with h | h | ⟨p1, p2, d, p3, p4, p5, p6⟩ | h
  · exact Or.inl h
  · exact Or.inr (Or.inl h)
  · rw [rlen_cg h13 h16] at p5
    rw [rout_cg h12 h14] at p6
    exact Or.inr (Or.inr (Or.inl ⟨p1, p2, d, BSQ_cg h13 h16 h15 h17 p3, fun e => (SMR_cg h14).mp (p4 e), p5, p6⟩))
  · exact Or.inr (Or.inr (Or.inr h))
theorem mrn_cg (h12 : a1 12 = a 12) (h13 : a1 13 = a 13) (h14 : a1 14 = a 14) (h15 : a1 15 = a 15) (h16 : a1 16 = a 16) (h17 : a1 17 = a 17) : ∀ (k : Nat) (s s2 : Int × Int × Int × Int × Int) (o : List Int), mrn a1 l0 l1 R k s s2 o → mrn a l0 l1 R k s s2 o := by
  intro k
  induction k with
  | zero => intro s s2 o h; exact h
  | succ k ih =>
    intro s s2 o h
    obtain ⟨t, o1, o2, g1, g2, g3⟩ := h
    exact ⟨t, o1, o2, mst_cg h12 h13 h14 h15 h16 h17 g1, ih _ _ _ g2, g3⟩
theorem MRC_cg {s : Int × Int × Int × Int × Int} {bs : List Int} (h12 : a1 12 = a 12) (h13 : a1 13 = a 13) (h14 : a1 14 = a 14) (h15 : a1 15 = a 15) (h16 : a1 16 = a 16) (h17 : a1 17 = a 17) (h : MRC a1 l0 l1 R s bs) : MRC a l0 l1 R s bs := by
  obtain ⟨k, g⟩ := h
  exact ⟨k, mrn_cg h12 h13 h14 h15 h16 h17 _ _ _ _ g⟩
theorem MSB_cg {s : Int × Int × Int × Int × Int} (h13 : a1 13 = a 13) (h14 : a1 14 = a 14) (h15 : a1 15 = a 15) (h16 : a1 16 = a 16) (h17 : a1 17 = a 17) (h : MSB a1 l0 l1 R s) : MSB a l0 l1 R s := by
  obtain ⟨w, h⟩ := h
  refine ⟨w, ?_⟩
  rcases h with ⟨h1, h2 | ⟨h2, d, h3, h4⟩⟩ | h
  · exact Or.inl ⟨h1, Or.inl (BSQ_cg h13 h16 h15 h17 h2)⟩
  · exact Or.inl ⟨h1, Or.inr ⟨h2, d, BSQ_cg h13 h16 h15 h17 h3, fun q => h4 ((SMR_cg h14).mpr q)⟩⟩
  · exact Or.inr h
theorem RWG_cg (h12 : a1 12 = a 12) (h13 : a1 13 = a 13) (h14 : a1 14 = a 14) (h15 : a1 15 = a 15) (h16 : a1 16 = a 16) (h17 : a1 17 = a 17) (h : RWG a1 l0 l1 R) : RWG a l0 l1 R := by
  obtain ⟨s, bs, g1, g2⟩ := h
  exact ⟨s, bs, MRC_cg h12 h13 h14 h15 h16 h17 g1, MSB_cg h13 h14 h15 h16 h17 g2⟩
theorem ROV_cg {n : Nat} (h12 : a1 12 = a 12) (h13 : a1 13 = a 13) (h14 : a1 14 = a 14) (h15 : a1 15 = a 15) (h16 : a1 16 = a 16) (h17 : a1 17 = a 17) (h : ROV a1 l0 l1 R n) : ROV a l0 l1 R n := by
  obtain ⟨s, bs, g1, g2⟩ := h
  exact ⟨s, bs, MRC_cg h12 h13 h14 h15 h16 h17 g1, g2⟩
theorem RFN_cg {bs : List Int} (h12 : a1 12 = a 12) (h13 : a1 13 = a 13) (h14 : a1 14 = a 14) (h15 : a1 15 = a 15) (h16 : a1 16 = a 16) (h17 : a1 17 = a 17) (h : RFN a1 l0 l1 R bs) : RFN a l0 l1 R bs := by
  obtain ⟨s, g1, g2⟩ := h
  exact ⟨s, MRC_cg h12 h13 h14 h15 h16 h17 g1, g2⟩
def KTA (a a1 : Nat → Nat → Int) : Prop := (a1 12 = a 12 ∧ a1 13 = a 13 ∧ a1 14 = a 14 ∧ a1 15 = a 15 ∧ a1 16 = a 16 ∧ a1 17 = a 17) ∧ (a1 44 = a 44 ∧ a1 45 = a 45 ∧ a1 46 = a 46 ∧ a1 47 = a 47) ∧ a1 48 = a 48
theorem KTA.fr {V A : List Nat} (hf : fr V A v a v1 a1) (hc : ([12, 13, 14, 15, 16, 17, 44, 45, 46, 47, 48] : List Nat).all (fun k => !A.contains k) = true) : KTA a a1 := by
  have k : ∀ j, ([12, 13, 14, 15, 16, 17, 44, 45, 46, 47, 48] : List Nat).contains j = true → a1 j = a j := fun j hj => hf.2 j (by
    have w := List.all_eq_true.mp hc j (List.contains_iff_mem.mp hj)
    simpa using w)
  exact ⟨⟨k 12 rfl, k 13 rfl, k 14 rfl, k 15 rfl, k 16 rfl, k 17 rfl⟩, ⟨k 44 rfl, k 45 rfl, k 46 rfl, k 47 rfl⟩, k 48 rfl⟩
theorem RAW.run (h : RAW v a v1 a1 x) (hk : KTA a a1) (hx : 0 ≤ x ∧ x ≤ y ∧ y ≤ v 50) (hn : ∀ j : Int, x ≤ j → j < y → a 48 j.toNat ≠ 0) (he : y = v 50 ∨ a 48 y.toNat = 0) (hw : RWX v1 a1 v2 a2 x y f) : (f = 0 → RAI v a v2 a2 y 1) ∧ (f ≠ 0 → RAX v a v3 a3 f) := by
  obtain ⟨⟨k12, k13, k14, k15, k16, k17⟩, ⟨k44, k45, k46, k47⟩, k48⟩ := hk
  have go : ∀ l0 l1 R, RAC v a l0 l1 R → (f = 0 ∧ ∃ g b2, MRC a1 l0 l1 R (y, g, 0, 1, 1) b2 ∧ OUTL v2 a2 b2) ∨ (f = 9 ∧ RWG a1 l0 l1 R) ∨ (f = 6 ∧ ROV a1 l0 l1 R 4000) := fun l0 l1 R hc => by
    obtain ⟨bs, g⟩ := h.rwc (y := y) k48 ⟨k13, k15, k16, k17, k44, k45, k46, k47⟩ (fun _ _ _ _ _ q => MRC_cg k12.symm k13.symm k14.symm k15.symm k16.symm k17.symm q) hx hn he hc
    exact hw l0 l1 R bs g
  refine ⟨fun e l0 l1 R hc => ?_, fun e l0 l1 R hc => ?_⟩
  · rcases go l0 l1 R hc with ⟨_, g, b2, w1, w2⟩ | ⟨w, _⟩ | ⟨w, _⟩
    · have z : R y.toNat = 0 := by
        by_cases q : y = v 50
        · exact (hc.2.2.2 y.toNat).2 (by omega)
        · rw [(hc.2.2.2 y.toNat).1 (by omega)]
          rcases he with he | he
          · exact absurd he q
          · exact he
      exact ⟨b2, (MRC_cg k12 k13 k14 k15 k16 k17 w1).wend z (by decide), w2⟩
    · omega
    · omega
  · rcases go l0 l1 R hc with ⟨w, _⟩ | ⟨_, w⟩ | ⟨_, w⟩
    · exact absurd w e
    · exact Or.inr ⟨e, Or.inl (RWG_cg k12 k13 k14 k15 k16 k17 w)⟩
    · exact Or.inr ⟨e, Or.inr (ROV_cg k12 k13 k14 k15 k16 k17 w)⟩
theorem RAI.fin (h : RAI v a v1 a1 x g) (hx : v 50 ≤ x) (h0 : 0 ≤ x) : RAX v a v1 a1 0 := fun l0 l1 R hc => by
  obtain ⟨bs, g1, g2⟩ := h l0 l1 R hc
  exact Or.inl ⟨rfl, bs, g1.fin (fun j hj => (hc.2.2.2 j).2 (by omega)), g2⟩
end RRD4
set_option maxHeartbeats 4000000 in
set_option maxRecDepth 100000 in
theorem E_readAll {l : Launch} {G : GT} {h0 : Nat} {ad ln : Nat → Nat} {v : Nat → Int} {a : Nat → Nat → Int}  (hB : BX v a) (hW : RWS a) : Mm l G yX12_readAll cX12_readAll 5 (some .int) 4 [] h0 ad ln v a 0 0 (fun r v2 a2 => ∃ f : Int, r = some (.int (iI f)) ∧ fr [52, 53] [51] v a v2 a2 ∧ BX v2 a2 ∧ ((f = 0 ∨ f = 6 ∨ f = 9) ∧ RAX v a v2 a2 f)) := by
  refine Mm.mk (by decide) (Nat.le_of_ble_eq_true rfl) ?_
  intro p e s m args below meth c A C
  refine hv2 (show 0 ≤ v 50 ∧ v 50 ≤ 40200 from hB.1 50) (show fr [52, 53] [51] v a v a from fr.refl) (fun r50 fp0 => ?_)
  refine m_aload_n (j := 0) C dX12_readAll_0 rfl ?_
  refine m_iconst C dX12_readAll_1 ?_
  refine m_put (k := 52) (z := 0) C dX12_readAll_2 w6_111 (by decide) rfl rfl rfl ?_
  refine hv2 (show BX (va_up v 52 0) a from hB.put (k := 52) (z := 0) ⟨by decide, by decide⟩) (fp0.put (k := 52) (z := 0) rfl) (fun bq1 fq1 => ?_)
  refine m_iconst C dX12_readAll_5 ?_
  refine m_istore_n (lv2 := [(1, .int (iI 0)), (0, .ref h0)]) C dX12_readAll_6 (by decide) rfl ?_
  refine m_iconst C dX12_readAll_7 ?_
  refine m_istore_n (lv2 := [(2, .int (iI 0)), (1, .int (iI 0)), (0, .ref h0)]) C dX12_readAll_8 (by decide) rfl ?_
  have Lp1 : ∀ (nn : Nat) (g x : Int) (vb1 : Nat → Int) (ab1 : Nat → Nat → Int), 40201 - x < (nn : Int) → BX vb1 ab1 → fr [52, 53] [51] v a vb1 ab1 → (g = 0 ∨ g = 1) → (0 ≤ x ∧ x ≤ v 50) → (RAI v a vb1 ab1 x g) → mw p l e (rmq 4 0 0) s m args below meth c G A 5 (MQ below (Qm G A (fun rq Lq Eq => ∃ (vq : Nat → Int) (aq : Nat → Nat → Int), mI G h0 ad ln vq aq Lq Eq ∧ (fun r v2 a2 => ∃ f : Int, r = some (.int (iI f)) ∧ fr [52, 53] [51] v a v2 a2 ∧ BX v2 a2 ∧ ((f = 0 ∨ f = 6 ∨ f = 9) ∧ RAX v a v2 a2 f)) rq vq aq)) args s 0 0 A) h0 ad ln vb1 ab1 0 0 9 [(2, .int (iI x)), (1, .int (iI g)), (0, .ref h0)] [] := by
    intro nn
    induction nn with
    | zero =>
      intro g x vb1 ab1 hm bxb1 fpb1 hg hx hI
      exact absurd hm (by omega)
    | succ nn ih1 =>
      intro g x vb1 ab1 hm bxb1 fpb1 hg hx hI
      refine m_iload_n (j := 0) C dX12_readAll_9 rfl ?_
      refine m_aload_n (j := 2) C dX12_readAll_10 rfl ?_
      refine hv2 (show 0 ≤ vb1 50 ∧ vb1 50 ≤ 40200 from bxb1.1 50) (show vb1 50 = v 50 from fpb1.1 50 rfl) (fun rv1 ve1 => ?_)
      refine m_get (k := 50) C dX12_readAll_11 w6_109 (by decide) rfl ?_
      refine m_st (st2 := [.int (iI (v 50)), .int (iI x)]) (congrArg (fun z => Value.int (iI z) :: [.int (iI x)]) (fpb1.1 50 rfl)) ?_
      refine m_icmp_ge (tgt := 96) C ⟨by omega, by omega⟩ (r32_c (lo := 0) (hi := 40200) (Int.le_trans rv1.1 (Int.le_of_eq ve1)) (Int.le_trans (Int.le_of_eq ve1.symm) rv1.2) (by decide) (by decide)) dX12_readAll_14 (by decide) (fun c1 => ?_) (fun c1 => ?_)
      · refine m_iconst C dX12_readAll_96 ?_
        exact m_iret C dX12_readAll_97 rfl (Nat.le_of_ble_eq_true rfl) (Nat.le_of_ble_eq_true rfl) ⟨0, rfl, fpb1, bxb1, ⟨(by omega), hI.fin (by omega) (by omega)⟩⟩
      · refine m_aload_n (j := 2) C dX12_readAll_17 rfl ?_
        refine m_geta (k := 48) C dX12_readAll_18 w6_107 (by decide) rfl ?_
        refine m_iload_n (j := 0) C dX12_readAll_21 rfl ?_
        refine m_ald (k := 48) C dX12_readAll_22 rfl rfl (by decide) (by omega) (by show _ < ((_ : Nat) : Int); simp only [mlen]; omega) (by decide) ?_
        refine hv2 (show (-2147483648) ≤ ab1 48 x.toNat ∧ ab1 48 x.toNat ≤ 2147483647 from bxb1.2 48 (x.toNat)) (show ab1 48 (x.toNat) = a 48 (x.toNat) from congrFun (fpb1.2 48 rfl) (x.toNat)) (fun ra1 ae1 => ?_)
        refine m_st (st2 := [.int (iI (a 48 x.toNat))]) (congrArg (fun z => Value.int (iI z) :: []) (congrFun (fpb1.2 48 rfl) (x.toNat))) ?_
        refine m_if_ne (tgt := 32) C ⟨by omega, by omega⟩ dX12_readAll_23 (by decide) (fun c2 => ?_) (fun c2 => ?_)
        · have hx0 : a 48 x.toNat ≠ 0 := by omega
          refine m_iload_n (j := 0) C dX12_readAll_32 rfl ?_
          refine m_istore_n (lv2 := [(3, .int (iI x)), (2, .int (iI x)), (1, .int (iI g)), (0, .ref h0)]) C dX12_readAll_33 (by decide) rfl ?_
          have Lp2 : ∀ (nn : Nat) (y : Int) (vb2 : Nat → Int) (ab2 : Nat → Nat → Int), 40201 - y < (nn : Int) → BX vb2 ab2 → fr [52, 53] [51] v a vb2 ab2 → (x ≤ y ∧ y ≤ v 50) → (x < y ∨ (y = x ∧ ¬ a 48 y.toNat = 0)) → (∀ j : Int, x ≤ j → j < y → a 48 j.toNat ≠ 0) → (RAI v a vb2 ab2 x g) → mw p l e (rmq 4 0 0) s m args below meth c G A 5 (MQ below (Qm G A (fun rq Lq Eq => ∃ (vq : Nat → Int) (aq : Nat → Nat → Int), mI G h0 ad ln vq aq Lq Eq ∧ (fun r v2 a2 => ∃ f : Int, r = some (.int (iI f)) ∧ fr [52, 53] [51] v a v2 a2 ∧ BX v2 a2 ∧ ((f = 0 ∨ f = 6 ∨ f = 9) ∧ RAX v a v2 a2 f)) rq vq aq)) args s 0 0 A) h0 ad ln vb2 ab2 0 0 34 [(3, .int (iI y)), (2, .int (iI x)), (1, .int (iI g)), (0, .ref h0)] [] := by
            intro nn
            induction nn with
            | zero =>
              intro y vb2 ab2 hm bxb2 fpb2 hy hy2 hy3 hI4
              exact absurd hm (by omega)
            | succ nn ih2 =>
              intro y vb2 ab2 hm bxb2 fpb2 hy hy2 hy3 hI4
              refine m_iload_n (j := 0) C dX12_readAll_34 rfl ?_
              refine m_aload_n (j := 3) C dX12_readAll_35 rfl ?_
              refine hv2 (show 0 ≤ vb2 50 ∧ vb2 50 ≤ 40200 from bxb2.1 50) (show vb2 50 = v 50 from fpb2.1 50 rfl) (fun rv2 ve2 => ?_)
              refine m_get (k := 50) C dX12_readAll_36 w6_109 (by decide) rfl ?_
              refine m_st (st2 := [.int (iI (v 50)), .int (iI y)]) (congrArg (fun z => Value.int (iI z) :: [.int (iI y)]) (fpb2.1 50 rfl)) ?_
              refine m_icmp_ge (tgt := 57) C ⟨by omega, by omega⟩ (r32_c (lo := 0) (hi := 40200) (Int.le_trans rv1.1 (Int.le_of_eq ve1)) (Int.le_trans (Int.le_of_eq ve1.symm) rv1.2) (by decide) (by decide)) dX12_readAll_39 (by decide) (fun c3 => ?_) (fun c3 => ?_)
              · have hye : y = v 50 ∨ a 48 y.toNat = 0 := by omega
                refine m_iload_n (j := 2) C dX12_readAll_57 rfl ?_
                refine m_if_eq (tgt := 73) C (r32_01 hg) dX12_readAll_58 (by decide) (fun c4 => ?_) (fun c4 => ?_)
                · clear hg
                  have hW9 : RAW v a vb2 ab2 x := hI4.word0 ⟨by omega, by omega⟩ hx0 (by omega)
                  refine m_iconst C dX12_readAll_73 ?_
                  refine m_istore_n (lv2 := [(1, .int (iI 1)), (3, .int (iI y)), (2, .int (iI x)), (0, .ref h0)]) C dX12_readAll_74 (by decide) rfl ?_
                  refine m_aload_n (j := 3) C dX12_readAll_75 rfl ?_
                  refine m_iload_n (j := 2) C dX12_readAll_76 rfl ?_
                  refine m_iload_n (j := 1) C dX12_readAll_77 rfl ?_
                  refine m_call (mc2 := 0) (ms2 := 0) (As := [.int (iI x), .int (iI y)]) (rest := []) C (E_readWord (q := x) (u := y) bxb2 (RWS.fr hW fpb2 rfl) (by omega)) dX12_readAll_78 kV_X12_339 rfl ck_13 rfl (Nat.le_of_ble_eq_true rfl) ⟨Nat.le_of_ble_eq_true rfl, Nat.le_of_ble_eq_true rfl⟩ ⟨Nat.le_of_ble_eq_true rfl, Nat.le_of_ble_eq_true rfl⟩ (fun rh1 vh1 ah1 h1 => ?_)
                  obtain ⟨f1, rfl, fn1, bn1, ex1, rx1⟩ := h1
                  refine hv2 (fpb2.call fn1 rfl rfl) (show f1 = 0 ∨ f1 = 6 ∨ f1 = 9 from ex1) (fun fq2 gf1 => ?_)
                  refine m_st (st2 := [.int (iI f1)]) rfl ?_
                  refine m_istore (lv2 := [(4, .int (iI f1)), (1, .int (iI 1)), (3, .int (iI y)), (2, .int (iI x)), (0, .ref h0)]) C dX12_readAll_81 (by decide) rfl ?_
                  refine m_iload (j := 0) C dX12_readAll_83 rfl ?_
                  refine m_if_le (tgt := 91) C ⟨by omega, by omega⟩ dX12_readAll_85 (by decide) (fun c5 => ?_) (fun c5 => ?_)
                  · refine m_iload_n (j := 2) C dX12_readAll_91 rfl ?_
                    refine m_istore_n (lv2 := [(2, .int (iI y)), (4, .int (iI f1)), (1, .int (iI 1)), (3, .int (iI y)), (0, .ref h0)]) C dX12_readAll_92 (by decide) rfl ?_
                    refine m_goto (tgt := 9) C dX12_readAll_93 (by decide) ?_
                    refine m_lv (lv2 := [(2, .int (iI y)), (1, .int (iI 1)), (0, .ref h0)]) [0, 2, 4] rfl ?_
                    exact ih1  1 y _ _ (by omega) bn1 fq2 (by omega) (by omega) ((hW9.run (v3 := v) (a3 := a) (KTA.fr fpb2 rfl) ⟨by omega, by omega, by omega⟩ hy3 hye rx1).1 (by omega))
                  · refine m_iload (j := 0) C dX12_readAll_88 rfl ?_
                    exact m_iret C dX12_readAll_90 rfl (Nat.le_of_ble_eq_true rfl) (Nat.le_of_ble_eq_true rfl) ⟨f1, rfl, fq2, bn1, ⟨(by omega), (hW9.run (KTA.fr fpb2 rfl) ⟨by omega, by omega, by omega⟩ hy3 hye rx1).2 (by omega)⟩⟩
                · replace hg := (hg.resolve_left c4)
                  refine m_aload_n (j := 3) C dX12_readAll_61 rfl ?_
                  refine m_bipush (z := 32) C dX12_readAll_62 (by decide) ?_
                  refine m_call (mc2 := 0) (ms2 := 0) (As := [.int (iI 32)]) (rest := []) C (E_tell (x := 32) bxb2 (by omega)) dX12_readAll_64 kV_X12_336 rfl ck_13 rfl (Nat.le_of_ble_eq_true rfl) ⟨Nat.le_of_ble_eq_true rfl, Nat.le_of_ble_eq_true rfl⟩ ⟨Nat.le_of_ble_eq_true rfl, Nat.le_of_ble_eq_true rfl⟩ (fun rh2 vh2 ah2 h2 => ?_)
                  obtain ⟨f2, rfl, fn2, bn2, ex2, tx1⟩ := h2
                  refine hv2 (fpb2.call fn2 rfl rfl) (show f2 = 0 ∨ f2 = 1 from ex2) (fun fq3 gf2 => ?_)
                  refine m_st (st2 := [.int (iI f2)]) rfl ?_
                  refine m_if_ne (tgt := 73) C (r32_01 gf2) dX12_readAll_67 (by decide) (fun c6 => ?_) (fun c6 => ?_)
                  · replace gf2 := (gf2.resolve_left c6)
                    have hW9 : RAW v a vh2 ah2 x := hI4.word1 ⟨by omega, by omega⟩ hx0 (by omega) tx1 (by omega)
                    refine m_iconst C dX12_readAll_73 ?_
                    refine m_istore_n (lv2 := [(1, .int (iI 1)), (3, .int (iI y)), (2, .int (iI x)), (0, .ref h0)]) C dX12_readAll_74 (by decide) rfl ?_
                    refine m_aload_n (j := 3) C dX12_readAll_75 rfl ?_
                    refine m_iload_n (j := 2) C dX12_readAll_76 rfl ?_
                    refine m_iload_n (j := 1) C dX12_readAll_77 rfl ?_
                    refine m_call (mc2 := 0) (ms2 := 0) (As := [.int (iI x), .int (iI y)]) (rest := []) C (E_readWord (q := x) (u := y) bn2 (RWS.fr hW fq3 rfl) (by omega)) dX12_readAll_78 kV_X12_339 rfl ck_13 rfl (Nat.le_of_ble_eq_true rfl) ⟨Nat.le_of_ble_eq_true rfl, Nat.le_of_ble_eq_true rfl⟩ ⟨Nat.le_of_ble_eq_true rfl, Nat.le_of_ble_eq_true rfl⟩ (fun rh3 vh3 ah3 h3 => ?_)
                    obtain ⟨f3, rfl, fn3, bn3, ex3, rx2⟩ := h3
                    refine hv2 (fq3.call fn3 rfl rfl) (show f3 = 0 ∨ f3 = 6 ∨ f3 = 9 from ex3) (fun fq4 gf3 => ?_)
                    refine m_st (st2 := [.int (iI f3)]) rfl ?_
                    refine m_istore (lv2 := [(4, .int (iI f3)), (1, .int (iI 1)), (3, .int (iI y)), (2, .int (iI x)), (0, .ref h0)]) C dX12_readAll_81 (by decide) rfl ?_
                    refine m_iload (j := 0) C dX12_readAll_83 rfl ?_
                    refine m_if_le (tgt := 91) C ⟨by omega, by omega⟩ dX12_readAll_85 (by decide) (fun c7 => ?_) (fun c7 => ?_)
                    · refine m_iload_n (j := 2) C dX12_readAll_91 rfl ?_
                      refine m_istore_n (lv2 := [(2, .int (iI y)), (4, .int (iI f3)), (1, .int (iI 1)), (3, .int (iI y)), (0, .ref h0)]) C dX12_readAll_92 (by decide) rfl ?_
                      refine m_goto (tgt := 9) C dX12_readAll_93 (by decide) ?_
                      refine m_lv (lv2 := [(2, .int (iI y)), (1, .int (iI 1)), (0, .ref h0)]) [0, 2, 4] rfl ?_
                      exact ih1  1 y _ _ (by omega) bn3 fq4 (by omega) (by omega) ((hW9.run (v3 := v) (a3 := a) (KTA.fr fq3 rfl) ⟨by omega, by omega, by omega⟩ hy3 hye rx2).1 (by omega))
                    · refine m_iload (j := 0) C dX12_readAll_88 rfl ?_
                      exact m_iret C dX12_readAll_90 rfl (Nat.le_of_ble_eq_true rfl) (Nat.le_of_ble_eq_true rfl) ⟨f3, rfl, fq4, bn3, ⟨(by omega), (hW9.run (KTA.fr fq3 rfl) ⟨by omega, by omega, by omega⟩ hy3 hye rx2).2 (by omega)⟩⟩
                  · clear gf2
                    refine m_bipush (z := 6) C dX12_readAll_70 (by decide) ?_
                    exact m_iret C dX12_readAll_72 rfl (Nat.le_of_ble_eq_true rfl) (Nat.le_of_ble_eq_true rfl) ⟨6, rfl, fq3, bn2, ⟨(by omega), hI4.wov ⟨by omega, by omega⟩ hx0 (by omega) tx1 (by omega)⟩⟩
              · refine m_aload_n (j := 3) C dX12_readAll_42 rfl ?_
                refine m_geta (k := 48) C dX12_readAll_43 w6_107 (by decide) rfl ?_
                refine m_iload_n (j := 0) C dX12_readAll_46 rfl ?_
                refine m_ald (k := 48) C dX12_readAll_47 rfl rfl (by decide) (by omega) (by show _ < ((_ : Nat) : Int); simp only [mlen]; omega) (by decide) ?_
                refine hv2 (show (-2147483648) ≤ ab2 48 y.toNat ∧ ab2 48 y.toNat ≤ 2147483647 from bxb2.2 48 (y.toNat)) (show ab2 48 (y.toNat) = a 48 (y.toNat) from congrFun (fpb2.2 48 rfl) (y.toNat)) (fun ra2 ae2 => ?_)
                refine m_st (st2 := [.int (iI (a 48 y.toNat))]) (congrArg (fun z => Value.int (iI z) :: []) (congrFun (fpb2.2 48 rfl) (y.toNat))) ?_
                refine m_if_eq (tgt := 57) C ⟨by omega, by omega⟩ dX12_readAll_48 (by decide) (fun c8 => ?_) (fun c8 => ?_)
                · have hye : y = v 50 ∨ a 48 y.toNat = 0 := by omega
                  refine m_iload_n (j := 2) C dX12_readAll_57 rfl ?_
                  refine m_if_eq (tgt := 73) C (r32_01 hg) dX12_readAll_58 (by decide) (fun c9 => ?_) (fun c9 => ?_)
                  · clear hg
                    have hW9 : RAW v a vb2 ab2 x := hI4.word0 ⟨by omega, by omega⟩ hx0 (by omega)
                    refine m_iconst C dX12_readAll_73 ?_
                    refine m_istore_n (lv2 := [(1, .int (iI 1)), (3, .int (iI y)), (2, .int (iI x)), (0, .ref h0)]) C dX12_readAll_74 (by decide) rfl ?_
                    refine m_aload_n (j := 3) C dX12_readAll_75 rfl ?_
                    refine m_iload_n (j := 2) C dX12_readAll_76 rfl ?_
                    refine m_iload_n (j := 1) C dX12_readAll_77 rfl ?_
                    refine m_call (mc2 := 0) (ms2 := 0) (As := [.int (iI x), .int (iI y)]) (rest := []) C (E_readWord (q := x) (u := y) bxb2 (RWS.fr hW fpb2 rfl) (by omega)) dX12_readAll_78 kV_X12_339 rfl ck_13 rfl (Nat.le_of_ble_eq_true rfl) ⟨Nat.le_of_ble_eq_true rfl, Nat.le_of_ble_eq_true rfl⟩ ⟨Nat.le_of_ble_eq_true rfl, Nat.le_of_ble_eq_true rfl⟩ (fun rh4 vh4 ah4 h4 => ?_)
                    obtain ⟨f4, rfl, fn4, bn4, ex4, rx3⟩ := h4
                    refine hv2 (fpb2.call fn4 rfl rfl) (show f4 = 0 ∨ f4 = 6 ∨ f4 = 9 from ex4) (fun fq5 gf4 => ?_)
                    refine m_st (st2 := [.int (iI f4)]) rfl ?_
                    refine m_istore (lv2 := [(4, .int (iI f4)), (1, .int (iI 1)), (3, .int (iI y)), (2, .int (iI x)), (0, .ref h0)]) C dX12_readAll_81 (by decide) rfl ?_
                    refine m_iload (j := 0) C dX12_readAll_83 rfl ?_
                    refine m_if_le (tgt := 91) C ⟨by omega, by omega⟩ dX12_readAll_85 (by decide) (fun c10 => ?_) (fun c10 => ?_)
                    · refine m_iload_n (j := 2) C dX12_readAll_91 rfl ?_
                      refine m_istore_n (lv2 := [(2, .int (iI y)), (4, .int (iI f4)), (1, .int (iI 1)), (3, .int (iI y)), (0, .ref h0)]) C dX12_readAll_92 (by decide) rfl ?_
                      refine m_goto (tgt := 9) C dX12_readAll_93 (by decide) ?_
                      refine m_lv (lv2 := [(2, .int (iI y)), (1, .int (iI 1)), (0, .ref h0)]) [0, 2, 4] rfl ?_
                      exact ih1  1 y _ _ (by omega) bn4 fq5 (by omega) (by omega) ((hW9.run (v3 := v) (a3 := a) (KTA.fr fpb2 rfl) ⟨by omega, by omega, by omega⟩ hy3 hye rx3).1 (by omega))
                    · refine m_iload (j := 0) C dX12_readAll_88 rfl ?_
                      exact m_iret C dX12_readAll_90 rfl (Nat.le_of_ble_eq_true rfl) (Nat.le_of_ble_eq_true rfl) ⟨f4, rfl, fq5, bn4, ⟨(by omega), (hW9.run (KTA.fr fpb2 rfl) ⟨by omega, by omega, by omega⟩ hy3 hye rx3).2 (by omega)⟩⟩
                  · replace hg := (hg.resolve_left c9)
                    refine m_aload_n (j := 3) C dX12_readAll_61 rfl ?_
                    refine m_bipush (z := 32) C dX12_readAll_62 (by decide) ?_
                    refine m_call (mc2 := 0) (ms2 := 0) (As := [.int (iI 32)]) (rest := []) C (E_tell (x := 32) bxb2 (by omega)) dX12_readAll_64 kV_X12_336 rfl ck_13 rfl (Nat.le_of_ble_eq_true rfl) ⟨Nat.le_of_ble_eq_true rfl, Nat.le_of_ble_eq_true rfl⟩ ⟨Nat.le_of_ble_eq_true rfl, Nat.le_of_ble_eq_true rfl⟩ (fun rh5 vh5 ah5 h5 => ?_)
                    obtain ⟨f5, rfl, fn5, bn5, ex5, tx2⟩ := h5
                    refine hv2 (fpb2.call fn5 rfl rfl) (show f5 = 0 ∨ f5 = 1 from ex5) (fun fq6 gf5 => ?_)
                    refine m_st (st2 := [.int (iI f5)]) rfl ?_
                    refine m_if_ne (tgt := 73) C (r32_01 gf5) dX12_readAll_67 (by decide) (fun c11 => ?_) (fun c11 => ?_)
                    · replace gf5 := (gf5.resolve_left c11)
                      have hW9 : RAW v a vh5 ah5 x := hI4.word1 ⟨by omega, by omega⟩ hx0 (by omega) tx2 (by omega)
                      refine m_iconst C dX12_readAll_73 ?_
                      refine m_istore_n (lv2 := [(1, .int (iI 1)), (3, .int (iI y)), (2, .int (iI x)), (0, .ref h0)]) C dX12_readAll_74 (by decide) rfl ?_
                      refine m_aload_n (j := 3) C dX12_readAll_75 rfl ?_
                      refine m_iload_n (j := 2) C dX12_readAll_76 rfl ?_
                      refine m_iload_n (j := 1) C dX12_readAll_77 rfl ?_
                      refine m_call (mc2 := 0) (ms2 := 0) (As := [.int (iI x), .int (iI y)]) (rest := []) C (E_readWord (q := x) (u := y) bn5 (RWS.fr hW fq6 rfl) (by omega)) dX12_readAll_78 kV_X12_339 rfl ck_13 rfl (Nat.le_of_ble_eq_true rfl) ⟨Nat.le_of_ble_eq_true rfl, Nat.le_of_ble_eq_true rfl⟩ ⟨Nat.le_of_ble_eq_true rfl, Nat.le_of_ble_eq_true rfl⟩ (fun rh6 vh6 ah6 h6 => ?_)
                      obtain ⟨f6, rfl, fn6, bn6, ex6, rx4⟩ := h6
                      refine hv2 (fq6.call fn6 rfl rfl) (show f6 = 0 ∨ f6 = 6 ∨ f6 = 9 from ex6) (fun fq7 gf6 => ?_)
                      refine m_st (st2 := [.int (iI f6)]) rfl ?_
                      refine m_istore (lv2 := [(4, .int (iI f6)), (1, .int (iI 1)), (3, .int (iI y)), (2, .int (iI x)), (0, .ref h0)]) C dX12_readAll_81 (by decide) rfl ?_
                      refine m_iload (j := 0) C dX12_readAll_83 rfl ?_
                      refine m_if_le (tgt := 91) C ⟨by omega, by omega⟩ dX12_readAll_85 (by decide) (fun c12 => ?_) (fun c12 => ?_)
                      · refine m_iload_n (j := 2) C dX12_readAll_91 rfl ?_
                        refine m_istore_n (lv2 := [(2, .int (iI y)), (4, .int (iI f6)), (1, .int (iI 1)), (3, .int (iI y)), (0, .ref h0)]) C dX12_readAll_92 (by decide) rfl ?_
                        refine m_goto (tgt := 9) C dX12_readAll_93 (by decide) ?_
                        refine m_lv (lv2 := [(2, .int (iI y)), (1, .int (iI 1)), (0, .ref h0)]) [0, 2, 4] rfl ?_
                        exact ih1  1 y _ _ (by omega) bn6 fq7 (by omega) (by omega) ((hW9.run (v3 := v) (a3 := a) (KTA.fr fq6 rfl) ⟨by omega, by omega, by omega⟩ hy3 hye rx4).1 (by omega))
                      · refine m_iload (j := 0) C dX12_readAll_88 rfl ?_
                        exact m_iret C dX12_readAll_90 rfl (Nat.le_of_ble_eq_true rfl) (Nat.le_of_ble_eq_true rfl) ⟨f6, rfl, fq7, bn6, ⟨(by omega), (hW9.run (KTA.fr fq6 rfl) ⟨by omega, by omega, by omega⟩ hy3 hye rx4).2 (by omega)⟩⟩
                    · clear gf5
                      refine m_bipush (z := 6) C dX12_readAll_70 (by decide) ?_
                      exact m_iret C dX12_readAll_72 rfl (Nat.le_of_ble_eq_true rfl) (Nat.le_of_ble_eq_true rfl) ⟨6, rfl, fq6, bn5, ⟨(by omega), hI4.wov ⟨by omega, by omega⟩ hx0 (by omega) tx2 (by omega)⟩⟩
                · refine m_iinc (z := y) (j := 0) (lv2 := [(3, .int (iI (y + 1))), (2, .int (iI x)), (1, .int (iI g)), (0, .ref h0)]) C dX12_readAll_51 rfl (by decide) rfl ?_
                  refine m_goto (tgt := 34) C dX12_readAll_54 (by decide) ?_
                  refine m_lv (lv2 := [(3, .int (iI (y + 1))), (2, .int (iI x)), (1, .int (iI g)), (0, .ref h0)]) [0, 1, 2, 3] rfl ?_
                  exact ih2  (y + 1) _ _ (by omega) bxb2 fpb2 (by omega) (by omega) (fun j j1 j2 => by
                      by_cases q9 : j < y
                      · exact hy3 j j1 q9
                      · rw [show j = y by omega]; omega) hI4
          refine m_lv (lv2 := [(3, .int (iI x)), (2, .int (iI x)), (1, .int (iI g)), (0, .ref h0)]) [0, 1, 2, 3] rfl ?_
          exact Lp2 40202 x _ _ (by omega) bxb1 fpb1 (by omega) (by omega) (fun j j1 j2 => absurd j1 (by omega)) hI
        · refine m_iinc (z := x) (j := 0) (lv2 := [(2, .int (iI (x + 1))), (1, .int (iI g)), (0, .ref h0)]) C dX12_readAll_26 rfl (by decide) rfl ?_
          refine m_goto (tgt := 9) C dX12_readAll_29 (by decide) ?_
          refine m_lv (lv2 := [(2, .int (iI (x + 1))), (1, .int (iI g)), (0, .ref h0)]) [0, 1, 2] rfl ?_
          exact ih1  g (x + 1) _ _ (by omega) bxb1 fpb1 (by omega) (by omega) (hI.blank ⟨by omega, by omega⟩ (by omega))
  have ra3 : (-2147483648) ≤ a 0 0 ∧ a 0 0 ≤ 2147483647 := bq1.2 0 (0)
  refine m_lv (lv2 := [(2, .int (iI 0)), (1, .int (iI 0)), (0, .ref h0)]) [0, 1, 2] rfl ?_
  exact Lp1 40202 0 0 _ _ (by omega) bq1 fq1 (by omega) (by omega) (RAI.init (by show 0 = 0; omega))
end
section
def rwx (E : List (Option (List Int))) (l : Int) : List Int := match rwe E l with
  | some (some xs) => xs
  | _ => []
def goon (hy : Int) (xs : List Int) : Prop := 0 < xs.length ∧ gd0 xs (xs.length - 1) = hy
def segl (hy : Int) (xs : List Int) : List Int := if 0 < xs.length ∧ gd0 xs (xs.length - 1) = hy then xs.take (xs.length - 1) else xs ++ [0]
def chl (E : List (Option (List Int))) (hy q : Int) : Nat → List Int
  | 0 => []
  | k + 1 => chl E hy q k ++ segl hy (rwx E (q + ((k : Nat) : Int)))
def ROK (E : List (Option (List Int))) (q k : Int) : Prop := ∀ i : Int, 0 ≤ i → i < k → ∃ xs, rwe E (q + i) = some (some xs)
def ROWL (v : Nat → Int) (a : Nat → Nat → Int) (xs : List Int) : Prop := v 50 = ((xs.length : Nat) : Int) ∧ ∀ (j : Nat) (x : Int), xs[j]? = some x → a 48 j = x
def RR0 (xs : List Int) : Nat → Int := fun j => (xs[j]?).getD 0
def RD2 (v : Nat → Int) (a : Nat → Nat → Int) (v1 : Nat → Int) (a1 : Nat → Nat → Int) (q k : Int) : Prop := ∀ E, SHA v a E → ROK E q k ∧ ROWL v1 a1 (chl E (v 33) q k.toNat)
def RD3 (v : Nat → Int) (a : Nat → Nat → Int) (v1 : Nat → Int) (a1 : Nat → Nat → Int) (q k i g : Int) : Prop := ∀ E, SHA v a E → ROK E q k ∧ ∃ xs, rwe E (q + k) = some (some xs) ∧ (g = 1 ↔ goon (v 33) xs) ∧ ROWL v1 a1 (chl E (v 33) q k.toNat ++ xs.take i.toNat)
def OKR (v : Nat → Int) (a : Nat → Nat → Int) (E : List (Option (List Int))) (t q n : Int) : Prop := WHL v a t ∧ 0 ≤ n ∧ ROK E q n
def RDR (v : Nat → Int) (a : Nat → Nat → Int) (v2 : Nat → Int) (a2 : Nat → Nat → Int) (t q n f : Int) : Prop := ∀ E, SHA v a E → (¬ OKR v a E t q n ∧ f = -1 ∧ v2 52 = v 52 ∧ a2 51 = a 51) ∨ (OKR v a E t q n ∧ (NZL a (gat0 a t) → NZL a (gat1 a t) → ∃ bs, RDA a (gat0 a t) (gat1 a t) (RR0 (chl E (v 33) q n.toNat)) f bs ∧ OUTL v2 a2 bs))
section RRD5
variable {v v1 v2 v3 : Nat → Int} {a a1 a2 a3 : Nat → Nat → Int} {E : List (Option (List Int))} {l l0 l1 xs ys bs : List Int} {R : Nat → Int} {x y g f w q k i t n z r d h : Int}
theorem ROWL.nil (h : v 50 = 0) : ROWL v a [] := ⟨h, fun j x e => by simp at e⟩
theorem ROWL.snoc (h : ROWL v a xs) (h50 : v2 50 = v 50 + 1) (h48 : a2 48 = va_up (a 48) (v 50).toNat x) : ROWL v2 a2 (xs ++ [x]) := by
  have e := h.1
  refine ⟨by rw [len1]; omega, fun j y ej => ?_⟩
  rw [h48]
  rcases ap1 ej with ⟨c, ej⟩ | ⟨c, ej⟩
  · rw [va_up_ne _ _ (by omega)]
    exact h.2 j y ej
  · rw [show j = (v 50).toNat by omega, va_up_self]
    exact ej
theorem RD2.init (h : v1 50 = 0) : RD2 v a v1 a1 q 0 := fun E _ => ⟨fun i h1 h2 => absurd h1 (by omega), ROWL.nil h⟩
theorem RD2.bad (h : RD2 v a v1 a1 q k) (hk : 0 ≤ k ∧ k < n) (hl : ¬ (0 ≤ q + k ∧ q + k < v 36) ∨ ((0 ≤ q + k ∧ q + k < v 36) ∧ a 34 (q + k).toNat < 0)) (hf : f = -1) (h52 : v2 52 = v 52 ∧ a2 51 = a 51) : RDR v a v2 a2 t q n f := fun E hE => Or.inl ⟨fun w => by
  obtain ⟨xs, e⟩ := w.2.2 k hk.1 hk.2
  exact hE.fault hl ⟨xs, e⟩, hf, h52.1, h52.2⟩
theorem RDR.nw (hw : ¬ WHL v a t ∨ n < 0) (hf : f = -1) (h52 : v2 52 = v 52 ∧ a2 51 = a 51) : RDR v a v2 a2 t q n f := fun E hE => Or.inl ⟨fun w => by
  rcases hw with hw | hw
  · exact hw w.1
  · have := w.2.1
    omega, hf, h52.1, h52.2⟩
theorem RD2.line (h : RD2 v a v1 a1 q k) (h0 : 0 ≤ q + k ∧ q + k < v 36) (h34 : 0 ≤ a 34 (q + k).toNat) (hg : (g = 1 ∧ 0 < a 34 (q + k).toNat ∧ a 35 (200 * (q + k) + a 34 (q + k).toNat - 1).toNat = v 33) ∨ (g = 0 ∧ ¬ (0 < a 34 (q + k).toNat ∧ a 35 (200 * (q + k) + a 34 (q + k).toNat - 1).toNat = v 33))) : RD3 v a v1 a1 q k 0 g := fun E hE => by
  obtain ⟨c1, c2⟩ := h E hE
  obtain ⟨xs, e1, e2, e3⟩ := hE.have_ h0.1 h0.2 h34
  refine ⟨c1, xs, e1, ?_, ?_⟩
  · unfold goon
    by_cases c : 0 < xs.length
    · have e4 := e3 (xs.length - 1) (by omega)
      rw [show 200 * (q + k).toNat + (xs.length - 1) = (200 * (q + k) + a 34 (q + k).toNat - 1).toNat by omega] at e4
      rw [← e4]
      constructor
      · intro e5
        rcases hg with ⟨_, _, g3⟩ | ⟨g1, _⟩
        · exact ⟨c, g3⟩
        · omega
      · intro e5
        rcases hg with ⟨g1, _⟩ | ⟨_, g2⟩
        · exact g1
        · exact absurd ⟨by omega, e5.2⟩ g2
    · constructor
      · intro e5
        omega
      · intro e5
        exact absurd e5.1 c
  · show ROWL v1 a1 (chl E (v 33) q k.toNat ++ [])
    rw [List.append_nil]
    exact c2
theorem RD3.cell (h : RD3 v a v1 a1 q k i g) (h0 : 0 ≤ q + k ∧ q + k < v 36) (hi : 0 ≤ i ∧ i < a 34 (q + k).toNat) (hz : z = a 35 (200 * (q + k) + i).toNat) (h50 : v2 50 = v1 50 + 1) (h48 : a2 48 = va_up (a1 48) (v1 50).toNat z) : RD3 v a v2 a2 q k (i + 1) g := fun E hE => by
  obtain ⟨c1, xs, e1, e2, e3⟩ := h E hE
  obtain ⟨ys, d1, d2, d3⟩ := hE.have_ h0.1 h0.2 (by omega)
  rw [e1] at d1
  cases d1
  refine ⟨c1, xs, e1, e2, ?_⟩
  have w := e3.snoc h50 h48
  have lt : i.toNat < xs.length := by omega
  have e4 : xs.take (i + 1).toNat = xs.take i.toNat ++ [z] := by
    have e5 := d3 i.toNat lt
    rw [show 200 * (q + k).toNat + i.toNat = (200 * (q + k) + i).toNat by omega, ← hz] at e5
    have e6 : gd0 xs i.toNat = xs[i.toNat] := by
      unfold gd0
      rw [List.getElem?_eq_getElem lt]
      rfl
    rw [show (i + 1).toNat = i.toNat + 1 by omega, List.take_succ_eq_append_getElem lt, e5, e6]
  rw [e4, ← List.append_assoc]
  exact w
theorem rwx_of (e : rwe E y = some (some xs)) : rwx E y = xs := by
  unfold rwx
  rw [e]
theorem RD3.endg (h : RD3 v a v1 a1 q k i g) (h0 : 0 ≤ q + k ∧ q + k < v 36) (hk : 0 ≤ k) (hg : g = 1) (hi : i = a 34 (q + k).toNat - 1) : RD2 v a v1 a1 q (k + 1) := fun E hE => by
  obtain ⟨c1, xs, e1, e2, e3⟩ := h E hE
  have ln : a 34 (q + k).toNat = ((xs.length : Nat) : Int) := by
    obtain ⟨y, y1, y2⟩ := hE.on h0.1 h0.2
    rw [e1] at y1
    cases y1
    rcases y2 with ⟨y2, _⟩ | ⟨ys, y2, y3, _⟩
    · cases y2
    · cases y2
      exact y3
  refine ⟨fun j h1 h2 => ?_, ?_⟩
  · by_cases c : j < k
    · exact c1 j h1 c
    · rw [show j = k by omega]
      exact ⟨xs, e1⟩
  · rw [show (k + 1).toNat = k.toNat + 1 by omega]
    show ROWL v1 a1 (chl E (v 33) q k.toNat ++ segl (v 33) (rwx E (q + ((k.toNat : Nat) : Int))))
    rw [show ((k.toNat : Nat) : Int) = k by omega, rwx_of e1]
    unfold segl
    rw [if_pos (show 0 < xs.length ∧ gd0 xs (xs.length - 1) = v 33 from e2.mp hg)]
    rw [show i.toNat = xs.length - 1 by omega] at e3
    exact e3
theorem RD3.endb (h : RD3 v a v1 a1 q k i g) (h0 : 0 ≤ q + k ∧ q + k < v 36) (hk : 0 ≤ k) (hg : g ≠ 1) (hi : i = a 34 (q + k).toNat) (h50 : v2 50 = v1 50 + 1) (h48 : a2 48 = va_up (a1 48) (v1 50).toNat 0) : RD2 v a v2 a2 q (k + 1) := fun E hE => by
  obtain ⟨c1, xs, e1, e2, e3⟩ := h E hE
  have ln : a 34 (q + k).toNat = ((xs.length : Nat) : Int) := by
    obtain ⟨y, y1, y2⟩ := hE.on h0.1 h0.2
    rw [e1] at y1
    cases y1
    rcases y2 with ⟨y2, _⟩ | ⟨ys, y2, y3, _⟩
    · cases y2
    · cases y2
      exact y3
  refine ⟨fun j h1 h2 => ?_, ?_⟩
  · by_cases c : j < k
    · exact c1 j h1 c
    · rw [show j = k by omega]
      exact ⟨xs, e1⟩
  · rw [show (k + 1).toNat = k.toNat + 1 by omega]
    show ROWL v2 a2 (chl E (v 33) q k.toNat ++ segl (v 33) (rwx E (q + ((k.toNat : Nat) : Int))))
    rw [show ((k.toNat : Nat) : Int) = k by omega, rwx_of e1]
    unfold segl
    rw [if_neg (show ¬ (0 < xs.length ∧ gd0 xs (xs.length - 1) = v 33) from fun c => hg (e2.mpr c)), ← List.append_assoc]
    rw [show i.toNat = xs.length by omega, List.take_length] at e3
    exact e3.snoc h50 h48
theorem rwl_rng : ∀ (n : Nat) (x : Int) (j : Nat) (d : Int), 0 ≤ x → (rng n x)[j]? = some d → 0 ≤ d := by
  intro n
  induction n with
  | zero => intro x j d _ e; simp [rng] at e
  | succ n ih =>
    intro x j d hx e
    cases j with
    | zero =>
      have e2 : some x = some d := e
      cases e2
      exact hx
    | succ j => exact ih (x + 1) j d (by omega) e
theorem rwl_pos {r b : Nat → Int} : ∀ (n : Nat) (t : Int) (j : Nat) (d : Int), (rwl r b n t)[j]? = some d → 0 ≤ d := by
  intro n
  induction n with
  | zero => intro t j d e; simp [rwl] at e
  | succ n ih =>
    intro t j d e
    rw [rwl_s] at e
    by_cases c : 0 ≤ t
    · rw [if_pos c] at e
      by_cases c2 : j < (rng (r t.toNat).toNat (200 * t)).length
      · rw [List.getElem?_append_left c2] at e
        exact rwl_rng _ _ _ _ (by omega) e
      · rw [List.getElem?_append_right (by omega)] at e
        exact ih _ _ _ e
    · rw [if_neg c] at e
      simp at e
theorem indl_rol {I : Int} {j : Nat} (hI : 0 ≤ I) (e : (indl a I)[j]? = some d) : rol d = I % 4 := by
  unfold indl at e
  split at e
  · cases j with
    | zero =>
      have e2 : some (-1 - I) = some d := e
      cases e2
      unfold rol
      rw [if_neg (by omega)]
      omega
    | succ j => simp at e
  · simp at e
theorem app_or {α : Type} {A B : List α} {j : Nat} {m : α} (e : (A ++ B)[j]? = some m) : (∃ i : Nat, A[i]? = some m) ∨ ∃ i : Nat, B[i]? = some m := by
  by_cases c : j < A.length
  · rw [List.getElem?_append_left c] at e
    exact Or.inl ⟨j, e⟩
  · rw [List.getElem?_append_right (by omega)] at e
    exact Or.inr ⟨_, e⟩
theorem rws1_rol {j : Nat} (ht : 0 ≤ t) (e : (rws1 a t)[j]? = some d) : rol d = 4 ∨ rol d = 0 ∨ rol d = 1 := by
  unfold rws1 at e
  rcases app_or e with ⟨i, e⟩ | ⟨i, e⟩
  · rcases app_or e with ⟨i, e⟩ | ⟨i, e⟩
    · have := rwl_pos _ _ _ _ e
      exact Or.inl (if_pos this)
    · have := indl_rol (by omega) e
      omega
  · have := indl_rol (by omega) e
    omega
theorem gat0_rol {j : Nat} (ht : 0 ≤ t) (h8 : a 6 t.toNat = 5 → 0 ≤ a 8 t.toNat) (e : (gat0 a t)[j]? = some d) : rol d ≠ 3 := by
  unfold gat0 at e
  by_cases c : a 6 t.toNat = 5
  · rw [if_pos c] at e
    rcases app_or e with ⟨i, e⟩ | ⟨i, e⟩
    · have := rws1_rol (h8 c) e
      omega
    · have := indl_rol (by omega) e
      omega
  · rw [if_neg c] at e
    have := rws1_rol ht e
    omega
theorem gat1_rol {j : Nat} (ht : 0 ≤ t) (h9 : a 6 t.toNat = 5 → 0 ≤ a 9 t.toNat) (e : (gat1 a t)[j]? = some d) : rol d ≠ 2 := by
  unfold gat1 at e
  by_cases c : a 6 t.toNat = 5
  · rw [if_pos c] at e
    rcases app_or e with ⟨i, e⟩ | ⟨i, e⟩
    · have := rws1_rol (h9 c) e
      omega
    · have := indl_rol (by omega) e
      omega
  · rw [if_neg c] at e
    simp at e
theorem gat_cg (h6 : a1 6 = a 6) (h8 : a1 8 = a 8) (h9 : a1 9 = a 9) (h10 : a1 10 = a 10) (h16 : a1 16 = a 16) : gat0 a1 t = gat0 a t ∧ gat1 a1 t = gat1 a t := by
  have i1 : ∀ I, indl a1 I = indl a I := fun I => by unfold indl; rw [h16]
  have r1 : ∀ t, rws1 a1 t = rws1 a t := fun t => by unfold rws1 RWL; rw [i1, i1, h10, h8]
  refine ⟨?_, ?_⟩
  · unfold gat0
    rw [h6, h8, r1, r1, i1]
  · unfold gat1
    rw [h6, h9, r1, i1]
theorem RDR.fin {V A A3 : List Nat} {v4 : Nat → Int} {a4 : Nat → Nat → Int} (hT : TBL v a) (h2 : RD2 v a v1 a1 q n) (hw : WHL v a t) (hn : 0 ≤ n) (hf1 : fr V A v a v1 a1) (cA : ([6, 8, 9, 10, 12, 13, 14, 15, 16, 17] : List Nat).all (fun k => !A.contains k) = true) (hG : GAT a1 a3 t) (hf3 : fr [] A3 v1 a1 v3 a3) (c3 : ([12, 13, 14, 15, 16, 17, 48] : List Nat).all (fun k => !A3.contains k) = true) (hx : RAX v3 a3 v4 a4 z) (h5 : (z = 0 ∧ f = v4 52 ∧ v4 52 ≤ 4000 ∧ v2 52 = v4 52 ∧ a2 51 = a4 51) ∨ (z ≠ 0 ∧ f = -1 ∧ v2 52 = 0)) : RDR v a v2 a2 t q n f := fun E hE => by
  obtain ⟨ok, rl⟩ := h2 E hE
  refine Or.inr ⟨⟨hw, hn, ok⟩, fun nz0 nz1 => ?_⟩
  have k1 : ∀ j, ([6, 8, 9, 10, 12, 13, 14, 15, 16, 17] : List Nat).contains j = true → a1 j = a j := fun j hj => hf1.2 j (by
    have w := List.all_eq_true.mp cA j (List.contains_iff_mem.mp hj)
    simpa using w)
  have k3 : ∀ j, ([12, 13, 14, 15, 16, 17, 48] : List Nat).contains j = true → a3 j = a1 j := fun j hj => hf3.2 j (by
    have w := List.all_eq_true.mp c3 j (List.contains_iff_mem.mp hj)
    simpa using w)
  refine hv7 ((k3 12 rfl).trans (k1 12 rfl)) ((k3 13 rfl).trans (k1 13 rfl)) ((k3 14 rfl).trans (k1 14 rfl)) ((k3 15 rfl).trans (k1 15 rfl)) ((k3 16 rfl).trans (k1 16 rfl)) ((k3 17 rfl).trans (k1 17 rfl)) (gat_cg (t := t) (k1 6 rfl) (k1 8 rfl) (k1 9 rfl) (k1 10 rfl) (k1 16 rfl)) (fun e12 e13 e14 e15 e16 e17 gc => ?_)
  obtain ⟨g0, g1⟩ := hG
  rw [gc.1] at g0
  rw [gc.2] at g1
  have wt := WHL.tr hw
  have tt := hT.1 t wt.1 wt.2.1
  have nz : ∀ l, NZL a l → NZL a3 l := fun l hl j d hd => by
    rw [rlen_cg e13 e16]
    exact ⟨(hl j d hd).1, fun k c1 c2 => by rw [dcl_cg e15 e17]; exact (hl j d hd).2 k c1 c2⟩
  have v50 : v3 50 = v1 50 := hf3.1 50 rfl
  have rac : RAC v3 a3 (gat0 a t) (gat1 a t) (RR0 (chl E (v 33) q n.toNat)) := by
    refine ⟨⟨g0.cg (k3 13 rfl) (k3 16 rfl), g1.cg (k3 13 rfl) (k3 16 rfl)⟩, ⟨nz _ nz0, nz _ nz1⟩, ⟨fun j d e => gat0_rol wt.1 (fun c => by omega) e, fun j d e => gat1_rol wt.1 (fun c => by omega) e⟩, fun j => ⟨fun hj => ?_, fun hj => ?_⟩⟩
    · have e := rl.1
      have lt : j < (chl E (v 33) q n.toNat).length := by omega
      have e2 := List.getElem?_eq_getElem lt
      unfold RR0
      rw [e2, k3 48 rfl, rl.2 j _ e2]
      rfl
    · have e := rl.1
      unfold RR0
      rw [List.getElem?_eq_none (by omega)]
      rfl
  rcases hx _ _ _ rac with ⟨z0, bs, w1, w2⟩ | ⟨z0, w1⟩
  · rcases h5 with ⟨_, p2, p3, p4, p5⟩ | ⟨p1, _⟩
    · have e := w2.1
      exact ⟨bs, Or.inl ⟨RFN_cg e12 e13 e14 e15 e16 e17 w1, by omega, by omega⟩, w2.fr p4 p5⟩
    · exact absurd z0 p1
  · rcases h5 with ⟨p1, _⟩ | ⟨_, p2, p3⟩
    · exact absurd p1 z0
    · refine ⟨[], Or.inr ⟨?_, p2, rfl⟩, p3, fun j x e => by simp at e⟩
      rcases w1 with w1 | w1
      · exact Or.inl (RWG_cg e12 e13 e14 e15 e16 e17 w1)
      · exact Or.inr (ROV_cg e12 e13 e14 e15 e16 e17 w1)
end RRD5
set_option maxHeartbeats 4000000 in
set_option maxRecDepth 100000 in
theorem E_putRow {l : Launch} {G : GT} {h0 : Nat} {ad ln : Nat → Nat} {v : Nat → Int} {a : Nat → Nat → Int}  {x y : Int} (hB : BX v a) (hx : -2147483648 ≤ x ∧ x ≤ 2147483647) (hy : -2147483648 ≤ y ∧ y ≤ 2147483647) (h50 : v 50 < 40200) : Mm l G yX12_putRow cX12_putRow 3 none 0 [.int (iI x), .int (iI y)] h0 ad ln v a 0 0 (fun r v2 a2 => r = none ∧ fr [50] [48, 49] v a v2 a2 ∧ BX v2 a2 ∧ ((v2 50 = v 50 + 1) ∧ a2 48 = va_up (a 48) (v 50).toNat x)) := by
  refine Mm.mk (by decide) (Nat.le_of_ble_eq_true rfl) ?_
  intro p e s m args below meth c A C
  have fp0 : fr [50] [48, 49] v a v a := fr.refl
  refine m_aload_n (j := 0) C dX12_putRow_0 rfl ?_
  refine m_geta (k := 48) C dX12_putRow_1 w6_107 (by decide) rfl ?_
  refine m_aload_n (j := 0) C dX12_putRow_4 rfl ?_
  have rv1 : 0 ≤ v 50 ∧ v 50 ≤ 40200 := hB.1 50
  refine m_get (k := 50) C dX12_putRow_5 w6_109 (by decide) rfl ?_
  refine m_iload_n (j := 1) C dX12_putRow_8 rfl ?_
  refine m_ast (k := 48) C dX12_putRow_9 rfl rfl (by decide) (by omega) (by show _ < ((_ : Nat) : Int); simp only [mlen]; omega) (by decide) ?_
  refine hv2 (show BX v (up2 a 48 (v 50).toNat x) from hB.set (k := 48) (i := (v 50).toNat) (z := x) (show (-2147483648) ≤ x ∧ x ≤ 2147483647 by omega)) (fp0.set (k := 48) (i := (v 50).toNat) (z := x) rfl) (fun bq1 fq1 => ?_)
  refine m_aload_n (j := 0) C dX12_putRow_10 rfl ?_
  refine m_geta (k := 49) C dX12_putRow_11 w6_108 (by decide) rfl ?_
  refine m_aload_n (j := 0) C dX12_putRow_14 rfl ?_
  refine m_get (k := 50) C dX12_putRow_15 w6_109 (by decide) rfl ?_
  refine m_iload_n (j := 2) C dX12_putRow_18 rfl ?_
  refine m_ast (k := 49) C dX12_putRow_19 rfl rfl (by decide) (by omega) (by show _ < ((_ : Nat) : Int); simp only [mlen]; omega) (by decide) ?_
  refine hv2 (show BX v (up2 (up2 a 48 (v 50).toNat x) 49 (v 50).toNat y) from bq1.set (k := 49) (i := (v 50).toNat) (z := y) (show (-2147483648) ≤ y ∧ y ≤ 2147483647 by omega)) (fq1.set (k := 49) (i := (v 50).toNat) (z := y) rfl) (fun bq2 fq2 => ?_)
  refine m_aload_n (j := 0) C dX12_putRow_20 rfl ?_
  refine m_dup C dX12_putRow_21 rfl ?_
  refine m_get (k := 50) C dX12_putRow_22 w6_109 (by decide) rfl ?_
  refine m_iconst C dX12_putRow_25 ?_
  refine m_iadd C dX12_putRow_26 ?_
  refine m_put (k := 50) (z := (v 50) + 1) C dX12_putRow_27 w6_109 (by decide) rfl rfl rfl ?_
  refine hv2 (show BX (va_up v 50 ((v 50) + 1)) (up2 (up2 a 48 (v 50).toNat x) 49 (v 50).toNat y) from bq2.put (k := 50) (z := (v 50) + 1) (show 0 ≤ ((v 50) + 1) ∧ ((v 50) + 1) ≤ 40200 by omega)) (fq2.put (k := 50) (z := (v 50) + 1) rfl) (fun bq3 fq3 => ?_)
  exact m_vret C dX12_putRow_30 rfl (Nat.le_of_ble_eq_true rfl) (Nat.le_of_ble_eq_true rfl) ⟨rfl, fq3, bq3, ⟨rfl, rfl⟩⟩
set_option maxHeartbeats 4000000 in
set_option maxRecDepth 100000 in
theorem N2_read {l : Launch} {G : GT} {h0 : Nat} {ad ln : Nat → Nat} {v : Nat → Int} {a : Nat → Nat → Int}  {t q n1 : Int} (hB : BX v a) (hT : TBL v a) (hW : RWS a) (ht : -2147483648 ≤ t ∧ t ≤ 2147483647) (hq : -2147483648 ≤ q ∧ q ≤ 2147483647) (hn1 : -2147483648 ≤ n1 ∧ n1 ≤ 2147483647) : Mm l G yX12_read cX12_read 11 (some .int) 36 [.int (iI t), .int (iI q), .int (iI n1)] h0 ad ln v a 0 0 (fun r v2 a2 => ∃ f : Int, r = some (.int (iI f)) ∧ fr [0, 1, 50, 52, 53] [44, 45, 46, 47, 48, 49, 51] v a v2 a2 ∧ BX v2 a2 ∧ (RWS a2 ∧ RDR v a v2 a2 t q n1 f)) := by
  refine Mm.mk (by decide) (Nat.le_of_ble_eq_true rfl) ?_
  intro p e s m args below meth c A C
  refine hv3 (show 0 ≤ v 4 ∧ v 4 ≤ 30 from hB.1 4) (show 0 ≤ v 36 ∧ v 36 ≤ 200 from hB.1 36) (show fr [0, 1, 50, 52, 53] [44, 45, 46, 47, 48, 49, 51] v a v a from fr.refl) (fun h30 r36 fp0 => ?_)
  refine m_aload_n (j := 0) C dX12_read_0 rfl ?_
  refine m_iload_n (j := 1) C dX12_read_1 rfl ?_
  have rv1 : 0 ≤ v 4 ∧ v 4 ≤ 30 := hB.1 4
  refine m_call (mc2 := 0) (ms2 := 0) (As := [.int (iI t)]) (rest := []) C (E_isWhole (t := t) hB (hT.fr fp0 rfl rfl) (by show -2147483648 ≤ t ∧ t ≤ 2147483647; omega)) dX12_read_2 kV_X12_171 rfl ck_13 rfl (Nat.le_of_ble_eq_true rfl) ⟨Nat.le_of_ble_eq_true rfl, Nat.le_of_ble_eq_true rfl⟩ ⟨Nat.le_of_ble_eq_true rfl, Nat.le_of_ble_eq_true rfl⟩ (fun rh1 vh1 ah1 h1 => ?_)
  obtain ⟨f1, rfl, fn1, bn1, ex1⟩ := h1
  obtain ⟨rfl, rfl⟩ := fn1.eq
  obtain ⟨ex1, tl1⟩ := ex1
  have gf1 : f1 = 0 ∨ (f1 = 1 ∧ 0 ≤ t ∧ t < (v 4)) := ex1
  refine m_st (st2 := [.int (iI f1)]) rfl ?_
  refine m_if_ne (tgt := 14) C (r32_0p gf1) dX12_read_5 (by decide) (fun c1 => ?_) (fun c1 => ?_)
  · replace gf1 := (gf1.resolve_left c1)
    refine m_iload_n (j := 3) C dX12_read_14 rfl ?_
    refine m_if_ge (tgt := 24) C ⟨by omega, by omega⟩ dX12_read_15 (by decide) (fun c2 => ?_) (fun c2 => ?_)
    · refine m_aload_n (j := 0) C dX12_read_24 rfl ?_
      refine m_iconst C dX12_read_25 ?_
      refine m_put (k := 50) (z := 0) C dX12_read_26 w6_109 (by decide) rfl rfl rfl ?_
      refine hv2 (show BX (va_up v 50 0) a from hB.put (k := 50) (z := 0) ⟨by decide, by decide⟩) (fp0.put (k := 50) (z := 0) rfl) (fun bq1 fq2 => ?_)
      refine m_iconst C dX12_read_29 ?_
      refine m_istore (lv2 := [(4, .int (iI 0)), (0, .ref h0), (1, .int (iI t)), (2, .int (iI q)), (3, .int (iI n1))]) C dX12_read_30 (by decide) rfl ?_
      have Lp1 : ∀ (nn : Nat) (k : Int) (vb1 : Nat → Int) (ab1 : Nat → Nat → Int), 201 - k < (nn : Int) → BX vb1 ab1 → fr [0, 1, 50, 52, 53] [44, 45, 46, 47, 48, 49, 51] v a vb1 ab1 → (0 ≤ k ∧ k ≤ n1) → (k = 0 ∨ (0 ≤ q ∧ q + k ≤ v 36)) → (vb1 50 ≤ 201 * k) → (RWS ab1) → (RD2 v a vb1 ab1 q k) → (vb1 52 = v 52 ∧ ab1 51 = a 51) → mw p l e (rmq 36 0 0) s m args below meth c G A 11 (MQ below (Qm G A (fun rq Lq Eq => ∃ (vq : Nat → Int) (aq : Nat → Nat → Int), mI G h0 ad ln vq aq Lq Eq ∧ (fun r v2 a2 => ∃ f : Int, r = some (.int (iI f)) ∧ fr [0, 1, 50, 52, 53] [44, 45, 46, 47, 48, 49, 51] v a v2 a2 ∧ BX v2 a2 ∧ (RWS a2 ∧ RDR v a v2 a2 t q n1 f)) rq vq aq)) args s 0 0 A) h0 ad ln vb1 ab1 0 0 32 [(4, .int (iI k)), (0, .ref h0), (1, .int (iI t)), (2, .int (iI q)), (3, .int (iI n1))] [] := by
        intro nn
        induction nn with
        | zero =>
          intro k vb1 ab1 hm bxb1 fpb1 hk hk2 h50 hW1 hD2 hK32
          exact absurd hm (by omega)
        | succ nn ih1 =>
          intro k vb1 ab1 hm bxb1 fpb1 hk hk2 h50 hW1 hD2 hK32
          refine m_iload (j := 0) C dX12_read_32 rfl ?_
          refine m_iload_n (j := 4) C dX12_read_34 rfl ?_
          refine m_icmp_ge (tgt := 209) C ⟨by omega, by omega⟩ ⟨by omega, by omega⟩ dX12_read_35 (by decide) (fun c3 => ?_) (fun c3 => ?_)
          · refine m_aload_n (j := 1) C dX12_read_209 rfl ?_
            refine m_iload_n (j := 2) C dX12_read_210 rfl ?_
            refine hv2 (show 0 ≤ vb1 4 ∧ vb1 4 ≤ 30 from bxb1.1 4) (show vb1 4 = v 4 from fpb1.1 4 rfl) (fun rv2 ve1 => ?_)
            refine m_call (mc2 := 0) (ms2 := 0) (As := [.int (iI t)]) (rest := []) C (E_gather (t := t) bxb1 hW1 (hT.fr fpb1 rfl rfl) (by show 0 ≤ t ∧ t < (vb1 4); omega)) dX12_read_211 kV_X12_354 rfl ck_13 rfl (Nat.le_of_ble_eq_true rfl) ⟨Nat.le_of_ble_eq_true rfl, Nat.le_of_ble_eq_true rfl⟩ ⟨Nat.le_of_ble_eq_true rfl, Nat.le_of_ble_eq_true rfl⟩ (fun rh2 vh2 ah2 h2 => ?_)
            obtain ⟨rfl, fn2, bn2, ex2⟩ := h2
            have fq3 := fpb1.call fn2 rfl rfl
            obtain ⟨pw1, ex2⟩ := ex2
            have tl2 := ex2
            refine m_st (st2 := []) rfl ?_
            refine m_aload_n (j := 1) C dX12_read_214 rfl ?_
            refine m_call (mc2 := 0) (ms2 := 0) (As := []) (rest := []) C (E_readAll bn2 pw1) dX12_read_215 kV_X12_357 rfl ck_13 rfl (Nat.le_of_ble_eq_true rfl) ⟨Nat.le_of_ble_eq_true rfl, Nat.le_of_ble_eq_true rfl⟩ ⟨Nat.le_of_ble_eq_true rfl, Nat.le_of_ble_eq_true rfl⟩ (fun rh3 vh3 ah3 h3 => ?_)
            obtain ⟨f3, rfl, fn3, bn3, ex3, rx1⟩ := h3
            refine hv3 (fq3.call fn3 rfl rfl) (show RWS ah3 from RWS.fr pw1 fn3 rfl) (show f3 = 0 ∨ f3 = 6 ∨ f3 = 9 from ex3) (fun fq4 pw2 gf3 => ?_)
            refine m_st (st2 := [.int (iI f3)]) rfl ?_
            refine m_istore (lv2 := [(4, .int (iI f3)), (0, .ref h0), (1, .int (iI t)), (2, .int (iI q)), (3, .int (iI n1))]) C dX12_read_218 (by decide) rfl ?_
            refine m_iload (j := 0) C dX12_read_220 rfl ?_
            refine m_if_ne (tgt := 234) C ⟨by omega, by omega⟩ dX12_read_222 (by decide) (fun c4 => ?_) (fun c4 => ?_)
            · replace gf3 := (gf3.resolve_left c4)
              refine m_aload_n (j := 1) C dX12_read_234 rfl ?_
              refine m_iconst C dX12_read_235 ?_
              refine m_put (k := 52) (z := 0) C dX12_read_236 w6_111 (by decide) rfl rfl rfl ?_
              refine hv2 (show BX (va_up vh3 52 0) ah3 from bn3.put (k := 52) (z := 0) ⟨by decide, by decide⟩) (fq4.put (k := 52) (z := 0) rfl) (fun bq2 fq5 => ?_)
              refine m_aload_n (j := 1) C dX12_read_239 rfl ?_
              have rv3 : 0 ≤ vh3 53 ∧ vh3 53 ≤ 40200 := bq2.1 53
              refine m_get (k := 53) C dX12_read_240 w6_112 (by decide) rfl ?_
              refine m_st (st2 := [.int (iI (vh3 53))]) rfl ?_
              refine m_aload_n (j := 1) C dX12_read_243 rfl ?_
              refine hv3 (show 0 ≤ vh3 50 ∧ vh3 50 ≤ 40200 from bq2.1 50) (show vh3 50 = vh2 50 from fn3.1 50 rfl) (show vh2 50 = vb1 50 from fn2.1 50 rfl) (fun rv4 ve2 ve3 => ?_)
              refine m_get (k := 50) C dX12_read_244 w6_109 (by decide) rfl ?_
              refine m_st (st2 := [.int (iI (vh3 50)), .int (iI (vh3 53))]) rfl ?_
              refine m_icmp_ge (tgt := 274) C (r32_c (lo := 0) (hi := 40200) rv3.1 rv3.2 (by decide) (by decide)) (r32_c (lo := 0) (hi := 40200) rv4.1 rv4.2 (by decide) (by decide)) dX12_read_247 (by decide) (fun c5 => ?_) (fun c5 => ?_)
              · refine m_aload_n (j := 1) C dX12_read_274 rfl ?_
                refine m_get (k := 53) C dX12_read_275 w6_112 (by decide) rfl ?_
                refine m_st (st2 := [.int (iI (vh3 53))]) rfl ?_
                refine m_if_le (tgt := 297) C (r32_c (lo := 0) (hi := 40200) rv3.1 rv3.2 (by decide) (by decide)) dX12_read_278 (by decide) (fun c6 => ?_) (fun c6 => ?_)
                · refine m_iconst C dX12_read_297 ?_
                  obtain ⟨zz1, hzz1, ezz1⟩ := iI_of (iI 0)
                  refine m_st (st2 := [.int (iI zz1)]) (by rw [ezz1]) ?_
                  refine m_istore (lv2 := [(5, .int (iI zz1)), (4, .int (iI f3)), (0, .ref h0), (1, .int (iI t)), (2, .int (iI q)), (3, .int (iI n1))]) C dX12_read_298 (by decide) rfl ?_
                  refine m_aload_n (j := 2) C dX12_read_300 rfl ?_
                  refine m_iload (j := 1) C dX12_read_301 rfl ?_
                  refine m_iload (j := 0) C dX12_read_303 rfl ?_
                  refine m_call (mc2 := 0) (ms2 := 0) (As := [.int (iI f3), .int (iI zz1)]) (rest := []) C (B_badAt (x := f3) (y := zz1) bq2 (by show -2147483648 ≤ f3 ∧ f3 ≤ 2147483647; omega) (by show -2147483648 ≤ zz1 ∧ zz1 ≤ 2147483647; omega)) dX12_read_305 kV_X12_240 rfl ck_13 rfl (Nat.le_of_ble_eq_true rfl) ⟨Nat.le_of_ble_eq_true rfl, Nat.le_of_ble_eq_true rfl⟩ ⟨Nat.le_of_ble_eq_true rfl, Nat.le_of_ble_eq_true rfl⟩ (fun rh4 vh4 ah4 h4 => ?_)
                  obtain ⟨f4, rfl, fn4, bn4, ex4⟩ := h4
                  refine hv3 (fq5.call fn4 rfl rfl) (show RWS ah4 from RWS.fr pw2 fn4 rfl) (show f4 = -1 from ex4) (fun fq6 pw3 gf4 => ?_)
                  refine m_st (st2 := [.int (iI f4)]) rfl ?_
                  refine hv2 (show 0 ≤ vh4 52 ∧ vh4 52 ≤ 4000 from bn4.1 52) (show vh4 52 = 0 from fn4.1 52 rfl) (fun rv5 ve4 => ?_)
                  exact m_iret C dX12_read_308 rfl (Nat.le_of_ble_eq_true rfl) (Nat.le_of_ble_eq_true rfl) ⟨f4, rfl, fq6, bn4, ⟨pw3, RDR.fin hT (by
                      have en : k = n1 := by omega
                      subst en
                      exact hD2) (tl1.mp (by omega)) (by omega) fpb1 rfl tl2 fn2 rfl rx1 (Or.inr ⟨by omega, by omega, by show (vh4 52) = 0; omega⟩)⟩⟩
                · refine m_aload_n (j := 1) C dX12_read_281 rfl ?_
                  refine m_geta (k := 49) C dX12_read_282 w6_108 (by decide) rfl ?_
                  refine m_aload_n (j := 1) C dX12_read_285 rfl ?_
                  refine m_get (k := 53) C dX12_read_286 w6_112 (by decide) rfl ?_
                  refine m_st (st2 := [.int (iI (vh3 53)), .ref (ad 49)]) rfl ?_
                  refine m_iconst C dX12_read_289 ?_
                  refine m_isub C dX12_read_290 ?_
                  refine m_ald (k := 49) C dX12_read_291 rfl rfl (by decide) (by omega) (by show _ < ((_ : Nat) : Int); simp only [mlen]; omega) (by decide) ?_
                  refine hv3 (show (-2147483648) ≤ ah3 49 ((vh3 53) - 1).toNat ∧ ah3 49 ((vh3 53) - 1).toNat ≤ 2147483647 from bq2.2 49 (((vh3 53) - 1).toNat)) (show ah3 49 (((vh3 53) - 1).toNat) = ah2 49 (((vh3 53) - 1).toNat) from congrFun (fn3.2 49 rfl) (((vh3 53) - 1).toNat)) (show ah2 49 (((vh3 53) - 1).toNat) = ab1 49 (((vh3 53) - 1).toNat) from congrFun (fn2.2 49 rfl) (((vh3 53) - 1).toNat)) (fun ra1 ae1 ae2 => ?_)
                  refine m_iconst C dX12_read_292 ?_
                  refine m_iadd C dX12_read_293 ?_
                  refine m_goto (tgt := 298) C dX12_read_294 (by decide) ?_
                  obtain ⟨zz2, hzz2, ezz2⟩ := iI_of (iI ((ah3 49 ((vh3 53) - 1).toNat) + 1))
                  refine m_st (st2 := [.int (iI zz2)]) (by rw [ezz2]) ?_
                  refine m_istore (lv2 := [(5, .int (iI zz2)), (4, .int (iI f3)), (0, .ref h0), (1, .int (iI t)), (2, .int (iI q)), (3, .int (iI n1))]) C dX12_read_298 (by decide) rfl ?_
                  refine m_aload_n (j := 2) C dX12_read_300 rfl ?_
                  refine m_iload (j := 1) C dX12_read_301 rfl ?_
                  refine m_iload (j := 0) C dX12_read_303 rfl ?_
                  refine m_call (mc2 := 0) (ms2 := 0) (As := [.int (iI f3), .int (iI zz2)]) (rest := []) C (B_badAt (x := f3) (y := zz2) bq2 (by show -2147483648 ≤ f3 ∧ f3 ≤ 2147483647; omega) (by show -2147483648 ≤ zz2 ∧ zz2 ≤ 2147483647; omega)) dX12_read_305 kV_X12_240 rfl ck_13 rfl (Nat.le_of_ble_eq_true rfl) ⟨Nat.le_of_ble_eq_true rfl, Nat.le_of_ble_eq_true rfl⟩ ⟨Nat.le_of_ble_eq_true rfl, Nat.le_of_ble_eq_true rfl⟩ (fun rh5 vh5 ah5 h5 => ?_)
                  obtain ⟨f5, rfl, fn5, bn5, ex5⟩ := h5
                  refine hv3 (fq5.call fn5 rfl rfl) (show RWS ah5 from RWS.fr pw2 fn5 rfl) (show f5 = -1 from ex5) (fun fq7 pw4 gf5 => ?_)
                  refine m_st (st2 := [.int (iI f5)]) rfl ?_
                  refine hv2 (show 0 ≤ vh5 52 ∧ vh5 52 ≤ 4000 from bn5.1 52) (show vh5 52 = 0 from fn5.1 52 rfl) (fun rv6 ve5 => ?_)
                  exact m_iret C dX12_read_308 rfl (Nat.le_of_ble_eq_true rfl) (Nat.le_of_ble_eq_true rfl) ⟨f5, rfl, fq7, bn5, ⟨pw4, RDR.fin hT (by
                      have en : k = n1 := by omega
                      subst en
                      exact hD2) (tl1.mp (by omega)) (by omega) fpb1 rfl tl2 fn2 rfl rx1 (Or.inr ⟨by omega, by omega, by show (vh5 52) = 0; omega⟩)⟩⟩
              · refine m_aload_n (j := 1) C dX12_read_250 rfl ?_
                refine m_geta (k := 48) C dX12_read_251 w6_107 (by decide) rfl ?_
                refine m_aload_n (j := 1) C dX12_read_254 rfl ?_
                refine m_get (k := 53) C dX12_read_255 w6_112 (by decide) rfl ?_
                refine m_st (st2 := [.int (iI (vh3 53)), .ref (ad 48)]) rfl ?_
                refine m_ald (k := 48) C dX12_read_258 rfl rfl (by decide) (by omega) (by show _ < ((_ : Nat) : Int); simp only [mlen]; omega) (by decide) ?_
                refine hv3 (show (-2147483648) ≤ ah3 48 (vh3 53).toNat ∧ ah3 48 (vh3 53).toNat ≤ 2147483647 from bq2.2 48 ((vh3 53).toNat)) (show ah3 48 ((vh3 53).toNat) = ah2 48 ((vh3 53).toNat) from congrFun (fn3.2 48 rfl) ((vh3 53).toNat)) (show ah2 48 ((vh3 53).toNat) = ab1 48 ((vh3 53).toNat) from congrFun (fn2.2 48 rfl) ((vh3 53).toNat)) (fun ra2 ae3 ae4 => ?_)
                refine m_if_eq (tgt := 274) C (r32_c (lo := (-2147483648)) (hi := 2147483647) ra2.1 ra2.2 (by decide) (by decide)) dX12_read_259 (by decide) (fun c7 => ?_) (fun c7 => ?_)
                · refine m_aload_n (j := 1) C dX12_read_274 rfl ?_
                  refine m_get (k := 53) C dX12_read_275 w6_112 (by decide) rfl ?_
                  refine m_st (st2 := [.int (iI (vh3 53))]) rfl ?_
                  refine m_if_le (tgt := 297) C (r32_c (lo := 0) (hi := 40200) rv3.1 rv3.2 (by decide) (by decide)) dX12_read_278 (by decide) (fun c8 => ?_) (fun c8 => ?_)
                  · refine m_iconst C dX12_read_297 ?_
                    obtain ⟨zz3, hzz3, ezz3⟩ := iI_of (iI 0)
                    refine m_st (st2 := [.int (iI zz3)]) (by rw [ezz3]) ?_
                    refine m_istore (lv2 := [(5, .int (iI zz3)), (4, .int (iI f3)), (0, .ref h0), (1, .int (iI t)), (2, .int (iI q)), (3, .int (iI n1))]) C dX12_read_298 (by decide) rfl ?_
                    refine m_aload_n (j := 2) C dX12_read_300 rfl ?_
                    refine m_iload (j := 1) C dX12_read_301 rfl ?_
                    refine m_iload (j := 0) C dX12_read_303 rfl ?_
                    refine m_call (mc2 := 0) (ms2 := 0) (As := [.int (iI f3), .int (iI zz3)]) (rest := []) C (B_badAt (x := f3) (y := zz3) bq2 (by show -2147483648 ≤ f3 ∧ f3 ≤ 2147483647; omega) (by show -2147483648 ≤ zz3 ∧ zz3 ≤ 2147483647; omega)) dX12_read_305 kV_X12_240 rfl ck_13 rfl (Nat.le_of_ble_eq_true rfl) ⟨Nat.le_of_ble_eq_true rfl, Nat.le_of_ble_eq_true rfl⟩ ⟨Nat.le_of_ble_eq_true rfl, Nat.le_of_ble_eq_true rfl⟩ (fun rh6 vh6 ah6 h6 => ?_)
                    obtain ⟨f6, rfl, fn6, bn6, ex6⟩ := h6
                    refine hv3 (fq5.call fn6 rfl rfl) (show RWS ah6 from RWS.fr pw2 fn6 rfl) (show f6 = -1 from ex6) (fun fq8 pw5 gf6 => ?_)
                    refine m_st (st2 := [.int (iI f6)]) rfl ?_
                    refine hv2 (show 0 ≤ vh6 52 ∧ vh6 52 ≤ 4000 from bn6.1 52) (show vh6 52 = 0 from fn6.1 52 rfl) (fun rv7 ve6 => ?_)
                    exact m_iret C dX12_read_308 rfl (Nat.le_of_ble_eq_true rfl) (Nat.le_of_ble_eq_true rfl) ⟨f6, rfl, fq8, bn6, ⟨pw5, RDR.fin hT (by
                        have en : k = n1 := by omega
                        subst en
                        exact hD2) (tl1.mp (by omega)) (by omega) fpb1 rfl tl2 fn2 rfl rx1 (Or.inr ⟨by omega, by omega, by show (vh6 52) = 0; omega⟩)⟩⟩
                  · refine m_aload_n (j := 1) C dX12_read_281 rfl ?_
                    refine m_geta (k := 49) C dX12_read_282 w6_108 (by decide) rfl ?_
                    refine m_aload_n (j := 1) C dX12_read_285 rfl ?_
                    refine m_get (k := 53) C dX12_read_286 w6_112 (by decide) rfl ?_
                    refine m_st (st2 := [.int (iI (vh3 53)), .ref (ad 49)]) rfl ?_
                    refine m_iconst C dX12_read_289 ?_
                    refine m_isub C dX12_read_290 ?_
                    refine m_ald (k := 49) C dX12_read_291 rfl rfl (by decide) (by omega) (by show _ < ((_ : Nat) : Int); simp only [mlen]; omega) (by decide) ?_
                    refine hv3 (show (-2147483648) ≤ ah3 49 ((vh3 53) - 1).toNat ∧ ah3 49 ((vh3 53) - 1).toNat ≤ 2147483647 from bq2.2 49 (((vh3 53) - 1).toNat)) (show ah3 49 (((vh3 53) - 1).toNat) = ah2 49 (((vh3 53) - 1).toNat) from congrFun (fn3.2 49 rfl) (((vh3 53) - 1).toNat)) (show ah2 49 (((vh3 53) - 1).toNat) = ab1 49 (((vh3 53) - 1).toNat) from congrFun (fn2.2 49 rfl) (((vh3 53) - 1).toNat)) (fun ra3 ae5 ae6 => ?_)
                    refine m_iconst C dX12_read_292 ?_
                    refine m_iadd C dX12_read_293 ?_
                    refine m_goto (tgt := 298) C dX12_read_294 (by decide) ?_
                    obtain ⟨zz4, hzz4, ezz4⟩ := iI_of (iI ((ah3 49 ((vh3 53) - 1).toNat) + 1))
                    refine m_st (st2 := [.int (iI zz4)]) (by rw [ezz4]) ?_
                    refine m_istore (lv2 := [(5, .int (iI zz4)), (4, .int (iI f3)), (0, .ref h0), (1, .int (iI t)), (2, .int (iI q)), (3, .int (iI n1))]) C dX12_read_298 (by decide) rfl ?_
                    refine m_aload_n (j := 2) C dX12_read_300 rfl ?_
                    refine m_iload (j := 1) C dX12_read_301 rfl ?_
                    refine m_iload (j := 0) C dX12_read_303 rfl ?_
                    refine m_call (mc2 := 0) (ms2 := 0) (As := [.int (iI f3), .int (iI zz4)]) (rest := []) C (B_badAt (x := f3) (y := zz4) bq2 (by show -2147483648 ≤ f3 ∧ f3 ≤ 2147483647; omega) (by show -2147483648 ≤ zz4 ∧ zz4 ≤ 2147483647; omega)) dX12_read_305 kV_X12_240 rfl ck_13 rfl (Nat.le_of_ble_eq_true rfl) ⟨Nat.le_of_ble_eq_true rfl, Nat.le_of_ble_eq_true rfl⟩ ⟨Nat.le_of_ble_eq_true rfl, Nat.le_of_ble_eq_true rfl⟩ (fun rh7 vh7 ah7 h7 => ?_)
                    obtain ⟨f7, rfl, fn7, bn7, ex7⟩ := h7
                    refine hv3 (fq5.call fn7 rfl rfl) (show RWS ah7 from RWS.fr pw2 fn7 rfl) (show f7 = -1 from ex7) (fun fq9 pw6 gf7 => ?_)
                    refine m_st (st2 := [.int (iI f7)]) rfl ?_
                    refine hv2 (show 0 ≤ vh7 52 ∧ vh7 52 ≤ 4000 from bn7.1 52) (show vh7 52 = 0 from fn7.1 52 rfl) (fun rv8 ve7 => ?_)
                    exact m_iret C dX12_read_308 rfl (Nat.le_of_ble_eq_true rfl) (Nat.le_of_ble_eq_true rfl) ⟨f7, rfl, fq9, bn7, ⟨pw6, RDR.fin hT (by
                        have en : k = n1 := by omega
                        subst en
                        exact hD2) (tl1.mp (by omega)) (by omega) fpb1 rfl tl2 fn2 rfl rx1 (Or.inr ⟨by omega, by omega, by show (vh7 52) = 0; omega⟩)⟩⟩
                · refine m_aload_n (j := 1) C dX12_read_262 rfl ?_
                  refine m_geta (k := 49) C dX12_read_263 w6_108 (by decide) rfl ?_
                  refine m_aload_n (j := 1) C dX12_read_266 rfl ?_
                  refine m_get (k := 53) C dX12_read_267 w6_112 (by decide) rfl ?_
                  refine m_st (st2 := [.int (iI (vh3 53)), .ref (ad 49)]) rfl ?_
                  refine m_ald (k := 49) C dX12_read_270 rfl rfl (by decide) (by omega) (by show _ < ((_ : Nat) : Int); simp only [mlen]; omega) (by decide) ?_
                  refine hv3 (show (-2147483648) ≤ ah3 49 (vh3 53).toNat ∧ ah3 49 (vh3 53).toNat ≤ 2147483647 from bq2.2 49 ((vh3 53).toNat)) (show ah3 49 ((vh3 53).toNat) = ah2 49 ((vh3 53).toNat) from congrFun (fn3.2 49 rfl) ((vh3 53).toNat)) (show ah2 49 ((vh3 53).toNat) = ab1 49 ((vh3 53).toNat) from congrFun (fn2.2 49 rfl) ((vh3 53).toNat)) (fun ra4 ae7 ae8 => ?_)
                  refine m_goto (tgt := 298) C dX12_read_271 (by decide) ?_
                  obtain ⟨zz5, hzz5, ezz5⟩ := iI_of (iI (ah3 49 (vh3 53).toNat))
                  refine m_st (st2 := [.int (iI zz5)]) (by rw [ezz5]) ?_
                  refine m_istore (lv2 := [(5, .int (iI zz5)), (4, .int (iI f3)), (0, .ref h0), (1, .int (iI t)), (2, .int (iI q)), (3, .int (iI n1))]) C dX12_read_298 (by decide) rfl ?_
                  refine m_aload_n (j := 2) C dX12_read_300 rfl ?_
                  refine m_iload (j := 1) C dX12_read_301 rfl ?_
                  refine m_iload (j := 0) C dX12_read_303 rfl ?_
                  refine m_call (mc2 := 0) (ms2 := 0) (As := [.int (iI f3), .int (iI zz5)]) (rest := []) C (B_badAt (x := f3) (y := zz5) bq2 (by show -2147483648 ≤ f3 ∧ f3 ≤ 2147483647; omega) (by show -2147483648 ≤ zz5 ∧ zz5 ≤ 2147483647; omega)) dX12_read_305 kV_X12_240 rfl ck_13 rfl (Nat.le_of_ble_eq_true rfl) ⟨Nat.le_of_ble_eq_true rfl, Nat.le_of_ble_eq_true rfl⟩ ⟨Nat.le_of_ble_eq_true rfl, Nat.le_of_ble_eq_true rfl⟩ (fun rh8 vh8 ah8 h8 => ?_)
                  obtain ⟨f8, rfl, fn8, bn8, ex8⟩ := h8
                  refine hv3 (fq5.call fn8 rfl rfl) (show RWS ah8 from RWS.fr pw2 fn8 rfl) (show f8 = -1 from ex8) (fun fq10 pw7 gf8 => ?_)
                  refine m_st (st2 := [.int (iI f8)]) rfl ?_
                  refine hv2 (show 0 ≤ vh8 52 ∧ vh8 52 ≤ 4000 from bn8.1 52) (show vh8 52 = 0 from fn8.1 52 rfl) (fun rv9 ve8 => ?_)
                  exact m_iret C dX12_read_308 rfl (Nat.le_of_ble_eq_true rfl) (Nat.le_of_ble_eq_true rfl) ⟨f8, rfl, fq10, bn8, ⟨pw7, RDR.fin hT (by
                      have en : k = n1 := by omega
                      subst en
                      exact hD2) (tl1.mp (by omega)) (by omega) fpb1 rfl tl2 fn2 rfl rx1 (Or.inr ⟨by omega, by omega, by show (vh8 52) = 0; omega⟩)⟩⟩
            · clear gf3
              refine m_aload_n (j := 1) C dX12_read_225 rfl ?_
              refine m_aload_n (j := 1) C dX12_read_226 rfl ?_
              have rv10 : 0 ≤ vh3 52 ∧ vh3 52 ≤ 4000 := bn3.1 52
              refine m_get (k := 52) C dX12_read_227 w6_111 (by decide) rfl ?_
              refine m_call (mc2 := 0) (ms2 := 0) (As := [.int (iI (vh3 52))]) (rest := []) C (B_fine (x := vh3 52) bn3 (by show -2147483648 ≤ (vh3 52) ∧ (vh3 52) ≤ 2147483647; omega)) dX12_read_230 kV_X12_158 rfl ck_13 rfl (Nat.le_of_ble_eq_true rfl) ⟨Nat.le_of_ble_eq_true rfl, Nat.le_of_ble_eq_true rfl⟩ ⟨Nat.le_of_ble_eq_true rfl, Nat.le_of_ble_eq_true rfl⟩ (fun rh9 vh9 ah9 h9 => ?_)
              obtain ⟨f9, rfl, fn9, bn9, ex9⟩ := h9
              refine hv3 (fq4.call fn9 rfl rfl) (show RWS ah9 from RWS.fr pw2 fn9 rfl) (show f9 = (vh3 52) from ex9) (fun fq11 pw8 gf9 => ?_)
              refine m_st (st2 := [.int (iI f9)]) rfl ?_
              have r51 : 0 ≤ vh3 52 ∧ vh3 52 ≤ 4000 := bn3.1 52
              exact m_iret C dX12_read_233 rfl (Nat.le_of_ble_eq_true rfl) (Nat.le_of_ble_eq_true rfl) ⟨f9, rfl, fq11, bn9, ⟨pw8, RDR.fin hT (by
                  have en : k = n1 := by omega
                  subst en
                  exact hD2) (tl1.mp (by omega)) (by omega) fpb1 rfl tl2 fn2 rfl rx1 (Or.inl ⟨by omega, by omega, by omega, fn9.1 52 rfl, fn9.2 51 rfl⟩)⟩⟩
          · refine m_iload_n (j := 3) C dX12_read_38 rfl ?_
            refine m_i2l (w := lI q) C dX12_read_39 (lI_of ⟨by omega, by omega⟩) ?_
            refine m_iload (j := 0) C dX12_read_40 rfl ?_
            refine m_i2l (w := lI k) C dX12_read_42 (lI_of ⟨by omega, by omega⟩) ?_
            refine m_ladd (w := lI (q + k)) C dX12_read_43 (lI_add _ _) ?_
            refine m_lstore (lv2 := [(5, .long (lI (q + k))), (4, .int (iI k)), (0, .ref h0), (1, .int (iI t)), (2, .int (iI q)), (3, .int (iI n1))]) C dX12_read_44 (by decide) rfl ?_
            refine m_lload (j := 0) C dX12_read_46 rfl ?_
            refine m_lconst (w := lI 0) C dX12_read_48 rfl ?_
            obtain ⟨lc1, hlc1, elc1⟩ := lcmp_c (x := (q + k)) (y := 0) ⟨by omega, by omega⟩ ⟨by omega, by omega⟩
            refine m_lcmp (w := iI lc1) C dX12_read_49 elc1 ?_
            have J1 : ∀ (y : Int) (vb2 : Nat → Int) (ab2 : Nat → Nat → Int), BX vb2 ab2 → fr [0, 1, 50, 52, 53] [44, 45, 46, 47, 48, 49, 51] v a vb2 ab2 → ((y = -1 ∧ ¬ (0 ≤ q + k ∧ q + k < v 36)) ∨ (y = q + k ∧ 0 ≤ y ∧ y < v 36)) → (vb2 50 ≤ 201 * k) → (RWS ab2) → (RD2 v a vb2 ab2 q k) → (vb2 52 = v 52 ∧ ab2 51 = a 51) → mw p l e (rmq 36 0 0) s m args below meth c G A 11 (MQ below (Qm G A (fun rq Lq Eq => ∃ (vq : Nat → Int) (aq : Nat → Nat → Int), mI G h0 ad ln vq aq Lq Eq ∧ (fun r v2 a2 => ∃ f : Int, r = some (.int (iI f)) ∧ fr [0, 1, 50, 52, 53] [44, 45, 46, 47, 48, 49, 51] v a v2 a2 ∧ BX v2 a2 ∧ (RWS a2 ∧ RDR v a v2 a2 t q n1 f)) rq vq aq)) args s 0 0 A) h0 ad ln vb2 ab2 0 0 71 [(5, .long (lI (q + k))), (4, .int (iI k)), (0, .ref h0), (1, .int (iI t)), (2, .int (iI q)), (3, .int (iI n1))] [.int (iI y)] := by
              intro y vb2 ab2 bxb2 fpb2 hy h501 hW2 hD71 hK71
              refine m_istore (lv2 := [(7, .int (iI y)), (5, .long (lI (q + k))), (4, .int (iI k)), (0, .ref h0), (1, .int (iI t)), (2, .int (iI q)), (3, .int (iI n1))]) C dX12_read_71 (by decide) rfl ?_
              refine m_aload_n (j := 3) C dX12_read_73 rfl ?_
              refine m_iload (j := 0) C dX12_read_74 rfl ?_
              refine hv2 (show 0 ≤ vb2 36 ∧ vb2 36 ≤ 200 from bxb2.1 36) (show vb2 36 = v 36 from fpb2.1 36 rfl) (fun rv11 ve9 => ?_)
              refine m_call (mc2 := 0) (ms2 := 0) (As := [.int (iI y)]) (rest := []) C (M_lineFault (l0 := y) bxb2.rg ⟨by omega, by omega⟩ ⟨bxb2.1 36, bxb2.2 34⟩) dX12_read_76 kV_X12_294 rfl ck_13 rfl (Nat.le_of_ble_eq_true rfl) ⟨Nat.le_of_ble_eq_true rfl, Nat.le_of_ble_eq_true rfl⟩ ⟨Nat.le_of_ble_eq_true rfl, Nat.le_of_ble_eq_true rfl⟩ (fun rh10 vh10 ah10 h10 => ?_)
              obtain ⟨f10, rfl, hf10, rfl, rfl⟩ := h10
              refine hv3 (show (f10 = 2 ∧ ¬ (0 ≤ y ∧ y < (vb2 36))) ∨ (f10 = 1 ∧ 0 ≤ y ∧ y < (vb2 36) ∧ ab2 34 y.toNat < 0) ∨ (f10 = 0 ∧ 0 ≤ y ∧ y < (vb2 36) ∧ 0 ≤ ab2 34 y.toNat) from hf10) (show (-1) ≤ ab2 34 y.toNat ∧ ab2 34 y.toNat ≤ 200 from bxb2.2 34 (y.toNat)) (show ab2 34 (y.toNat) = a 34 (y.toNat) from congrFun (fpb2.2 34 rfl) (y.toNat)) (fun gf10 ra5 ae9 => ?_)
              refine m_st (st2 := [.int (iI f10)]) rfl ?_
              refine m_if_le (tgt := 93) C ⟨by omega, by omega⟩ dX12_read_79 (by decide) (fun c9 => ?_) (fun c9 => ?_)
              · refine m_aload_n (j := 3) C dX12_read_93 rfl ?_
                refine m_geta (k := 34) C dX12_read_94 w6_93 (by decide) rfl ?_
                refine m_iload (j := 0) C dX12_read_97 rfl ?_
                refine m_ald (k := 34) C dX12_read_99 rfl rfl (by decide) (by omega) (by show _ < ((_ : Nat) : Int); simp only [mlen]; omega) (by decide) ?_
                refine m_st (st2 := [.int (iI (a 34 y.toNat))]) (congrArg (fun z => Value.int (iI z) :: []) (congrFun (fpb2.2 34 rfl) (y.toNat))) ?_
                refine m_istore (lv2 := [(8, .int (iI (a 34 y.toNat))), (7, .int (iI y)), (5, .long (lI (q + k))), (4, .int (iI k)), (0, .ref h0), (1, .int (iI t)), (2, .int (iI q)), (3, .int (iI n1))]) C dX12_read_100 (by decide) rfl ?_
                refine m_iload (j := 0) C dX12_read_102 rfl ?_
                have J2 : ∀ (g : Int) (vb3 : Nat → Int) (ab3 : Nat → Nat → Int), BX vb3 ab3 → fr [0, 1, 50, 52, 53] [44, 45, 46, 47, 48, 49, 51] v a vb3 ab3 → ((g = 1 ∧ 0 < a 34 y.toNat ∧ a 35 (200 * y + a 34 y.toNat - 1).toNat = v 33) ∨ (g = 0 ∧ ¬ (0 < a 34 y.toNat ∧ a 35 (200 * y + a 34 y.toNat - 1).toNat = v 33))) → (vb3 50 ≤ 201 * k) → (RWS ab3) → (RD2 v a vb3 ab3 q k) → (vb3 52 = v 52 ∧ ab3 51 = a 51) → mw p l e (rmq 36 0 0) s m args below meth c G A 11 (MQ below (Qm G A (fun rq Lq Eq => ∃ (vq : Nat → Int) (aq : Nat → Nat → Int), mI G h0 ad ln vq aq Lq Eq ∧ (fun r v2 a2 => ∃ f : Int, r = some (.int (iI f)) ∧ fr [0, 1, 50, 52, 53] [44, 45, 46, 47, 48, 49, 51] v a v2 a2 ∧ BX v2 a2 ∧ (RWS a2 ∧ RDR v a v2 a2 t q n1 f)) rq vq aq)) args s 0 0 A) h0 ad ln vb3 ab3 0 0 135 [(8, .int (iI (a 34 y.toNat))), (7, .int (iI y)), (5, .long (lI (q + k))), (4, .int (iI k)), (0, .ref h0), (1, .int (iI t)), (2, .int (iI q)), (3, .int (iI n1))] [.int (iI g)] := by
                  intro g vb3 ab3 bxb3 fpb3 hg h502 hW3 hD135 hK135
                  refine m_istore (lv2 := [(9, .int (iI g)), (8, .int (iI (a 34 y.toNat))), (7, .int (iI y)), (5, .long (lI (q + k))), (4, .int (iI k)), (0, .ref h0), (1, .int (iI t)), (2, .int (iI q)), (3, .int (iI n1))]) C dX12_read_135 (by decide) rfl ?_
                  refine m_iconst C dX12_read_137 ?_
                  refine m_istore (lv2 := [(10, .int (iI 0)), (9, .int (iI g)), (8, .int (iI (a 34 y.toNat))), (7, .int (iI y)), (5, .long (lI (q + k))), (4, .int (iI k)), (0, .ref h0), (1, .int (iI t)), (2, .int (iI q)), (3, .int (iI n1))]) C dX12_read_138 (by decide) rfl ?_
                  have Lp2 : ∀ (nn : Nat) (i1 : Int) (vb4 : Nat → Int) (ab4 : Nat → Nat → Int), 201 - i1 < (nn : Int) → BX vb4 ab4 → fr [0, 1, 50, 52, 53] [44, 45, 46, 47, 48, 49, 51] v a vb4 ab4 → (0 ≤ i1 ∧ i1 ≤ a 34 y.toNat ∧ (g = 1 → i1 ≤ a 34 y.toNat - 1)) → (vb4 50 ≤ 201 * k + i1) → (RWS ab4) → (RD3 v a vb4 ab4 q k i1 g) → (vb4 52 = v 52 ∧ ab4 51 = a 51) → mw p l e (rmq 36 0 0) s m args below meth c G A 11 (MQ below (Qm G A (fun rq Lq Eq => ∃ (vq : Nat → Int) (aq : Nat → Nat → Int), mI G h0 ad ln vq aq Lq Eq ∧ (fun r v2 a2 => ∃ f : Int, r = some (.int (iI f)) ∧ fr [0, 1, 50, 52, 53] [44, 45, 46, 47, 48, 49, 51] v a v2 a2 ∧ BX v2 a2 ∧ (RWS a2 ∧ RDR v a v2 a2 t q n1 f)) rq vq aq)) args s 0 0 A) h0 ad ln vb4 ab4 0 0 140 [(10, .int (iI i1)), (9, .int (iI g)), (8, .int (iI (a 34 y.toNat))), (7, .int (iI y)), (5, .long (lI (q + k))), (4, .int (iI k)), (0, .ref h0), (1, .int (iI t)), (2, .int (iI q)), (3, .int (iI n1))] [] := by
                    intro nn
                    induction nn with
                    | zero =>
                      intro i1 vb4 ab4 hm bxb4 fpb4 hi h503 hW4 hJ hK140
                      exact absurd hm (by omega)
                    | succ nn ih2 =>
                      intro i1 vb4 ab4 hm bxb4 fpb4 hi h503 hW4 hJ hK140
                      refine m_iload (j := 0) C dX12_read_140 rfl ?_
                      refine m_iload (j := 1) C dX12_read_142 rfl ?_
                      refine m_if_eq (tgt := 154) C ⟨by omega, by omega⟩ dX12_read_144 (by decide) (fun c10 => ?_) (fun c10 => ?_)
                      · replace hg := (hg.resolve_left (fun q => absurd (q.1.symm.trans c10) (by decide)))
                        refine m_iload (j := 2) C dX12_read_154 rfl ?_
                        refine m_icmp_ge (tgt := 192) C ⟨by omega, by omega⟩ ⟨by omega, by omega⟩ dX12_read_156 (by decide) (fun c11 => ?_) (fun c11 => ?_)
                        · refine m_iload (j := 1) C dX12_read_192 rfl ?_
                          refine m_if_ne (tgt := 203) C ⟨by omega, by omega⟩ dX12_read_194 (by decide) (fun z => absurd z (by omega)) (fun _ => ?_)
                          refine m_aload_n (j := 6) C dX12_read_197 rfl ?_
                          refine m_iconst C dX12_read_198 ?_
                          refine m_iconst C dX12_read_199 ?_
                          have rv12 : 0 ≤ vb4 50 ∧ vb4 50 ≤ 40200 := bxb4.1 50
                          refine m_call (mc2 := 0) (ms2 := 0) (As := [.int (iI 0), .int (iI 0)]) (rest := []) C (E_putRow (x := 0) (y := 0) bxb4 (by omega) (by omega) (by show (vb4 50) < 40200; omega)) dX12_read_200 kV_X12_351 rfl ck_13 rfl (Nat.le_of_ble_eq_true rfl) ⟨Nat.le_of_ble_eq_true rfl, Nat.le_of_ble_eq_true rfl⟩ ⟨Nat.le_of_ble_eq_true rfl, Nat.le_of_ble_eq_true rfl⟩ (fun rh11 vh11 ah11 h11 => ?_)
                          obtain ⟨rfl, fn10, bn10, ex10, pr1⟩ := h11
                          refine hv3 (fpb4.call fn10 rfl rfl) (show RWS ah11 from RWS.fr hW4 fn10 rfl) (show vh11 50 = (vb4 50) + 1 from ex10) (fun fq12 pw9 gfn10 => ?_)
                          refine m_st (st2 := []) rfl ?_
                          refine m_iinc (z := k) (j := 5) (lv2 := [(4, .int (iI (k + 1))), (10, .int (iI i1)), (9, .int (iI g)), (8, .int (iI (a 34 y.toNat))), (7, .int (iI y)), (5, .long (lI (q + k))), (0, .ref h0), (1, .int (iI t)), (2, .int (iI q)), (3, .int (iI n1))]) C dX12_read_203 rfl (by decide) rfl ?_
                          refine m_goto (tgt := 32) C dX12_read_206 (by decide) ?_
                          refine hv3 (show 0 ≤ vh11 50 ∧ vh11 50 ≤ 40200 from bn10.1 50) (show 0 ≤ vh11 52 ∧ vh11 52 ≤ 4000 from bn10.1 52) (show vh11 52 = vb4 52 from fn10.1 52 rfl) (fun rv13 rv14 ve10 => ?_)
                          refine m_lv (lv2 := [(4, .int (iI (k + 1))), (0, .ref h0), (1, .int (iI t)), (2, .int (iI q)), (3, .int (iI n1))]) [0, 6, 7, 8, 9] rfl ?_
                          exact ih1  (k + 1) _ _ (by omega) bn10 fq12 (by omega) (by omega) (by show (vh11 50) ≤ 201 * (k + 1); omega) pw9 (by
                              have ey : y = q + k := by omega
                              subst ey
                              exact hJ.endb ⟨by omega, by omega⟩ (by omega) (by omega) (by omega) ex10 pr1) ⟨by show (vh11 52) = v 52; have q := hK140.1; omega, (Eq.trans (show ah11 51 = ab4 51 from fn10.2 51 rfl) hK140.2)⟩
                        · refine m_aload_n (j := 6) C dX12_read_159 rfl ?_
                          refine m_aload_n (j := 6) C dX12_read_160 rfl ?_
                          refine m_geta (k := 35) C dX12_read_161 w6_94 (by decide) rfl ?_
                          refine m_sipush (z := 200) C dX12_read_164 (by decide) ?_
                          refine m_iload (j := 3) C dX12_read_167 rfl ?_
                          refine m_imul C dX12_read_169 ?_
                          refine m_iload (j := 0) C dX12_read_170 rfl ?_
                          refine m_iadd C dX12_read_172 ?_
                          refine m_ald (k := 35) C dX12_read_173 rfl rfl (by decide) (by omega) (by show _ < ((_ : Nat) : Int); simp only [mlen]; omega) (by decide) ?_
                          refine hv2 (show (-2147483648) ≤ ab4 35 ((200 * y) + i1).toNat ∧ ab4 35 ((200 * y) + i1).toNat ≤ 2147483647 from bxb4.2 35 (((200 * y) + i1).toNat)) (show ab4 35 (((200 * y) + i1).toNat) = a 35 (((200 * y) + i1).toNat) from congrFun (fpb4.2 35 rfl) (((200 * y) + i1).toNat)) (fun ra6 ae10 => ?_)
                          refine m_st (st2 := [.int (iI (a 35 ((200 * y) + i1).toNat)), .ref h0]) (congrArg (fun z => Value.int (iI z) :: [.ref h0]) (congrFun (fpb4.2 35 rfl) (((200 * y) + i1).toNat))) ?_
                          refine m_sipush (z := 1000) C dX12_read_174 (by decide) ?_
                          refine m_iload (j := 3) C dX12_read_177 rfl ?_
                          refine m_imul C dX12_read_179 ?_
                          refine m_iload (j := 0) C dX12_read_180 rfl ?_
                          refine m_iadd C dX12_read_182 ?_
                          have rv15 : 0 ≤ vb4 50 ∧ vb4 50 ≤ 40200 := bxb4.1 50
                          refine m_call (mc2 := 0) (ms2 := 0) (As := [.int (iI (a 35 ((200 * y) + i1).toNat)), .int (iI ((1000 * y) + i1))]) (rest := []) C (E_putRow (x := a 35 ((200 * y) + i1).toNat) (y := (1000 * y) + i1) bxb4 (by omega) (by omega) (by show (vb4 50) < 40200; omega)) dX12_read_183 kV_X12_351 rfl ck_13 rfl (Nat.le_of_ble_eq_true rfl) ⟨Nat.le_of_ble_eq_true rfl, Nat.le_of_ble_eq_true rfl⟩ ⟨Nat.le_of_ble_eq_true rfl, Nat.le_of_ble_eq_true rfl⟩ (fun rh12 vh12 ah12 h12 => ?_)
                          obtain ⟨rfl, fn11, bn11, ex11, pr2⟩ := h12
                          refine hv3 (fpb4.call fn11 rfl rfl) (show RWS ah12 from RWS.fr hW4 fn11 rfl) (show vh12 50 = (vb4 50) + 1 from ex11) (fun fq13 pw10 gfn11 => ?_)
                          refine m_st (st2 := []) rfl ?_
                          refine m_iinc (z := i1) (j := 0) (lv2 := [(10, .int (iI (i1 + 1))), (9, .int (iI g)), (8, .int (iI (a 34 y.toNat))), (7, .int (iI y)), (5, .long (lI (q + k))), (4, .int (iI k)), (0, .ref h0), (1, .int (iI t)), (2, .int (iI q)), (3, .int (iI n1))]) C dX12_read_186 rfl (by decide) rfl ?_
                          refine m_goto (tgt := 140) C dX12_read_189 (by decide) ?_
                          refine hv3 (show 0 ≤ vh12 50 ∧ vh12 50 ≤ 40200 from bn11.1 50) (show 0 ≤ vh12 52 ∧ vh12 52 ≤ 4000 from bn11.1 52) (show vh12 52 = vb4 52 from fn11.1 52 rfl) (fun rv16 rv17 ve11 => ?_)
                          refine m_lv (lv2 := [(10, .int (iI (i1 + 1))), (9, .int (iI g)), (8, .int (iI (a 34 y.toNat))), (7, .int (iI y)), (5, .long (lI (q + k))), (4, .int (iI k)), (0, .ref h0), (1, .int (iI t)), (2, .int (iI q)), (3, .int (iI n1))]) [0, 1, 2, 3, 4, 5, 6, 7, 8, 9] rfl ?_
                          exact ih2  (i1 + 1) _ _ (by omega) bn11 fq13 (by omega) (by show (vh12 50) ≤ 201 * k + (i1 + 1); omega) pw10 (by
                              have ey : y = q + k := by omega
                              subst ey
                              exact hJ.cell ⟨by omega, by omega⟩ ⟨by omega, by omega⟩ rfl ex11 pr2) ⟨by show (vh12 52) = v 52; have q := hK140.1; omega, (Eq.trans (show ah12 51 = ab4 51 from fn11.2 51 rfl) hK140.2)⟩
                      · replace hg := (hg.resolve_right (fun q => c10 q.1))
                        refine m_iload (j := 2) C dX12_read_147 rfl ?_
                        refine m_iconst C dX12_read_149 ?_
                        refine m_isub C dX12_read_150 ?_
                        refine m_goto (tgt := 156) C dX12_read_151 (by decide) ?_
                        refine m_icmp_ge (tgt := 192) C ⟨by omega, by omega⟩ ⟨by omega, by omega⟩ dX12_read_156 (by decide) (fun c12 => ?_) (fun c12 => ?_)
                        · refine m_iload (j := 1) C dX12_read_192 rfl ?_
                          refine m_if_ne (tgt := 203) C ⟨by omega, by omega⟩ dX12_read_194 (by decide) (fun _ => ?_) (fun z => absurd z (by omega))
                          refine m_iinc (z := k) (j := 5) (lv2 := [(4, .int (iI (k + 1))), (10, .int (iI i1)), (9, .int (iI g)), (8, .int (iI (a 34 y.toNat))), (7, .int (iI y)), (5, .long (lI (q + k))), (0, .ref h0), (1, .int (iI t)), (2, .int (iI q)), (3, .int (iI n1))]) C dX12_read_203 rfl (by decide) rfl ?_
                          refine m_goto (tgt := 32) C dX12_read_206 (by decide) ?_
                          refine hv2 (show 0 ≤ vb4 50 ∧ vb4 50 ≤ 40200 from bxb4.1 50) (show 0 ≤ vb4 52 ∧ vb4 52 ≤ 4000 from bxb4.1 52) (fun rv18 rv19 => ?_)
                          refine m_lv (lv2 := [(4, .int (iI (k + 1))), (0, .ref h0), (1, .int (iI t)), (2, .int (iI q)), (3, .int (iI n1))]) [0, 6, 7, 8, 9] rfl ?_
                          exact ih1  (k + 1) _ _ (by omega) bxb4 fpb4 (by omega) (by omega) (by show (vb4 50) ≤ 201 * (k + 1); omega) hW4 (by
                              have ey : y = q + k := by omega
                              subst ey
                              exact hJ.endg ⟨by omega, by omega⟩ (by omega) (by omega) (by omega)) ⟨by show (vb4 52) = v 52; have q := hK140.1; omega, hK140.2⟩
                        · refine m_aload_n (j := 6) C dX12_read_159 rfl ?_
                          refine m_aload_n (j := 6) C dX12_read_160 rfl ?_
                          refine m_geta (k := 35) C dX12_read_161 w6_94 (by decide) rfl ?_
                          refine m_sipush (z := 200) C dX12_read_164 (by decide) ?_
                          refine m_iload (j := 3) C dX12_read_167 rfl ?_
                          refine m_imul C dX12_read_169 ?_
                          refine m_iload (j := 0) C dX12_read_170 rfl ?_
                          refine m_iadd C dX12_read_172 ?_
                          refine m_ald (k := 35) C dX12_read_173 rfl rfl (by decide) (by omega) (by show _ < ((_ : Nat) : Int); simp only [mlen]; omega) (by decide) ?_
                          refine hv2 (show (-2147483648) ≤ ab4 35 ((200 * y) + i1).toNat ∧ ab4 35 ((200 * y) + i1).toNat ≤ 2147483647 from bxb4.2 35 (((200 * y) + i1).toNat)) (show ab4 35 (((200 * y) + i1).toNat) = a 35 (((200 * y) + i1).toNat) from congrFun (fpb4.2 35 rfl) (((200 * y) + i1).toNat)) (fun ra7 ae11 => ?_)
                          refine m_st (st2 := [.int (iI (a 35 ((200 * y) + i1).toNat)), .ref h0]) (congrArg (fun z => Value.int (iI z) :: [.ref h0]) (congrFun (fpb4.2 35 rfl) (((200 * y) + i1).toNat))) ?_
                          refine m_sipush (z := 1000) C dX12_read_174 (by decide) ?_
                          refine m_iload (j := 3) C dX12_read_177 rfl ?_
                          refine m_imul C dX12_read_179 ?_
                          refine m_iload (j := 0) C dX12_read_180 rfl ?_
                          refine m_iadd C dX12_read_182 ?_
                          have rv20 : 0 ≤ vb4 50 ∧ vb4 50 ≤ 40200 := bxb4.1 50
                          refine m_call (mc2 := 0) (ms2 := 0) (As := [.int (iI (a 35 ((200 * y) + i1).toNat)), .int (iI ((1000 * y) + i1))]) (rest := []) C (E_putRow (x := a 35 ((200 * y) + i1).toNat) (y := (1000 * y) + i1) bxb4 (by omega) (by omega) (by show (vb4 50) < 40200; omega)) dX12_read_183 kV_X12_351 rfl ck_13 rfl (Nat.le_of_ble_eq_true rfl) ⟨Nat.le_of_ble_eq_true rfl, Nat.le_of_ble_eq_true rfl⟩ ⟨Nat.le_of_ble_eq_true rfl, Nat.le_of_ble_eq_true rfl⟩ (fun rh13 vh13 ah13 h13 => ?_)
                          obtain ⟨rfl, fn12, bn12, ex12, pr3⟩ := h13
                          refine hv3 (fpb4.call fn12 rfl rfl) (show RWS ah13 from RWS.fr hW4 fn12 rfl) (show vh13 50 = (vb4 50) + 1 from ex12) (fun fq14 pw11 gfn12 => ?_)
                          refine m_st (st2 := []) rfl ?_
                          refine m_iinc (z := i1) (j := 0) (lv2 := [(10, .int (iI (i1 + 1))), (9, .int (iI g)), (8, .int (iI (a 34 y.toNat))), (7, .int (iI y)), (5, .long (lI (q + k))), (4, .int (iI k)), (0, .ref h0), (1, .int (iI t)), (2, .int (iI q)), (3, .int (iI n1))]) C dX12_read_186 rfl (by decide) rfl ?_
                          refine m_goto (tgt := 140) C dX12_read_189 (by decide) ?_
                          refine hv3 (show 0 ≤ vh13 50 ∧ vh13 50 ≤ 40200 from bn12.1 50) (show 0 ≤ vh13 52 ∧ vh13 52 ≤ 4000 from bn12.1 52) (show vh13 52 = vb4 52 from fn12.1 52 rfl) (fun rv21 rv22 ve12 => ?_)
                          refine m_lv (lv2 := [(10, .int (iI (i1 + 1))), (9, .int (iI g)), (8, .int (iI (a 34 y.toNat))), (7, .int (iI y)), (5, .long (lI (q + k))), (4, .int (iI k)), (0, .ref h0), (1, .int (iI t)), (2, .int (iI q)), (3, .int (iI n1))]) [0, 1, 2, 3, 4, 5, 6, 7, 8, 9] rfl ?_
                          exact ih2  (i1 + 1) _ _ (by omega) bn12 fq14 (by omega) (by show (vh13 50) ≤ 201 * k + (i1 + 1); omega) pw11 (by
                              have ey : y = q + k := by omega
                              subst ey
                              exact hJ.cell ⟨by omega, by omega⟩ ⟨by omega, by omega⟩ rfl ex12 pr3) ⟨by show (vh13 52) = v 52; have q := hK140.1; omega, (Eq.trans (show ah13 51 = ab4 51 from fn12.2 51 rfl) hK140.2)⟩
                  refine hv2 (show 0 ≤ vb3 50 ∧ vb3 50 ≤ 40200 from bxb3.1 50) (show 0 ≤ vb3 52 ∧ vb3 52 ≤ 4000 from bxb3.1 52) (fun rv23 rv24 => ?_)
                  refine m_lv (lv2 := [(10, .int (iI 0)), (9, .int (iI g)), (8, .int (iI (a 34 y.toNat))), (7, .int (iI y)), (5, .long (lI (q + k))), (4, .int (iI k)), (0, .ref h0), (1, .int (iI t)), (2, .int (iI q)), (3, .int (iI n1))]) [0, 1, 2, 3, 4, 5, 6, 7, 8, 9] rfl ?_
                  exact Lp2 202 0 _ _ (by omega) bxb3 fpb3 (by omega) (by show (vb3 50) ≤ 201 * k + 0; omega) hW3 (by
                      have ey : y = q + k := by omega
                      subst ey
                      exact hD135.line ⟨by omega, by omega⟩ (by omega) (by omega)) ⟨by show (vb3 52) = v 52; have q := hK135.1; omega, hK135.2⟩
                refine m_if_le (tgt := 134) C ⟨by omega, by omega⟩ dX12_read_104 (by decide) (fun c13 => ?_) (fun c13 => ?_)
                · refine m_iconst C dX12_read_134 ?_
                  refine hv2 (show 0 ≤ vb2 50 ∧ vb2 50 ≤ 40200 from bxb2.1 50) (show 0 ≤ vb2 52 ∧ vb2 52 ≤ 4000 from bxb2.1 52) (fun rv25 rv26 => ?_)
                  refine m_lv (lv2 := [(8, .int (iI (a 34 y.toNat))), (7, .int (iI y)), (5, .long (lI (q + k))), (4, .int (iI k)), (0, .ref h0), (1, .int (iI t)), (2, .int (iI q)), (3, .int (iI n1))]) [0, 1, 2, 3, 4, 5, 6, 7] rfl ?_
                  exact J2  0 _ _  bxb2 fpb2 (by omega) (by show (vb2 50) ≤ 201 * k; omega) hW2 hD71 ⟨by show (vb2 52) = v 52; have q := hK71.1; omega, hK71.2⟩
                · refine m_aload_n (j := 4) C dX12_read_107 rfl ?_
                  refine m_geta (k := 35) C dX12_read_108 w6_94 (by decide) rfl ?_
                  refine m_sipush (z := 200) C dX12_read_111 (by decide) ?_
                  refine m_iload (j := 1) C dX12_read_114 rfl ?_
                  refine m_imul C dX12_read_116 ?_
                  refine m_iload (j := 0) C dX12_read_117 rfl ?_
                  refine m_iadd C dX12_read_119 ?_
                  refine m_iconst C dX12_read_120 ?_
                  refine m_isub C dX12_read_121 ?_
                  refine m_ald (k := 35) C dX12_read_122 rfl rfl (by decide) (by omega) (by show _ < ((_ : Nat) : Int); simp only [mlen]; omega) (by decide) ?_
                  refine hv2 (show (-2147483648) ≤ ab2 35 (((200 * y) + (a 34 y.toNat)) - 1).toNat ∧ ab2 35 (((200 * y) + (a 34 y.toNat)) - 1).toNat ≤ 2147483647 from bxb2.2 35 ((((200 * y) + (a 34 y.toNat)) - 1).toNat)) (show ab2 35 ((((200 * y) + (a 34 y.toNat)) - 1).toNat) = a 35 ((((200 * y) + (a 34 y.toNat)) - 1).toNat) from congrFun (fpb2.2 35 rfl) ((((200 * y) + (a 34 y.toNat)) - 1).toNat)) (fun ra8 ae12 => ?_)
                  refine m_st (st2 := [.int (iI (a 35 (((200 * y) + (a 34 y.toNat)) - 1).toNat))]) (congrArg (fun z => Value.int (iI z) :: []) (congrFun (fpb2.2 35 rfl) ((((200 * y) + (a 34 y.toNat)) - 1).toNat))) ?_
                  refine m_aload_n (j := 4) C dX12_read_123 rfl ?_
                  refine hv2 (show (-2147483648) ≤ vb2 33 ∧ vb2 33 ≤ 2147483647 from bxb2.1 33) (show vb2 33 = v 33 from fpb2.1 33 rfl) (fun rv27 ve13 => ?_)
                  refine m_get (k := 33) C dX12_read_124 w6_92 (by decide) rfl ?_
                  refine m_st (st2 := [.int (iI (v 33)), .int (iI (a 35 (((200 * y) + (a 34 y.toNat)) - 1).toNat))]) (congrArg (fun z => Value.int (iI z) :: [.int (iI (a 35 (((200 * y) + (a 34 y.toNat)) - 1).toNat))]) (fpb2.1 33 rfl)) ?_
                  refine m_icmp_ne (tgt := 134) C ⟨by omega, by omega⟩ (r32_c (lo := (-2147483648)) (hi := 2147483647) (Int.le_trans rv27.1 (Int.le_of_eq ve13)) (Int.le_trans (Int.le_of_eq ve13.symm) rv27.2) (by decide) (by decide)) dX12_read_127 (by decide) (fun c14 => ?_) (fun c14 => ?_)
                  · refine m_iconst C dX12_read_134 ?_
                    refine hv2 (show 0 ≤ vb2 50 ∧ vb2 50 ≤ 40200 from bxb2.1 50) (show 0 ≤ vb2 52 ∧ vb2 52 ≤ 4000 from bxb2.1 52) (fun rv28 rv29 => ?_)
                    refine m_lv (lv2 := [(8, .int (iI (a 34 y.toNat))), (7, .int (iI y)), (5, .long (lI (q + k))), (4, .int (iI k)), (0, .ref h0), (1, .int (iI t)), (2, .int (iI q)), (3, .int (iI n1))]) [0, 1, 2, 3, 4, 5, 6, 7] rfl ?_
                    exact J2  0 _ _  bxb2 fpb2 (by omega) (by show (vb2 50) ≤ 201 * k; omega) hW2 hD71 ⟨by show (vb2 52) = v 52; have q := hK71.1; omega, hK71.2⟩
                  · refine m_iconst C dX12_read_130 ?_
                    refine m_goto (tgt := 135) C dX12_read_131 (by decide) ?_
                    refine hv2 (show 0 ≤ vb2 50 ∧ vb2 50 ≤ 40200 from bxb2.1 50) (show 0 ≤ vb2 52 ∧ vb2 52 ≤ 4000 from bxb2.1 52) (fun rv30 rv31 => ?_)
                    refine m_lv (lv2 := [(8, .int (iI (a 34 y.toNat))), (7, .int (iI y)), (5, .long (lI (q + k))), (4, .int (iI k)), (0, .ref h0), (1, .int (iI t)), (2, .int (iI q)), (3, .int (iI n1))]) [0, 1, 2, 3, 4, 5, 6, 7] rfl ?_
                    exact J2  1 _ _  bxb2 fpb2 (by omega) (by show (vb2 50) ≤ 201 * k; omega) hW2 hD71 ⟨by show (vb2 52) = v 52; have q := hK71.1; omega, hK71.2⟩
              · refine m_aload_n (j := 3) C dX12_read_82 rfl ?_
                refine m_aload_n (j := 3) C dX12_read_83 rfl ?_
                refine m_iload (j := 0) C dX12_read_84 rfl ?_
                refine m_call (mc2 := 0) (ms2 := 0) (As := [.int (iI y)]) (rest := [.ref h0]) C (M_lineFault (l0 := y) bxb2.rg ⟨by omega, by omega⟩ ⟨bxb2.1 36, bxb2.2 34⟩) dX12_read_86 kV_X12_294 rfl ck_13 rfl (Nat.le_of_ble_eq_true rfl) ⟨Nat.le_of_ble_eq_true rfl, Nat.le_of_ble_eq_true rfl⟩ ⟨Nat.le_of_ble_eq_true rfl, Nat.le_of_ble_eq_true rfl⟩ (fun rh14 vh14 ah14 h14 => ?_)
                obtain ⟨f11, rfl, hf11, rfl, rfl⟩ := h14
                have gf11 : (f11 = 2 ∧ ¬ (0 ≤ y ∧ y < (vb2 36))) ∨ (f11 = 1 ∧ 0 ≤ y ∧ y < (vb2 36) ∧ ab2 34 y.toNat < 0) ∨ (f11 = 0 ∧ 0 ≤ y ∧ y < (vb2 36) ∧ 0 ≤ ab2 34 y.toNat) := hf11
                refine m_st (st2 := [.int (iI f11), .ref h0]) rfl ?_
                refine m_call (mc2 := 0) (ms2 := 0) (As := [.int (iI f11)]) (rest := []) C (B_bad (x := f11) bxb2 (by show -2147483648 ≤ f11 ∧ f11 ≤ 2147483647; omega)) dX12_read_89 kV_X12_154 rfl ck_13 rfl (Nat.le_of_ble_eq_true rfl) ⟨Nat.le_of_ble_eq_true rfl, Nat.le_of_ble_eq_true rfl⟩ ⟨Nat.le_of_ble_eq_true rfl, Nat.le_of_ble_eq_true rfl⟩ (fun rh15 vh15 ah15 h15 => ?_)
                obtain ⟨f12, rfl, fn13, bn13, ex13⟩ := h15
                refine hv3 (fpb2.call fn13 rfl rfl) (show RWS ah15 from RWS.fr hW2 fn13 rfl) (show f12 = -1 from ex13) (fun fq15 pw12 gf12 => ?_)
                refine m_st (st2 := [.int (iI f12)]) rfl ?_
                refine hv2 (show 0 ≤ vh15 52 ∧ vh15 52 ≤ 4000 from bn13.1 52) (show vh15 52 = vb2 52 from fn13.1 52 rfl) (fun rv32 ve14 => ?_)
                exact m_iret C dX12_read_92 rfl (Nat.le_of_ble_eq_true rfl) (Nat.le_of_ble_eq_true rfl) ⟨f12, rfl, fq15, bn13, ⟨pw12, hD71.bad ⟨by omega, by omega⟩ (by
                    rcases hy with h9 | h9
                    · exact Or.inl h9.2
                    · have ey : y = q + k := h9.1
                      subst ey
                      omega) (by omega) ⟨by show (vh15 52) = v 52; have q := hK71.1; omega, (Eq.trans (show ah15 51 = ab2 51 from fn13.2 51 rfl) hK71.2)⟩⟩⟩
            refine m_if_lt (tgt := 64) C ⟨by omega, by omega⟩ dX12_read_50 (by decide) (fun c15 => ?_) (fun c15 => ?_)
            · refine m_iconst C dX12_read_64 ?_
              refine m_goto (tgt := 71) C dX12_read_65 (by decide) ?_
              refine hv2 (show 0 ≤ vb1 50 ∧ vb1 50 ≤ 40200 from bxb1.1 50) (show 0 ≤ vb1 52 ∧ vb1 52 ≤ 4000 from bxb1.1 52) (fun rv33 rv34 => ?_)
              refine m_lv (lv2 := [(5, .long (lI (q + k))), (4, .int (iI k)), (0, .ref h0), (1, .int (iI t)), (2, .int (iI q)), (3, .int (iI n1))]) [0, 1, 2, 3, 4, 5] rfl ?_
              exact J1  (-1) _ _  bxb1 fpb1 (by omega) (by show (vb1 50) ≤ 201 * k; omega) hW1 hD2 ⟨by show (vb1 52) = v 52; have q := hK32.1; omega, hK32.2⟩
            · refine m_lload (j := 0) C dX12_read_53 rfl ?_
              refine m_aload_n (j := 2) C dX12_read_55 rfl ?_
              refine hv2 (show 0 ≤ vb1 36 ∧ vb1 36 ≤ 200 from bxb1.1 36) (show vb1 36 = v 36 from fpb1.1 36 rfl) (fun rv35 ve15 => ?_)
              refine m_get (k := 36) C dX12_read_56 w6_95 (by decide) rfl ?_
              refine m_st (st2 := [.int (iI (v 36)), .long (lI (q + k))]) (congrArg (fun z => Value.int (iI z) :: [.long (lI (q + k))]) (fpb1.1 36 rfl)) ?_
              refine m_i2l (w := lI (v 36)) C dX12_read_59 (lI_of ⟨by omega, by omega⟩) ?_
              obtain ⟨lc2, hlc2, elc2⟩ := lcmp_c (x := (q + k)) (y := (v 36)) ⟨by omega, by omega⟩ ⟨by omega, by omega⟩
              refine m_lcmp (w := iI lc2) C dX12_read_60 elc2 ?_
              refine m_if_lt (tgt := 68) C ⟨by omega, by omega⟩ dX12_read_61 (by decide) (fun c16 => ?_) (fun c16 => ?_)
              · refine m_lload (j := 0) C dX12_read_68 rfl ?_
                refine m_l2i (w := iI (q + k)) C dX12_read_70 (lI_i _) ?_
                refine hv2 (show 0 ≤ vb1 50 ∧ vb1 50 ≤ 40200 from bxb1.1 50) (show 0 ≤ vb1 52 ∧ vb1 52 ≤ 4000 from bxb1.1 52) (fun rv36 rv37 => ?_)
                refine m_lv (lv2 := [(5, .long (lI (q + k))), (4, .int (iI k)), (0, .ref h0), (1, .int (iI t)), (2, .int (iI q)), (3, .int (iI n1))]) [0, 1, 2, 3, 4, 5] rfl ?_
                exact J1  (q + k) _ _  bxb1 fpb1 (by omega) (by show (vb1 50) ≤ 201 * k; omega) hW1 hD2 ⟨by show (vb1 52) = v 52; have q := hK32.1; omega, hK32.2⟩
              · refine m_iconst C dX12_read_64 ?_
                refine m_goto (tgt := 71) C dX12_read_65 (by decide) ?_
                refine hv2 (show 0 ≤ vb1 50 ∧ vb1 50 ≤ 40200 from bxb1.1 50) (show 0 ≤ vb1 52 ∧ vb1 52 ≤ 4000 from bxb1.1 52) (fun rv38 rv39 => ?_)
                refine m_lv (lv2 := [(5, .long (lI (q + k))), (4, .int (iI k)), (0, .ref h0), (1, .int (iI t)), (2, .int (iI q)), (3, .int (iI n1))]) [0, 1, 2, 3, 4, 5] rfl ?_
                exact J1  (-1) _ _  bxb1 fpb1 (by omega) (by show (vb1 50) ≤ 201 * k; omega) hW1 hD2 ⟨by show (vb1 52) = v 52; have q := hK32.1; omega, hK32.2⟩
      have rv40 : 0 ≤ v 52 ∧ v 52 ≤ 4000 := bq1.1 52
      refine m_lv (lv2 := [(4, .int (iI 0)), (0, .ref h0), (1, .int (iI t)), (2, .int (iI q)), (3, .int (iI n1))]) [0, 1, 2, 3, 4] rfl ?_
      exact Lp1 202 0 _ _ (by omega) bq1 fq2 (by omega) (by omega) (by show 0 ≤ 201 * 0; omega) hW (RD2.init (by show 0 = 0; omega)) ⟨by show (v 52) = v 52; omega, rfl⟩
    · refine m_aload_n (j := 0) C dX12_read_18 rfl ?_
      refine m_iconst C dX12_read_19 ?_
      refine m_call (mc2 := 0) (ms2 := 0) (As := [.int (iI 5)]) (rest := []) C (B_bad (x := 5) hB (by show -2147483648 ≤ (5 : Int) ∧ (5 : Int) ≤ 2147483647; omega)) dX12_read_20 kV_X12_154 rfl ck_13 rfl (Nat.le_of_ble_eq_true rfl) ⟨Nat.le_of_ble_eq_true rfl, Nat.le_of_ble_eq_true rfl⟩ ⟨Nat.le_of_ble_eq_true rfl, Nat.le_of_ble_eq_true rfl⟩ (fun rh16 vh16 ah16 h16 => ?_)
      obtain ⟨f13, rfl, fn14, bn14, ex14⟩ := h16
      refine hv3 (fp0.call fn14 rfl rfl) (show RWS ah16 from RWS.fr hW fn14 rfl) (show f13 = -1 from ex14) (fun fq16 pw13 gf13 => ?_)
      refine m_st (st2 := [.int (iI f13)]) rfl ?_
      refine hv2 (show 0 ≤ vh16 52 ∧ vh16 52 ≤ 4000 from bn14.1 52) (show vh16 52 = v 52 from fn14.1 52 rfl) (fun rv41 ve16 => ?_)
      exact m_iret C dX12_read_23 rfl (Nat.le_of_ble_eq_true rfl) (Nat.le_of_ble_eq_true rfl) ⟨f13, rfl, fq16, bn14, ⟨pw13, RDR.nw (Or.inr (by omega)) (by omega) ⟨by show (vh16 52) = v 52; omega, (show ah16 51 = a 51 from fn14.2 51 rfl)⟩⟩⟩
  · clear gf1
    refine m_aload_n (j := 0) C dX12_read_8 rfl ?_
    refine m_iconst C dX12_read_9 ?_
    refine m_call (mc2 := 0) (ms2 := 0) (As := [.int (iI 3)]) (rest := []) C (B_bad (x := 3) hB (by show -2147483648 ≤ (3 : Int) ∧ (3 : Int) ≤ 2147483647; omega)) dX12_read_10 kV_X12_154 rfl ck_13 rfl (Nat.le_of_ble_eq_true rfl) ⟨Nat.le_of_ble_eq_true rfl, Nat.le_of_ble_eq_true rfl⟩ ⟨Nat.le_of_ble_eq_true rfl, Nat.le_of_ble_eq_true rfl⟩ (fun rh17 vh17 ah17 h17 => ?_)
    obtain ⟨f14, rfl, fn15, bn15, ex15⟩ := h17
    refine hv3 (fp0.call fn15 rfl rfl) (show RWS ah17 from RWS.fr hW fn15 rfl) (show f14 = -1 from ex15) (fun fq17 pw14 gf14 => ?_)
    refine m_st (st2 := [.int (iI f14)]) rfl ?_
    refine hv2 (show 0 ≤ vh17 52 ∧ vh17 52 ≤ 4000 from bn15.1 52) (show vh17 52 = v 52 from fn15.1 52 rfl) (fun rv42 ve17 => ?_)
    exact m_iret C dX12_read_13 rfl (Nat.le_of_ble_eq_true rfl) (Nat.le_of_ble_eq_true rfl) ⟨f14, rfl, fq17, bn15, ⟨pw14, RDR.nw (Or.inl (fun q9 => absurd (tl1.mpr q9) (by omega))) (by omega) ⟨by show (vh17 52) = v 52; omega, (show ah17 51 = a 51 from fn15.2 51 rfl)⟩⟩⟩
end
section
def inw (S : Int) : List Int → Option (List Int)
  | [] => none
  | d :: r => if d = S - 1 then (match inw S r with
    | some l => some (0 :: l)
    | none => none) else some ((d + 1) :: r)
def zrs : Nat → List Int
  | 0 => []
  | n + 1 => 0 :: zrs n
def nxw (S : Int) (N : Nat) (l : List Int) : Option (List Int) := match inw S l with
  | some l2 => some l2
  | none => if l.length < N then some (zrs (l.length + 1)) else none
def enw (S : Int) (N : Nat) : Nat → Option (List Int)
  | 0 => if 0 < S ∧ 0 < N then some (zrs 1) else none
  | n + 1 => match enw S N n with
    | some l => nxw S N l
    | none => none
def wdb (sg : List Int) : List Int → List Int
  | [] => []
  | d :: r => wdb sg r ++ [(sg[d.toNat]?).getD 0]
def sgl (h : Nat → Int) : Nat → List Int
  | 0 => []
  | n + 1 => if h n = 0 then sgl h n else sgl h n ++ [((n : Nat) : Int)]
def LCQ (a : Nat → Nat → Int) (j c : Int) : Prop := c = a 14 j.toNat ∨ ((97 ≤ a 14 j.toNat ∧ a 14 j.toNat ≤ 122) ∧ c = a 14 j.toNat - 32)
def HSC (a : Nat → Nat → Int) (l0 l1 : List Int) (c : Int) : Prop := ∃ d k : Int, (d ∈ l0 ∨ d ∈ l1) ∧ 0 ≤ d ∧ (0 ≤ k ∧ k < a 12 d.toNat) ∧ LCQ a (8 * d + k) c
def HSS (a : Nat → Nat → Int) (t : Int) (h : Nat → Int) : Prop := ∀ c : Nat, c < 256 → (h c ≠ 0 ↔ (HSC a (gat0 a t) (gat1 a t) ((c : Nat) : Int) ∨ (a 6 t.toNat = 5 ∧ (c = 60 ∨ c = 62))))
def URB (a : Nat → Nat → Int) (t : Int) (ws : List Int) : Prop := ∃ cs, SWC a (RR0 ws) ((ws.length : Nat) : Int) t cs ∧ ¬ RFN a (gat0 a t) (gat1 a t) (RR0 cs) ws
def URK (a : Nat → Nat → Int) (t : Int) (sg : List Int) (N n : Nat) : Prop := ∀ (i : Nat) (l : List Int), i < n → enw ((sg.length : Nat) : Int) N i = some l → ¬ URB a t (wdb sg l)
def URD (a : Nat → Nat → Int) (t : Int) (sg : List Int) (N M : Nat) (f : Int) (o : Option (List Int)) : Prop := (∃ n l, n < M ∧ URK a t sg N n ∧ enw ((sg.length : Nat) : Int) N n = some l ∧ URB a t (wdb sg l) ∧ f = ((l.length : Nat) : Int) ∧ o = some (wdb sg l)) ∨ (URK a t sg N M ∧ enw ((sg.length : Nat) : Int) N M ≠ none ∧ f = -1 ∧ o = none) ∨ (∃ n, n ≤ M ∧ URK a t sg N n ∧ enw ((sg.length : Nat) : Int) N n = none ∧ f = 0 ∧ o = none)
def RIX (g : Nat → Int) (l : List Int) : Prop := ∀ (j : Nat) (x : Int), l[j]? = some x → g (l.length - 1 - j) = x
section USEM
variable {a a1 : Nat → Nat → Int} {S t f f1 f2 d x c : Int} {l l2 sg ws : List Int} {n m N M i j k : Nat} {o o1 o2 : Option (List Int)} {g g2 h h2 : Nat → Int}
theorem zrs_len : ∀ n : Nat, (zrs n).length = n := by
  intro n
  induction n with
  | zero => rfl
  | succ n ih =>
    show (zrs n).length + 1 = n + 1
    rw [ih]
theorem zrs_at : ∀ (n j : Nat) (x : Int), (zrs n)[j]? = some x → x = 0 := by
  intro n
  induction n with
  | zero => intro j x e; simp [zrs] at e
  | succ n ih =>
    intro j x e
    cases j with
    | zero =>
      have e2 : some (0 : Int) = some x := e
      cases e2
      rfl
    | succ j => exact ih j x e
theorem wdb_len : ∀ l : List Int, (wdb sg l).length = l.length := by
  intro l
  induction l with
  | nil => rfl
  | cons d r ih =>
    show (wdb sg r ++ [_]).length = r.length + 1
    rw [len1, ih]
theorem wdb_at : ∀ (l : List Int) (j : Nat) (d : Int), l[j]? = some d → (wdb sg l)[l.length - 1 - j]? = some ((sg[d.toNat]?).getD 0) := by
  intro l
  induction l with
  | nil => intro j d e; simp at e
  | cons d0 r ih =>
    intro j d e
    show (wdb sg r ++ [(sg[d0.toNat]?).getD 0])[r.length + 1 - 1 - j]? = _
    cases j with
    | zero =>
      have e2 : some d0 = some d := e
      cases e2
      rw [List.getElem?_append_right (by rw [wdb_len]; omega), wdb_len, show r.length + 1 - 1 - 0 - r.length = 0 by omega]
      rfl
    | succ j =>
      have e2 : r[j]? = some d := e
      refine hv2 (gl3 e2) (ih j d e2) (fun lt w => ?_)
      rw [List.getElem?_append_left (by rw [wdb_len]; omega), show r.length + 1 - 1 - (j + 1) = r.length - 1 - j by omega]
      exact w
theorem inw_none : ∀ l : List Int, (∀ (j : Nat) (x : Int), l[j]? = some x → x = S - 1) → inw S l = none := by
  intro l
  induction l with
  | nil => intro _; rfl
  | cons d r ih =>
    intro hh
    refine hv2 (show d = S - 1 from hh 0 d rfl) (ih (fun j x q => hh (j + 1) x q)) (fun e e2 => ?_)
    show (if d = S - 1 then (match inw S r with | some l => some (0 :: l) | none => none) else some ((d + 1) :: r)) = none
    rw [if_pos e, e2]
theorem inw_len : ∀ l l2 : List Int, inw S l = some l2 → l2.length = l.length := by
  intro l
  induction l with
  | nil => intro l2 e; cases e
  | cons d r ih =>
    intro l2 e
    have e0 : (if d = S - 1 then (match inw S r with | some l => some (0 :: l) | none => none) else some ((d + 1) :: r)) = some l2 := e
    by_cases q : d = S - 1
    · rw [if_pos q] at e0
      cases e1 : inw S r with
      | none => rw [e1] at e0; cases e0
      | some l3 =>
        rw [e1] at e0
        cases e0
        have w := ih l3 e1
        show l3.length + 1 = r.length + 1
        rw [w]
    · rw [if_neg q] at e0
      cases e0
      rfl
theorem inw_at : ∀ (l : List Int) (k : Nat) (d : Int), (∀ (j : Nat) (x : Int), j < k → l[j]? = some x → x = S - 1) → l[k]? = some d → d ≠ S - 1 → ∃ l2, inw S l = some l2 ∧ l2.length = l.length ∧ (∀ j : Nat, j < k → l2[j]? = some 0) ∧ l2[k]? = some (d + 1) ∧ ∀ j : Nat, k < j → l2[j]? = l[j]? := by
  intro l
  induction l with
  | nil => intro k d _ e; simp at e
  | cons d0 r ih =>
    intro k d hh e hd
    have un : inw S (d0 :: r) = (if d0 = S - 1 then (match inw S r with | some l => some (0 :: l) | none => none) else some ((d0 + 1) :: r)) := rfl
    cases k with
    | zero =>
      have e2 : some d0 = some d := e
      cases e2
      refine ⟨(d0 + 1) :: r, ?_, rfl, fun j hj => absurd hj (by omega), rfl, fun j hj => ?_⟩
      · rw [un, if_neg hd]
      · cases j with
        | zero => omega
        | succ j => rfl
    | succ k =>
      have e0 : d0 = S - 1 := hh 0 d0 (by omega) rfl
      obtain ⟨l3, g1, g2, g3, g4, g5⟩ := ih k d (fun j x hj q => hh (j + 1) x (by omega) q) e hd
      refine ⟨0 :: l3, ?_, ?_, fun j hj => ?_, g4, fun j hj => ?_⟩
      · rw [un, if_pos e0, g1]
      · show l3.length + 1 = r.length + 1
        rw [g2]
      · cases j with
        | zero => rfl
        | succ j => exact g3 j (by omega)
      · cases j with
        | zero => omega
        | succ j => exact g5 j (by omega)
theorem enw_s (h : enw S N n = some l) : enw S N (n + 1) = nxw S N l := by
  show (match enw S N n with | some l => nxw S N l | none => none) = _
  rw [h]
theorem enw_n (h : enw S N n = none) : enw S N (n + 1) = none := by
  show (match enw S N n with | some l => nxw S N l | none => none) = _
  rw [h]
theorem enw_nn (h : enw S N n = none) : ∀ m : Nat, enw S N (n + m) = none := by
  intro m
  induction m with
  | zero => exact h
  | succ m ih => exact enw_n ih
theorem nxw_some (h : inw S l = some l2) : nxw S N l = some l2 := by
  unfold nxw
  rw [h]
theorem nxw_none (h : inw S l = none) : nxw S N l = if l.length < N then some (zrs (l.length + 1)) else none := by
  unfold nxw
  rw [h]
theorem URK.zero : URK a t sg N 0 := fun i l hi => absurd hi (by omega)
theorem URK.step (h : URK a t sg N n) (he : enw ((sg.length : Nat) : Int) N n = some l) (hu : ¬ URB a t (wdb sg l)) : URK a t sg N (n + 1) := fun i l2 hi e => by
  by_cases q : i < n
  · exact h i l2 q e
  · rw [show i = n by omega, he] at e
    cases e
    exact hu
theorem URD.uni (h1 : URD a t sg N M f1 o1) (h2 : URD a t sg N M f2 o2) : f1 = f2 ∧ o1 = o2 := by
  rcases h1 with ⟨n, l, p1, p2, p3, p4, p5, p6⟩ | ⟨p1, p2, p3, p4⟩ | ⟨n, p1, p2, p3, p4, p5⟩ <;> rcases h2 with ⟨m, l2, q1, q2, q3, q4, q5, q6⟩ | ⟨q1, q2, q3, q4⟩ | ⟨m, q1, q2, q3, q4, q5⟩
  · by_cases c1 : n < m
    · exact absurd p4 (q2 n l c1 p3)
    · by_cases c2 : m < n
      · exact absurd q4 (p2 m l2 c2 q3)
      · have e : n = m := by omega
        subst e
        rw [p3] at q3
        cases q3
        exact ⟨p5.trans q5.symm, p6.trans q6.symm⟩
  · exact absurd p4 (q1 n l p1 p3)
  · by_cases c1 : n < m
    · exact absurd p4 (q2 n l c1 p3)
    · have w := enw_nn q3 (n - m)
      rw [show m + (n - m) = n by omega, p3] at w
      cases w
  · exact absurd q4 (p1 m l2 q1 q3)
  · exact ⟨p3.trans q3.symm, p4.trans q4.symm⟩
  · have w := enw_nn q3 (M - m)
    rw [show m + (M - m) = M by omega] at w
    exact absurd w p2
  · by_cases c1 : m < n
    · exact absurd q4 (p2 m l2 c1 q3)
    · have w := enw_nn p3 (m - n)
      rw [show n + (m - n) = m by omega, q3] at w
      cases w
  · have w := enw_nn p3 (M - n)
    rw [show n + (M - n) = M by omega] at w
    exact absurd w q2
  · exact ⟨p4.trans q4.symm, p5.trans q5.symm⟩
theorem sgl_cg : ∀ n : Nat, (∀ c : Nat, c < n → (h c ≠ 0 ↔ h2 c ≠ 0)) → sgl h n = sgl h2 n := by
  intro n
  induction n with
  | zero => intro _; rfl
  | succ n ih =>
    intro hh
    have e := ih (fun c hc => hh c (by omega))
    have w := hh n (by omega)
    show (if h n = 0 then sgl h n else sgl h n ++ [((n : Nat) : Int)]) = (if h2 n = 0 then sgl h2 n else sgl h2 n ++ [((n : Nat) : Int)])
    rw [e]
    by_cases q : h n = 0
    · rw [if_pos q, if_pos (Decidable.of_not_not (fun q2 => (w.mpr q2) q))]
    · rw [if_neg q, if_neg (w.mp q)]
theorem sgl_s0 (e : h n = 0) : sgl h (n + 1) = sgl h n := if_pos e
theorem sgl_s1 (e : h n ≠ 0) : sgl h (n + 1) = sgl h n ++ [((n : Nat) : Int)] := if_neg e
theorem sgl_z : ∀ n : Nat, (∀ c : Nat, c < n → h c = 0) → sgl h n = [] := by
  intro n
  induction n with
  | zero => intro _; rfl
  | succ n ih =>
    intro hh
    rw [sgl_s0 (hh n (by omega))]
    exact ih (fun c hc => hh c (by omega))
theorem sgl_t : ∀ m : Nat, (∀ c : Nat, n ≤ c → c < n + m → h c = 0) → sgl h (n + m) = sgl h n := by
  intro m
  induction m with
  | zero => intro _; rfl
  | succ m ih =>
    intro hh
    show sgl h ((n + m) + 1) = _
    rw [sgl_s0 (hh (n + m) (by omega) (by omega))]
    exact ih (fun c h1 h3 => hh c h1 (by omega))
theorem HSS.uni (h1 : HSS a t h) (h3 : HSS a t h2) : sgl h 256 = sgl h2 256 := sgl_cg 256 (fun c hc => (h1 c hc).trans (h3 c hc).symm)
theorem RR0_at (hx : ws[j]? = some x) : RR0 ws j = x := by
  unfold RR0
  rw [hx]
  rfl
end USEM
end
section
def VLR (a : Nat → Nat → Int) (r : Int) : Prop := ∃ p : Int, (p = 0 ∨ p = 1) ∧ 6008 * p ≤ r ∧ r < 6008 * p + a 47 p.toNat
def HSQ (a : Nat → Nat → Int) (r k c : Int) : Prop := ∃ r1 k1 : Int, VLR a r1 ∧ 0 ≤ a 44 r1.toNat ∧ (0 ≤ k1 ∧ k1 < a 12 (a 44 r1.toNat).toNat) ∧ (r1 < r ∨ (r1 = r ∧ k1 < k)) ∧ LCQ a (8 * a 44 r1.toNat + k1) c
def GSI (a : Nat → Nat → Int) (g : Nat → Int) (r k : Int) : Prop := ∀ c : Nat, c < 256 → (g c ≠ 0 ↔ HSQ a r k ((c : Nat) : Int))
def GSH (a : Nat → Nat → Int) (g : Nat → Int) (t : Int) : Prop := ∀ c : Nat, c < 256 → (g c ≠ 0 ↔ (HSQ a 12016 0 ((c : Nat) : Int) ∨ (a 6 t.toNat = 5 ∧ (c = 60 ∨ c = 62))))
def SGH (v : Nat → Int) (s g : Nat → Int) (k : Int) : Prop := v 66 = (((sgl g k.toNat).length : Nat) : Int) ∧ ∀ (j : Nat) (x : Int), (sgl g k.toNat)[j]? = some x → s j = x
def GSX (a : Nat → Nat → Int) (v2 : Nat → Int) (a2 : Nat → Nat → Int) (t : Int) : Prop := ∃ g, GSH a g t ∧ SGH v2 (a2 65) g 256
section USIG
variable {v v1 v2 : Nat → Int} {a a1 a2 A : Nat → Nat → Int} {g g2 s s2 : Nat → Int} {r k t pt L c x y z : Int} {l0 l1 : List Int}
theorem u70 {i j : Nat} : (up2 A 70 i 1) 70 j ≠ 0 ↔ (j = i ∨ A 70 j ≠ 0) := by
  by_cases e : j = i
  · subst e
    rw [up2_s]
    exact ⟨fun _ => Or.inl rfl, fun _ => by decide⟩
  · rw [up2_j e]
    exact ⟨fun q => Or.inr q, fun q => q.resolve_left e⟩
theorem GSI.init (hz : ∀ j, g j = 0) (hr : r ≤ 0) : GSI a g r 0 := fun c hc => by
  refine ⟨fun q => absurd (hz c) q, fun q => ?_⟩
  obtain ⟨r1, k1, ⟨p, p1, p2, p3⟩, q2, q3, q4, q5⟩ := q
  omega
theorem HSQ.step (hv : VLR a r) (hi : 0 ≤ a 44 r.toNat) (hk : 0 ≤ k ∧ k < a 12 (a 44 r.toNat).toNat) : HSQ a r (k + 1) c ↔ (HSQ a r k c ∨ LCQ a (8 * a 44 r.toNat + k) c) := by
  constructor
  · intro q
    obtain ⟨r1, k1, q1, q2, q3, q4, q5⟩ := q
    by_cases e : r1 = r ∧ k1 = k
    · obtain ⟨e1, e2⟩ := e
      subst e1
      subst e2
      exact Or.inr q5
    · exact Or.inl ⟨r1, k1, q1, q2, q3, by omega, q5⟩
  · intro q
    rcases q with q | q
    · obtain ⟨r1, k1, q1, q2, q3, q4, q5⟩ := q
      exact ⟨r1, k1, q1, q2, q3, by omega, q5⟩
    · exact ⟨r, k, hv, hi, hk, Or.inr ⟨rfl, by omega⟩, q⟩
theorem GSI.plain (h : GSI a (A 70) r k) (hv : VLR a r) (hi : 0 ≤ a 44 r.toNat) (hk : 0 ≤ k ∧ k < a 12 (a 44 r.toNat).toNat) (hL : L = a 14 (8 * a 44 r.toNat + k).toNat) (hb : 0 ≤ L ∧ L ≤ 255) (hn : ¬ (97 ≤ L ∧ L ≤ 122)) : GSI a ((up2 A 70 L.toNat 1) 70) r (k + 1) := fun c hc => by
  rw [u70, h c hc, HSQ.step hv hi hk]
  unfold LCQ
  rw [← hL]
  constructor
  · intro q
    rcases q with q | q
    · exact Or.inr (Or.inl (by omega))
    · exact Or.inl q
  · intro q
    rcases q with q | q | ⟨q, _⟩
    · exact Or.inr q
    · exact Or.inl (by omega)
    · exact absurd q hn
theorem GSI.small (h : GSI a (A 70) r k) (hv : VLR a r) (hi : 0 ≤ a 44 r.toNat) (hk : 0 ≤ k ∧ k < a 12 (a 44 r.toNat).toNat) (hL : L = a 14 (8 * a 44 r.toNat + k).toNat) (hs : 97 ≤ L ∧ L ≤ 122) : GSI a ((up2 (up2 A 70 L.toNat 1) 70 (L - 32).toNat 1) 70) r (k + 1) := fun c hc => by
  rw [u70, u70, h c hc, HSQ.step hv hi hk]
  unfold LCQ
  rw [← hL]
  constructor
  · intro q
    rcases q with q | q | q
    · exact Or.inr (Or.inr ⟨hs, by omega⟩)
    · exact Or.inr (Or.inl (by omega))
    · exact Or.inl q
  · intro q
    rcases q with q | q | ⟨_, q⟩
    · exact Or.inr (Or.inr q)
    · exact Or.inr (Or.inl (by omega))
    · exact Or.inl (by omega)
theorem GSI.row (h : GSI a g r k) (he : a 44 r.toNat < 0 ∨ a 12 (a 44 r.toNat).toNat ≤ k) : GSI a g (r + 1) 0 := fun c hc => by
  rw [h c hc]
  constructor
  · intro q
    obtain ⟨r1, k1, q1, q2, q3, q4, q5⟩ := q
    exact ⟨r1, k1, q1, q2, q3, by omega, q5⟩
  · intro q
    obtain ⟨r1, k1, q1, q2, q3, q4, q5⟩ := q
    by_cases e : r1 = r
    · subst e
      exact ⟨r1, k1, q1, q2, q3, by omega, q5⟩
    · exact ⟨r1, k1, q1, q2, q3, by omega, q5⟩
theorem GSI.next (h : GSI a g r 0) (hp : pt = 0 ∨ pt = 1) (hb : ∀ i, 0 ≤ a 47 i ∧ a 47 i ≤ 6008) (hr : 6008 * pt + a 47 pt.toNat ≤ r ∧ r ≤ 6008 * pt + 6008) : GSI a g (6008 * (pt + 1)) 0 := fun c hc => by
  rw [h c hc]
  constructor
  · intro q
    obtain ⟨r1, k1, q1, q2, q3, q4, q5⟩ := q
    exact ⟨r1, k1, q1, q2, q3, by omega, q5⟩
  · intro q
    obtain ⟨r1, k1, ⟨p, p1, p2, p3⟩, q2, q3, q4, q5⟩ := q
    refine hv2 (hb p.toNat) (hb pt.toNat) (fun b1 b2 => ?_)
    refine ⟨r1, k1, ⟨p, p1, p2, p3⟩, q2, q3, ?_, q5⟩
    by_cases e : p = pt
    · subst e
      omega
    · omega
theorem GSI.fin0 (h : GSI a g (6008 * pt) 0) (hp : pt = 2) (h6 : a 6 t.toNat ≠ 5) : GSH a g t := fun c hc => by
  subst hp
  rw [h c hc]
  exact ⟨fun q => Or.inl q, fun q => q.resolve_right (fun w => h6 w.1)⟩
theorem GSI.fin1 (h : GSI a (A 70) (6008 * pt) 0) (hp : pt = 2) (h6 : a 6 t.toNat = 5) (hx : x = 60) (hy : y = 62) : GSH a ((up2 (up2 A 70 x.toNat 1) 70 y.toNat 1) 70) t := fun c hc => by
  subst hp
  subst hx
  subst hy
  rw [u70, u70, h c hc]
  constructor
  · intro q
    rcases q with q | q | q
    · exact Or.inr ⟨h6, Or.inr q⟩
    · exact Or.inr ⟨h6, Or.inl q⟩
    · exact Or.inl q
  · intro q
    rcases q with q | ⟨_, q | q⟩
    · exact Or.inr (Or.inr q)
    · exact Or.inr (Or.inl q)
    · exact Or.inl q
theorem SGH.init (h : v 66 = 0) : SGH v s g 0 := ⟨h, fun j x e => by simp [sgl] at e⟩
theorem SGH.s0 (h : SGH v s g k) (hk : 0 ≤ k) (hg : g k.toNat = 0) : SGH v s g (k + 1) := by
  unfold SGH
  rw [show (k + 1).toNat = k.toNat + 1 by omega, sgl_s0 hg]
  exact h
theorem SGH.s1 (h : SGH v s g k) (hk : 0 ≤ k) (hg : g k.toNat ≠ 0) (e1 : v2 66 = v 66 + 1) (e2 : s2 = va_up s (v 66).toNat k) : SGH v2 s2 g (k + 1) := by
  have e := h.1
  unfold SGH
  rw [show (k + 1).toNat = k.toNat + 1 by omega, sgl_s1 hg]
  refine ⟨by rw [len1]; omega, fun j y ej => ?_⟩
  rw [e2]
  rcases ap1 ej with ⟨c1, ej⟩ | ⟨c1, ej⟩
  · rw [va_up_ne _ _ (by omega)]
    exact h.2 j y ej
  · rw [show j = (v 66).toNat by omega, va_up_self]
    omega
theorem GSX.mk (h1 : GSH a (a2 70) t) (h2 : SGH v2 (a2 65) (a2 70) k) (hk : k = 256) : GSX a v2 a2 t := by
  subst hk
  exact ⟨_, h1, h2⟩
theorem HSQ.hsc (h0 : HLD a1 a1 0 l0) (h1 : HLD a1 a1 1 l1) (e12 : a1 12 = a 12) (e14 : a1 14 = a 14) (hb : ∀ i, 0 ≤ a1 47 i ∧ a1 47 i ≤ 6008) : HSQ a1 12016 0 c ↔ HSC a l0 l1 c := by
  have lc : ∀ j, LCQ a1 j c ↔ LCQ a j c := fun j => by
    unfold LCQ
    rw [e14]
  have go : ∀ (q : Int) (l : List Int), (q = 0 ∨ q = 1) → HLD a1 a1 q l → (∀ d, d ∈ l → d ∈ l0 ∨ d ∈ l1) → ∀ r1 k1 : Int, 6008 * q ≤ r1 → r1 < 6008 * q + a1 47 q.toNat → 0 ≤ a1 44 r1.toNat → (0 ≤ k1 ∧ k1 < a1 12 (a1 44 r1.toNat).toNat) → LCQ a1 (8 * a1 44 r1.toNat + k1) c → HSC a l0 l1 c := fun q l hq hl hm r1 k1 g1 g2 g3 g4 g5 => by
    obtain ⟨d, d1, d2⟩ := hl.tt (by omega) g1 g2
    have e : a1 44 r1.toNat = d := by rcases d2.r44 with ⟨_, q2, _⟩ | ⟨q1, q2, q3, _⟩ <;> omega
    rw [e] at g3 g4 g5
    rw [e12] at g4
    exact ⟨d, k1, hm d (List.mem_of_getElem? d1), g3, g4, (lc _).mp g5⟩
  have bk : ∀ (q : Int) (l : List Int), (q = 0 ∨ q = 1) → HLD a1 a1 q l → ∀ d, d ∈ l → 0 ≤ d → ∀ k : Int, (0 ≤ k ∧ k < a 12 d.toNat) → LCQ a (8 * d + k) c → HSQ a1 12016 0 c := fun q l hq hl d hd d0 k hk hc => by
    obtain ⟨j, j1⟩ := List.getElem?_of_mem hd
    refine hv4 (hl.2.2 j d j1) (gl3 j1) (hl.1) (hb q.toNat) (fun w lt le b => ?_)
    have e : a1 44 (6008 * q + ((j : Nat) : Int)).toNat = d := by rcases w.r44 with ⟨_, q2, _⟩ | ⟨q1, _⟩ <;> omega
    refine ⟨6008 * q + ((j : Nat) : Int), k, ⟨q, hq, by omega, by omega⟩, by omega, ?_, Or.inl (by omega), ?_⟩
    · rw [e, e12]
      exact hk
    · rw [e]
      exact (lc _).mpr hc
  constructor
  · intro q
    obtain ⟨r1, k1, ⟨p, p1, p2, p3⟩, q2, q3, _, q5⟩ := q
    rcases p1 with e | e
    · subst e
      exact go 0 l0 (Or.inl rfl) h0 (fun d hd => Or.inl hd) r1 k1 p2 p3 q2 q3 q5
    · subst e
      exact go 1 l1 (Or.inr rfl) h1 (fun d hd => Or.inr hd) r1 k1 p2 p3 q2 q3 q5
  · intro q
    obtain ⟨d, k, hd, d0, hk, hc⟩ := q
    rcases hd with hd | hd
    · exact bk 0 l0 (Or.inl rfl) h0 d hd d0 k hk hc
    · exact bk 1 l1 (Or.inr rfl) h1 d hd d0 k hk hc
theorem GSH.hss (h : GSH a1 g t) (h0 : HLD a1 a1 0 (gat0 a t)) (h1 : HLD a1 a1 1 (gat1 a t)) (e6 : a1 6 = a 6) (e12 : a1 12 = a 12) (e14 : a1 14 = a 14) (hb : ∀ i, 0 ≤ a1 47 i ∧ a1 47 i ≤ 6008) : HSS a t g := fun c hc => by
  have w := h c hc
  rw [HSQ.hsc h0 h1 e12 e14 hb, e6] at w
  exact w
end USIG
set_option maxHeartbeats 4000000 in
set_option maxRecDepth 100000 in
theorem E_gatherSigns {l : Launch} {G : GT} {h0 : Nat} {ad ln : Nat → Nat} {v : Nat → Int} {a : Nat → Nat → Int} {t : Int} (hB : BX v a) (ht : 0 ≤ t ∧ t < 30) : Mm l G yX12_gatherSigns cX12_gatherSigns 8 none 1 [.int (iI t)] h0 ad ln v a 1 256 (fun r v2 a2 => r = none ∧ fr [66] [65, 70] v a v2 a2 ∧ BX v2 a2 ∧ (GSX a v2 a2 t)) := by
  refine Mm.mk (by decide) (Nat.le_of_ble_eq_true rfl) ?_
  intro p e s m args below meth c A C
  have fp0 : fr [66] [65, 70] v a v a := fr.refl
  refine m_sipush (z := 256) C dX12_gatherSigns_0 (by decide) ?_
  refine m_newZ (z := 256) (nb := 256) C dX12_gatherSigns_3 w1_129 ⟨by omega, by omega⟩ rfl ⟨Nat.le_of_ble_eq_true rfl, Nat.le_of_ble_eq_true rfl⟩ hB (fun bb vw1 aw1 fnw1 bnw1 znw1 => ?_)
  have fqw1 := fp0.call fnw1 rfl rfl
  refine x_astore_n (lv2 := [(2, .ref bb), (0, .ref h0), (1, .int (iI t))]) C dX12_gatherSigns_5 (by decide) rfl ?_
  refine x_iconst C dX12_gatherSigns_6 ?_
  refine x_istore_n (lv2 := [(3, .int (iI 0)), (2, .ref bb), (0, .ref h0), (1, .int (iI t))]) C dX12_gatherSigns_7 (by decide) rfl ?_
  have Lp1 : ∀ (nn : Nat) (pt : Int) (vb1 : Nat → Int) (ab1 : Nat → Nat → Int), 3 - pt < (nn : Int) → BX vb1 ab1 → fr [66] [65, 70] v a vb1 ab1 → (0 ≤ pt ∧ pt ≤ 2) → (GSI a (ab1 70) (6008 * pt) 0) → mx p l e (rmq 1 1 256) s m args below meth c G A 8 (MQ below (Qm G A (fun rq Lq Eq => ∃ (vq : Nat → Int) (aq : Nat → Nat → Int), mI G h0 ad ln vq aq Lq Eq ∧ (fun r v2 a2 => r = none ∧ fr [66] [65, 70] v a v2 a2 ∧ BX v2 a2 ∧ (GSX a v2 a2 t)) rq vq aq)) args s 1 256 A) bb 256 true h0 ad ln vb1 ab1 (0 + 1) (0 + 256) 8 [(3, .int (iI pt)), (2, .ref bb), (0, .ref h0), (1, .int (iI t))] [] := by
    intro nn
    induction nn with
    | zero =>
      intro pt vb1 ab1 hm bxb1 fpb1 hp hG
      exact absurd hm (by omega)
    | succ nn ih1 =>
      intro pt vb1 ab1 hm bxb1 fpb1 hp hG
      refine x_iload_n (j := 0) C dX12_gatherSigns_8 rfl ?_
      refine x_iconst C dX12_gatherSigns_9 ?_
      refine x_icmp_ge (tgt := 120) C (r32_c (lo := 0) (hi := 2) hp.1 hp.2 (by decide) (by decide)) ⟨by decide, by decide⟩ dX12_gatherSigns_10 (by decide) (fun c1 => ?_) (fun c1 => ?_)
      · refine x_aload_n (j := 2) C dX12_gatherSigns_120 rfl ?_
        refine x_geta (k := 6) C dX12_gatherSigns_121 w6_65 (by decide) rfl ?_
        refine x_iload_n (j := 3) C dX12_gatherSigns_124 rfl ?_
        refine x_ald (k := 6) C dX12_gatherSigns_125 rfl rfl (by decide) (by omega) (by show _ < ((_ : Nat) : Int); simp only [mlen]; omega) (by decide) ?_
        refine hv2 (show 0 ≤ ab1 6 t.toNat ∧ ab1 6 t.toNat ≤ 5 from bxb1.2 6 (t.toNat)) (show ab1 6 (t.toNat) = a 6 (t.toNat) from congrFun (fpb1.2 6 rfl) (t.toNat)) (fun ra1 ae1 => ?_)
        refine x_st (st2 := [.int (iI (a 6 t.toNat))]) (congrArg (fun z => Value.int (iI z) :: []) (congrFun (fpb1.2 6 rfl) (t.toNat))) ?_
        refine x_iconst C dX12_gatherSigns_126 ?_
        have J1 : ∀ (vb2 : Nat → Int) (ab2 : Nat → Nat → Int), BX vb2 ab2 → fr [66] [65, 70] v a vb2 ab2 → (GSH a (ab2 70) t) → mx p l e (rmq 1 1 256) s m args below meth c G A 8 (MQ below (Qm G A (fun rq Lq Eq => ∃ (vq : Nat → Int) (aq : Nat → Nat → Int), mI G h0 ad ln vq aq Lq Eq ∧ (fun r v2 a2 => r = none ∧ fr [66] [65, 70] v a v2 a2 ∧ BX v2 a2 ∧ (GSX a v2 a2 t)) rq vq aq)) args s 1 256 A) bb 256 true h0 ad ln vb2 ab2 (0 + 1) (0 + 256) 140 [(3, .int (iI pt)), (2, .ref bb), (0, .ref h0), (1, .int (iI t))] [] := by
          intro  vb2 ab2 bxb2 fpb2 hH
          refine x_aload_n (j := 2) C dX12_gatherSigns_140 rfl ?_
          refine x_iconst C dX12_gatherSigns_141 ?_
          refine x_put (k := 66) (z := 0) C dX12_gatherSigns_142 w6_125 (by decide) rfl rfl rfl ?_
          refine hv2 (show BX (va_up vb2 66 0) ab2 from bxb2.put (k := 66) (z := 0) ⟨by decide, by decide⟩) (fpb2.put (k := 66) (z := 0) rfl) (fun bq1 fq1 => ?_)
          refine x_iconst C dX12_gatherSigns_145 ?_
          refine x_istore_n (lv2 := [(3, .int (iI 0)), (2, .ref bb), (0, .ref h0), (1, .int (iI t))]) C dX12_gatherSigns_146 (by decide) rfl ?_
          have Lp2 : ∀ (nn : Nat) (k1 : Int) (vb3 : Nat → Int) (ab3 : Nat → Nat → Int), 257 - k1 < (nn : Int) → BX vb3 ab3 → fr [66] [65, 70] v a vb3 ab3 → (0 ≤ k1 ∧ k1 ≤ 256) → (vb3 66 ≤ k1) → (GSH a (ab3 70) t) → (SGH vb3 (ab3 65) (ab3 70) k1) → mx p l e (rmq 1 1 256) s m args below meth c G A 8 (MQ below (Qm G A (fun rq Lq Eq => ∃ (vq : Nat → Int) (aq : Nat → Nat → Int), mI G h0 ad ln vq aq Lq Eq ∧ (fun r v2 a2 => r = none ∧ fr [66] [65, 70] v a v2 a2 ∧ BX v2 a2 ∧ (GSX a v2 a2 t)) rq vq aq)) args s 1 256 A) bb 256 true h0 ad ln vb3 ab3 (0 + 1) (0 + 256) 147 [(3, .int (iI k1)), (2, .ref bb), (0, .ref h0), (1, .int (iI t))] [] := by
            intro nn
            induction nn with
            | zero =>
              intro k1 vb3 ab3 hm bxb3 fpb3 hk1 h66 hH2 hL
              exact absurd hm (by omega)
            | succ nn ih2 =>
              intro k1 vb3 ab3 hm bxb3 fpb3 hk1 h66 hH2 hL
              refine x_iload_n (j := 0) C dX12_gatherSigns_147 rfl ?_
              refine x_sipush (z := 256) C dX12_gatherSigns_148 (by decide) ?_
              refine x_icmp_ge (tgt := 189) C (r32_c (lo := 0) (hi := 256) hk1.1 hk1.2 (by decide) (by decide)) ⟨by decide, by decide⟩ dX12_gatherSigns_151 (by decide) (fun c2 => ?_) (fun c2 => ?_)
              · exact x_vret C dX12_gatherSigns_189 rfl (Nat.le_of_ble_eq_true rfl) (Nat.le_of_ble_eq_true rfl) ⟨rfl, fpb3, bxb3, GSX.mk hH2 hL (by omega)⟩
              · refine x_aload_n (j := 1) C dX12_gatherSigns_154 rfl ?_
                refine x_iload_n (j := 0) C dX12_gatherSigns_155 rfl ?_
                refine x_lzald C dX12_gatherSigns_156 rfl (by omega) (by omega) (by decide) ?_
                have ra2 : (-2147483648) ≤ ab3 70 k1.toNat ∧ ab3 70 k1.toNat ≤ 2147483647 := bxb3.2 70 (k1.toNat)
                refine x_if_ne (tgt := 163) C (r32_c (lo := (-2147483648)) (hi := 2147483647) ra2.1 ra2.2 (by decide) (by decide)) dX12_gatherSigns_157 (by decide) (fun c3 => ?_) (fun c3 => ?_)
                · refine x_aload_n (j := 2) C dX12_gatherSigns_163 rfl ?_
                  refine x_geta (k := 65) C dX12_gatherSigns_164 w6_124 (by decide) rfl ?_
                  refine x_aload_n (j := 2) C dX12_gatherSigns_167 rfl ?_
                  have rv1 : 0 ≤ vb3 66 ∧ vb3 66 ≤ 256 := bxb3.1 66
                  refine x_get (k := 66) C dX12_gatherSigns_168 w6_125 (by decide) rfl ?_
                  refine x_iload_n (j := 0) C dX12_gatherSigns_171 rfl ?_
                  refine x_ast (k := 65) C dX12_gatherSigns_172 rfl rfl (by decide) (by omega) (by show _ < ((_ : Nat) : Int); simp only [mlen]; omega) (by decide) ?_
                  refine hv2 (show BX vb3 (up2 ab3 65 (vb3 66).toNat k1) from bxb3.set (k := 65) (i := (vb3 66).toNat) (z := k1) (show 0 ≤ k1 ∧ k1 ≤ 255 by omega)) (fpb3.set (k := 65) (i := (vb3 66).toNat) (z := k1) rfl) (fun bq2 fq2 => ?_)
                  refine x_aload_n (j := 2) C dX12_gatherSigns_173 rfl ?_
                  refine x_dup C dX12_gatherSigns_174 rfl ?_
                  refine x_get (k := 66) C dX12_gatherSigns_175 w6_125 (by decide) rfl ?_
                  refine x_iconst C dX12_gatherSigns_178 ?_
                  refine x_iadd C dX12_gatherSigns_179 ?_
                  refine x_put (k := 66) (z := (vb3 66) + 1) C dX12_gatherSigns_180 w6_125 (by decide) rfl rfl rfl ?_
                  refine hv2 (show BX (va_up vb3 66 ((vb3 66) + 1)) (up2 ab3 65 (vb3 66).toNat k1) from bq2.put (k := 66) (z := (vb3 66) + 1) (show 0 ≤ ((vb3 66) + 1) ∧ ((vb3 66) + 1) ≤ 256 by omega)) (fq2.put (k := 66) (z := (vb3 66) + 1) rfl) (fun bq3 fq3 => ?_)
                  refine x_iinc (z := k1) (j := 0) (lv2 := [(3, .int (iI (k1 + 1))), (2, .ref bb), (0, .ref h0), (1, .int (iI t))]) C dX12_gatherSigns_183 rfl (by decide) rfl ?_
                  refine x_goto (tgt := 147) C dX12_gatherSigns_186 (by decide) ?_
                  refine x_lv (lv2 := [(3, .int (iI (k1 + 1))), (2, .ref bb), (0, .ref h0), (1, .int (iI t))]) [0, 1, 2, 3] rfl ?_
                  exact ih2  (k1 + 1) _ _ (by omega) bq3 fq3 (by omega) (by show ((vb3 66) + 1) ≤ (k1 + 1); omega) (show GSH a ((up2 ab3 65 (vb3 66).toNat k1) 70) t from hH2) (hL.s1 (by omega) (by omega) rfl (by unfold up2; rfl))
                · refine x_goto (tgt := 183) C dX12_gatherSigns_160 (by decide) ?_
                  refine x_iinc (z := k1) (j := 0) (lv2 := [(3, .int (iI (k1 + 1))), (2, .ref bb), (0, .ref h0), (1, .int (iI t))]) C dX12_gatherSigns_183 rfl (by decide) rfl ?_
                  refine x_goto (tgt := 147) C dX12_gatherSigns_186 (by decide) ?_
                  have rv2 : 0 ≤ vb3 66 ∧ vb3 66 ≤ 256 := bxb3.1 66
                  refine x_lv (lv2 := [(3, .int (iI (k1 + 1))), (2, .ref bb), (0, .ref h0), (1, .int (iI t))]) [0, 1, 2, 3] rfl ?_
                  exact ih2  (k1 + 1) _ _ (by omega) bxb3 fpb3 (by omega) (by show (vb3 66) ≤ (k1 + 1); omega) (show GSH a (ab3 70) t from hH2) (hL.s0 (by omega) (by omega))
          refine x_lv (lv2 := [(3, .int (iI 0)), (2, .ref bb), (0, .ref h0), (1, .int (iI t))]) [0, 1, 2, 3] rfl ?_
          exact Lp2 258 0 _ _ (by omega) bq1 fq1 (by omega) (by show 0 ≤ 0; omega) (show GSH a (ab2 70) t from hH) (SGH.init rfl)
        refine x_icmp_ne (tgt := 140) C ⟨by omega, by omega⟩ ⟨by decide, by decide⟩ dX12_gatherSigns_127 (by decide) (fun c4 => ?_) (fun c4 => ?_)
        · refine x_lv (lv2 := [(3, .int (iI pt)), (2, .ref bb), (0, .ref h0), (1, .int (iI t))]) [0, 1, 2, 3] rfl ?_
          exact J1   _ _  bxb1 fpb1 (hG.fin0 (by omega) (by omega))
        · refine x_aload_n (j := 1) C dX12_gatherSigns_130 rfl ?_
          refine x_bipush (z := 60) C dX12_gatherSigns_131 (by decide) ?_
          refine x_iconst C dX12_gatherSigns_133 ?_
          refine x_lzast (w := 1) C dX12_gatherSigns_134 rfl (by omega) (by omega) (by decide) (by omega) ?_
          refine hv2 (show BX vb1 (up2 ab1 70 (60 : Int).toNat 1) from bxb1.set (k := 70) (i := (60 : Int).toNat) (z := 1) ⟨by decide, by decide⟩) (fpb1.set (k := 70) (i := (60 : Int).toNat) (z := 1) rfl) (fun bq4 fq4 => ?_)
          refine x_aload_n (j := 1) C dX12_gatherSigns_135 rfl ?_
          refine x_bipush (z := 62) C dX12_gatherSigns_136 (by decide) ?_
          refine x_iconst C dX12_gatherSigns_138 ?_
          refine x_lzast (w := 1) C dX12_gatherSigns_139 rfl (by omega) (by omega) (by decide) (by omega) ?_
          refine hv2 (show BX vb1 (up2 (up2 ab1 70 (60 : Int).toNat 1) 70 (62 : Int).toNat 1) from bq4.set (k := 70) (i := (62 : Int).toNat) (z := 1) ⟨by decide, by decide⟩) (fq4.set (k := 70) (i := (62 : Int).toNat) (z := 1) rfl) (fun bq5 fq5 => ?_)
          refine x_lv (lv2 := [(3, .int (iI pt)), (2, .ref bb), (0, .ref h0), (1, .int (iI t))]) [0, 1, 2, 3] rfl ?_
          exact J1   _ _  bq5 fq5 (hG.fin1 (by omega) (by omega) rfl rfl)
      · refine x_sipush (z := 6008) C dX12_gatherSigns_13 (by decide) ?_
        refine x_iload_n (j := 0) C dX12_gatherSigns_16 rfl ?_
        refine x_imul C dX12_gatherSigns_17 ?_
        refine x_istore (lv2 := [(4, .int (iI (6008 * pt))), (3, .int (iI pt)), (2, .ref bb), (0, .ref h0), (1, .int (iI t))]) C dX12_gatherSigns_18 (by decide) rfl ?_
        have Lp3 : ∀ (nn : Nat) (r : Int) (vb4 : Nat → Int) (ab4 : Nat → Nat → Int), 6008 * pt + 6009 - r < (nn : Int) → BX vb4 ab4 → fr [66] [65, 70] v a vb4 ab4 → (6008 * pt ≤ r ∧ r ≤ 6008 * pt + 6008) → (GSI a (ab4 70) r 0) → mx p l e (rmq 1 1 256) s m args below meth c G A 8 (MQ below (Qm G A (fun rq Lq Eq => ∃ (vq : Nat → Int) (aq : Nat → Nat → Int), mI G h0 ad ln vq aq Lq Eq ∧ (fun r v2 a2 => r = none ∧ fr [66] [65, 70] v a v2 a2 ∧ BX v2 a2 ∧ (GSX a v2 a2 t)) rq vq aq)) args s 1 256 A) bb 256 true h0 ad ln vb4 ab4 (0 + 1) (0 + 256) 20 [(4, .int (iI r)), (3, .int (iI pt)), (2, .ref bb), (0, .ref h0), (1, .int (iI t))] [] := by
          intro nn
          induction nn with
          | zero =>
            intro r vb4 ab4 hm bxb4 fpb4 hr hG2
            exact absurd hm (by omega)
          | succ nn ih3 =>
            intro r vb4 ab4 hm bxb4 fpb4 hr hG2
            refine x_iload (j := 0) C dX12_gatherSigns_20 rfl ?_
            refine x_sipush (z := 6008) C dX12_gatherSigns_22 (by decide) ?_
            refine x_iload_n (j := 1) C dX12_gatherSigns_25 rfl ?_
            refine x_imul C dX12_gatherSigns_26 ?_
            refine x_aload_n (j := 3) C dX12_gatherSigns_27 rfl ?_
            refine x_geta (k := 47) C dX12_gatherSigns_28 w6_106 (by decide) rfl ?_
            refine x_iload_n (j := 1) C dX12_gatherSigns_31 rfl ?_
            refine x_ald (k := 47) C dX12_gatherSigns_32 rfl rfl (by decide) (by omega) (by show _ < ((_ : Nat) : Int); simp only [mlen]; omega) (by decide) ?_
            refine hv2 (show 0 ≤ ab4 47 pt.toNat ∧ ab4 47 pt.toNat ≤ 6008 from bxb4.2 47 (pt.toNat)) (show ab4 47 (pt.toNat) = a 47 (pt.toNat) from congrFun (fpb4.2 47 rfl) (pt.toNat)) (fun ra3 ae2 => ?_)
            refine x_st (st2 := [.int (iI (a 47 pt.toNat)), .int (iI (6008 * pt)), .int (iI r)]) (congrArg (fun z => Value.int (iI z) :: [.int (iI (6008 * pt)), .int (iI r)]) (congrFun (fpb4.2 47 rfl) (pt.toNat))) ?_
            refine x_iadd C dX12_gatherSigns_33 ?_
            refine x_icmp_ge (tgt := 114) C ⟨by omega, by omega⟩ ⟨by omega, by omega⟩ dX12_gatherSigns_34 (by decide) (fun c5 => ?_) (fun c5 => ?_)
            · refine x_iinc (z := pt) (j := 1) (lv2 := [(3, .int (iI (pt + 1))), (4, .int (iI r)), (2, .ref bb), (0, .ref h0), (1, .int (iI t))]) C dX12_gatherSigns_114 rfl (by decide) rfl ?_
              refine x_goto (tgt := 8) C dX12_gatherSigns_117 (by decide) ?_
              refine x_lv (lv2 := [(3, .int (iI (pt + 1))), (2, .ref bb), (0, .ref h0), (1, .int (iI t))]) [0, 2, 3, 4] rfl ?_
              exact ih1  (pt + 1) _ _ (by omega) bxb4 fpb4 (by omega) (hG2.next (by omega) (fun i => hB.2 47 i) ⟨by omega, by omega⟩)
            · refine x_aload_n (j := 3) C dX12_gatherSigns_37 rfl ?_
              refine x_geta (k := 44) C dX12_gatherSigns_38 w6_103 (by decide) rfl ?_
              refine x_iload (j := 0) C dX12_gatherSigns_41 rfl ?_
              refine x_ald (k := 44) C dX12_gatherSigns_43 rfl rfl (by decide) (by omega) (by show _ < ((_ : Nat) : Int); simp only [mlen]; omega) (by decide) ?_
              refine hv2 (show (-4) ≤ ab4 44 r.toNat ∧ ab4 44 r.toNat ≤ 5999 from bxb4.2 44 (r.toNat)) (show ab4 44 (r.toNat) = a 44 (r.toNat) from congrFun (fpb4.2 44 rfl) (r.toNat)) (fun ra4 ae3 => ?_)
              refine x_st (st2 := [.int (iI (a 44 r.toNat))]) (congrArg (fun z => Value.int (iI z) :: []) (congrFun (fpb4.2 44 rfl) (r.toNat))) ?_
              refine x_istore (lv2 := [(5, .int (iI (a 44 r.toNat))), (4, .int (iI r)), (3, .int (iI pt)), (2, .ref bb), (0, .ref h0), (1, .int (iI t))]) C dX12_gatherSigns_44 (by decide) rfl ?_
              refine x_iconst C dX12_gatherSigns_46 ?_
              refine x_istore (lv2 := [(6, .int (iI 0)), (5, .int (iI (a 44 r.toNat))), (4, .int (iI r)), (3, .int (iI pt)), (2, .ref bb), (0, .ref h0), (1, .int (iI t))]) C dX12_gatherSigns_47 (by decide) rfl ?_
              have Lp4 : ∀ (nn : Nat) (k : Int) (vb5 : Nat → Int) (ab5 : Nat → Nat → Int), 9 - k < (nn : Int) → BX vb5 ab5 → fr [66] [65, 70] v a vb5 ab5 → (0 ≤ k ∧ k ≤ 8) → (GSI a (ab5 70) r k) → mx p l e (rmq 1 1 256) s m args below meth c G A 8 (MQ below (Qm G A (fun rq Lq Eq => ∃ (vq : Nat → Int) (aq : Nat → Nat → Int), mI G h0 ad ln vq aq Lq Eq ∧ (fun r v2 a2 => r = none ∧ fr [66] [65, 70] v a v2 a2 ∧ BX v2 a2 ∧ (GSX a v2 a2 t)) rq vq aq)) args s 1 256 A) bb 256 true h0 ad ln vb5 ab5 (0 + 1) (0 + 256) 49 [(6, .int (iI k)), (5, .int (iI (a 44 r.toNat))), (4, .int (iI r)), (3, .int (iI pt)), (2, .ref bb), (0, .ref h0), (1, .int (iI t))] [] := by
                intro nn
                induction nn with
                | zero =>
                  intro k vb5 ab5 hm bxb5 fpb5 hk hG3
                  exact absurd hm (by omega)
                | succ nn ih4 =>
                  intro k vb5 ab5 hm bxb5 fpb5 hk hG3
                  refine x_iload (j := 1) C dX12_gatherSigns_49 rfl ?_
                  refine x_if_lt (tgt := 108) C ⟨by omega, by omega⟩ dX12_gatherSigns_51 (by decide) (fun c6 => ?_) (fun c6 => ?_)
                  · refine x_iinc (z := r) (j := 2) (lv2 := [(4, .int (iI (r + 1))), (6, .int (iI k)), (5, .int (iI (a 44 r.toNat))), (3, .int (iI pt)), (2, .ref bb), (0, .ref h0), (1, .int (iI t))]) C dX12_gatherSigns_108 rfl (by decide) rfl ?_
                    refine x_goto (tgt := 20) C dX12_gatherSigns_111 (by decide) ?_
                    refine x_lv (lv2 := [(4, .int (iI (r + 1))), (3, .int (iI pt)), (2, .ref bb), (0, .ref h0), (1, .int (iI t))]) [0, 3, 4, 5, 6] rfl ?_
                    exact ih3  (r + 1) _ _ (by omega) bxb5 fpb5 (by omega) (hG3.row (by omega))
                  · refine x_iload (j := 0) C dX12_gatherSigns_54 rfl ?_
                    refine x_aload_n (j := 5) C dX12_gatherSigns_56 rfl ?_
                    refine x_geta (k := 12) C dX12_gatherSigns_57 w6_71 (by decide) rfl ?_
                    refine x_iload (j := 1) C dX12_gatherSigns_60 rfl ?_
                    refine x_ald (k := 12) C dX12_gatherSigns_62 rfl rfl (by decide) (by omega) (by show _ < ((_ : Nat) : Int); simp only [mlen]; omega) (by decide) ?_
                    refine hv2 (show 0 ≤ ab5 12 (a 44 r.toNat).toNat ∧ ab5 12 (a 44 r.toNat).toNat ≤ 8 from bxb5.2 12 ((a 44 r.toNat).toNat)) (show ab5 12 ((a 44 r.toNat).toNat) = a 12 ((a 44 r.toNat).toNat) from congrFun (fpb5.2 12 rfl) ((a 44 r.toNat).toNat)) (fun ra5 ae4 => ?_)
                    refine x_st (st2 := [.int (iI (a 12 (a 44 r.toNat).toNat)), .int (iI k)]) (congrArg (fun z => Value.int (iI z) :: [.int (iI k)]) (congrFun (fpb5.2 12 rfl) ((a 44 r.toNat).toNat))) ?_
                    refine x_icmp_ge (tgt := 108) C (r32_c (lo := 0) (hi := 8) hk.1 hk.2 (by decide) (by decide)) ⟨by omega, by omega⟩ dX12_gatherSigns_63 (by decide) (fun c7 => ?_) (fun c7 => ?_)
                    · refine x_iinc (z := r) (j := 2) (lv2 := [(4, .int (iI (r + 1))), (6, .int (iI k)), (5, .int (iI (a 44 r.toNat))), (3, .int (iI pt)), (2, .ref bb), (0, .ref h0), (1, .int (iI t))]) C dX12_gatherSigns_108 rfl (by decide) rfl ?_
                      refine x_goto (tgt := 20) C dX12_gatherSigns_111 (by decide) ?_
                      refine x_lv (lv2 := [(4, .int (iI (r + 1))), (3, .int (iI pt)), (2, .ref bb), (0, .ref h0), (1, .int (iI t))]) [0, 3, 4, 5, 6] rfl ?_
                      exact ih3  (r + 1) _ _ (by omega) bxb5 fpb5 (by omega) (hG3.row (by omega))
                    · refine x_aload_n (j := 5) C dX12_gatherSigns_66 rfl ?_
                      refine x_geta (k := 14) C dX12_gatherSigns_67 w6_73 (by decide) rfl ?_
                      refine x_bipush (z := 8) C dX12_gatherSigns_70 (by decide) ?_
                      refine x_iload (j := 1) C dX12_gatherSigns_72 rfl ?_
                      refine x_imul C dX12_gatherSigns_74 ?_
                      refine x_iload (j := 0) C dX12_gatherSigns_75 rfl ?_
                      refine x_iadd C dX12_gatherSigns_77 ?_
                      refine x_ald (k := 14) C dX12_gatherSigns_78 rfl rfl (by decide) (by omega) (by show _ < ((_ : Nat) : Int); simp only [mlen]; omega) (by decide) ?_
                      refine hv2 (show 0 ≤ ab5 14 ((8 * (a 44 r.toNat)) + k).toNat ∧ ab5 14 ((8 * (a 44 r.toNat)) + k).toNat ≤ 125 from bxb5.2 14 (((8 * (a 44 r.toNat)) + k).toNat)) (show ab5 14 (((8 * (a 44 r.toNat)) + k).toNat) = a 14 (((8 * (a 44 r.toNat)) + k).toNat) from congrFun (fpb5.2 14 rfl) (((8 * (a 44 r.toNat)) + k).toNat)) (fun ra6 ae5 => ?_)
                      refine x_st (st2 := [.int (iI (a 14 ((8 * (a 44 r.toNat)) + k).toNat))]) (congrArg (fun z => Value.int (iI z) :: []) (congrFun (fpb5.2 14 rfl) (((8 * (a 44 r.toNat)) + k).toNat))) ?_
                      refine x_istore (lv2 := [(7, .int (iI (a 14 ((8 * (a 44 r.toNat)) + k).toNat))), (6, .int (iI k)), (5, .int (iI (a 44 r.toNat))), (4, .int (iI r)), (3, .int (iI pt)), (2, .ref bb), (0, .ref h0), (1, .int (iI t))]) C dX12_gatherSigns_79 (by decide) rfl ?_
                      refine x_aload_n (j := 5) C dX12_gatherSigns_81 rfl ?_
                      refine x_iload (j := 0) C dX12_gatherSigns_82 rfl ?_
                      refine x_iconst C dX12_gatherSigns_84 ?_
                      refine x_lzast (w := 1) C dX12_gatherSigns_85 rfl (by omega) (by omega) (by decide) (by omega) ?_
                      refine hv2 (show BX vb5 (up2 ab5 70 (a 14 ((8 * (a 44 r.toNat)) + k).toNat).toNat 1) from bxb5.set (k := 70) (i := (a 14 ((8 * (a 44 r.toNat)) + k).toNat).toNat) (z := 1) ⟨by decide, by decide⟩) (fpb5.set (k := 70) (i := (a 14 ((8 * (a 44 r.toNat)) + k).toNat).toNat) (z := 1) rfl) (fun bq6 fq6 => ?_)
                      refine x_iload (j := 0) C dX12_gatherSigns_86 rfl ?_
                      refine x_callS (As := [.int (iI (a 14 ((8 * (a 44 r.toNat)) + k).toNat))]) (rest := []) C (fun L E => s_isSmall (iI (a 14 ((8 * (a 44 r.toNat)) + k).toNat))) dX12_gatherSigns_88 kS_X12_208 rfl rfl (Nat.le_of_ble_eq_true rfl) ⟨Nat.le_of_ble_eq_true rfl, Nat.le_of_ble_eq_true rfl⟩ ⟨Nat.le_of_ble_eq_true rfl, Nat.le_of_ble_eq_true rfl⟩ ?_
                      rcases inn_c (x := a 14 ((8 * (a 44 r.toNat)) + k).toNat) (lo := 97) (hi := 122) ⟨by omega, by omega⟩ ⟨by decide, by decide⟩ ⟨by decide, by decide⟩ with ⟨h1a, h1b, h1e⟩ | ⟨h1a, h1e⟩
                      · refine x_st (st2 := [.int (iI 1)]) (by rw [show inn (iI (a 14 ((8 * (a 44 r.toNat)) + k).toNat)) 97 122 = iI 1 from h1e]) ?_
                        refine x_if_eq (tgt := 102) C ⟨by decide, by decide⟩ dX12_gatherSigns_91 (by decide) (fun z => absurd z (by omega)) (fun _ => ?_)
                        refine x_aload_n (j := 5) C dX12_gatherSigns_94 rfl ?_
                        refine x_iload (j := 0) C dX12_gatherSigns_95 rfl ?_
                        refine x_bipush (z := 32) C dX12_gatherSigns_97 (by decide) ?_
                        refine x_isub C dX12_gatherSigns_99 ?_
                        refine x_iconst C dX12_gatherSigns_100 ?_
                        refine x_lzast (w := 1) C dX12_gatherSigns_101 rfl (by omega) (by omega) (by decide) (by omega) ?_
                        refine hv2 (show BX vb5 (up2 (up2 ab5 70 (a 14 ((8 * (a 44 r.toNat)) + k).toNat).toNat 1) 70 ((a 14 ((8 * (a 44 r.toNat)) + k).toNat) - 32).toNat 1) from bq6.set (k := 70) (i := ((a 14 ((8 * (a 44 r.toNat)) + k).toNat) - 32).toNat) (z := 1) ⟨by decide, by decide⟩) (fq6.set (k := 70) (i := ((a 14 ((8 * (a 44 r.toNat)) + k).toNat) - 32).toNat) (z := 1) rfl) (fun bq7 fq7 => ?_)
                        refine x_iinc (z := k) (j := 1) (lv2 := [(6, .int (iI (k + 1))), (7, .int (iI (a 14 ((8 * (a 44 r.toNat)) + k).toNat))), (5, .int (iI (a 44 r.toNat))), (4, .int (iI r)), (3, .int (iI pt)), (2, .ref bb), (0, .ref h0), (1, .int (iI t))]) C dX12_gatherSigns_102 rfl (by decide) rfl ?_
                        refine x_goto (tgt := 49) C dX12_gatherSigns_105 (by decide) ?_
                        refine x_lv (lv2 := [(6, .int (iI (k + 1))), (5, .int (iI (a 44 r.toNat))), (4, .int (iI r)), (3, .int (iI pt)), (2, .ref bb), (0, .ref h0), (1, .int (iI t))]) [0, 2, 3, 4, 5, 6, 7] rfl ?_
                        exact ih4  (k + 1) _ _ (by omega) bq7 fq7 (by omega) (hG3.small ⟨pt, by omega, by omega, by omega⟩ (by omega) ⟨by omega, by omega⟩ rfl ⟨by omega, by omega⟩)
                      · refine x_st (st2 := [.int (iI 0)]) (by rw [show inn (iI (a 14 ((8 * (a 44 r.toNat)) + k).toNat)) 97 122 = iI 0 from h1e]) ?_
                        refine x_if_eq (tgt := 102) C ⟨by decide, by decide⟩ dX12_gatherSigns_91 (by decide) (fun _ => ?_) (fun z => absurd z (by omega))
                        refine x_iinc (z := k) (j := 1) (lv2 := [(6, .int (iI (k + 1))), (7, .int (iI (a 14 ((8 * (a 44 r.toNat)) + k).toNat))), (5, .int (iI (a 44 r.toNat))), (4, .int (iI r)), (3, .int (iI pt)), (2, .ref bb), (0, .ref h0), (1, .int (iI t))]) C dX12_gatherSigns_102 rfl (by decide) rfl ?_
                        refine x_goto (tgt := 49) C dX12_gatherSigns_105 (by decide) ?_
                        refine x_lv (lv2 := [(6, .int (iI (k + 1))), (5, .int (iI (a 44 r.toNat))), (4, .int (iI r)), (3, .int (iI pt)), (2, .ref bb), (0, .ref h0), (1, .int (iI t))]) [0, 2, 3, 4, 5, 6, 7] rfl ?_
                        exact ih4  (k + 1) _ _ (by omega) bq6 fq6 (by omega) (hG3.plain ⟨pt, by omega, by omega, by omega⟩ (by omega) ⟨by omega, by omega⟩ rfl ⟨by omega, by omega⟩ (by omega))
              refine x_lv (lv2 := [(6, .int (iI 0)), (5, .int (iI (a 44 r.toNat))), (4, .int (iI r)), (3, .int (iI pt)), (2, .ref bb), (0, .ref h0), (1, .int (iI t))]) [0, 1, 2, 3, 4, 5, 6] rfl ?_
              exact Lp4 10 0 _ _ (by omega) bxb4 fpb4 (by omega) hG2
        refine x_lv (lv2 := [(4, .int (iI (6008 * pt))), (3, .int (iI pt)), (2, .ref bb), (0, .ref h0), (1, .int (iI t))]) [0, 1, 2, 3, 4] rfl ?_
        exact Lp3 6010 (6008 * pt) _ _ (by omega) bxb1 fpb1 (by omega) hG
  refine x_lv (lv2 := [(3, .int (iI 0)), (2, .ref bb), (0, .ref h0), (1, .int (iI t))]) [0, 1, 2, 3] rfl ?_
  exact Lp1 4 0 _ _ (by omega) bnw1 fqw1 (by omega) (GSI.init znw1 (by omega))
end
