section
def PBI (a : Nat → Nat → Int) (s : Nat → Int) (k : Int) : Prop := ∀ j : Nat, ((j : Nat) : Int) < k → s j = a 54 j
def PBXU (v : Nat → Int) (a : Nat → Nat → Int) (v2 : Nat → Int) (a2 : Nat → Nat → Int) : Prop := v2 52 = v 55 ∧ PBI a (a2 51) (v 55)
def WDW (v : Nat → Int) (a : Nat → Nat → Int) (ws : List Int) : Prop := v 23 = ((ws.length : Nat) : Int) ∧ ∀ (j : Nat) (x : Int), ws[j]? = some x → a 20 j = x
def UCX (a : Nat → Nat → Int) (t : Int) : Prop := (HLD a a 0 (gat0 a t) ∧ HLD a a 1 (gat1 a t)) ∧ (NZL a (gat0 a t) ∧ NZL a (gat1 a t)) ∧ ((∀ (j : Nat) (d : Int), (gat0 a t)[j]? = some d → rol d ≠ 3) ∧ ∀ (j : Nat) (d : Int), (gat1 a t)[j]? = some d → rol d ≠ 2)
def IUX (v : Nat → Int) (a : Nat → Nat → Int) (a2 : Nat → Nat → Int) (t f : Int) : Prop := a2 20 = a 20 ∧ ∀ ws, UCX a t → WDW v a ws → ws.length ≤ 500 → (f = 1 ↔ URB a t ws)
def IU1 (v : Nat → Int) (a : Nat → Nat → Int) (v1 : Nat → Int) (a1 : Nat → Nat → Int) (t k : Int) : Prop := ∃ cs, SWC a (a 20) (v 23) t cs ∧ MDH v1 a1 cs ∧ ROWL v1 a1 (cs.take k.toNat)
def IU2 (v : Nat → Int) (a : Nat → Nat → Int) (v1 : Nat → Int) (a1 : Nat → Nat → Int) (t k : Int) : Prop := ∃ cs, SWC a (a 20) (v 23) t cs ∧ (UCX a t → ∃ bs, RFN a (gat0 a t) (gat1 a t) (RR0 cs) bs ∧ OUTL v1 a1 bs) ∧ ∀ j : Nat, ((j : Nat) : Int) < k → a1 51 j = a 20 j
section UBCK
variable {v v1 v2 v3 v4 : Nat → Int} {a a1 a2 a3 a4 : Nat → Nat → Int} {s s2 : Nat → Int} {t k f f1 x z : Int} {ws cs bs : List Int} {V A : List Nat}
theorem PBI.zero : PBI a s 0 := fun j hj => absurd hj (by omega)
theorem PBI.step (h : PBI a s k) (hk : 0 ≤ k) (e : s2 = va_up s k.toNat (a 54 k.toNat)) : PBI a s2 (k + 1) := fun j hj => by
  rw [e]
  by_cases q : j = k.toNat
  · rw [q, va_up_self]
  · rw [va_up_ne _ _ q]
    exact h j (by omega)
theorem WDW.ag (h : WDW v a ws) : AGW (a 20) (RR0 ws) 0 (v 23) := fun j h1 h2 => by
  have e := h.1
  have lt : j.toNat < ws.length := by omega
  have g := List.getElem?_eq_getElem lt
  rw [RR0_at g]
  exact h.2 _ _ g
theorem WDW.ag2 (h : WDW v a ws) : AGW (RR0 ws) (a 20) 0 (v 23) := fun j h1 h2 => (h.ag j h1 h2).symm
theorem IUX.no (hB : BX v a) (hs : SWT v a v2 a2 t f1) (hf : f1 ≠ 1) (e : f = 0) (e20 : a3 20 = a2 20) : IUX v a a3 t f := ⟨e20.trans hs.1, fun ws _ hw _ => ⟨fun q => by omega, fun q => by
  obtain ⟨cs, q1, _⟩ := q
  rw [← hw.1] at q1
  exact absurd ⟨cs, SWC_w hw.ag2 (fun i => (hB.2 12 i).1) q1⟩ (hs.2.2 hf)⟩⟩
theorem IU1.init (hs : SWT v a v1 a1 t f1) (hf : f1 = 1) (h50 : v2 50 = 0) (h25 : v2 25 = v1 25) (h24 : a2 24 = a1 24) : IU1 v a v2 a2 t 0 := by
  obtain ⟨cs, c1, c2⟩ := hs.2.1 hf
  refine ⟨cs, c1, ⟨h25.trans c2.1, fun j d e => by rw [h24]; exact c2.2 j d e⟩, h50, fun j x e => ?_⟩
  simp at e
theorem take_s {l : List Int} {n : Nat} {y : Int} (e : l[n]? = some y) : l.take (n + 1) = l.take n ++ [y] := by
  rw [List.take_succ, e]
  rfl
theorem IU1.step (h : IU1 v a v1 a1 t k) (hk : 0 ≤ k ∧ k < v1 25) (hx : x = a1 24 k.toNat) (h50 : v2 50 = v1 50 + 1) (h48 : a2 48 = va_up (a1 48) (v1 50).toNat x) (h25 : v2 25 = v1 25) (h24 : a2 24 = a1 24) : IU1 v a v2 a2 t (k + 1) := by
  obtain ⟨cs, c1, c2, c3⟩ := h
  have e := c2.1
  have lt : k.toNat < cs.length := by omega
  have g := List.getElem?_eq_getElem lt
  have g2 := c2.2 _ _ g
  refine ⟨cs, c1, ⟨h25.trans c2.1, fun j d e => by rw [h24]; exact c2.2 j d e⟩, ?_⟩
  rw [show (k + 1).toNat = k.toNat + 1 by omega, take_s g, ← g2, ← hx]
  exact c3.snoc h50 h48
theorem IU1.read (h : IU1 v a v1 a1 t k) (hk : v1 25 ≤ k) (hU : UCX a t) (hf : fr V A v a v1 a1) (hc : ([12, 13, 14, 15, 16, 17, 44, 45, 46, 47] : List Nat).all (fun k => !A.contains k) = true) (hx : RAX v1 a1 v2 a2 f) : ∃ cs, SWC a (a 20) (v 23) t cs ∧ ((f = 0 ∧ ∃ bs, RFN a (gat0 a t) (gat1 a t) (RR0 cs) bs ∧ OUTL v2 a2 bs) ∨ (f ≠ 0 ∧ (RWG a (gat0 a t) (gat1 a t) (RR0 cs) ∨ ROV a (gat0 a t) (gat1 a t) (RR0 cs) 4000))) := by
  obtain ⟨cs, c1, c2, c3⟩ := h
  have e := c2.1
  rw [List.take_of_length_le (by omega)] at c3
  have kk : ∀ j, ([12, 13, 14, 15, 16, 17, 44, 45, 46, 47] : List Nat).contains j = true → a1 j = a j := fun j hj => hf.2 j (by
    have w := List.all_eq_true.mp hc j (List.contains_iff_mem.mp hj)
    simpa using w)
  refine hv10 (kk 12 rfl) (kk 13 rfl) (kk 14 rfl) (kk 15 rfl) (kk 16 rfl) (kk 17 rfl) (kk 44 rfl) (kk 45 rfl) (kk 46 rfl) (kk 47 rfl) (fun e12 e13 e14 e15 e16 e17 e44 e45 e46 e47 => ?_)
  obtain ⟨⟨u1, u2⟩, ⟨u3, u4⟩, u5⟩ := hU
  have nz : ∀ l, NZL a l → NZL a1 l := fun l hl j d hd => by
    rw [rlen_cg e13 e16]
    exact ⟨(hl j d hd).1, fun k c1 c2 => by rw [dcl_cg e15 e17]; exact (hl j d hd).2 k c1 c2⟩
  have rac : RAC v1 a1 (gat0 a t) (gat1 a t) (RR0 cs) := by
    refine ⟨⟨(u1.fr e44 e45 e46 (by rw [e47])).cg e13 e16, (u2.fr e44 e45 e46 (by rw [e47])).cg e13 e16⟩, ⟨nz _ u3, nz _ u4⟩, u5, fun j => ⟨fun hj => ?_, fun hj => ?_⟩⟩
    · have e2 := c3.1
      have lt : j < cs.length := by omega
      have g := List.getElem?_eq_getElem lt
      rw [RR0_at g, c3.2 j _ g]
    · have e2 := c3.1
      unfold RR0
      rw [List.getElem?_eq_none (by omega)]
      rfl
  refine ⟨cs, c1, ?_⟩
  rcases hx _ _ _ rac with ⟨z0, bs, w1, w2⟩ | ⟨z0, w1 | w1⟩
  · exact Or.inl ⟨z0, bs, RFN_cg e12 e13 e14 e15 e16 e17 w1, w2⟩
  · exact Or.inr ⟨z0, Or.inl (RWG_cg e12 e13 e14 e15 e16 e17 w1)⟩
  · exact Or.inr ⟨z0, Or.inr (ROV_cg e12 e13 e14 e15 e16 e17 w1)⟩
theorem IU1.yes (hB : BX v a) (h : IU1 v a v1 a1 t k) (hk : v1 25 ≤ k) (hf : fr V A v a v1 a1) (hc : ([12, 13, 14, 15, 16, 17, 44, 45, 46, 47] : List Nat).all (fun k => !A.contains k) = true) (hx : RAX v1 a1 v2 a2 z) (hd : z ≠ 0 ∨ v2 52 ≠ v 23) (e : f = 1) (e20 : a3 20 = a 20) : IUX v a a3 t f := ⟨e20, fun ws hU hw hl => ⟨fun _ => by
  obtain ⟨cs, c1, c2⟩ := h.read hk hU hf hc hx
  refine ⟨cs, ?_, fun hr => ?_⟩
  · rw [← hw.1]
    exact SWC_w hw.ag (fun i => (hB.2 12 i).1) c1
  · have e1 := hw.1
    rcases c2 with ⟨z0, bs, w1, w2⟩ | ⟨_, w1 | w1⟩
    · have w3 := RFN.uni hU.2.1.1 hU.2.1.2 w1 hr
      subst w3
      have w4 := w2.1
      omega
    · exact (RFN.nw hU.2.1.1 hU.2.1.2 hr w1).elim
    · have w3 := RFN.ov hU.2.1.1 hU.2.1.2 hr w1
      omega, fun _ => e⟩⟩
theorem IU1.two (h : IU1 v a v1 a1 t k) (hk : v1 25 ≤ k) (hf : fr V A v a v1 a1) (hc : ([12, 13, 14, 15, 16, 17, 44, 45, 46, 47] : List Nat).all (fun k => !A.contains k) = true) (hx : RAX v1 a1 v2 a2 z) (hd : z = 0) : IU2 v a v2 a2 t 0 := by
  obtain ⟨cs, c1, c2, c3⟩ := h
  by_cases hU : UCX a t
  · obtain ⟨ds, d1, d2⟩ := IU1.read ⟨cs, c1, c2, c3⟩ hk hU hf hc hx
    refine ⟨ds, d1, fun _ => ?_, fun j hj => absurd hj (by omega)⟩
    rcases d2 with ⟨_, w⟩ | ⟨w, _⟩
    · exact w
    · exact absurd hd w
  · exact ⟨cs, c1, fun q => absurd q hU, fun j hj => absurd hj (by omega)⟩
theorem IU2.step (h : IU2 v a v1 a1 t k) (hk : 0 ≤ k) (e : a1 51 k.toNat = a 20 k.toNat) : IU2 v a v1 a1 t (k + 1) := by
  obtain ⟨cs, c1, c2, c3⟩ := h
  refine ⟨cs, c1, c2, fun j hj => ?_⟩
  by_cases q : j = k.toNat
  · rw [q]; exact e
  · exact c3 j (by omega)
theorem IU2.bad (hB : BX v a) (h : IU2 v a v1 a1 t k) (hk : 0 ≤ k ∧ k < v1 52) (ne : ¬ a1 51 k.toNat = a 20 k.toNat) (e : f = 1) (e20 : a3 20 = a 20) : IUX v a a3 t f := ⟨e20, fun ws hU hw hl => ⟨fun _ => by
  obtain ⟨cs, c1, c2, c3⟩ := h
  obtain ⟨bs, b1, b2⟩ := c2 hU
  refine ⟨cs, ?_, fun hr => ?_⟩
  · rw [← hw.1]
    exact SWC_w hw.ag (fun i => (hB.2 12 i).1) c1
  · have w3 := RFN.uni hU.2.1.1 hU.2.1.2 b1 hr
    subst w3
    have e2 := b2.1
    have lt : k.toNat < bs.length := by omega
    have g := List.getElem?_eq_getElem lt
    exact ne ((b2.2 _ _ g).trans (hw.2 _ _ g).symm), fun _ => e⟩⟩
theorem IU2.same (hB : BX v a) (hT : TBL v a) (ht : 0 ≤ t ∧ t < v 4) (h : IU2 v a v1 a1 t k) (h52 : v1 52 = v 23) (hk : v1 52 ≤ k) (e : f = 0) (e20 : a3 20 = a 20) : IUX v a a3 t f := ⟨e20, fun ws hU hw hl => ⟨fun q => by omega, fun q => by
  obtain ⟨cs, c1, c2, c3⟩ := h
  obtain ⟨bs, b1, b2⟩ := c2 hU
  obtain ⟨ds, d1, d2⟩ := q
  refine hv2 (hw.1) (b2.1) (fun ew eb => ?_)
  have same : bs = ws := by
    apply List.ext_getElem?
    intro j
    by_cases lt : j < ws.length
    · have lt2 : j < bs.length := by omega
      have g1 := List.getElem?_eq_getElem lt
      have g2 := List.getElem?_eq_getElem lt2
      rw [g1, g2]
      refine hv2 (b2.2 _ _ g2) (hw.2 _ _ g1) (fun w1 w2 => ?_)
      have w3 := c3 j (by omega)
      rw [← w1, ← w2, w3]
    · rw [List.getElem?_eq_none (by omega), List.getElem?_eq_none (by omega)]
  subst same
  rw [← hw.1] at d1
  have e3 := SWC.uni hT ht (SWC_w hw.ag2 (fun i => (hB.2 12 i).1) d1) c1
  subst e3
  exact absurd b1 d2⟩⟩
end UBCK
set_option maxHeartbeats 4000000 in
set_option maxRecDepth 100000 in
theorem E_putBack {l : Launch} {G : GT} {h0 : Nat} {ad ln : Nat → Nat} {v : Nat → Int} {a : Nat → Nat → Int}  (hB : BX v a)  : Mm l G yX12_putBack cX12_putBack 2 none 0 [] h0 ad ln v a 0 0 (fun r v2 a2 => r = none ∧ fr [52] [51] v a v2 a2 ∧ BX v2 a2 ∧ (PBXU v a v2 a2)) := by
  refine Mm.mk (by decide) (Nat.le_of_ble_eq_true rfl) ?_
  intro p e s m args below meth c A C
  refine hv2 (show 0 ≤ v 55 ∧ v 55 ≤ 4000 from hB.1 55) (show fr [52] [51] v a v a from fr.refl) (fun r55 fp0 => ?_)
  refine m_aload_n (j := 0) C dX12_putBack_0 rfl ?_
  refine m_aload_n (j := 0) C dX12_putBack_1 rfl ?_
  have rv1 : 0 ≤ v 55 ∧ v 55 ≤ 4000 := hB.1 55
  refine m_get (k := 55) C dX12_putBack_2 w6_114 (by decide) rfl ?_
  refine m_put (k := 52) (z := v 55) C dX12_putBack_5 w6_111 (by decide) rfl rfl rfl ?_
  refine hv2 (show BX (va_up v 52 (v 55)) a from hB.put (k := 52) (z := v 55) (show 0 ≤ (v 55) ∧ (v 55) ≤ 4000 by omega)) (fp0.put (k := 52) (z := v 55) rfl) (fun bq1 fq1 => ?_)
  refine m_iconst C dX12_putBack_8 ?_
  refine m_istore_n (lv2 := [(1, .int (iI 0)), (0, .ref h0)]) C dX12_putBack_9 (by decide) rfl ?_
  have Lp1 : ∀ (nn : Nat) (k : Int) (vb1 : Nat → Int) (ab1 : Nat → Nat → Int), 4001 - k < (nn : Int) → BX vb1 ab1 → fr [52] [51] v a vb1 ab1 → (0 ≤ k ∧ k ≤ 4000) → (vb1 52 = v 55) → (PBI a (ab1 51) k) → mw p l e (rmq 0 0 0) s m args below meth c G A 2 (MQ below (Qm G A (fun rq Lq Eq => ∃ (vq : Nat → Int) (aq : Nat → Nat → Int), mI G h0 ad ln vq aq Lq Eq ∧ (fun r v2 a2 => r = none ∧ fr [52] [51] v a v2 a2 ∧ BX v2 a2 ∧ (PBXU v a v2 a2)) rq vq aq)) args s 0 0 A) h0 ad ln vb1 ab1 0 0 10 [(1, .int (iI k)), (0, .ref h0)] [] := by
    intro nn
    induction nn with
    | zero =>
      intro k vb1 ab1 hm bxb1 fpb1 hk h52 hP
      exact absurd hm (by omega)
    | succ nn ih1 =>
      intro k vb1 ab1 hm bxb1 fpb1 hk h52 hP
      refine m_iload_n (j := 0) C dX12_putBack_10 rfl ?_
      refine m_aload_n (j := 1) C dX12_putBack_11 rfl ?_
      have rv2 : 0 ≤ vb1 52 ∧ vb1 52 ≤ 4000 := bxb1.1 52
      refine m_get (k := 52) C dX12_putBack_12 w6_111 (by decide) rfl ?_
      refine m_icmp_ge (tgt := 36) C (r32_c (lo := 0) (hi := 4000) hk.1 hk.2 (by decide) (by decide)) (r32_c (lo := 0) (hi := 4000) rv2.1 rv2.2 (by decide) (by decide)) dX12_putBack_15 (by decide) (fun c1 => ?_) (fun c1 => ?_)
      · exact m_vret C dX12_putBack_36 rfl (Nat.le_of_ble_eq_true rfl) (Nat.le_of_ble_eq_true rfl) ⟨rfl, fpb1, bxb1, ⟨h52, fun j hj => hP j (by omega)⟩⟩
      · refine m_aload_n (j := 1) C dX12_putBack_18 rfl ?_
        refine m_geta (k := 51) C dX12_putBack_19 w6_110 (by decide) rfl ?_
        refine m_iload_n (j := 0) C dX12_putBack_22 rfl ?_
        refine m_aload_n (j := 1) C dX12_putBack_23 rfl ?_
        refine m_geta (k := 54) C dX12_putBack_24 w6_113 (by decide) rfl ?_
        refine m_iload_n (j := 0) C dX12_putBack_27 rfl ?_
        refine m_ald (k := 54) C dX12_putBack_28 rfl rfl (by decide) (by omega) (by show _ < ((_ : Nat) : Int); simp only [mlen]; omega) (by decide) ?_
        refine hv2 (show (-2147483648) ≤ ab1 54 k.toNat ∧ ab1 54 k.toNat ≤ 2147483647 from bxb1.2 54 (k.toNat)) (show ab1 54 (k.toNat) = a 54 (k.toNat) from congrFun (fpb1.2 54 rfl) (k.toNat)) (fun ra1 ae1 => ?_)
        refine m_st (st2 := [.int (iI (a 54 k.toNat)), .int (iI k), .ref (ad 51)]) (congrArg (fun z => Value.int (iI z) :: [.int (iI k), .ref (ad 51)]) (congrFun (fpb1.2 54 rfl) (k.toNat))) ?_
        refine m_ast (k := 51) C dX12_putBack_29 rfl rfl (by decide) (by omega) (by show _ < ((_ : Nat) : Int); simp only [mlen]; omega) (by decide) ?_
        refine hv2 (show BX vb1 (up2 ab1 51 k.toNat (a 54 k.toNat)) from bxb1.set (k := 51) (i := k.toNat) (z := a 54 k.toNat) (show (-2147483648) ≤ (a 54 k.toNat) ∧ (a 54 k.toNat) ≤ 2147483647 by omega)) (fpb1.set (k := 51) (i := k.toNat) (z := a 54 k.toNat) rfl) (fun bq2 fq2 => ?_)
        refine m_iinc (z := k) (j := 0) (lv2 := [(1, .int (iI (k + 1))), (0, .ref h0)]) C dX12_putBack_30 rfl (by decide) rfl ?_
        refine m_goto (tgt := 10) C dX12_putBack_33 (by decide) ?_
        refine m_lv (lv2 := [(1, .int (iI (k + 1))), (0, .ref h0)]) [0, 1] rfl ?_
        exact ih1  (k + 1) _ _ (by omega) bq2 fq2 (by omega) h52 (hP.step (by omega) (by unfold up2; rfl))
  refine m_lv (lv2 := [(1, .int (iI 0)), (0, .ref h0)]) [0, 1] rfl ?_
  exact Lp1 4002 0 _ _ (by omega) bq1 fq1 (by omega) rfl PBI.zero
set_option maxHeartbeats 4000000 in
set_option maxRecDepth 100000 in
theorem E_isUnreadable {l : Launch} {G : GT} {h0 : Nat} {ad ln : Nat → Nat} {v : Nat → Int} {a : Nat → Nat → Int}  {t : Int} (hB : BX v a) (hT : TBL v a) (hW : RWS a) (ht : 0 ≤ t ∧ t < v 4) : Mm l G yX12_isUnreadable cX12_isUnreadable 3 (some .boolean) 66 [.int (iI t)] h0 ad ln v a 0 0 (fun r v2 a2 => ∃ f : Int, r = some (.int (iI f)) ∧ fr [25, 28, 50, 52, 53] [20, 24, 26, 27, 48, 49, 51] v a v2 a2 ∧ BX v2 a2 ∧ ((f = 0 ∨ f = 1) ∧ IUX v a a2 t f)) := by
  refine Mm.mk (by decide) (Nat.le_of_ble_eq_true rfl) ?_
  intro p e s m args below meth c A C
  refine hv3 (show 0 ≤ v 4 ∧ v 4 ≤ 30 from hB.1 4) (show 0 ≤ v 23 ∧ v 23 ≤ 500 from hB.1 23) (show fr [25, 28, 50, 52, 53] [20, 24, 26, 27, 48, 49, 51] v a v a from fr.refl) (fun h30 r23 fp0 => ?_)
  refine m_aload_n (j := 0) C dX12_isUnreadable_0 rfl ?_
  refine m_iload_n (j := 1) C dX12_isUnreadable_1 rfl ?_
  have rv1 : 0 ≤ v 4 ∧ v 4 ≤ 30 := hB.1 4
  refine m_call (mc2 := 0) (ms2 := 0) (As := [.int (iI t)]) (rest := []) C (E_setWord (t := t) hB (hT.fr fp0 rfl rfl) (by show 0 ≤ t ∧ t < (v 4); omega)) dX12_isUnreadable_2 kV_X12_267 rfl ck_13 rfl (Nat.le_of_ble_eq_true rfl) ⟨Nat.le_of_ble_eq_true rfl, Nat.le_of_ble_eq_true rfl⟩ ⟨Nat.le_of_ble_eq_true rfl, Nat.le_of_ble_eq_true rfl⟩ (fun rh1 vh1 ah1 h1 => ?_)
  obtain ⟨f1, rfl, fn1, bn1, ex1⟩ := h1
  have fq1 := fp0.call fn1 rfl rfl
  obtain ⟨ex1, tl1⟩ := ex1
  refine hv2 (show 0 ≤ vh1 25 ∧ vh1 25 ≤ 208 from bn1.1 25) (show f1 = 0 ∨ (f1 = 1 ∧ (vh1 25) ≤ 200) from ex1) (fun rv2 gf1 => ?_)
  refine m_st (st2 := [.int (iI f1)]) rfl ?_
  refine m_if_ne (tgt := 10) C (r32_0p gf1) dX12_isUnreadable_5 (by decide) (fun c1 => ?_) (fun c1 => ?_)
  · replace gf1 := (gf1.resolve_left c1)
    refine m_aload_n (j := 0) C dX12_isUnreadable_10 rfl ?_
    refine m_iconst C dX12_isUnreadable_11 ?_
    refine m_put (k := 50) (z := 0) C dX12_isUnreadable_12 w6_109 (by decide) rfl rfl rfl ?_
    refine hv2 (show BX (va_up vh1 50 0) ah1 from bn1.put (k := 50) (z := 0) ⟨by decide, by decide⟩) (fq1.put (k := 50) (z := 0) rfl) (fun bq1 fq2 => ?_)
    refine m_iconst C dX12_isUnreadable_15 ?_
    refine m_istore_n (lv2 := [(2, .int (iI 0)), (0, .ref h0), (1, .int (iI t))]) C dX12_isUnreadable_16 (by decide) rfl ?_
    have Lp1 : ∀ (nn : Nat) (k : Int) (vb1 : Nat → Int) (ab1 : Nat → Nat → Int), 201 - k < (nn : Int) → BX vb1 ab1 → fr [25, 28, 50, 52, 53] [20, 24, 26, 27, 48, 49, 51] v a vb1 ab1 → (0 ≤ k ∧ k ≤ 200) → (vb1 50 = k) → (vb1 25 ≤ 200) → (ab1 20 = a 20) → (IU1 v a vb1 ab1 t k) → mw p l e (rmq 66 0 0) s m args below meth c G A 3 (MQ below (Qm G A (fun rq Lq Eq => ∃ (vq : Nat → Int) (aq : Nat → Nat → Int), mI G h0 ad ln vq aq Lq Eq ∧ (fun r v2 a2 => ∃ f : Int, r = some (.int (iI f)) ∧ fr [25, 28, 50, 52, 53] [20, 24, 26, 27, 48, 49, 51] v a v2 a2 ∧ BX v2 a2 ∧ ((f = 0 ∨ f = 1) ∧ IUX v a a2 t f)) rq vq aq)) args s 0 0 A) h0 ad ln vb1 ab1 0 0 17 [(2, .int (iI k)), (0, .ref h0), (1, .int (iI t))] [] := by
      intro nn
      induction nn with
      | zero =>
        intro k vb1 ab1 hm bxb1 fpb1 hk h50 h25 h20 hM
        exact absurd hm (by omega)
      | succ nn ih1 =>
        intro k vb1 ab1 hm bxb1 fpb1 hk h50 h25 h20 hM
        refine m_iload_n (j := 0) C dX12_isUnreadable_17 rfl ?_
        refine m_aload_n (j := 1) C dX12_isUnreadable_18 rfl ?_
        have rv3 : 0 ≤ vb1 25 ∧ vb1 25 ≤ 208 := bxb1.1 25
        refine m_get (k := 25) C dX12_isUnreadable_19 w6_84 (by decide) rfl ?_
        refine m_icmp_ge (tgt := 42) C (r32_c (lo := 0) (hi := 200) hk.1 hk.2 (by decide) (by decide)) (r32_c (lo := 0) (hi := 208) rv3.1 rv3.2 (by decide) (by decide)) dX12_isUnreadable_22 (by decide) (fun c2 => ?_) (fun c2 => ?_)
        · refine m_aload_n (j := 1) C dX12_isUnreadable_42 rfl ?_
          refine m_call (mc2 := 0) (ms2 := 0) (As := []) (rest := []) C (E_readAll bxb1 (RWS.fr hW fpb1 rfl)) dX12_isUnreadable_43 kV_X12_357 rfl ck_13 rfl (Nat.le_of_ble_eq_true rfl) ⟨Nat.le_of_ble_eq_true rfl, Nat.le_of_ble_eq_true rfl⟩ ⟨Nat.le_of_ble_eq_true rfl, Nat.le_of_ble_eq_true rfl⟩ (fun rh2 vh2 ah2 h2 => ?_)
          obtain ⟨f2, rfl, fn2, bn2, ex2, rx1⟩ := h2
          refine hv2 (fpb1.call fn2 rfl rfl) (show f2 = 0 ∨ f2 = 6 ∨ f2 = 9 from ex2) (fun fq3 gf2 => ?_)
          refine m_st (st2 := [.int (iI f2)]) rfl ?_
          refine m_if_ne (tgt := 60) C ⟨by omega, by omega⟩ dX12_isUnreadable_46 (by decide) (fun c3 => ?_) (fun c3 => ?_)
          · replace gf2 := (gf2.resolve_left c3)
            refine m_iconst C dX12_isUnreadable_60 ?_
            exact m_zret C dX12_isUnreadable_61 rfl (Or.inr rfl) (Nat.le_of_ble_eq_true rfl) (Nat.le_of_ble_eq_true rfl) ⟨1, rfl, fq3, bn2, ⟨(by omega), IU1.yes hB hM (by omega) fpb1 rfl rx1 (by omega) rfl (Eq.trans (show ah2 20 = ab1 20 from fn2.2 20 rfl) h20)⟩⟩
          · clear gf2
            refine m_aload_n (j := 1) C dX12_isUnreadable_49 rfl ?_
            have rv4 : 0 ≤ vh2 52 ∧ vh2 52 ≤ 4000 := bn2.1 52
            refine m_get (k := 52) C dX12_isUnreadable_50 w6_111 (by decide) rfl ?_
            refine m_aload_n (j := 1) C dX12_isUnreadable_53 rfl ?_
            refine hv3 (show 0 ≤ vh2 23 ∧ vh2 23 ≤ 500 from bn2.1 23) (show vh2 23 = vb1 23 from fn2.1 23 rfl) (show vb1 23 = v 23 from fpb1.1 23 rfl) (fun rv5 ve1 ve2 => ?_)
            refine m_get (k := 23) C dX12_isUnreadable_54 w6_82 (by decide) rfl ?_
            refine m_st (st2 := [.int (iI (v 23)), .int (iI (vh2 52))]) (congrArg (fun z => Value.int (iI z) :: [.int (iI (vh2 52))]) (fq3.1 23 rfl)) ?_
            refine m_icmp_eq (tgt := 62) C (r32_c (lo := 0) (hi := 4000) rv4.1 rv4.2 (by decide) (by decide)) (r32_c (lo := 0) (hi := 500) (Int.le_trans (Int.le_trans rv5.1 (Int.le_of_eq ve1)) (Int.le_of_eq ve2)) (Int.le_trans (Int.le_of_eq ve2.symm) (Int.le_trans (Int.le_of_eq ve1.symm) rv5.2)) (by decide) (by decide)) dX12_isUnreadable_57 (by decide) (fun c4 => ?_) (fun c4 => ?_)
            · refine m_iconst C dX12_isUnreadable_62 ?_
              refine m_istore_n (lv2 := [(2, .int (iI 0)), (0, .ref h0), (1, .int (iI t))]) C dX12_isUnreadable_63 (by decide) rfl ?_
              have Lp2 : ∀ (nn : Nat) (k1 : Int) (vb2 : Nat → Int) (ab2 : Nat → Nat → Int), 501 - k1 < (nn : Int) → BX vb2 ab2 → fr [25, 28, 50, 52, 53] [20, 24, 26, 27, 48, 49, 51] v a vb2 ab2 → (0 ≤ k1 ∧ k1 ≤ 500) → (vb2 52 = v 23) → (ab2 20 = a 20) → (IU2 v a vb2 ab2 t k1) → mw p l e (rmq 66 0 0) s m args below meth c G A 3 (MQ below (Qm G A (fun rq Lq Eq => ∃ (vq : Nat → Int) (aq : Nat → Nat → Int), mI G h0 ad ln vq aq Lq Eq ∧ (fun r v2 a2 => ∃ f : Int, r = some (.int (iI f)) ∧ fr [25, 28, 50, 52, 53] [20, 24, 26, 27, 48, 49, 51] v a v2 a2 ∧ BX v2 a2 ∧ ((f = 0 ∨ f = 1) ∧ IUX v a a2 t f)) rq vq aq)) args s 0 0 A) h0 ad ln vb2 ab2 0 0 64 [(2, .int (iI k1)), (0, .ref h0), (1, .int (iI t))] [] := by
                intro nn
                induction nn with
                | zero =>
                  intro k1 vb2 ab2 hm bxb2 fpb2 hk1 h52 h20b hN
                  exact absurd hm (by omega)
                | succ nn ih2 =>
                  intro k1 vb2 ab2 hm bxb2 fpb2 hk1 h52 h20b hN
                  refine m_iload_n (j := 0) C dX12_isUnreadable_64 rfl ?_
                  refine m_aload_n (j := 1) C dX12_isUnreadable_65 rfl ?_
                  have rv6 : 0 ≤ vb2 52 ∧ vb2 52 ≤ 4000 := bxb2.1 52
                  refine m_get (k := 52) C dX12_isUnreadable_66 w6_111 (by decide) rfl ?_
                  refine m_icmp_ge (tgt := 95) C (r32_c (lo := 0) (hi := 500) hk1.1 hk1.2 (by decide) (by decide)) (r32_c (lo := 0) (hi := 4000) rv6.1 rv6.2 (by decide) (by decide)) dX12_isUnreadable_69 (by decide) (fun c5 => ?_) (fun c5 => ?_)
                  · refine m_iconst C dX12_isUnreadable_95 ?_
                    exact m_zret C dX12_isUnreadable_96 rfl (Or.inl rfl) (Nat.le_of_ble_eq_true rfl) (Nat.le_of_ble_eq_true rfl) ⟨0, rfl, fpb2, bxb2, ⟨(by omega), IU2.same hB hT ht hN h52 (by omega) rfl h20b⟩⟩
                  · refine m_aload_n (j := 1) C dX12_isUnreadable_72 rfl ?_
                    refine m_geta (k := 51) C dX12_isUnreadable_73 w6_110 (by decide) rfl ?_
                    refine m_iload_n (j := 0) C dX12_isUnreadable_76 rfl ?_
                    refine m_ald (k := 51) C dX12_isUnreadable_77 rfl rfl (by decide) hk1.1 (Int.lt_of_le_of_lt hk1.2 (by decide)) (by decide) ?_
                    have ra1 : (-2147483648) ≤ ab2 51 k1.toNat ∧ ab2 51 k1.toNat ≤ 2147483647 := bxb2.2 51 (k1.toNat)
                    refine m_aload_n (j := 1) C dX12_isUnreadable_78 rfl ?_
                    refine m_geta (k := 20) C dX12_isUnreadable_79 w6_79 (by decide) rfl ?_
                    refine m_iload_n (j := 0) C dX12_isUnreadable_82 rfl ?_
                    refine m_ald (k := 20) C dX12_isUnreadable_83 rfl rfl (by decide) hk1.1 (Int.lt_of_le_of_lt hk1.2 (by decide)) (by decide) ?_
                    have ra2 : (-2147483648) ≤ ab2 20 k1.toNat ∧ ab2 20 k1.toNat ≤ 2147483647 := bxb2.2 20 (k1.toNat)
                    refine m_icmp_eq (tgt := 89) C (r32_c (lo := (-2147483648)) (hi := 2147483647) ra1.1 ra1.2 (by decide) (by decide)) (r32_c (lo := (-2147483648)) (hi := 2147483647) ra2.1 ra2.2 (by decide) (by decide)) dX12_isUnreadable_84 (by decide) (fun c6 => ?_) (fun c6 => ?_)
                    · refine m_iinc (z := k1) (j := 0) (lv2 := [(2, .int (iI (k1 + 1))), (0, .ref h0), (1, .int (iI t))]) C dX12_isUnreadable_89 rfl (by decide) rfl ?_
                      refine m_goto (tgt := 64) C dX12_isUnreadable_92 (by decide) ?_
                      refine m_lv (lv2 := [(2, .int (iI (k1 + 1))), (0, .ref h0), (1, .int (iI t))]) [0, 1, 2] rfl ?_
                      exact ih2  (k1 + 1) _ _ (by omega) bxb2 fpb2 (by omega) (by show (vb2 52) = v 23; omega) h20b (hN.step (by omega) (by rw [← congrFun h20b]; omega))
                    · refine m_iconst C dX12_isUnreadable_87 ?_
                      exact m_zret C dX12_isUnreadable_88 rfl (Or.inr rfl) (Nat.le_of_ble_eq_true rfl) (Nat.le_of_ble_eq_true rfl) ⟨1, rfl, fpb2, bxb2, ⟨(by omega), IU2.bad hB hN ⟨by omega, by omega⟩ (by rw [← congrFun h20b]; omega) rfl h20b⟩⟩
              refine m_lv (lv2 := [(2, .int (iI 0)), (0, .ref h0), (1, .int (iI t))]) [0, 1, 2] rfl ?_
              exact Lp2 502 0 _ _ (by omega) bn2 fq3 (by omega) (by show (vh2 52) = v 23; omega) (Eq.trans (show ah2 20 = ab1 20 from fn2.2 20 rfl) h20) (hM.two (by omega) fpb1 rfl rx1 (by omega))
            · refine m_iconst C dX12_isUnreadable_60 ?_
              exact m_zret C dX12_isUnreadable_61 rfl (Or.inr rfl) (Nat.le_of_ble_eq_true rfl) (Nat.le_of_ble_eq_true rfl) ⟨1, rfl, fq3, bn2, ⟨(by omega), IU1.yes hB hM (by omega) fpb1 rfl rx1 (by omega) rfl (Eq.trans (show ah2 20 = ab1 20 from fn2.2 20 rfl) h20)⟩⟩
        · refine m_aload_n (j := 1) C dX12_isUnreadable_25 rfl ?_
          refine m_aload_n (j := 1) C dX12_isUnreadable_26 rfl ?_
          refine m_geta (k := 24) C dX12_isUnreadable_27 w6_83 (by decide) rfl ?_
          refine m_iload_n (j := 0) C dX12_isUnreadable_30 rfl ?_
          refine m_ald (k := 24) C dX12_isUnreadable_31 rfl rfl (by decide) hk.1 (Int.lt_of_le_of_lt hk.2 (by decide)) (by decide) ?_
          have ra3 : (-2147483648) ≤ ab1 24 k.toNat ∧ ab1 24 k.toNat ≤ 2147483647 := bxb1.2 24 (k.toNat)
          refine m_iconst C dX12_isUnreadable_32 ?_
          have rv7 : 0 ≤ vb1 50 ∧ vb1 50 ≤ 40200 := bxb1.1 50
          refine m_call (mc2 := 0) (ms2 := 0) (As := [.int (iI (ab1 24 k.toNat)), .int (iI 0)]) (rest := []) C (E_putRow (x := ab1 24 k.toNat) (y := 0) bxb1 (by omega) (by omega) (by show (vb1 50) < 40200; omega)) dX12_isUnreadable_33 kV_X12_351 rfl ck_13 rfl (Nat.le_of_ble_eq_true rfl) ⟨Nat.le_of_ble_eq_true rfl, Nat.le_of_ble_eq_true rfl⟩ ⟨Nat.le_of_ble_eq_true rfl, Nat.le_of_ble_eq_true rfl⟩ (fun rh3 vh3 ah3 h3 => ?_)
          obtain ⟨rfl, fn3, bn3, ex3, pr1⟩ := h3
          refine hv2 (fpb1.call fn3 rfl rfl) (show vh3 50 = (vb1 50) + 1 from ex3) (fun fq4 gfn3 => ?_)
          refine m_st (st2 := []) rfl ?_
          refine m_iinc (z := k) (j := 0) (lv2 := [(2, .int (iI (k + 1))), (0, .ref h0), (1, .int (iI t))]) C dX12_isUnreadable_36 rfl (by decide) rfl ?_
          refine m_goto (tgt := 17) C dX12_isUnreadable_39 (by decide) ?_
          refine hv3 (show 0 ≤ vh3 50 ∧ vh3 50 ≤ 40200 from bn3.1 50) (show 0 ≤ vh3 25 ∧ vh3 25 ≤ 208 from bn3.1 25) (show vh3 25 = vb1 25 from fn3.1 25 rfl) (fun rv8 rv9 ve3 => ?_)
          refine m_lv (lv2 := [(2, .int (iI (k + 1))), (0, .ref h0), (1, .int (iI t))]) [0, 1, 2] rfl ?_
          exact ih1  (k + 1) _ _ (by omega) bn3 fq4 (by omega) (by show (vh3 50) = (k + 1); omega) (by show (vh3 25) ≤ 200; omega) (Eq.trans (show ah3 20 = ab1 20 from fn3.2 20 rfl) h20) (hM.step ⟨by omega, by omega⟩ rfl ex3 pr1 (fn3.1 25 rfl) (fn3.2 24 rfl))
    refine m_lv (lv2 := [(2, .int (iI 0)), (0, .ref h0), (1, .int (iI t))]) [0, 1, 2] rfl ?_
    exact Lp1 202 0 _ _ (by omega) bq1 fq2 (by omega) (by show 0 = 0; omega) (by show (vh1 25) ≤ 200; omega) tl1.1.1 (IU1.init tl1.1 (by omega) rfl rfl rfl)
  · clear gf1
    refine m_iconst C dX12_isUnreadable_8 ?_
    exact m_zret C dX12_isUnreadable_9 rfl (Or.inl rfl) (Nat.le_of_ble_eq_true rfl) (Nat.le_of_ble_eq_true rfl) ⟨0, rfl, fq1, bn1, ⟨(by omega), IUX.no hB tl1.1 (by omega) rfl rfl⟩⟩
end
section
def UPR (v : Nat → Int) (a : Nat → Nat → Int) (t : Int) (b0 : List Int) : Prop := OUTL v a b0 ∧ NZL a (gat0 a t) ∧ NZL a (gat1 a t)
def U63 (a : Nat → Nat → Int) (v1 : Nat → Int) (a1 : Nat → Nat → Int) (t : Int) : Prop := ∃ h, HSS a t h ∧ SGH v1 (a1 65) h 256 ∧ (HLD a1 a1 0 (gat0 a t) ∧ HLD a1 a1 1 (gat1 a t))
def UCO (v1 : Nat → Int) (a1 a : Nat → Nat → Int) (t : Int) (h : Nat → Int) (b0 : List Int) : Prop := SGH v1 (a1 65) h 256 ∧ (v1 55 = ((b0.length : Nat) : Int) ∧ ∀ (j : Nat) (x : Int), b0[j]? = some x → a1 54 j = x) ∧ (HLD a1 a1 0 (gat0 a t) ∧ HLD a1 a1 1 (gat1 a t))
def UKE (v1 : Nat → Int) (a1 : Nat → Nat → Int) (v2 : Nat → Int) (a2 : Nat → Nat → Int) : Prop := (v2 66 = v1 66 ∧ v2 55 = v1 55) ∧ (a2 65 = a1 65 ∧ a2 54 = a1 54) ∧ (a2 44 = a1 44 ∧ a2 45 = a1 45 ∧ a2 46 = a1 46 ∧ a2 47 = a1 47) ∧ (a2 13 = a1 13 ∧ a2 16 = a1 16)
def U104 (v : Nat → Int) (a : Nat → Nat → Int) (v1 : Nat → Int) (a1 : Nat → Nat → Int) (t n tr m : Int) : Prop := ∀ b0, UPR v a t b0 → ∃ h, HSS a t h ∧ UCO v1 a1 a t h b0 ∧ URK a t (sgl h 256) n.toNat tr.toNat ∧ enw (((sgl h 256).length : Nat) : Int) n.toNat tr.toNat = (if 0 < (((sgl h 256).length : Nat) : Int) ∧ m.toNat ≤ n.toNat then some (zrs m.toNat) else none)
def U142 (v : Nat → Int) (a : Nat → Nat → Int) (v1 : Nat → Int) (a1 : Nat → Nat → Int) (t n tr m g : Int) : Prop := ∀ b0, UPR v a t b0 → ∃ h, HSS a t h ∧ UCO v1 a1 a t h b0 ∧ URK a t (sgl h 256) n.toNat tr.toNat ∧ ((g = 1 ∧ ∃ l, enw (((sgl h 256).length : Nat) : Int) n.toNat tr.toNat = some l ∧ l.length = m.toNat ∧ RIX (a1 70) l) ∨ (g = 0 ∧ enw (((sgl h 256).length : Nat) : Int) n.toNat tr.toNat = (if 0 < (((sgl h 256).length : Nat) : Int) ∧ (m + 1).toNat ≤ n.toNat then some (zrs (m + 1).toNat) else none)))
def U223 (v : Nat → Int) (a : Nat → Nat → Int) (v1 : Nat → Int) (a1 : Nat → Nat → Int) (t n tr m : Int) : Prop := ∀ b0, UPR v a t b0 → ∃ h, HSS a t h ∧ URK a t (sgl h 256) n.toNat tr.toNat ∧ ∃ l, enw (((sgl h 256).length : Nat) : Int) n.toNat tr.toNat = some l ∧ l.length = m.toNat ∧ URB a t (wdb (sgl h 256) l) ∧ ∀ (j : Nat) (x : Int), (wdb (sgl h 256) l)[j]? = some x → a1 20 j = x
def U263 (v : Nat → Int) (a : Nat → Nat → Int) (v1 : Nat → Int) (a1 : Nat → Nat → Int) (t n tr m k : Int) : Prop := ∀ b0, UPR v a t b0 → ∃ h, HSS a t h ∧ UCO v1 a1 a t h b0 ∧ URK a t (sgl h 256) n.toNat (tr.toNat + 1) ∧ ∃ l, enw (((sgl h 256).length : Nat) : Int) n.toNat tr.toNat = some l ∧ l.length = m.toNat ∧ ∀ (j : Nat) (x : Int), l[j]? = some x → (m - 1 - ((j : Nat) : Int) ≤ k → a1 70 (l.length - 1 - j) = x) ∧ (k < m - 1 - ((j : Nat) : Int) → x = (((sgl h 256).length : Nat) : Int) - 1 ∧ a1 70 (l.length - 1 - j) = 0)
def ZRI (g : Nat → Int) (k : Int) : Prop := ∀ j : Nat, ((j : Nat) : Int) < k → g j = 0
def FWI (w s g : Nat → Int) (k : Int) : Prop := ∀ j : Nat, ((j : Nat) : Int) < k → w j = s (g j).toNat
def FOU (o w : Nat → Int) (k : Int) : Prop := ∀ j : Nat, ((j : Nat) : Int) < k → o j = w j
def OKU (v : Nat → Int) (a : Nat → Nat → Int) (t n m : Int) : Prop := WHL v a t ∧ (1 ≤ n ∧ n ≤ 6) ∧ (1 ≤ m ∧ m ≤ 5000)
def URX (v : Nat → Int) (a : Nat → Nat → Int) (v2 : Nat → Int) (a2 : Nat → Nat → Int) (t n m f : Int) : Prop := ∀ b0, OUTL v a b0 → (¬ OKU v a t n m ∧ f = -1 ∧ OUTL v2 a2 b0) ∨ (OKU v a t n m ∧ (NZL a (gat0 a t) → NZL a (gat1 a t) → ∃ h o, HSS a t h ∧ URD a t (sgl h 256) n.toNat m.toNat f o ∧ OUTL v2 a2 (o.getD b0)))
section UREA
variable {v v1 v2 v3 v4 : Nat → Int} {a a1 a2 a3 a4 : Nat → Nat → Int} {g w s o w2 o2 g2 h : Nat → Int} {t k f n m tr x y z G : Int} {b0 l : List Int} {V A V2 A2 : List Nat}
theorem UKE.fr (hf : fr V A v1 a1 v2 a2) (hV : ([66, 55] : List Nat).all (fun k => !V.contains k) = true) (hA : ([65, 54, 44, 45, 46, 47, 13, 16] : List Nat).all (fun k => !A.contains k) = true) : UKE v1 a1 v2 a2 := by
  have kv : ∀ j, ([66, 55] : List Nat).contains j = true → v2 j = v1 j := fun j hj => hf.1 j (by
    have w := List.all_eq_true.mp hV j (List.contains_iff_mem.mp hj)
    simpa using w)
  have ka : ∀ j, ([65, 54, 44, 45, 46, 47, 13, 16] : List Nat).contains j = true → a2 j = a1 j := fun j hj => hf.2 j (by
    have w := List.all_eq_true.mp hA j (List.contains_iff_mem.mp hj)
    simpa using w)
  exact ⟨⟨kv 66 rfl, kv 55 rfl⟩, ⟨ka 65 rfl, ka 54 rfl⟩, ⟨ka 44 rfl, ka 45 rfl, ka 46 rfl, ka 47 rfl⟩, ka 13 rfl, ka 16 rfl⟩
theorem UKE.two (h1 : UKE v1 a1 v2 a2) (h2 : UKE v2 a2 v3 a3) : UKE v1 a1 v3 a3 := by
  obtain ⟨⟨p1, p2⟩, ⟨p3, p4⟩, ⟨p5, p6, p7, p8⟩, p9, p10⟩ := h1
  obtain ⟨⟨q1, q2⟩, ⟨q3, q4⟩, ⟨q5, q6, q7, q8⟩, q9, q10⟩ := h2
  exact ⟨⟨q1.trans p1, q2.trans p2⟩, ⟨q3.trans p3, q4.trans p4⟩, ⟨q5.trans p5, q6.trans p6, q7.trans p7, q8.trans p8⟩, q9.trans p9, q10.trans p10⟩
theorem UKE.refl : UKE v1 a1 v1 a1 := ⟨⟨rfl, rfl⟩, ⟨rfl, rfl⟩, ⟨rfl, rfl, rfl, rfl⟩, rfl, rfl⟩
theorem UCO.mv (hc : UCO v1 a1 a t h b0) (hk : UKE v1 a1 v2 a2) : UCO v2 a2 a t h b0 := by
  obtain ⟨⟨c1, c2⟩, ⟨c3, c4⟩, c5, c6⟩ := hc
  obtain ⟨⟨p1, p2⟩, ⟨p3, p4⟩, ⟨p5, p6, p7, p8⟩, p9, p10⟩ := hk
  exact ⟨⟨p1.trans c1, fun j x e => by rw [p3]; exact c2 j x e⟩, ⟨p2.trans c3, fun j x e => by rw [p4]; exact c4 j x e⟩, (c5.fr p5 p6 p7 (by rw [p8])).cg p9 p10, (c6.fr p5 p6 p7 (by rw [p8])).cg p9 p10⟩
theorem U104.mv (hu : U104 v a v1 a1 t n tr m) (hk : UKE v1 a1 v2 a2) : U104 v a v2 a2 t n tr m := fun b0 hp => by
  obtain ⟨h, h1, h2, h3⟩ := hu b0 hp
  exact ⟨h, h1, h2.mv hk, h3⟩
theorem U142.mv (hu : U142 v a v1 a1 t n tr m G) (hk : UKE v1 a1 v2 a2) (e : a2 70 = a1 70) : U142 v a v2 a2 t n tr m G := fun b0 hp => by
  obtain ⟨h, h1, h2, h3⟩ := hu b0 hp
  rw [← e] at h3
  exact ⟨h, h1, h2.mv hk, h3⟩
theorem U63.mk (hG : GAT a a3 t) (h1 : fr V A v a v3 a3) (c1 : ([6, 12, 13, 14, 16] : List Nat).all (fun k => !A.contains k) = true) (h2 : fr [66] [65, 70] v3 a3 v4 a4) (hX : GSX a3 v4 a4 t) (hb : BX v3 a3) : U63 a v4 a4 t := by
  have ka : ∀ j, ([6, 12, 13, 14, 16] : List Nat).contains j = true → a3 j = a j := fun j hj => h1.2 j (by
    have w := List.all_eq_true.mp c1 j (List.contains_iff_mem.mp hj)
    simpa using w)
  obtain ⟨g0, g1⟩ := hG
  refine hv2 (g0.cg (ka 13 rfl) (ka 16 rfl)) (g1.cg (ka 13 rfl) (ka 16 rfl)) (fun k0 k1 => ?_)
  obtain ⟨g, q1, q2⟩ := hX
  refine ⟨g, q1.hss k0 k1 (ka 6 rfl) (ka 12 rfl) (ka 14 rfl) (fun i => hb.2 47 i), q2, ?_, ?_⟩
  · exact (k0.fr (h2.2 44 rfl) (h2.2 45 rfl) (h2.2 46 rfl) (by rw [h2.2 47 rfl])).cg (h2.2 13 rfl) (h2.2 16 rfl)
  · exact (k1.fr (h2.2 44 rfl) (h2.2 45 rfl) (h2.2 46 rfl) (by rw [h2.2 47 rfl])).cg (h2.2 13 rfl) (h2.2 16 rfl)
theorem U63.mv (hu : U63 a v1 a1 t) (e66 : v2 66 = v1 66) (e65 : a2 65 = a1 65) (e44 : a2 44 = a1 44 ∧ a2 45 = a1 45 ∧ a2 46 = a1 46 ∧ a2 47 = a1 47) (e13 : a2 13 = a1 13 ∧ a2 16 = a1 16) : U63 a v2 a2 t := by
  obtain ⟨h, h1, ⟨c1, c2⟩, h3, h4⟩ := hu
  obtain ⟨p5, p6, p7, p8⟩ := e44
  exact ⟨h, h1, ⟨e66.trans c1, fun j x e => by rw [e65]; exact c2 j x e⟩, (h3.fr p5 p6 p7 (by rw [p8])).cg e13.1 e13.2, (h4.fr p5 p6 p7 (by rw [p8])).cg e13.1 e13.2⟩
theorem U104.init (hu : U63 a v1 a1 t) (h55 : v1 55 = v 52) (h54 : FOU (a1 54) (a 51) k) (hk : v 52 ≤ k) (hn : 1 ≤ n) : U104 v a v1 a1 t n 0 1 := fun b0 hp => by
  obtain ⟨h, h1, h2, h3⟩ := hu
  have e := hp.1.1
  refine ⟨h, h1, ⟨h2, ⟨by omega, fun j x ej => ?_⟩, h3⟩, URK.zero, ?_⟩
  · have lt := gl3 ej
    rw [h54 j (by omega)]
    exact hp.1.2 j x ej
  · show (if 0 < (((sgl h 256).length : Nat) : Int) ∧ 0 < n.toNat then some (zrs 1) else none) = _
    by_cases q : 0 < (((sgl h 256).length : Nat) : Int)
    · rw [if_pos ⟨q, by omega⟩, if_pos ⟨q, by show 1 ≤ n.toNat; omega⟩]
      rfl
    · rw [if_neg (fun w => q w.1), if_neg (fun w => q w.1)]
theorem FOU.zero : FOU o w 0 := fun j hj => absurd hj (by omega)
theorem FOU.step (hf : FOU o w k) (hk : 0 ≤ k) (e : o2 = va_up o k.toNat (w k.toNat)) : FOU o2 w (k + 1) := fun j hj => by
  rw [e]
  by_cases q : j = k.toNat
  · rw [q, va_up_self]
  · rw [va_up_ne _ _ q]
    exact hf j (by omega)
theorem ZRI.zero : ZRI g 0 := fun j hj => absurd hj (by omega)
theorem ZRI.step (hf : ZRI g k) (hk : 0 ≤ k) (e : g2 = va_up g k.toNat 0) : ZRI g2 (k + 1) := fun j hj => by
  rw [e]
  by_cases q : j = k.toNat
  · rw [q, va_up_self]
  · rw [va_up_ne _ _ q]
    exact hf j (by omega)
theorem FWI.zero : FWI w s g 0 := fun j hj => absurd hj (by omega)
theorem FWI.step (hf : FWI w s g k) (hk : 0 ≤ k) (e : w2 = va_up w k.toNat (s (g k.toNat).toNat)) : FWI w2 s g (k + 1) := fun j hj => by
  rw [e]
  by_cases q : j = k.toNat
  · rw [q, va_up_self]
  · rw [va_up_ne _ _ q]
    exact hf j (by omega)
theorem U104.go (hu : U104 v a v1 a1 t n tr m) (hz : ZRI (a1 70) k) (hk : m ≤ k) (hm : 1 ≤ m ∧ m ≤ n) (h66 : 0 < v1 66) : U142 v a v1 a1 t n tr m 1 := fun b0 hp => by
  obtain ⟨h, h1, h2, h3, h4⟩ := hu b0 hp
  refine hv2 (h2.1.1) (show (256 : Int).toNat = 256 from rfl) (fun e e2 => ?_)
  rw [e2] at e
  rw [if_pos ⟨by omega, by omega⟩] at h4
  refine ⟨h, h1, h2, h3, Or.inl ⟨rfl, _, h4, zrs_len _, fun j x ej => ?_⟩⟩
  have lt := gl3 ej
  rw [zrs_len] at lt ⊢
  rw [zrs_at _ _ _ ej]
  exact hz _ (by omega)
theorem U142.next (hu : U142 v a v1 a1 t n tr m G) (hg : G = 0) : U104 v a v1 a1 t n tr (m + 1) := fun b0 hp => by
  obtain ⟨h, h1, h2, h3, h4⟩ := hu b0 hp
  rcases h4 with ⟨q, _⟩ | ⟨_, q⟩
  · omega
  · exact ⟨h, h1, h2, h3, q⟩
theorem UCO.back (hc : UCO v1 a1 a t h b0) (hp : PBXU v1 a1 v2 a2) : OUTL v2 a2 b0 := by
  obtain ⟨_, ⟨c1, c2⟩, _⟩ := hc
  refine ⟨hp.1.trans c1, fun j x ej => ?_⟩
  have lt := gl3 ej
  rw [hp.2 j (by omega)]
  exact c2 j x ej
theorem URX.bad (hn : ¬ OKU v a t n m) (hf : f = -1) (h52 : v2 52 = v 52) (h51 : a2 51 = a 51) : URX v a v2 a2 t n m f := fun b0 hb => Or.inl ⟨hn, hf, hb.fr h52 h51⟩
theorem URX.spent (hw : OKU v a t n m) (hu : U142 v a v1 a1 t n tr y G) (hg : G = 1) (htr : tr = m) (hp : PBXU v1 a1 v2 a2) (hf : f = -1) (h52 : v3 52 = v2 52) (h51 : a3 51 = a2 51) : URX v a v3 a3 t n m f := fun b0 hb => Or.inr ⟨hw, fun n0 n1 => by
  obtain ⟨h, h1, h2, h3, h4⟩ := hu b0 ⟨hb, n0, n1⟩
  rcases h4 with ⟨_, l, q, _⟩ | ⟨q, _⟩
  · rw [htr] at h3 q
    exact ⟨h, none, h1, Or.inr (Or.inl ⟨h3, by rw [q]; simp, hf, rfl⟩), (h2.back hp).fr h52 h51⟩
  · omega⟩
theorem URX.exh (hw : OKU v a t n m) (hu : U104 v a v1 a1 t n tr y) (hy : n < y ∨ v1 66 ≤ 0) (h0 : 0 ≤ n) (htr : 0 ≤ tr ∧ tr ≤ m) (hp : PBXU v1 a1 v2 a2) (hf : f = 0) (h52 : v3 52 = v2 52) (h51 : a3 51 = a2 51) : URX v a v3 a3 t n m f := fun b0 hb => Or.inr ⟨hw, fun n0 n1 => by
  obtain ⟨h, h1, h2, h3, h4⟩ := hu b0 ⟨hb, n0, n1⟩
  refine hv2 (h2.1.1) (show (256 : Int).toNat = 256 from rfl) (fun e e2 => ?_)
  rw [e2] at e
  rw [if_neg (by omega)] at h4
  exact ⟨h, Option.none, h1, Or.inr (Or.inr ⟨tr.toNat, by omega, h3, h4, hf, rfl⟩), (h2.back hp).fr h52 h51⟩⟩
theorem wdb_hold (hc : UCO v1 a1 a t h b0) (hl : RIX (a1 70) l) (hw : FWI (a1 20) (a1 65) (a1 70) k) (hk : ((l.length : Nat) : Int) ≤ k) (hz : ∀ j : Nat, j < l.length → 0 ≤ a1 70 j ∧ a1 70 j < v1 66) : ∀ (j : Nat) (x : Int), (wdb (sgl h 256) l)[j]? = some x → a1 20 j = x := by
  intro j x ej
  have lt := gl3 ej
  rw [wdb_len] at lt
  have lt2 : l.length - 1 - j < l.length := by omega
  have g := List.getElem?_eq_getElem lt2
  refine hv2 (wdb_at (sg := sgl h 256) l _ _ g) (hl _ _ g) (fun w1 w2 => ?_)
  rw [show l.length - 1 - (l.length - 1 - j) = j by omega] at w1 w2
  rw [ej] at w1
  cases w1
  refine hv3 (hz j lt) (hc.1.1) (show (256 : Int).toNat = 256 from rfl) (fun b e e2 => ?_)
  rw [e2] at e
  have lt3 : (a1 70 j).toNat < (sgl h 256).length := by omega
  have g3 := List.getElem?_eq_getElem lt3
  have w4 := hc.1.2 (a1 70 j).toNat _ g3
  rw [← w2, hw j (by omega), g3, w4]
  rfl
theorem URB_cg (hE : TBE a1 a) (hg : gat0 a1 t = gat0 a t ∧ gat1 a1 t = gat1 a t) (h : URB a1 t l) : URB a t l := by
  obtain ⟨cs, c1, c2⟩ := h
  refine ⟨cs, SWC_cg hE c1, fun q => c2 ?_⟩
  rw [hg.1, hg.2]
  exact RFN_cg (hE 12 (by decide)).symm (hE 13 (by decide)).symm (hE 14 (by decide)).symm (hE 15 (by decide)).symm (hE 16 (by decide)).symm (hE 17 (by decide)).symm q
theorem TBE.gat (hE : TBE a1 a) : gat0 a1 t = gat0 a t ∧ gat1 a1 t = gat1 a t := gat_cg (hE 6 (by decide)) (hE 8 (by decide)) (hE 9 (by decide)) (hE 10 (by decide)) (hE 16 (by decide))
theorem U142.iu (hT : TBL v a) (hW : WHL v a t) (hu : U142 v a v1 a1 t n tr m 1) (hw : FWI (a1 20) (a1 65) (a1 70) k) (hk : m ≤ k) (hm : 1 ≤ m ∧ m ≤ 6) (h23 : v1 23 = m) (hE : TBE a1 a) (hz : ∀ j : Nat, 0 ≤ a1 70 j ∧ (a1 70 j = 0 ∨ a1 70 j < v1 66)) (h66 : 0 < v1 66) (hx : IUX v1 a1 a2 t f) : (f = 1 → U223 v a v2 a2 t n tr m) ∧ (f ≠ 1 → UKE v1 a1 v2 a2 → a2 70 = a1 70 → U263 v a v2 a2 t n tr m (m - 1)) := by
  have gc := TBE.gat (t := t) hE
  have go : ∀ b0, UPR v a t b0 → ∃ h, HSS a t h ∧ UCO v1 a1 a t h b0 ∧ URK a t (sgl h 256) n.toNat tr.toNat ∧ ∃ l, enw (((sgl h 256).length : Nat) : Int) n.toNat tr.toNat = some l ∧ l.length = m.toNat ∧ RIX (a1 70) l ∧ (∀ (j : Nat) (x : Int), (wdb (sgl h 256) l)[j]? = some x → a1 20 j = x) ∧ (f = 1 ↔ URB a t (wdb (sgl h 256) l)) := fun b0 hp => by
    obtain ⟨h, h1, h2, h3, h4⟩ := hu b0 hp
    rcases h4 with ⟨_, l, q1, q2, q3⟩ | ⟨q, _⟩
    · have hold := wdb_hold h2 q3 hw (by omega) (fun j _ => by have b := hz j; omega)
      refine ⟨h, h1, h2, h3, l, q1, q2, q3, hold, ?_⟩
      refine hv5 (WHL.tr hW) (hE 13 (by decide)) (hE 15 (by decide)) (hE 16 (by decide)) (hE 17 (by decide)) (fun wt e13 e15 e16 e17 => ?_)
      have tt := hT.1 t wt.1 wt.2.1
      have nz : ∀ l, NZL a l → NZL a1 l := fun l hl j d hd => by
        rw [rlen_cg e13 e16]
        exact ⟨(hl j d hd).1, fun k c1 c2 => by rw [dcl_cg e15 e17]; exact (hl j d hd).2 k c1 c2⟩
      have uc : UCX a1 t := by
        unfold UCX
        rw [gc.1, gc.2]
        exact ⟨h2.2.2, ⟨nz _ hp.2.1, nz _ hp.2.2⟩, fun j d e => gat0_rol wt.1 (fun c => by omega) e, fun j d e => gat1_rol wt.1 (fun c => by omega) e⟩
      have w := hx.2 (wdb (sgl h 256) l) uc ⟨by rw [wdb_len]; omega, hold⟩ (by rw [wdb_len]; omega)
      exact w.trans ⟨fun q => URB_cg hE gc q, fun q => URB_cg hE.symm ⟨gc.1.symm, gc.2.symm⟩ q⟩
    · exact absurd q (by decide)
  refine ⟨fun e b0 hp => ?_, fun e hK h70 b0 hp => ?_⟩
  · obtain ⟨h, h1, h2, h3, l, q1, q2, q3, q4, q5⟩ := go b0 hp
    exact ⟨h, h1, h3, l, q1, q2, q5.mp e, fun j x ej => by rw [hx.1]; exact q4 j x ej⟩
  · obtain ⟨h, h1, h2, h3, l, q1, q2, q3, q4, q5⟩ := go b0 hp
    refine ⟨h, h1, h2.mv hK, h3.step q1 (fun q => e (q5.mpr q)), l, q1, q2, fun j x ej => ⟨fun _ => ?_, fun c => ?_⟩⟩
    · rw [h70]
      exact q3 j x ej
    · have lt := gl3 ej
      omega
theorem URX.found (hw : OKU v a t n m) (hu : U223 v a v1 a1 t n tr y) (hy : 1 ≤ y) (htr : 0 ≤ tr ∧ tr < m) (ho : FOU (a1 51) (a1 20) k) (hk : y ≤ k) (h52 : v1 52 = y) (hf : f = y) (e52 : v2 52 = v1 52) (e51 : a2 51 = a1 51) : URX v a v2 a2 t n m f := fun b0 hb => Or.inr ⟨hw, fun n0 n1 => by
  obtain ⟨h, h1, h3, l, q1, q2, q3, q4⟩ := hu b0 ⟨hb, n0, n1⟩
  refine ⟨h, some (wdb (sgl h 256) l), h1, Or.inl ⟨tr.toNat, l, by omega, h3, q1, q3, by omega, rfl⟩, ?_⟩
  show OUTL v2 a2 (wdb (sgl h 256) l)
  refine ⟨by rw [wdb_len]; omega, fun j x ej => ?_⟩
  have lt := gl3 ej
  rw [wdb_len] at lt
  rw [e51, ho j (by omega)]
  exact q4 j x ej⟩
theorem U263.step (hu : U263 v a v1 a1 t n tr m k) (hk : 0 ≤ k ∧ k ≤ m - 1) (hd : a1 70 k.toNat = v1 66 - 1) (hK : UKE v1 a1 v2 a2) (e : a2 70 = va_up (a1 70) k.toNat 0) : U263 v a v2 a2 t n tr m (k - 1) := fun b0 hp => by
  obtain ⟨h, h1, h2, h3, l, q1, q2, q3⟩ := hu b0 hp
  refine hv2 (h2.1.1) (show (256 : Int).toNat = 256 from rfl) (fun eS e2 => ?_)
  rw [e2] at eS
  refine ⟨h, h1, h2.mv hK, h3, l, q1, q2, fun j x ej => ?_⟩
  refine hv2 (gl3 ej) (q3 j x ej) (fun lt w => ?_)
  rw [e]
  by_cases c : l.length - 1 - j = k.toNat
  · rw [c, va_up_self]
    rw [c] at w
    exact ⟨fun q => absurd q (by omega), fun _ => ⟨by have := w.1 (by omega); omega, rfl⟩⟩
  · rw [va_up_ne _ _ c]
    exact ⟨fun q => w.1 (by omega), fun q => w.2 (by omega)⟩
theorem U263.up (hu : U263 v a v1 a1 t n tr m k) (h0 : 0 ≤ tr) (hk : 0 ≤ k ∧ k ≤ m - 1) (hd : a1 70 k.toNat ≠ v1 66 - 1) (hK : UKE v1 a1 v2 a2) (e : a2 70 = va_up (a1 70) k.toNat (a1 70 k.toNat + 1)) (hg : G = 1) : U142 v a v2 a2 t n (tr + 1) m G := fun b0 hp => by
  obtain ⟨h, h1, h2, h3, l, q1, q2, q3⟩ := hu b0 hp
  refine hv2 (h2.1.1) (show (256 : Int).toNat = 256 from rfl) (fun eS e2 => ?_)
  rw [e2] at eS
  have lt : l.length - 1 - k.toNat < l.length := by omega
  have gd := List.getElem?_eq_getElem lt
  have wd := (q3 _ _ gd).1 (by omega)
  rw [show l.length - 1 - (l.length - 1 - k.toNat) = k.toNat by omega] at wd
  obtain ⟨l2, i1, i2, i3, i4, i5⟩ := inw_at (S := (((sgl h 256).length : Nat) : Int)) l (l.length - 1 - k.toNat) _ (fun j x hj ej => ((q3 j x ej).2 (by omega)).1) gd (by omega)
  refine ⟨h, h1, h2.mv hK, ?_, Or.inl ⟨hg, l2, ?_, by omega, fun j x ej => ?_⟩⟩
  · rw [show (tr + 1).toNat = tr.toNat + 1 by omega]
    exact h3
  · rw [show (tr + 1).toNat = tr.toNat + 1 by omega, enw_s q1]
    exact nxw_some i1
  · have lj := gl3 ej
    rw [i2] at lj ⊢
    rw [e]
    by_cases c1 : j < l.length - 1 - k.toNat
    · rw [i3 j c1] at ej
      cases ej
      have gj := List.getElem?_eq_getElem lj
      rw [va_up_ne _ _ (by omega)]
      exact ((q3 j _ gj).2 (by omega)).2
    · by_cases c2 : j = l.length - 1 - k.toNat
      · rw [c2, i4] at ej
        cases ej
        rw [c2, show l.length - 1 - (l.length - 1 - k.toNat) = k.toNat by omega, va_up_self, wd]
      · rw [i5 j (by omega)] at ej
        rw [va_up_ne _ _ (by omega)]
        exact (q3 j x ej).1 (by omega)
theorem U263.over (hu : U263 v a v1 a1 t n tr m k) (h0 : 0 ≤ tr) (hk : k < 0) (hm : 1 ≤ m) (h66 : 0 < v1 66) (hg : G = 0) : U142 v a v1 a1 t n (tr + 1) m G := fun b0 hp => by
  obtain ⟨h, h1, h2, h3, l, q1, q2, q3⟩ := hu b0 hp
  refine hv2 (h2.1.1) (show (256 : Int).toNat = 256 from rfl) (fun eS e2 => ?_)
  rw [e2] at eS
  have i1 := inw_none (S := (((sgl h 256).length : Nat) : Int)) l (fun j x ej => by
    have lt := gl3 ej
    exact ((q3 j x ej).2 (by omega)).1)
  refine ⟨h, h1, h2, ?_, Or.inr ⟨hg, ?_⟩⟩
  · rw [show (tr + 1).toNat = tr.toNat + 1 by omega]
    exact h3
  · rw [show (tr + 1).toNat = tr.toNat + 1 by omega, enw_s q1, nxw_none i1, q2, show (m + 1).toNat = m.toNat + 1 by omega]
    by_cases c : m.toNat < n.toNat
    · rw [if_pos c, if_pos ⟨by omega, by omega⟩]
    · rw [if_neg c, if_neg (fun w => by omega)]
end UREA
set_option maxHeartbeats 4000000 in
set_option maxRecDepth 100000 in
theorem N2_unreadable {l : Launch} {G : GT} {h0 : Nat} {ad ln : Nat → Nat} {v : Nat → Int} {a : Nat → Nat → Int} {t n1 m1 : Int} (hB : BX v a) (hT : TBL v a) (hW : RWS a) (ht : -2147483648 ≤ t ∧ t ≤ 2147483647) (hn1 : -2147483648 ≤ n1 ∧ n1 ≤ 2147483647) (hm1 : -2147483648 ≤ m1 ∧ m1 ≤ 2147483647) : Mm l G yX12_unreadable cX12_unreadable 9 (some .int) 67 [.int (iI t), .int (iI n1), .int (iI m1)] h0 ad ln v a 2 262 (fun r v2 a2 => ∃ f : Int, r = some (.int (iI f)) ∧ fr [0, 1, 23, 25, 28, 50, 52, 53, 55, 66] [20, 24, 26, 27, 44, 45, 46, 47, 48, 49, 51, 54, 65, 70] v a v2 a2 ∧ BX v2 a2 ∧ (RWS a2 ∧ URX v a v2 a2 t n1 m1 f)) := by
  refine Mm.mk (by decide) (Nat.le_of_ble_eq_true rfl) ?_
  intro p e s m args below meth c A C
  refine hv2 (show 0 ≤ v 4 ∧ v 4 ≤ 30 from hB.1 4) (show fr [0, 1, 23, 25, 28, 50, 52, 53, 55, 66] [20, 24, 26, 27, 44, 45, 46, 47, 48, 49, 51, 54, 65, 70] v a v a from fr.refl) (fun h30 fp0 => ?_)
  refine m_iload_n (j := 2) C dX12_unreadable_0 rfl ?_
  refine m_iconst C dX12_unreadable_1 ?_
  refine m_bipush (z := 6) C dX12_unreadable_2 (by decide) ?_
  refine m_callS (As := [.int (iI n1), .int (iI 1), .int (iI 6)]) (rest := []) C (fun L E => s_isIn (iI n1) (iI 1) (iI 6)) dX12_unreadable_4 kS_X12_174 rfl rfl (Nat.le_of_ble_eq_true rfl) ⟨Nat.le_of_ble_eq_true rfl, Nat.le_of_ble_eq_true rfl⟩ ⟨Nat.le_of_ble_eq_true rfl, Nat.le_of_ble_eq_true rfl⟩ ?_
  rcases inn_c (x := n1) (lo := 1) (hi := 6) ⟨by omega, by omega⟩ ⟨by decide, by decide⟩ ⟨by decide, by decide⟩ with ⟨h1a, h1b, h1e⟩ | ⟨h1a, h1e⟩
  · refine m_st (st2 := [.int (iI 1)]) (by rw [h1e]) ?_
    refine m_if_eq (tgt := 21) C ⟨by decide, by decide⟩ dX12_unreadable_7 (by decide) (fun z => absurd z (by omega)) (fun _ => ?_)
    refine m_iload_n (j := 3) C dX12_unreadable_10 rfl ?_
    refine m_iconst C dX12_unreadable_11 ?_
    refine m_sipush (z := 5000) C dX12_unreadable_12 (by decide) ?_
    refine m_callS (As := [.int (iI m1), .int (iI 1), .int (iI 5000)]) (rest := []) C (fun L E => s_isIn (iI m1) (iI 1) (iI 5000)) dX12_unreadable_15 kS_X12_174 rfl rfl (Nat.le_of_ble_eq_true rfl) ⟨Nat.le_of_ble_eq_true rfl, Nat.le_of_ble_eq_true rfl⟩ ⟨Nat.le_of_ble_eq_true rfl, Nat.le_of_ble_eq_true rfl⟩ ?_
    rcases inn_c (x := m1) (lo := 1) (hi := 5000) ⟨by omega, by omega⟩ ⟨by decide, by decide⟩ ⟨by decide, by decide⟩ with ⟨h2a, h2b, h2e⟩ | ⟨h2a, h2e⟩
    · refine m_st (st2 := [.int (iI 1)]) (by rw [h2e]) ?_
      refine m_if_ne (tgt := 28) C ⟨by decide, by decide⟩ dX12_unreadable_18 (by decide) (fun _ => ?_) (fun z => absurd z (by omega))
      refine m_aload_n (j := 0) C dX12_unreadable_28 rfl ?_
      refine m_iload_n (j := 1) C dX12_unreadable_29 rfl ?_
      have rv1 : 0 ≤ v 4 ∧ v 4 ≤ 30 := hB.1 4
      refine m_call (mc2 := 0) (ms2 := 0) (As := [.int (iI t)]) (rest := []) C (E_isWhole (t := t) hB (hT.fr fp0 rfl rfl) (by show -2147483648 ≤ t ∧ t ≤ 2147483647; omega)) dX12_unreadable_30 kV_X12_171 rfl ck_13 rfl (Nat.le_of_ble_eq_true rfl) ⟨Nat.le_of_ble_eq_true rfl, Nat.le_of_ble_eq_true rfl⟩ ⟨Nat.le_of_ble_eq_true rfl, Nat.le_of_ble_eq_true rfl⟩ (fun rh3 vh3 ah3 h3 => ?_)
      obtain ⟨f1, rfl, fn1, bn1, ex1⟩ := h3
      obtain ⟨rfl, rfl⟩ := fn1.eq
      obtain ⟨ex1, tl1⟩ := ex1
      have gf1 : f1 = 0 ∨ (f1 = 1 ∧ 0 ≤ t ∧ t < (v 4)) := ex1
      refine m_st (st2 := [.int (iI f1)]) rfl ?_
      refine m_if_ne (tgt := 42) C (r32_0p gf1) dX12_unreadable_33 (by decide) (fun c1 => ?_) (fun c1 => ?_)
      · replace gf1 := (gf1.resolve_left c1)
        refine m_aload_n (j := 0) C dX12_unreadable_42 rfl ?_
        refine m_iload_n (j := 1) C dX12_unreadable_43 rfl ?_
        refine m_call (mc2 := 0) (ms2 := 0) (As := [.int (iI t)]) (rest := []) C (E_gather (t := t) hB hW (hT.fr fp0 rfl rfl) (by show 0 ≤ t ∧ t < (v 4); omega)) dX12_unreadable_44 kV_X12_354 rfl ck_13 rfl (Nat.le_of_ble_eq_true rfl) ⟨Nat.le_of_ble_eq_true rfl, Nat.le_of_ble_eq_true rfl⟩ ⟨Nat.le_of_ble_eq_true rfl, Nat.le_of_ble_eq_true rfl⟩ (fun rh4 vh4 ah4 h4 => ?_)
        obtain ⟨rfl, fn2, bn2, ex2⟩ := h4
        have fq2 := fp0.call fn2 rfl rfl
        obtain ⟨pw1, ex2⟩ := ex2
        have tl2 := ex2
        refine m_st (st2 := []) rfl ?_
        refine m_aload_n (j := 0) C dX12_unreadable_47 rfl ?_
        refine m_iload_n (j := 1) C dX12_unreadable_48 rfl ?_
        refine m_call (mc2 := 1) (ms2 := 256) (As := [.int (iI t)]) (rest := []) C (E_gatherSigns (t := t) bn2 (by omega)) dX12_unreadable_49 kV_X12_416 rfl ck_13 rfl (Nat.le_of_ble_eq_true rfl) ⟨Nat.le_of_ble_eq_true rfl, Nat.le_of_ble_eq_true rfl⟩ ⟨Nat.le_of_ble_eq_true rfl, Nat.le_of_ble_eq_true rfl⟩ (fun rh5 vh5 ah5 h5 => ?_)
        obtain ⟨rfl, fn3, bn3, ex3⟩ := h5
        refine hv3 (fq2.call fn3 rfl rfl) (show RWS ah5 from RWS.fr pw1 fn3 rfl) (show U63 a vh5 ah5 t from U63.mk tl2 fn2 rfl fn3 ex3 bn2) (fun fq3 pw2 uu1 => ?_)
        refine m_st (st2 := []) rfl ?_
        refine m_aload_n (j := 0) C dX12_unreadable_52 rfl ?_
        refine m_aload_n (j := 0) C dX12_unreadable_53 rfl ?_
        refine hv3 (show 0 ≤ vh5 52 ∧ vh5 52 ≤ 4000 from bn3.1 52) (show vh5 52 = vh4 52 from fn3.1 52 rfl) (show vh4 52 = v 52 from fn2.1 52 rfl) (fun rv2 ve1 ve2 => ?_)
        refine m_get (k := 52) C dX12_unreadable_54 w6_111 (by decide) rfl ?_
        refine m_put (k := 55) (z := vh5 52) C dX12_unreadable_57 w6_114 (by decide) rfl rfl rfl ?_
        refine hv2 (show BX (va_up vh5 55 (vh5 52)) ah5 from bn3.put (k := 55) (z := vh5 52) (show 0 ≤ (vh5 52) ∧ (vh5 52) ≤ 4000 by omega)) (fq3.put (k := 55) (z := vh5 52) rfl) (fun bq1 fq4 => ?_)
        refine m_iconst C dX12_unreadable_60 ?_
        refine m_istore (lv2 := [(4, .int (iI 0)), (0, .ref h0), (1, .int (iI t)), (2, .int (iI n1)), (3, .int (iI m1))]) C dX12_unreadable_61 (by decide) rfl ?_
        have Lp1 : ∀ (nn : Nat) (k : Int) (vb1 : Nat → Int) (ab1 : Nat → Nat → Int), 4001 - k < (nn : Int) → BX vb1 ab1 → fr [0, 1, 23, 25, 28, 50, 52, 53, 55, 66] [20, 24, 26, 27, 44, 45, 46, 47, 48, 49, 51, 54, 65, 70] v a vb1 ab1 → (0 ≤ k ∧ k ≤ 4000) → (RWS ab1) → (vb1 52 = v 52) → (vb1 55 = v 52) → (U63 a vb1 ab1 t) → (ab1 51 = a 51) → (FOU (ab1 54) (a 51) k) → mw p l e (rmq 67 2 262) s m args below meth c G A 9 (MQ below (Qm G A (fun rq Lq Eq => ∃ (vq : Nat → Int) (aq : Nat → Nat → Int), mI G h0 ad ln vq aq Lq Eq ∧ (fun r v2 a2 => ∃ f : Int, r = some (.int (iI f)) ∧ fr [0, 1, 23, 25, 28, 50, 52, 53, 55, 66] [20, 24, 26, 27, 44, 45, 46, 47, 48, 49, 51, 54, 65, 70] v a v2 a2 ∧ BX v2 a2 ∧ (RWS a2 ∧ URX v a v2 a2 t n1 m1 f)) rq vq aq)) args s 2 262 A) h0 ad ln vb1 ab1 (0 + 1) (0 + 256) 63 [(4, .int (iI k)), (0, .ref h0), (1, .int (iI t)), (2, .int (iI n1)), (3, .int (iI m1))] [] := by
          intro nn
          induction nn with
          | zero =>
            intro k vb1 ab1 hm bxb1 fpb1 hk hRa h52a h55a hU hA51 hF
            exact absurd hm (by omega)
          | succ nn ih1 =>
            intro k vb1 ab1 hm bxb1 fpb1 hk hRa h52a h55a hU hA51 hF
            refine m_iload (j := 0) C dX12_unreadable_63 rfl ?_
            refine m_aload_n (j := 1) C dX12_unreadable_65 rfl ?_
            have rv3 : 0 ≤ vb1 52 ∧ vb1 52 ≤ 4000 := bxb1.1 52
            refine m_get (k := 52) C dX12_unreadable_66 w6_111 (by decide) rfl ?_
            refine m_icmp_ge (tgt := 92) C (r32_c (lo := 0) (hi := 4000) hk.1 hk.2 (by decide) (by decide)) (r32_c (lo := 0) (hi := 4000) rv3.1 rv3.2 (by decide) (by decide)) dX12_unreadable_69 (by decide) (fun c2 => ?_) (fun c2 => ?_)
            · refine m_iconst C dX12_unreadable_92 ?_
              refine m_istore (lv2 := [(4, .int (iI 0)), (0, .ref h0), (1, .int (iI t)), (2, .int (iI n1)), (3, .int (iI m1))]) C dX12_unreadable_93 (by decide) rfl ?_
              refine m_bipush (z := 6) C dX12_unreadable_95 (by decide) ?_
              refine m_newI (z := 6) (nb := 6) C dX12_unreadable_97 w1_57 ⟨by omega, by omega⟩ rfl ⟨Nat.le_of_ble_eq_true rfl, Nat.le_of_ble_eq_true rfl⟩ bxb1 (fun bb vw1 aw1 fnw1 bnw1 znw1 => ?_)
              refine hv3 (fpb1.call fnw1 rfl rfl) (show RWS aw1 from RWS.fr hRa fnw1 rfl) (show ATS vw1 aw1 from fun j => ⟨Int.le_of_eq (znw1 j).symm, Or.inl (znw1 j)⟩) (fun fqw1 pw3 pw4 => ?_)
              refine x_astore (lv2 := [(5, .ref bb), (4, .int (iI 0)), (0, .ref h0), (1, .int (iI t)), (2, .int (iI n1)), (3, .int (iI m1))]) C dX12_unreadable_99 (by decide) rfl ?_
              refine x_iconst C dX12_unreadable_101 ?_
              refine x_istore (lv2 := [(6, .int (iI 1)), (5, .ref bb), (4, .int (iI 0)), (0, .ref h0), (1, .int (iI t)), (2, .int (iI n1)), (3, .int (iI m1))]) C dX12_unreadable_102 (by decide) rfl ?_
              have Lp2 : ∀ (nn : Nat) (tr m2 : Int) (vb2 : Nat → Int) (ab2 : Nat → Nat → Int), n1 + 2 - m2 < (nn : Int) → BX vb2 ab2 → fr [0, 1, 23, 25, 28, 50, 52, 53, 55, 66] [20, 24, 26, 27, 44, 45, 46, 47, 48, 49, 51, 54, 65, 70] v a vb2 ab2 → (0 ≤ tr ∧ tr ≤ m1) → (1 ≤ m2 ∧ m2 ≤ n1 + 1) → (RWS ab2) → (ATS vb2 ab2) → (U104 v a vb2 ab2 t n1 tr m2) → mx p l e (rmq 67 2 262) s m args below meth c G A 9 (MQ below (Qm G A (fun rq Lq Eq => ∃ (vq : Nat → Int) (aq : Nat → Nat → Int), mI G h0 ad ln vq aq Lq Eq ∧ (fun r v2 a2 => ∃ f : Int, r = some (.int (iI f)) ∧ fr [0, 1, 23, 25, 28, 50, 52, 53, 55, 66] [20, 24, 26, 27, 44, 45, 46, 47, 48, 49, 51, 54, 65, 70] v a v2 a2 ∧ BX v2 a2 ∧ (RWS a2 ∧ URX v a v2 a2 t n1 m1 f)) rq vq aq)) args s 2 262 A) bb 6 false h0 ad ln vb2 ab2 ((0 + 1) + 1) ((0 + 256) + 6) 104 [(6, .int (iI m2)), (4, .int (iI tr)), (5, .ref bb), (0, .ref h0), (1, .int (iI t)), (2, .int (iI n1)), (3, .int (iI m1))] [] := by
                intro nn
                induction nn with
                | zero =>
                  intro tr m2 vb2 ab2 hm bxb2 fpb2 htr hm2 hRb hAb hC1
                  exact absurd hm (by omega)
                | succ nn ih2 =>
                  intro tr m2 vb2 ab2 hm bxb2 fpb2 htr hm2 hRb hAb hC1
                  refine x_iload (j := 0) C dX12_unreadable_104 rfl ?_
                  refine x_iload_n (j := 5) C dX12_unreadable_106 rfl ?_
                  refine x_icmp_gt (tgt := 329) C ⟨by omega, by omega⟩ ⟨by omega, by omega⟩ dX12_unreadable_107 (by decide) (fun c3 => ?_) (fun c3 => ?_)
                  · refine x_aload_n (j := 3) C dX12_unreadable_329 rfl ?_
                    refine x_call (mc2 := 0) (ms2 := 0) (As := []) (rest := []) C (E_putBack bxb2) (fun _ _ _ q => by first | exact q.2.1.2 70 rfl | (obtain ⟨_, _, q2, _⟩ := q; exact q2.2 70 rfl)) dX12_unreadable_330 kV_X12_422 rfl ck_13 rfl (Nat.le_of_ble_eq_true rfl) ⟨Nat.le_of_ble_eq_true rfl, Nat.le_of_ble_eq_true rfl⟩ ⟨Nat.le_of_ble_eq_true rfl, Nat.le_of_ble_eq_true rfl⟩ (fun rh6 vh6 ah6 h6 => ?_)
                    obtain ⟨rfl, fn4, bn4, ex4⟩ := h6
                    refine hv3 (fpb2.call fn4 rfl rfl) (show RWS ah6 from RWS.fr hRb fn4 rfl) (show ATS vh6 ah6 from ATS.fr hAb fn4 rfl rfl) (fun fq5 pw5 pw6 => ?_)
                    refine x_st (st2 := []) rfl ?_
                    refine x_aload_n (j := 3) C dX12_unreadable_333 rfl ?_
                    refine x_iconst C dX12_unreadable_334 ?_
                    refine x_call (mc2 := 0) (ms2 := 0) (As := [.int (iI 0)]) (rest := []) C (B_fine (x := 0) bn4 (by show -2147483648 ≤ (0 : Int) ∧ (0 : Int) ≤ 2147483647; omega)) (fun _ _ _ q => by first | exact q.2.1.2 70 rfl | (obtain ⟨_, _, q2, _⟩ := q; exact q2.2 70 rfl)) dX12_unreadable_335 kV_X12_158 rfl ck_13 rfl (Nat.le_of_ble_eq_true rfl) ⟨Nat.le_of_ble_eq_true rfl, Nat.le_of_ble_eq_true rfl⟩ ⟨Nat.le_of_ble_eq_true rfl, Nat.le_of_ble_eq_true rfl⟩ (fun rh7 vh7 ah7 h7 => ?_)
                    obtain ⟨f3, rfl, fn5, bn5, ex5⟩ := h7
                    refine hv4 (fq5.call fn5 rfl rfl) (show RWS ah7 from RWS.fr pw5 fn5 rfl) (show ATS vh7 ah7 from ATS.fr pw6 fn5 rfl rfl) (show f3 = (0 : Int) from ex5) (fun fq6 pw7 pw8 gf3 => ?_)
                    refine x_st (st2 := [.int (iI f3)]) rfl ?_
                    exact x_iret C dX12_unreadable_338 rfl (Nat.le_of_ble_eq_true rfl) (Nat.le_of_ble_eq_true rfl) ⟨f3, rfl, fq6, bn5, ⟨pw7, URX.exh ⟨tl1.mp (by omega), ⟨by omega, by omega⟩, ⟨by omega, by omega⟩⟩ hC1 (by omega) (by omega) ⟨by omega, by omega⟩ ex4 (by omega) (fn5.1 52 rfl) (fn5.2 51 rfl)⟩⟩
                  · refine x_aload_n (j := 3) C dX12_unreadable_110 rfl ?_
                    have rv4 : 0 ≤ vb2 66 ∧ vb2 66 ≤ 256 := bxb2.1 66
                    refine x_get (k := 66) C dX12_unreadable_111 w6_125 (by decide) rfl ?_
                    refine x_if_le (tgt := 329) C (r32_c (lo := 0) (hi := 256) rv4.1 rv4.2 (by decide) (by decide)) dX12_unreadable_114 (by decide) (fun c4 => ?_) (fun c4 => ?_)
                    · refine x_aload_n (j := 3) C dX12_unreadable_329 rfl ?_
                      refine x_call (mc2 := 0) (ms2 := 0) (As := []) (rest := []) C (E_putBack bxb2) (fun _ _ _ q => by first | exact q.2.1.2 70 rfl | (obtain ⟨_, _, q2, _⟩ := q; exact q2.2 70 rfl)) dX12_unreadable_330 kV_X12_422 rfl ck_13 rfl (Nat.le_of_ble_eq_true rfl) ⟨Nat.le_of_ble_eq_true rfl, Nat.le_of_ble_eq_true rfl⟩ ⟨Nat.le_of_ble_eq_true rfl, Nat.le_of_ble_eq_true rfl⟩ (fun rh8 vh8 ah8 h8 => ?_)
                      obtain ⟨rfl, fn6, bn6, ex6⟩ := h8
                      refine hv3 (fpb2.call fn6 rfl rfl) (show RWS ah8 from RWS.fr hRb fn6 rfl) (show ATS vh8 ah8 from ATS.fr hAb fn6 rfl rfl) (fun fq7 pw9 pw10 => ?_)
                      refine x_st (st2 := []) rfl ?_
                      refine x_aload_n (j := 3) C dX12_unreadable_333 rfl ?_
                      refine x_iconst C dX12_unreadable_334 ?_
                      refine x_call (mc2 := 0) (ms2 := 0) (As := [.int (iI 0)]) (rest := []) C (B_fine (x := 0) bn6 (by show -2147483648 ≤ (0 : Int) ∧ (0 : Int) ≤ 2147483647; omega)) (fun _ _ _ q => by first | exact q.2.1.2 70 rfl | (obtain ⟨_, _, q2, _⟩ := q; exact q2.2 70 rfl)) dX12_unreadable_335 kV_X12_158 rfl ck_13 rfl (Nat.le_of_ble_eq_true rfl) ⟨Nat.le_of_ble_eq_true rfl, Nat.le_of_ble_eq_true rfl⟩ ⟨Nat.le_of_ble_eq_true rfl, Nat.le_of_ble_eq_true rfl⟩ (fun rh9 vh9 ah9 h9 => ?_)
                      obtain ⟨f4, rfl, fn7, bn7, ex7⟩ := h9
                      refine hv4 (fq7.call fn7 rfl rfl) (show RWS ah9 from RWS.fr pw9 fn7 rfl) (show ATS vh9 ah9 from ATS.fr pw10 fn7 rfl rfl) (show f4 = (0 : Int) from ex7) (fun fq8 pw11 pw12 gf4 => ?_)
                      refine x_st (st2 := [.int (iI f4)]) rfl ?_
                      exact x_iret C dX12_unreadable_338 rfl (Nat.le_of_ble_eq_true rfl) (Nat.le_of_ble_eq_true rfl) ⟨f4, rfl, fq8, bn7, ⟨pw11, URX.exh ⟨tl1.mp (by omega), ⟨by omega, by omega⟩, ⟨by omega, by omega⟩⟩ hC1 (by omega) (by omega) ⟨by omega, by omega⟩ ex6 (by omega) (fn7.1 52 rfl) (fn7.2 51 rfl)⟩⟩
                    · refine x_iconst C dX12_unreadable_117 ?_
                      refine x_istore (lv2 := [(7, .int (iI 0)), (6, .int (iI m2)), (4, .int (iI tr)), (5, .ref bb), (0, .ref h0), (1, .int (iI t)), (2, .int (iI n1)), (3, .int (iI m1))]) C dX12_unreadable_118 (by decide) rfl ?_
                      have Lp3 : ∀ (nn : Nat) (k1 : Int) (vb3 : Nat → Int) (ab3 : Nat → Nat → Int), 7 - k1 < (nn : Int) → BX vb3 ab3 → fr [0, 1, 23, 25, 28, 50, 52, 53, 55, 66] [20, 24, 26, 27, 44, 45, 46, 47, 48, 49, 51, 54, 65, 70] v a vb3 ab3 → (0 ≤ k1 ∧ k1 ≤ m2) → (RWS ab3) → (ATS vb3 ab3) → (0 < vb3 66) → (U104 v a vb3 ab3 t n1 tr m2) → (ZRI (ab3 70) k1) → mx p l e (rmq 67 2 262) s m args below meth c G A 9 (MQ below (Qm G A (fun rq Lq Eq => ∃ (vq : Nat → Int) (aq : Nat → Nat → Int), mI G h0 ad ln vq aq Lq Eq ∧ (fun r v2 a2 => ∃ f : Int, r = some (.int (iI f)) ∧ fr [0, 1, 23, 25, 28, 50, 52, 53, 55, 66] [20, 24, 26, 27, 44, 45, 46, 47, 48, 49, 51, 54, 65, 70] v a v2 a2 ∧ BX v2 a2 ∧ (RWS a2 ∧ URX v a v2 a2 t n1 m1 f)) rq vq aq)) args s 2 262 A) bb 6 false h0 ad ln vb3 ab3 ((0 + 1) + 1) ((0 + 256) + 6) 120 [(7, .int (iI k1)), (6, .int (iI m2)), (4, .int (iI tr)), (5, .ref bb), (0, .ref h0), (1, .int (iI t)), (2, .int (iI n1)), (3, .int (iI m1))] [] := by
                        intro nn
                        induction nn with
                        | zero =>
                          intro k1 vb3 ab3 hm bxb3 fpb3 hk1 hRc hAc h66c hC2 hZ
                          exact absurd hm (by omega)
                        | succ nn ih3 =>
                          intro k1 vb3 ab3 hm bxb3 fpb3 hk1 hRc hAc h66c hC2 hZ
                          refine x_iload (j := 0) C dX12_unreadable_120 rfl ?_
                          refine x_iload (j := 1) C dX12_unreadable_122 rfl ?_
                          refine x_icmp_ge (tgt := 139) C ⟨by omega, by omega⟩ ⟨by omega, by omega⟩ dX12_unreadable_124 (by decide) (fun c5 => ?_) (fun c5 => ?_)
                          · refine x_iconst C dX12_unreadable_139 ?_
                            refine x_istore (lv2 := [(7, .int (iI 1)), (6, .int (iI m2)), (4, .int (iI tr)), (5, .ref bb), (0, .ref h0), (1, .int (iI t)), (2, .int (iI n1)), (3, .int (iI m1))]) C dX12_unreadable_140 (by decide) rfl ?_
                            have Lp4 : ∀ (nn : Nat) (g tr2 : Int) (vb4 : Nat → Int) (ab4 : Nat → Nat → Int), m1 + 1 - tr2 < (nn : Int) → BX vb4 ab4 → fr [0, 1, 23, 25, 28, 50, 52, 53, 55, 66] [20, 24, 26, 27, 44, 45, 46, 47, 48, 49, 51, 54, 65, 70] v a vb4 ab4 → (g = 0 ∨ g = 1) → (0 ≤ tr2 ∧ tr2 ≤ m1) → (RWS ab4) → (ATS vb4 ab4) → (0 < vb4 66) → (U142 v a vb4 ab4 t n1 tr2 m2 g) → mx p l e (rmq 67 2 262) s m args below meth c G A 9 (MQ below (Qm G A (fun rq Lq Eq => ∃ (vq : Nat → Int) (aq : Nat → Nat → Int), mI G h0 ad ln vq aq Lq Eq ∧ (fun r v2 a2 => ∃ f : Int, r = some (.int (iI f)) ∧ fr [0, 1, 23, 25, 28, 50, 52, 53, 55, 66] [20, 24, 26, 27, 44, 45, 46, 47, 48, 49, 51, 54, 65, 70] v a v2 a2 ∧ BX v2 a2 ∧ (RWS a2 ∧ URX v a v2 a2 t n1 m1 f)) rq vq aq)) args s 2 262 A) bb 6 false h0 ad ln vb4 ab4 ((0 + 1) + 1) ((0 + 256) + 6) 142 [(7, .int (iI g)), (4, .int (iI tr2)), (6, .int (iI m2)), (5, .ref bb), (0, .ref h0), (1, .int (iI t)), (2, .int (iI n1)), (3, .int (iI m1))] [] := by
                              intro nn
                              induction nn with
                              | zero =>
                                intro g tr2 vb4 ab4 hm bxb4 fpb4 hg htr2 hRd hAd h66d hC4
                                exact absurd hm (by omega)
                              | succ nn ih4 =>
                                intro g tr2 vb4 ab4 hm bxb4 fpb4 hg htr2 hRd hAd h66d hC4
                                refine x_iload (j := 0) C dX12_unreadable_142 rfl ?_
                                refine x_if_eq (tgt := 323) C (r32_01 hg) dX12_unreadable_144 (by decide) (fun c6 => ?_) (fun c6 => ?_)
                                · clear hg
                                  refine x_iinc (z := m2) (j := 2) (lv2 := [(6, .int (iI (m2 + 1))), (7, .int (iI g)), (4, .int (iI tr2)), (5, .ref bb), (0, .ref h0), (1, .int (iI t)), (2, .int (iI n1)), (3, .int (iI m1))]) C dX12_unreadable_323 rfl (by decide) rfl ?_
                                  refine x_goto (tgt := 104) C dX12_unreadable_326 (by decide) ?_
                                  refine x_lv (lv2 := [(6, .int (iI (m2 + 1))), (4, .int (iI tr2)), (5, .ref bb), (0, .ref h0), (1, .int (iI t)), (2, .int (iI n1)), (3, .int (iI m1))]) [0, 2, 3, 4, 5, 6, 7] rfl ?_
                                  exact ih2  tr2 (m2 + 1) _ _ (by omega) bxb4 fpb4 (by omega) (by omega) hRd hAd (hC4.next (by omega))
                                · replace hg := (hg.resolve_left c6)
                                  refine x_iload (j := 1) C dX12_unreadable_147 rfl ?_
                                  refine x_iload_n (j := 7) C dX12_unreadable_149 rfl ?_
                                  refine x_icmp_ne (tgt := 164) C ⟨by omega, by omega⟩ ⟨by omega, by omega⟩ dX12_unreadable_150 (by decide) (fun c7 => ?_) (fun c7 => ?_)
                                  · refine x_iinc (z := tr2) (j := 1) (lv2 := [(4, .int (iI (tr2 + 1))), (7, .int (iI g)), (6, .int (iI m2)), (5, .ref bb), (0, .ref h0), (1, .int (iI t)), (2, .int (iI n1)), (3, .int (iI m1))]) C dX12_unreadable_164 rfl (by decide) rfl ?_
                                    refine x_aload_n (j := 4) C dX12_unreadable_167 rfl ?_
                                    refine x_iload (j := 2) C dX12_unreadable_168 rfl ?_
                                    refine x_put (k := 23) (z := m2) C dX12_unreadable_170 w6_82 (by decide) rfl rfl rfl ?_
                                    refine hv3 (show BX (va_up vb4 23 m2) ab4 from bxb4.put (k := 23) (z := m2) (show 0 ≤ m2 ∧ m2 ≤ 500 by omega)) (fpb4.put (k := 23) (z := m2) rfl) (show ATS (va_up vb4 23 m2) ab4 from ATS.put hAd (k := 23) (z := m2) (by decide)) (fun bq2 fq9 pw13 => ?_)
                                    refine x_iconst C dX12_unreadable_173 ?_
                                    refine x_istore (lv2 := [(8, .int (iI 0)), (4, .int (iI (tr2 + 1))), (7, .int (iI g)), (6, .int (iI m2)), (5, .ref bb), (0, .ref h0), (1, .int (iI t)), (2, .int (iI n1)), (3, .int (iI m1))]) C dX12_unreadable_174 (by decide) rfl ?_
                                    have Lp5 : ∀ (nn : Nat) (k2 : Int) (vb5 : Nat → Int) (ab5 : Nat → Nat → Int), 7 - k2 < (nn : Int) → BX vb5 ab5 → fr [0, 1, 23, 25, 28, 50, 52, 53, 55, 66] [20, 24, 26, 27, 44, 45, 46, 47, 48, 49, 51, 54, 65, 70] v a vb5 ab5 → (0 ≤ k2 ∧ k2 ≤ m2) → (RWS ab5) → (ATS vb5 ab5) → (0 < vb5 66) → (vb5 23 = m2) → (U142 v a vb5 ab5 t n1 tr2 m2 1) → (FWI (ab5 20) (ab5 65) (ab5 70) k2) → mx p l e (rmq 67 2 262) s m args below meth c G A 9 (MQ below (Qm G A (fun rq Lq Eq => ∃ (vq : Nat → Int) (aq : Nat → Nat → Int), mI G h0 ad ln vq aq Lq Eq ∧ (fun r v2 a2 => ∃ f : Int, r = some (.int (iI f)) ∧ fr [0, 1, 23, 25, 28, 50, 52, 53, 55, 66] [20, 24, 26, 27, 44, 45, 46, 47, 48, 49, 51, 54, 65, 70] v a v2 a2 ∧ BX v2 a2 ∧ (RWS a2 ∧ URX v a v2 a2 t n1 m1 f)) rq vq aq)) args s 2 262 A) bb 6 false h0 ad ln vb5 ab5 ((0 + 1) + 1) ((0 + 256) + 6) 176 [(8, .int (iI k2)), (4, .int (iI (tr2 + 1))), (7, .int (iI g)), (6, .int (iI m2)), (5, .ref bb), (0, .ref h0), (1, .int (iI t)), (2, .int (iI n1)), (3, .int (iI m1))] [] := by
                                      intro nn
                                      induction nn with
                                      | zero =>
                                        intro k2 vb5 ab5 hm bxb5 fpb5 hk2 hRe hAe h66e h23 hC6 hF6
                                        exact absurd hm (by omega)
                                      | succ nn ih5 =>
                                        intro k2 vb5 ab5 hm bxb5 fpb5 hk2 hRe hAe h66e h23 hC6 hF6
                                        refine x_iload (j := 0) C dX12_unreadable_176 rfl ?_
                                        refine x_iload (j := 3) C dX12_unreadable_178 rfl ?_
                                        refine x_icmp_ge (tgt := 206) C ⟨by omega, by omega⟩ ⟨by omega, by omega⟩ dX12_unreadable_180 (by decide) (fun c8 => ?_) (fun c8 => ?_)
                                        · refine x_aload_n (j := 5) C dX12_unreadable_206 rfl ?_
                                          refine x_iload_n (j := 6) C dX12_unreadable_207 rfl ?_
                                          refine hv3 (show 0 ≤ vb5 4 ∧ vb5 4 ≤ 30 from bxb5.1 4) (show vb5 4 = v 4 from fpb5.1 4 rfl) (show 0 ≤ vb5 66 ∧ vb5 66 ≤ 256 from bxb5.1 66) (fun rv5 ve3 rv6 => ?_)
                                          refine x_call (mc2 := 0) (ms2 := 0) (As := [.int (iI t)]) (rest := []) C (E_isUnreadable (t := t) bxb5 (hT.fr fpb5 rfl rfl) hRe ⟨by omega, by omega⟩) (fun _ _ _ q => by first | exact q.2.1.2 70 rfl | (obtain ⟨_, _, q2, _⟩ := q; exact q2.2 70 rfl)) dX12_unreadable_208 kV_X12_425 rfl ck_13 rfl (Nat.le_of_ble_eq_true rfl) ⟨Nat.le_of_ble_eq_true rfl, Nat.le_of_ble_eq_true rfl⟩ ⟨Nat.le_of_ble_eq_true rfl, Nat.le_of_ble_eq_true rfl⟩ (fun rh10 vh10 ah10 h10 => ?_)
                                          obtain ⟨f5, rfl, fn8, bn8, ex8⟩ := h10
                                          refine hv3 (fpb5.call fn8 rfl rfl) (show RWS ah10 from RWS.fr hRe fn8 rfl) (show ATS vh10 ah10 from ATS.fr hAe fn8 rfl rfl) (fun fq10 pw14 pw15 => ?_)
                                          obtain ⟨ex8, hx1⟩ := ex8
                                          have gf5 : f5 = 0 ∨ f5 = 1 := ex8
                                          have iu1 := U142.iu (v2 := vh10) hT (tl1.mp (by omega)) hC6 hF6 (by omega) ⟨by omega, by omega⟩ h23 (TBE.fr fpb5 rfl) hAe h66e hx1
                                          refine x_st (st2 := [.int (iI f5)]) rfl ?_
                                          refine x_if_eq (tgt := 257) C (r32_01 gf5) dX12_unreadable_211 (by decide) (fun c9 => ?_) (fun c9 => ?_)
                                          · clear gf5
                                            refine x_iload (j := 3) C dX12_unreadable_257 rfl ?_
                                            refine x_iconst C dX12_unreadable_259 ?_
                                            refine x_isub C dX12_unreadable_260 ?_
                                            refine x_istore (lv2 := [(8, .int (iI (m2 - 1))), (4, .int (iI (tr2 + 1))), (7, .int (iI g)), (6, .int (iI m2)), (5, .ref bb), (0, .ref h0), (1, .int (iI t)), (2, .int (iI n1)), (3, .int (iI m1))]) C dX12_unreadable_261 (by decide) rfl ?_
                                            have Lp6 : ∀ (nn : Nat) (k4 : Int) (vb6 : Nat → Int) (ab6 : Nat → Nat → Int), k4 + 1 < (nn : Int) → BX vb6 ab6 → fr [0, 1, 23, 25, 28, 50, 52, 53, 55, 66] [20, 24, 26, 27, 44, 45, 46, 47, 48, 49, 51, 54, 65, 70] v a vb6 ab6 → (-1 ≤ k4 ∧ k4 ≤ m2 - 1) → (RWS ab6) → (ATS vb6 ab6) → (0 < vb6 66) → (U263 v a vb6 ab6 t n1 tr2 m2 k4) → mx p l e (rmq 67 2 262) s m args below meth c G A 9 (MQ below (Qm G A (fun rq Lq Eq => ∃ (vq : Nat → Int) (aq : Nat → Nat → Int), mI G h0 ad ln vq aq Lq Eq ∧ (fun r v2 a2 => ∃ f : Int, r = some (.int (iI f)) ∧ fr [0, 1, 23, 25, 28, 50, 52, 53, 55, 66] [20, 24, 26, 27, 44, 45, 46, 47, 48, 49, 51, 54, 65, 70] v a v2 a2 ∧ BX v2 a2 ∧ (RWS a2 ∧ URX v a v2 a2 t n1 m1 f)) rq vq aq)) args s 2 262 A) bb 6 false h0 ad ln vb6 ab6 ((0 + 1) + 1) ((0 + 256) + 6) 263 [(8, .int (iI k4)), (4, .int (iI (tr2 + 1))), (7, .int (iI g)), (6, .int (iI m2)), (5, .ref bb), (0, .ref h0), (1, .int (iI t)), (2, .int (iI n1)), (3, .int (iI m1))] [] := by
                                              intro nn
                                              induction nn with
                                              | zero =>
                                                intro k4 vb6 ab6 hm bxb6 fpb6 hk4 hRf hAf h66f hC7
                                                exact absurd hm (by omega)
                                              | succ nn ih6 =>
                                                intro k4 vb6 ab6 hm bxb6 fpb6 hk4 hRf hAf h66f hC7
                                                refine x_iload (j := 0) C dX12_unreadable_263 rfl ?_
                                                refine x_if_lt (tgt := 294) C ⟨by omega, by omega⟩ dX12_unreadable_265 (by decide) (fun c10 => ?_) (fun c10 => ?_)
                                                · refine x_iload (j := 0) C dX12_unreadable_294 rfl ?_
                                                  refine x_if_lt (tgt := 303) C ⟨by omega, by omega⟩ dX12_unreadable_296 (by decide) (fun _ => ?_) (fun z => absurd z (by omega))
                                                  refine x_iconst C dX12_unreadable_303 ?_
                                                  refine x_istore (lv2 := [(7, .int (iI 0)), (8, .int (iI k4)), (4, .int (iI (tr2 + 1))), (6, .int (iI m2)), (5, .ref bb), (0, .ref h0), (1, .int (iI t)), (2, .int (iI n1)), (3, .int (iI m1))]) C dX12_unreadable_304 (by decide) rfl ?_
                                                  refine x_iload (j := 0) C dX12_unreadable_306 rfl ?_
                                                  refine x_if_eq (tgt := 320) C ⟨by decide, by decide⟩ dX12_unreadable_308 (by decide) (fun _ => ?_) (fun z => absurd z (by omega))
                                                  refine x_goto (tgt := 142) C dX12_unreadable_320 (by decide) ?_
                                                  have rv7 : 0 ≤ vb6 66 ∧ vb6 66 ≤ 256 := bxb6.1 66
                                                  refine x_lv (lv2 := [(7, .int (iI 0)), (4, .int (iI (tr2 + 1))), (6, .int (iI m2)), (5, .ref bb), (0, .ref h0), (1, .int (iI t)), (2, .int (iI n1)), (3, .int (iI m1))]) [0, 2, 3, 4, 5, 6, 7, 8] rfl ?_
                                                  exact ih4  0 (tr2 + 1) _ _ (by omega) bxb6 fpb6 (by omega) (by omega) hRf hAf (by show 0 < (vb6 66); omega) (hC7.over (by omega) (by omega) (by omega) (by omega) rfl)
                                                · refine x_aload (j := 4) C dX12_unreadable_268 rfl ?_
                                                  refine x_iload (j := 0) C dX12_unreadable_270 rfl ?_
                                                  refine x_lald C dX12_unreadable_272 rfl (by omega) (by omega) (by decide) ?_
                                                  refine hv3 (show (-2147483648) ≤ ab6 70 k4.toNat ∧ ab6 70 k4.toNat ≤ 2147483647 from bxb6.2 70 (k4.toNat)) (show 0 ≤ vb6 66 ∧ vb6 66 ≤ 256 from bxb6.1 66) (show 0 ≤ ab6 70 k4.toNat ∧ (ab6 70 k4.toNat = 0 ∨ ab6 70 k4.toNat < vb6 66) from hAf (k4.toNat)) (fun ra1 rv8 at272 => ?_)
                                                  refine x_aload_n (j := 5) C dX12_unreadable_273 rfl ?_
                                                  refine x_get (k := 66) C dX12_unreadable_274 w6_125 (by decide) rfl ?_
                                                  refine x_iconst C dX12_unreadable_277 ?_
                                                  refine x_isub C dX12_unreadable_278 ?_
                                                  refine x_icmp_ne (tgt := 294) C (r32_c (lo := 0) (hi := 2147483647) at272.1 ra1.2 (by decide) (by decide)) ⟨by omega, by omega⟩ dX12_unreadable_279 (by decide) (fun c11 => ?_) (fun c11 => ?_)
                                                  · refine x_iload (j := 0) C dX12_unreadable_294 rfl ?_
                                                    refine x_if_lt (tgt := 303) C ⟨by omega, by omega⟩ dX12_unreadable_296 (by decide) (fun z => absurd z (by omega)) (fun _ => ?_)
                                                    refine x_iconst C dX12_unreadable_299 ?_
                                                    refine x_goto (tgt := 304) C dX12_unreadable_300 (by decide) ?_
                                                    refine x_istore (lv2 := [(7, .int (iI 1)), (8, .int (iI k4)), (4, .int (iI (tr2 + 1))), (6, .int (iI m2)), (5, .ref bb), (0, .ref h0), (1, .int (iI t)), (2, .int (iI n1)), (3, .int (iI m1))]) C dX12_unreadable_304 (by decide) rfl ?_
                                                    refine x_iload (j := 0) C dX12_unreadable_306 rfl ?_
                                                    refine x_if_eq (tgt := 320) C ⟨by decide, by decide⟩ dX12_unreadable_308 (by decide) (fun z => absurd z (by omega)) (fun _ => ?_)
                                                    refine x_aload (j := 4) C dX12_unreadable_311 rfl ?_
                                                    refine x_iload (j := 1) C dX12_unreadable_313 rfl ?_
                                                    refine x_dup2 C dX12_unreadable_315 rfl rfl ?_
                                                    refine x_lald C dX12_unreadable_316 rfl (by omega) (by omega) (by decide) ?_
                                                    have at316 : 0 ≤ ab6 70 k4.toNat ∧ (ab6 70 k4.toNat = 0 ∨ ab6 70 k4.toNat < vb6 66) := hAf (k4.toNat)
                                                    refine x_iconst C dX12_unreadable_317 ?_
                                                    refine x_iadd C dX12_unreadable_318 ?_
                                                    refine x_last (w := (ab6 70 k4.toNat) + 1) C dX12_unreadable_319 rfl (by omega) (by omega) (by decide) ?_
                                                    refine hv3 (show BX vb6 (up2 ab6 70 k4.toNat ((ab6 70 k4.toNat) + 1)) from bxb6.set (k := 70) (i := k4.toNat) (z := (ab6 70 k4.toNat) + 1) (show (-2147483648) ≤ ((ab6 70 k4.toNat) + 1) ∧ ((ab6 70 k4.toNat) + 1) ≤ 2147483647 by omega)) (fpb6.set (k := 70) (i := k4.toNat) (z := (ab6 70 k4.toNat) + 1) rfl) (show RWS (up2 ab6 70 k4.toNat ((ab6 70 k4.toNat) + 1)) from RWS.set hRf (k := 70) (i := k4.toNat) (z := (ab6 70 k4.toNat) + 1) rfl) (fun bq3 fq11 pw16 => ?_)
                                                    have pw17 : ATS vb6 (up2 ab6 70 k4.toNat ((ab6 70 k4.toNat) + 1)) := ATS.sto (i := k4.toNat) (z := (ab6 70 k4.toNat) + 1) hAf (by show 0 ≤ ((ab6 70 k4.toNat) + 1) ∧ (((ab6 70 k4.toNat) + 1) = 0 ∨ ((ab6 70 k4.toNat) + 1) < vb6 66); omega)
                                                    refine x_goto (tgt := 142) C dX12_unreadable_320 (by decide) ?_
                                                    refine x_lv (lv2 := [(7, .int (iI 1)), (4, .int (iI (tr2 + 1))), (6, .int (iI m2)), (5, .ref bb), (0, .ref h0), (1, .int (iI t)), (2, .int (iI n1)), (3, .int (iI m1))]) [0, 2, 3, 4, 5, 6, 7, 8] rfl ?_
                                                    exact ih4  1 (tr2 + 1) _ _ (by omega) bq3 fq11 (by omega) (by omega) pw16 pw17 (by show 0 < (vb6 66); omega) (hC7.up (by omega) ⟨by omega, by omega⟩ (by omega) ⟨⟨rfl, rfl⟩, ⟨rfl, rfl⟩, ⟨rfl, rfl, rfl, rfl⟩, rfl, rfl⟩ (by unfold up2; rfl) rfl)
                                                  · refine x_aload (j := 4) C dX12_unreadable_282 rfl ?_
                                                    refine x_iload (j := 0) C dX12_unreadable_284 rfl ?_
                                                    refine x_iconst C dX12_unreadable_286 ?_
                                                    refine x_last (w := 0) C dX12_unreadable_287 rfl (by omega) (by omega) (by decide) ?_
                                                    refine hv3 (show BX vb6 (up2 ab6 70 k4.toNat 0) from bxb6.set (k := 70) (i := k4.toNat) (z := 0) ⟨by decide, by decide⟩) (fpb6.set (k := 70) (i := k4.toNat) (z := 0) rfl) (show RWS (up2 ab6 70 k4.toNat 0) from RWS.set hRf (k := 70) (i := k4.toNat) (z := 0) rfl) (fun bq4 fq12 pw18 => ?_)
                                                    have pw19 : ATS vb6 (up2 ab6 70 k4.toNat 0) := ATS.sto (i := k4.toNat) (z := 0) hAf (by show 0 ≤ 0 ∧ (0 = 0 ∨ 0 < vb6 66); omega)
                                                    refine x_iinc (z := k4) (j := 0) (lv2 := [(8, .int (iI (k4 + (-1)))), (4, .int (iI (tr2 + 1))), (7, .int (iI g)), (6, .int (iI m2)), (5, .ref bb), (0, .ref h0), (1, .int (iI t)), (2, .int (iI n1)), (3, .int (iI m1))]) C dX12_unreadable_288 rfl (by decide) rfl ?_
                                                    refine x_goto (tgt := 263) C dX12_unreadable_291 (by decide) ?_
                                                    refine x_lv (lv2 := [(8, .int (iI (k4 + (-1)))), (4, .int (iI (tr2 + 1))), (7, .int (iI g)), (6, .int (iI m2)), (5, .ref bb), (0, .ref h0), (1, .int (iI t)), (2, .int (iI n1)), (3, .int (iI m1))]) [0, 1, 2, 3, 4, 5, 6, 7, 8] rfl ?_
                                                    exact ih6  (k4 + (-1)) _ _ (by omega) bq4 fq12 (by omega) pw18 pw19 (by show 0 < (vb6 66); omega) (hC7.step ⟨by omega, by omega⟩ (by omega) ⟨⟨rfl, rfl⟩, ⟨rfl, rfl⟩, ⟨rfl, rfl, rfl, rfl⟩, rfl, rfl⟩ (by unfold up2; rfl))
                                            refine hv2 (show 0 ≤ vh10 66 ∧ vh10 66 ≤ 256 from bn8.1 66) (show vh10 66 = vb5 66 from fn8.1 66 rfl) (fun rv9 ve4 => ?_)
                                            refine x_lv (lv2 := [(8, .int (iI (m2 - 1))), (4, .int (iI (tr2 + 1))), (7, .int (iI g)), (6, .int (iI m2)), (5, .ref bb), (0, .ref h0), (1, .int (iI t)), (2, .int (iI n1)), (3, .int (iI m1))]) [0, 1, 2, 3, 4, 5, 6, 7, 8] rfl ?_
                                            exact Lp6 8 (m2 - 1) _ _ (by omega) bn8 fq10 (by omega) pw14 pw15 (by show 0 < (vh10 66); omega) (iu1.2 (by omega) (UKE.fr fn8 rfl rfl) (fn8.2 70 rfl))
                                          · replace gf5 := (gf5.resolve_left c9)
                                            refine x_aload_n (j := 5) C dX12_unreadable_214 rfl ?_
                                            refine x_iload (j := 3) C dX12_unreadable_215 rfl ?_
                                            refine x_put (k := 52) (z := m2) C dX12_unreadable_217 w6_111 (by decide) rfl rfl rfl ?_
                                            refine hv3 (show BX (va_up vh10 52 m2) ah10 from bn8.put (k := 52) (z := m2) (show 0 ≤ m2 ∧ m2 ≤ 4000 by omega)) (fq10.put (k := 52) (z := m2) rfl) (show ATS (va_up vh10 52 m2) ah10 from ATS.put pw15 (k := 52) (z := m2) (by decide)) (fun bq5 fq13 pw20 => ?_)
                                            refine x_iconst C dX12_unreadable_220 ?_
                                            refine x_istore (lv2 := [(8, .int (iI 0)), (4, .int (iI (tr2 + 1))), (7, .int (iI g)), (6, .int (iI m2)), (5, .ref bb), (0, .ref h0), (1, .int (iI t)), (2, .int (iI n1)), (3, .int (iI m1))]) C dX12_unreadable_221 (by decide) rfl ?_
                                            have Lp7 : ∀ (nn : Nat) (k3 : Int) (vb7 : Nat → Int) (ab7 : Nat → Nat → Int), 7 - k3 < (nn : Int) → BX vb7 ab7 → fr [0, 1, 23, 25, 28, 50, 52, 53, 55, 66] [20, 24, 26, 27, 44, 45, 46, 47, 48, 49, 51, 54, 65, 70] v a vb7 ab7 → (0 ≤ k3 ∧ k3 ≤ m2) → (RWS ab7) → (vb7 52 = m2) → (U223 v a vb7 ab7 t n1 tr2 m2) → (FOU (ab7 51) (ab7 20) k3) → mx p l e (rmq 67 2 262) s m args below meth c G A 9 (MQ below (Qm G A (fun rq Lq Eq => ∃ (vq : Nat → Int) (aq : Nat → Nat → Int), mI G h0 ad ln vq aq Lq Eq ∧ (fun r v2 a2 => ∃ f : Int, r = some (.int (iI f)) ∧ fr [0, 1, 23, 25, 28, 50, 52, 53, 55, 66] [20, 24, 26, 27, 44, 45, 46, 47, 48, 49, 51, 54, 65, 70] v a v2 a2 ∧ BX v2 a2 ∧ (RWS a2 ∧ URX v a v2 a2 t n1 m1 f)) rq vq aq)) args s 2 262 A) bb 6 false h0 ad ln vb7 ab7 ((0 + 1) + 1) ((0 + 256) + 6) 223 [(8, .int (iI k3)), (4, .int (iI (tr2 + 1))), (7, .int (iI g)), (6, .int (iI m2)), (5, .ref bb), (0, .ref h0), (1, .int (iI t)), (2, .int (iI n1)), (3, .int (iI m1))] [] := by
                                              intro nn
                                              induction nn with
                                              | zero =>
                                                intro k3 vb7 ab7 hm bxb7 fpb7 hk3 hRg h52g hC8 hF8
                                                exact absurd hm (by omega)
                                              | succ nn ih7 =>
                                                intro k3 vb7 ab7 hm bxb7 fpb7 hk3 hRg h52g hC8 hF8
                                                refine x_iload (j := 0) C dX12_unreadable_223 rfl ?_
                                                refine x_iload (j := 3) C dX12_unreadable_225 rfl ?_
                                                refine x_icmp_ge (tgt := 250) C ⟨by omega, by omega⟩ ⟨by omega, by omega⟩ dX12_unreadable_227 (by decide) (fun c12 => ?_) (fun c12 => ?_)
                                                · refine x_aload_n (j := 5) C dX12_unreadable_250 rfl ?_
                                                  refine x_iload (j := 3) C dX12_unreadable_251 rfl ?_
                                                  refine x_call (mc2 := 0) (ms2 := 0) (As := [.int (iI m2)]) (rest := []) C (B_fine (x := m2) bxb7 (by show -2147483648 ≤ m2 ∧ m2 ≤ 2147483647; omega)) (fun _ _ _ q => by first | exact q.2.1.2 70 rfl | (obtain ⟨_, _, q2, _⟩ := q; exact q2.2 70 rfl)) dX12_unreadable_253 kV_X12_158 rfl ck_13 rfl (Nat.le_of_ble_eq_true rfl) ⟨Nat.le_of_ble_eq_true rfl, Nat.le_of_ble_eq_true rfl⟩ ⟨Nat.le_of_ble_eq_true rfl, Nat.le_of_ble_eq_true rfl⟩ (fun rh11 vh11 ah11 h11 => ?_)
                                                  obtain ⟨f6, rfl, fn9, bn9, ex9⟩ := h11
                                                  refine hv3 (fpb7.call fn9 rfl rfl) (show RWS ah11 from RWS.fr hRg fn9 rfl) (show f6 = m2 from ex9) (fun fq14 pw21 gf6 => ?_)
                                                  refine x_st (st2 := [.int (iI f6)]) rfl ?_
                                                  exact x_iret C dX12_unreadable_256 rfl (Nat.le_of_ble_eq_true rfl) (Nat.le_of_ble_eq_true rfl) ⟨f6, rfl, fq14, bn9, ⟨pw21, URX.found ⟨tl1.mp (by omega), ⟨by omega, by omega⟩, ⟨by omega, by omega⟩⟩ hC8 (by omega) ⟨by omega, by omega⟩ hF8 (by omega) h52g (by omega) (fn9.1 52 rfl) (fn9.2 51 rfl)⟩⟩
                                                · refine x_aload_n (j := 5) C dX12_unreadable_230 rfl ?_
                                                  refine x_geta (k := 51) C dX12_unreadable_231 w6_110 (by decide) rfl ?_
                                                  refine x_iload (j := 0) C dX12_unreadable_234 rfl ?_
                                                  refine x_aload_n (j := 5) C dX12_unreadable_236 rfl ?_
                                                  refine x_geta (k := 20) C dX12_unreadable_237 w6_79 (by decide) rfl ?_
                                                  refine x_iload (j := 0) C dX12_unreadable_240 rfl ?_
                                                  refine x_ald (k := 20) C dX12_unreadable_242 rfl rfl (by decide) (by omega) (by show _ < ((_ : Nat) : Int); simp only [mlen]; omega) (by decide) ?_
                                                  have ra2 : (-2147483648) ≤ ab7 20 k3.toNat ∧ ab7 20 k3.toNat ≤ 2147483647 := bxb7.2 20 (k3.toNat)
                                                  refine x_ast (k := 51) C dX12_unreadable_243 rfl rfl (by decide) (by omega) (by show _ < ((_ : Nat) : Int); simp only [mlen]; omega) (by decide) ?_
                                                  refine hv3 (show BX vb7 (up2 ab7 51 k3.toNat (ab7 20 k3.toNat)) from bxb7.set (k := 51) (i := k3.toNat) (z := ab7 20 k3.toNat) (show (-2147483648) ≤ (ab7 20 k3.toNat) ∧ (ab7 20 k3.toNat) ≤ 2147483647 by omega)) (fpb7.set (k := 51) (i := k3.toNat) (z := ab7 20 k3.toNat) rfl) (show RWS (up2 ab7 51 k3.toNat (ab7 20 k3.toNat)) from RWS.set hRg (k := 51) (i := k3.toNat) (z := ab7 20 k3.toNat) rfl) (fun bq6 fq15 pw22 => ?_)
                                                  refine x_iinc (z := k3) (j := 0) (lv2 := [(8, .int (iI (k3 + 1))), (4, .int (iI (tr2 + 1))), (7, .int (iI g)), (6, .int (iI m2)), (5, .ref bb), (0, .ref h0), (1, .int (iI t)), (2, .int (iI n1)), (3, .int (iI m1))]) C dX12_unreadable_244 rfl (by decide) rfl ?_
                                                  refine x_goto (tgt := 223) C dX12_unreadable_247 (by decide) ?_
                                                  have rv10 : 0 ≤ vb7 52 ∧ vb7 52 ≤ 4000 := bq6.1 52
                                                  refine x_lv (lv2 := [(8, .int (iI (k3 + 1))), (4, .int (iI (tr2 + 1))), (7, .int (iI g)), (6, .int (iI m2)), (5, .ref bb), (0, .ref h0), (1, .int (iI t)), (2, .int (iI n1)), (3, .int (iI m1))]) [0, 1, 2, 3, 4, 5, 6, 7, 8] rfl ?_
                                                  exact ih7  (k3 + 1) _ _ (by omega) bq6 fq15 (by omega) pw22 h52g (fun b0 hp => hC8 b0 hp) (hF8.step (by omega) (by unfold up2; rfl))
                                            refine x_lv (lv2 := [(8, .int (iI 0)), (4, .int (iI (tr2 + 1))), (7, .int (iI g)), (6, .int (iI m2)), (5, .ref bb), (0, .ref h0), (1, .int (iI t)), (2, .int (iI n1)), (3, .int (iI m1))]) [0, 1, 2, 3, 4, 5, 6, 7, 8] rfl ?_
                                            exact Lp7 8 0 _ _ (by omega) bq5 fq13 (by omega) pw14 (by show m2 = m2; omega) (iu1.1 (by omega)) FOU.zero
                                        · refine x_aload_n (j := 5) C dX12_unreadable_183 rfl ?_
                                          refine x_geta (k := 20) C dX12_unreadable_184 w6_79 (by decide) rfl ?_
                                          refine x_iload (j := 0) C dX12_unreadable_187 rfl ?_
                                          refine x_aload_n (j := 5) C dX12_unreadable_189 rfl ?_
                                          refine x_geta (k := 65) C dX12_unreadable_190 w6_124 (by decide) rfl ?_
                                          refine x_aload (j := 4) C dX12_unreadable_193 rfl ?_
                                          refine x_iload (j := 0) C dX12_unreadable_195 rfl ?_
                                          refine x_lald C dX12_unreadable_197 rfl (by omega) (by omega) (by decide) ?_
                                          refine hv3 (show (-2147483648) ≤ ab5 70 k2.toNat ∧ ab5 70 k2.toNat ≤ 2147483647 from bxb5.2 70 (k2.toNat)) (show 0 ≤ vb5 66 ∧ vb5 66 ≤ 256 from bxb5.1 66) (show 0 ≤ ab5 70 k2.toNat ∧ (ab5 70 k2.toNat = 0 ∨ ab5 70 k2.toNat < vb5 66) from hAe (k2.toNat)) (fun ra3 rv11 at197 => ?_)
                                          refine x_ald (k := 65) C dX12_unreadable_198 rfl rfl (by decide) (by omega) (by show _ < ((_ : Nat) : Int); simp only [mlen]; omega) (by decide) ?_
                                          have ra4 : 0 ≤ ab5 65 (ab5 70 k2.toNat).toNat ∧ ab5 65 (ab5 70 k2.toNat).toNat ≤ 255 := bxb5.2 65 ((ab5 70 k2.toNat).toNat)
                                          refine x_ast (k := 20) C dX12_unreadable_199 rfl rfl (by decide) (by omega) (by show _ < ((_ : Nat) : Int); simp only [mlen]; omega) (by decide) ?_
                                          refine hv4 (show BX vb5 (up2 ab5 20 k2.toNat (ab5 65 (ab5 70 k2.toNat).toNat)) from bxb5.set (k := 20) (i := k2.toNat) (z := ab5 65 (ab5 70 k2.toNat).toNat) (show (-2147483648) ≤ (ab5 65 (ab5 70 k2.toNat).toNat) ∧ (ab5 65 (ab5 70 k2.toNat).toNat) ≤ 2147483647 by omega)) (fpb5.set (k := 20) (i := k2.toNat) (z := ab5 65 (ab5 70 k2.toNat).toNat) rfl) (show RWS (up2 ab5 20 k2.toNat (ab5 65 (ab5 70 k2.toNat).toNat)) from RWS.set hRe (k := 20) (i := k2.toNat) (z := ab5 65 (ab5 70 k2.toNat).toNat) rfl) (show ATS vb5 (up2 ab5 20 k2.toNat (ab5 65 (ab5 70 k2.toNat).toNat)) from ATS.set hAe (k := 20) (i := k2.toNat) (z := ab5 65 (ab5 70 k2.toNat).toNat) (by decide)) (fun bq7 fq16 pw23 pw24 => ?_)
                                          refine x_iinc (z := k2) (j := 0) (lv2 := [(8, .int (iI (k2 + 1))), (4, .int (iI (tr2 + 1))), (7, .int (iI g)), (6, .int (iI m2)), (5, .ref bb), (0, .ref h0), (1, .int (iI t)), (2, .int (iI n1)), (3, .int (iI m1))]) C dX12_unreadable_200 rfl (by decide) rfl ?_
                                          refine x_goto (tgt := 176) C dX12_unreadable_203 (by decide) ?_
                                          have rv12 : 0 ≤ vb5 23 ∧ vb5 23 ≤ 500 := bq7.1 23
                                          refine x_lv (lv2 := [(8, .int (iI (k2 + 1))), (4, .int (iI (tr2 + 1))), (7, .int (iI g)), (6, .int (iI m2)), (5, .ref bb), (0, .ref h0), (1, .int (iI t)), (2, .int (iI n1)), (3, .int (iI m1))]) [0, 1, 2, 3, 4, 5, 6, 7, 8] rfl ?_
                                          exact ih5  (k2 + 1) _ _ (by omega) bq7 fq16 (by omega) pw23 pw24 (by show 0 < (vb5 66); omega) h23 (hC6.mv ⟨⟨rfl, rfl⟩, ⟨rfl, rfl⟩, ⟨rfl, rfl, rfl, rfl⟩, rfl, rfl⟩ rfl) (hF6.step (by omega) (by unfold up2; rfl))
                                    have rv13 : 0 ≤ vb4 66 ∧ vb4 66 ≤ 256 := bq2.1 66
                                    refine x_lv (lv2 := [(8, .int (iI 0)), (4, .int (iI (tr2 + 1))), (7, .int (iI g)), (6, .int (iI m2)), (5, .ref bb), (0, .ref h0), (1, .int (iI t)), (2, .int (iI n1)), (3, .int (iI m1))]) [0, 1, 2, 3, 4, 5, 6, 7, 8] rfl ?_
                                    exact Lp5 8 0 _ _ (by omega) bq2 fq9 (by omega) hRd pw13 (by show 0 < (vb4 66); omega) (by show m2 = m2; omega) (by
                                        have eg : g = 1 := by omega
                                        subst eg
                                        exact hC4.mv ⟨⟨rfl, rfl⟩, ⟨rfl, rfl⟩, ⟨rfl, rfl, rfl, rfl⟩, rfl, rfl⟩ rfl) FWI.zero
                                  · refine x_aload_n (j := 4) C dX12_unreadable_153 rfl ?_
                                    refine x_call (mc2 := 0) (ms2 := 0) (As := []) (rest := []) C (E_putBack bxb4) (fun _ _ _ q => by first | exact q.2.1.2 70 rfl | (obtain ⟨_, _, q2, _⟩ := q; exact q2.2 70 rfl)) dX12_unreadable_154 kV_X12_422 rfl ck_13 rfl (Nat.le_of_ble_eq_true rfl) ⟨Nat.le_of_ble_eq_true rfl, Nat.le_of_ble_eq_true rfl⟩ ⟨Nat.le_of_ble_eq_true rfl, Nat.le_of_ble_eq_true rfl⟩ (fun rh12 vh12 ah12 h12 => ?_)
                                    obtain ⟨rfl, fn10, bn10, ex10⟩ := h12
                                    refine hv3 (fpb4.call fn10 rfl rfl) (show RWS ah12 from RWS.fr hRd fn10 rfl) (show ATS vh12 ah12 from ATS.fr hAd fn10 rfl rfl) (fun fq17 pw25 pw26 => ?_)
                                    refine x_st (st2 := []) rfl ?_
                                    refine x_aload_n (j := 4) C dX12_unreadable_157 rfl ?_
                                    refine x_bipush (z := 8) C dX12_unreadable_158 (by decide) ?_
                                    refine x_call (mc2 := 0) (ms2 := 0) (As := [.int (iI 8)]) (rest := []) C (B_bad (x := 8) bn10 (by show -2147483648 ≤ (8 : Int) ∧ (8 : Int) ≤ 2147483647; omega)) (fun _ _ _ q => by first | exact q.2.1.2 70 rfl | (obtain ⟨_, _, q2, _⟩ := q; exact q2.2 70 rfl)) dX12_unreadable_160 kV_X12_154 rfl ck_13 rfl (Nat.le_of_ble_eq_true rfl) ⟨Nat.le_of_ble_eq_true rfl, Nat.le_of_ble_eq_true rfl⟩ ⟨Nat.le_of_ble_eq_true rfl, Nat.le_of_ble_eq_true rfl⟩ (fun rh13 vh13 ah13 h13 => ?_)
                                    obtain ⟨f7, rfl, fn11, bn11, ex11⟩ := h13
                                    refine hv4 (fq17.call fn11 rfl rfl) (show RWS ah13 from RWS.fr pw25 fn11 rfl) (show ATS vh13 ah13 from ATS.fr pw26 fn11 rfl rfl) (show f7 = -1 from ex11) (fun fq18 pw27 pw28 gf7 => ?_)
                                    refine x_st (st2 := [.int (iI f7)]) rfl ?_
                                    exact x_iret C dX12_unreadable_163 rfl (Nat.le_of_ble_eq_true rfl) (Nat.le_of_ble_eq_true rfl) ⟨f7, rfl, fq18, bn11, ⟨pw27, URX.spent ⟨tl1.mp (by omega), ⟨by omega, by omega⟩, ⟨by omega, by omega⟩⟩ hC4 (by omega) (by omega) ex10 (by omega) (fn11.1 52 rfl) (fn11.2 51 rfl)⟩⟩
                            have rv14 : 0 ≤ vb3 66 ∧ vb3 66 ≤ 256 := bxb3.1 66
                            refine x_lv (lv2 := [(7, .int (iI 1)), (4, .int (iI tr)), (6, .int (iI m2)), (5, .ref bb), (0, .ref h0), (1, .int (iI t)), (2, .int (iI n1)), (3, .int (iI m1))]) [0, 2, 1, 3, 4, 5, 6, 7] rfl ?_
                            exact Lp4 5002 1 tr _ _ (by omega) bxb3 fpb3 (by omega) (by omega) hRc hAc (by show 0 < (vb3 66); omega) (hC2.go hZ (by omega) ⟨by omega, by omega⟩ (by omega))
                          · refine x_aload (j := 3) C dX12_unreadable_127 rfl ?_
                            refine x_iload (j := 0) C dX12_unreadable_129 rfl ?_
                            refine x_iconst C dX12_unreadable_131 ?_
                            refine x_last (w := 0) C dX12_unreadable_132 rfl (by omega) (by omega) (by decide) ?_
                            refine hv3 (show BX vb3 (up2 ab3 70 k1.toNat 0) from bxb3.set (k := 70) (i := k1.toNat) (z := 0) ⟨by decide, by decide⟩) (fpb3.set (k := 70) (i := k1.toNat) (z := 0) rfl) (show RWS (up2 ab3 70 k1.toNat 0) from RWS.set hRc (k := 70) (i := k1.toNat) (z := 0) rfl) (fun bq8 fq19 pw29 => ?_)
                            have rv15 : 0 ≤ vb3 66 ∧ vb3 66 ≤ 256 := bq8.1 66
                            have pw30 : ATS vb3 (up2 ab3 70 k1.toNat 0) := ATS.sto (i := k1.toNat) (z := 0) hAc (by show 0 ≤ 0 ∧ (0 = 0 ∨ 0 < vb3 66); omega)
                            refine x_iinc (z := k1) (j := 0) (lv2 := [(7, .int (iI (k1 + 1))), (6, .int (iI m2)), (4, .int (iI tr)), (5, .ref bb), (0, .ref h0), (1, .int (iI t)), (2, .int (iI n1)), (3, .int (iI m1))]) C dX12_unreadable_133 rfl (by decide) rfl ?_
                            refine x_goto (tgt := 120) C dX12_unreadable_136 (by decide) ?_
                            refine x_lv (lv2 := [(7, .int (iI (k1 + 1))), (6, .int (iI m2)), (4, .int (iI tr)), (5, .ref bb), (0, .ref h0), (1, .int (iI t)), (2, .int (iI n1)), (3, .int (iI m1))]) [0, 1, 2, 3, 4, 5, 6, 7] rfl ?_
                            exact ih3  (k1 + 1) _ _ (by omega) bq8 fq19 (by omega) pw29 pw30 (by show 0 < (vb3 66); omega) (hC2.mv ⟨⟨rfl, rfl⟩, ⟨rfl, rfl⟩, ⟨rfl, rfl, rfl, rfl⟩, rfl, rfl⟩) (hZ.step (by omega) (by unfold up2; rfl))
                      refine x_lv (lv2 := [(7, .int (iI 0)), (6, .int (iI m2)), (4, .int (iI tr)), (5, .ref bb), (0, .ref h0), (1, .int (iI t)), (2, .int (iI n1)), (3, .int (iI m1))]) [0, 1, 2, 3, 4, 5, 6, 7] rfl ?_
                      exact Lp3 8 0 _ _ (by omega) bxb2 fpb2 (by omega) hRb hAb (by show 0 < (vb2 66); omega) hC1 ZRI.zero
              refine x_lv (lv2 := [(6, .int (iI 1)), (4, .int (iI 0)), (5, .ref bb), (0, .ref h0), (1, .int (iI t)), (2, .int (iI n1)), (3, .int (iI m1))]) [0, 2, 1, 3, 4, 5, 6] rfl ?_
              exact Lp2 9 0 1 _ _ (by omega) bnw1 fqw1 (by omega) (by omega) pw3 pw4 ((hU.mv (fnw1.1 66 rfl) (fnw1.2 65 rfl) ⟨fnw1.2 44 rfl, fnw1.2 45 rfl, fnw1.2 46 rfl, fnw1.2 47 rfl⟩ ⟨fnw1.2 13 rfl, fnw1.2 16 rfl⟩) |> fun q9 => U104.init q9 ((fnw1.1 55 rfl).trans h55a) (by rw [fnw1.2 54 rfl]; exact hF) (by omega) (by omega))
            · refine m_aload_n (j := 1) C dX12_unreadable_72 rfl ?_
              refine m_geta (k := 54) C dX12_unreadable_73 w6_113 (by decide) rfl ?_
              refine m_iload (j := 0) C dX12_unreadable_76 rfl ?_
              refine m_aload_n (j := 1) C dX12_unreadable_78 rfl ?_
              refine m_geta (k := 51) C dX12_unreadable_79 w6_110 (by decide) rfl ?_
              refine m_iload (j := 0) C dX12_unreadable_82 rfl ?_
              refine m_ald (k := 51) C dX12_unreadable_84 rfl rfl (by decide) (by omega) (by show _ < ((_ : Nat) : Int); simp only [mlen]; omega) (by decide) ?_
              have ra5 : (-2147483648) ≤ ab1 51 k.toNat ∧ ab1 51 k.toNat ≤ 2147483647 := bxb1.2 51 (k.toNat)
              refine m_ast (k := 54) C dX12_unreadable_85 rfl rfl (by decide) (by omega) (by show _ < ((_ : Nat) : Int); simp only [mlen]; omega) (by decide) ?_
              refine hv3 (show BX vb1 (up2 ab1 54 k.toNat (ab1 51 k.toNat)) from bxb1.set (k := 54) (i := k.toNat) (z := ab1 51 k.toNat) (show (-2147483648) ≤ (ab1 51 k.toNat) ∧ (ab1 51 k.toNat) ≤ 2147483647 by omega)) (fpb1.set (k := 54) (i := k.toNat) (z := ab1 51 k.toNat) rfl) (show RWS (up2 ab1 54 k.toNat (ab1 51 k.toNat)) from RWS.set hRa (k := 54) (i := k.toNat) (z := ab1 51 k.toNat) rfl) (fun bq9 fq20 pw31 => ?_)
              refine m_iinc (z := k) (j := 0) (lv2 := [(4, .int (iI (k + 1))), (0, .ref h0), (1, .int (iI t)), (2, .int (iI n1)), (3, .int (iI m1))]) C dX12_unreadable_86 rfl (by decide) rfl ?_
              refine m_goto (tgt := 63) C dX12_unreadable_89 (by decide) ?_
              have rv16 : 0 ≤ vb1 55 ∧ vb1 55 ≤ 4000 := bq9.1 55
              refine m_lv (lv2 := [(4, .int (iI (k + 1))), (0, .ref h0), (1, .int (iI t)), (2, .int (iI n1)), (3, .int (iI m1))]) [0, 1, 2, 3, 4] rfl ?_
              exact ih1  (k + 1) _ _ (by omega) bq9 fq20 (by omega) pw31 h52a h55a (hU.mv rfl rfl ⟨rfl, rfl, rfl, rfl⟩ ⟨rfl, rfl⟩) hA51 (hF.step (by omega) (by rw [← hA51]; unfold up2; rfl))
        refine m_lv (lv2 := [(4, .int (iI 0)), (0, .ref h0), (1, .int (iI t)), (2, .int (iI n1)), (3, .int (iI m1))]) [0, 1, 2, 3, 4] rfl ?_
        exact Lp1 4002 0 _ _ (by omega) bq1 fq4 (by omega) pw2 (by show (vh5 52) = v 52; omega) (by show (vh5 52) = v 52; omega) (uu1.mv rfl rfl ⟨rfl, rfl, rfl, rfl⟩ ⟨rfl, rfl⟩) (Eq.trans (show ah5 51 = ah4 51 from fn3.2 51 rfl) (show ah4 51 = a 51 from fn2.2 51 rfl)) FOU.zero
      · clear gf1
        refine m_aload_n (j := 0) C dX12_unreadable_36 rfl ?_
        refine m_iconst C dX12_unreadable_37 ?_
        refine m_call (mc2 := 0) (ms2 := 0) (As := [.int (iI 3)]) (rest := []) C (B_bad (x := 3) hB (by show -2147483648 ≤ (3 : Int) ∧ (3 : Int) ≤ 2147483647; omega)) dX12_unreadable_38 kV_X12_154 rfl ck_13 rfl (Nat.le_of_ble_eq_true rfl) ⟨Nat.le_of_ble_eq_true rfl, Nat.le_of_ble_eq_true rfl⟩ ⟨Nat.le_of_ble_eq_true rfl, Nat.le_of_ble_eq_true rfl⟩ (fun rh14 vh14 ah14 h14 => ?_)
        obtain ⟨f8, rfl, fn12, bn12, ex12⟩ := h14
        refine hv3 (fp0.call fn12 rfl rfl) (show RWS ah14 from RWS.fr hW fn12 rfl) (show f8 = -1 from ex12) (fun fq21 pw32 gf8 => ?_)
        refine m_st (st2 := [.int (iI f8)]) rfl ?_
        exact m_iret C dX12_unreadable_41 rfl (Nat.le_of_ble_eq_true rfl) (Nat.le_of_ble_eq_true rfl) ⟨f8, rfl, fq21, bn12, ⟨pw32, URX.bad (fun q9 => absurd (tl1.mpr q9.1) (by omega)) (by omega) (fn12.1 52 rfl) (fn12.2 51 rfl)⟩⟩
    · refine m_st (st2 := [.int (iI 0)]) (by rw [h2e]) ?_
      refine m_if_ne (tgt := 28) C ⟨by decide, by decide⟩ dX12_unreadable_18 (by decide) (fun z => absurd z (by omega)) (fun _ => ?_)
      refine m_aload_n (j := 0) C dX12_unreadable_21 rfl ?_
      refine m_bipush (z := 6) C dX12_unreadable_22 (by decide) ?_
      refine m_call (mc2 := 0) (ms2 := 0) (As := [.int (iI 6)]) (rest := []) C (B_bad (x := 6) hB (by show -2147483648 ≤ (6 : Int) ∧ (6 : Int) ≤ 2147483647; omega)) dX12_unreadable_24 kV_X12_154 rfl ck_13 rfl (Nat.le_of_ble_eq_true rfl) ⟨Nat.le_of_ble_eq_true rfl, Nat.le_of_ble_eq_true rfl⟩ ⟨Nat.le_of_ble_eq_true rfl, Nat.le_of_ble_eq_true rfl⟩ (fun rh15 vh15 ah15 h15 => ?_)
      obtain ⟨f9, rfl, fn13, bn13, ex13⟩ := h15
      refine hv3 (fp0.call fn13 rfl rfl) (show RWS ah15 from RWS.fr hW fn13 rfl) (show f9 = -1 from ex13) (fun fq22 pw33 gf9 => ?_)
      refine m_st (st2 := [.int (iI f9)]) rfl ?_
      exact m_iret C dX12_unreadable_27 rfl (Nat.le_of_ble_eq_true rfl) (Nat.le_of_ble_eq_true rfl) ⟨f9, rfl, fq22, bn13, ⟨pw33, URX.bad (fun q9 => by have q8 := q9.2; omega) (by omega) (fn13.1 52 rfl) (fn13.2 51 rfl)⟩⟩
  · refine m_st (st2 := [.int (iI 0)]) (by rw [h1e]) ?_
    refine m_if_eq (tgt := 21) C ⟨by decide, by decide⟩ dX12_unreadable_7 (by decide) (fun _ => ?_) (fun z => absurd z (by omega))
    refine m_aload_n (j := 0) C dX12_unreadable_21 rfl ?_
    refine m_bipush (z := 6) C dX12_unreadable_22 (by decide) ?_
    refine m_call (mc2 := 0) (ms2 := 0) (As := [.int (iI 6)]) (rest := []) C (B_bad (x := 6) hB (by show -2147483648 ≤ (6 : Int) ∧ (6 : Int) ≤ 2147483647; omega)) dX12_unreadable_24 kV_X12_154 rfl ck_13 rfl (Nat.le_of_ble_eq_true rfl) ⟨Nat.le_of_ble_eq_true rfl, Nat.le_of_ble_eq_true rfl⟩ ⟨Nat.le_of_ble_eq_true rfl, Nat.le_of_ble_eq_true rfl⟩ (fun rh16 vh16 ah16 h16 => ?_)
    obtain ⟨f10, rfl, fn14, bn14, ex14⟩ := h16
    refine hv3 (fp0.call fn14 rfl rfl) (show RWS ah16 from RWS.fr hW fn14 rfl) (show f10 = -1 from ex14) (fun fq23 pw34 gf10 => ?_)
    refine m_st (st2 := [.int (iI f10)]) rfl ?_
    exact m_iret C dX12_unreadable_27 rfl (Nat.le_of_ble_eq_true rfl) (Nat.le_of_ble_eq_true rfl) ⟨f10, rfl, fq23, bn14, ⟨pw34, URX.bad (fun q9 => by have q8 := q9.2; omega) (by omega) (fn14.1 52 rfl) (fn14.2 51 rfl)⟩⟩
end
section
def LKQ (F : Int32) (x y : Int) : Prop := (iI x ^^^ iI y) &&& F = iI 0
def MYR (a : Nat → Nat → Int) (C : Nat → Int) (F : Int32) (n d p h : Int) : Prop := ((1 ≤ rlen a d ∧ p + rlen a d ≤ n) ∧ (h = 1 → SMR a d)) ∧ ∀ k : Int, 0 ≤ k → k < rlen a d → LKQ F (dcl a d k) (C (p + k).toNat)
def MYB (C : Nat → Int) (F : Int32) (n p h : Int) : Prop := (h ≠ 1 ∧ p < n) ∧ LKQ F 0 (C p.toNat)
def MYO (a : Nat → Nat → Int) (C : Nat → Int) (F : Int32) (n p h : Int) : Option Int → Prop
  | none => MYB C F n p h
  | some d => MYR a C F n d p h
def onp (a : Nat → Nat → Int) (p : Int) : Option Int → Int
  | none => p + 1
  | some d => p + rlen a d
def ong (g : Int) : Option Int → Int
  | none => 0
  | some d => ngp d g
def onh : Option Int → Int
  | none => 0
  | some d => ngh d
def oou (a : Nat → Nat → Int) (h : Int) : Option Int → List Int
  | none => [32]
  | some d => rout a d h
def chs (l0 l1 : List Int) (g : Int) : List (Option Int) := none :: (if g = 0 then l0 else l1).map some
def pxs (w : List Int) (X : List (List Int)) : List (List Int) := X.map (fun u => w ++ u)
noncomputable def cif (P : Prop) (X : List (List Int)) : List (List Int) := @ite _ P (Classical.propDecidable P) X []
def fmp (f : Option Int → List (List Int)) : List (Option Int) → List (List Int)
  | [] => []
  | o :: l => f o ++ fmp f l
noncomputable def rdl (a : Nat → Nat → Int) (l0 l1 : List Int) (C : Nat → Int) (F : Int32) (n : Int) : Nat → Int → Int → Int → List (List Int)
  | 0, _, _, _ => []
  | m + 1, p, g, h => if p = n then (if h = 1 then [] else [[]]) else fmp (fun o => cif (MYO a C F n p h o) (pxs (oou a h o) (rdl a l0 l1 C F n m (onp a p o) (ong g o) (onh o)))) (chs l0 l1 g)
noncomputable def RDC (a : Nat → Nat → Int) (l0 l1 : List Int) (C : Nat → Int) (F : Int32) (n : Int) (p g h : Int) : List (List Int) := rdl a l0 l1 C F n ((n - p).toNat + 1) p g h
def KMQ (W : Nat) (Z K : List (List Int)) (m : Int) : Prop := K = Z.take W ∧ ((m = 1 ∧ W < Z.length) ∨ (m = 0 ∧ Z.length ≤ W))
section GSEM
variable {a a1 : Nat → Nat → Int} {l0 l1 : List Int} {C : Nat → Int} {F : Int32} {n p g h d x y m1 m2 : Int} {f f2 : Option Int → List (List Int)} {l : List (Option Int)} {o : Option Int} {X Y Z K K2 : List (List Int)} {w u : List Int} {k W : Nat} {P : Prop}
theorem cif_t (hp : P) : cif P X = X := if_pos hp
theorem cif_f (hp : ¬ P) : cif P X = [] := if_neg hp
theorem MYO.lt (hm : MYO a C F n p h o) : p < onp a p o ∧ onp a p o ≤ n := by
  cases o with
  | none =>
    have e : MYB C F n p h := hm
    show p < p + 1 ∧ p + 1 ≤ n
    have := e.1.2
    omega
  | some d =>
    have e : MYR a C F n d p h := hm
    show p < p + rlen a d ∧ p + rlen a d ≤ n
    have := e.1.1
    omega
theorem rdl_s : rdl a l0 l1 C F n (k + 1) p g h = if p = n then (if h = 1 then [] else [[]]) else fmp (fun o => cif (MYO a C F n p h o) (pxs (oou a h o) (rdl a l0 l1 C F n k (onp a p o) (ong g o) (onh o)))) (chs l0 l1 g) := rfl
theorem KMQ.init : KMQ W [] [] 0 := ⟨by rw [List.take_nil], Or.inr ⟨rfl, Nat.zero_le _⟩⟩
theorem KMQ.len (hk : KMQ W Z K x) (hx : x ≠ 1) : K = Z ∧ K.length ≤ W := by
  obtain ⟨e, q⟩ := hk
  rcases q with ⟨q1, q2⟩ | ⟨q1, q2⟩
  · exact absurd q1 hx
  · have e2 : K = Z := by rw [e, List.take_of_length_le q2]
    exact ⟨e2, by rw [e2]; exact q2⟩
theorem KMQ.push (hk : KMQ W Z K x) (hx : x ≠ 1) (hl : K.length < W) : KMQ W (Z ++ [w]) (K ++ [w]) 0 := by
  obtain ⟨e, _⟩ := hk.len hx
  subst e
  have q : (K ++ [w]).length ≤ W := by
    rw [List.length_append]
    show K.length + 1 ≤ W
    omega
  exact ⟨by rw [List.take_of_length_le q], Or.inr ⟨rfl, q⟩⟩
theorem KMQ.full (hk : KMQ W Z K x) (hx : x ≠ 1) (hl : K.length = W) : KMQ W (Z ++ [w]) K 1 := by
  obtain ⟨e, _⟩ := hk.len hx
  subst e
  refine ⟨by rw [List.take_append_of_le_length (by omega), List.take_of_length_le (by omega)], Or.inl ⟨rfl, ?_⟩⟩
  rw [List.length_append]
  show W < K.length + 1
  omega
theorem KMQ.uni (h1 : KMQ W Z K m1) (h2 : KMQ W Z K2 m2) : K = K2 ∧ m1 = m2 := by
  refine ⟨h1.1.trans h2.1.symm, ?_⟩
  rcases h1.2 with ⟨q1, q2⟩ | ⟨q1, q2⟩ <;> rcases h2.2 with ⟨q3, q4⟩ | ⟨q3, q4⟩ <;> omega
end GSEM
end
section
def KLQ (v : Nat → Int) (a : Nat → Nat → Int) (K : List (List Int)) : Prop := v 60 = ((K.length : Nat) : Int) ∧ ∀ (k : Nat) (w : List Int), K[k]? = some w → a 59 k = ((w.length : Nat) : Int) ∧ w.length ≤ 808 ∧ ∀ (j : Nat) (x : Int), w[j]? = some x → a 58 (808 * k + j) = x
def KPS (v : Nat → Int) (a : Nat → Nat → Int) (Z : List (List Int)) : Prop := ∃ K, KMQ (v 64).toNat Z K (v 61) ∧ KLQ v a K
section GGOS
variable {v v1 v2 v3 v4 : Nat → Int} {a a0 a1 a2 a3 a4 : Nat → Nat → Int} {l0 l1 : List Int} {C : Nat → Int} {x y k g h f pt r d z i j nx cp : Int} {V A : List Nat} {Z K : List (List Int)} {w u : List Int}
theorem KPS.cg (hk : KPS v a Z) (e60 : v1 60 = v 60) (e61 : v1 61 = v 61) (e64 : v1 64 = v 64) (e58 : a1 58 = a 58) (e59 : a1 59 = a 59) : KPS v1 a1 Z := by
  obtain ⟨K, k1, k2, k3⟩ := hk
  exact ⟨K, by rw [e61, e64]; exact k1, e60.trans k2, fun k w e => by rw [e58, e59]; exact k3 k w e⟩
end GGOS
end
section
def hs (H : Heap) : Nat := (H.toList.map (fun c => c.slots.size)).sum
def mu (H : Heap) : Nat := 16 * H.size + hs H
theorem sbn_hs {s t : State} {locs : List Loc} {k n : Nat} (h : s.sameButNew t locs k n) : hs t.heap = hs s.heap + ((t.heap.toList.drop s.heap.size).map (·.slots.size)).sum := by
  obtain ⟨-, h2, -, -, -, h6⟩ := h
  have e : (t.heap.toList.take s.heap.size).map (fun c => c.slots.size) = s.heap.toList.map (fun c => c.slots.size) := by
    apply List.ext_getElem?
    intro i
    rw [List.getElem?_map, List.getElem?_map]
    by_cases hi : i < s.heap.size
    · rw [List.getElem?_take_of_lt hi]
      obtain ⟨c2, g1, -, g3, -⟩ := h6 i s.heap[i] (Array.getElem?_eq_getElem hi)
      rw [Array.getElem?_toList, Array.getElem?_toList, g1, Array.getElem?_eq_getElem hi]
      exact congrArg some g3
    · rw [List.getElem?_eq_none (by rw [List.length_take, Array.length_toList]; omega), List.getElem?_eq_none (by rw [Array.length_toList]; omega)]
  unfold hs
  rw [← e, ← List.sum_append, ← List.map_append, List.take_append_drop]
section MUS
variable {p : Program} {l : Launch} {e : Env} {R : Room} {s : State} {m : MethodId} {args : Array Value} {below : List Frame} {meth : Method} {c : Code} {T : State} {locs : List Loc} {kc ks : Nat}
theorem stand_mu (X : Stand p l e R s m args below meth c T locs kc ks) : mu T.heap ≤ mu s.heap + (16 * kc + ks) := by
  have h := X.same
  refine hv3 (show hs T.heap = hs s.heap + ((T.heap.toList.drop s.heap.size).map (·.slots.size)).sum from sbn_hs (t := T.setVm s.vm) h) (show T.heap.size ≤ s.heap.size + kc from h.2.2.1) (show ((T.heap.toList.drop s.heap.size).map (·.slots.size)).sum ≤ ks from h.2.2.2.2.1) (fun h1 h2 h3 => ?_)
  unfold mu
  rw [h1]
  omega
theorem stand_narrow (X : Stand p l e R s m args below meth c T locs kc ks) {u : Nat} (hu : mu T.heap ≤ mu s.heap + u) : ∃ kc2 ks2 : Nat, 16 * kc2 + ks2 ≤ u ∧ Stand p l e R s m args below meth c T locs kc2 ks2 := by
  have h := X.same
  refine hv2 (show hs T.heap = hs s.heap + ((T.heap.toList.drop s.heap.size).map (·.slots.size)).sum from sbn_hs (t := T.setVm s.vm) h) (show s.heap.size ≤ T.heap.size from h.2.1) (fun h1 h2 => ?_)
  refine ⟨T.heap.size - s.heap.size, ((T.heap.toList.drop s.heap.size).map (·.slots.size)).sum, ?_, { X with same := ⟨h.1, h.2.1, ?_, h.2.2.2.1, Nat.le_refl _, h.2.2.2.2.2⟩ }⟩
  · unfold mu at hu; omega
  · show T.heap.size ≤ s.heap.size + (T.heap.size - s.heap.size); omega
end MUS
abbrev PU : Type := Option Value → List Nat → (Nat → va_E) → Nat → Prop
def Qu (G : GT) (A : Nat → Prop) (Post : PU) : Array Value → State → Outcome → State → Prop := fun _ st oc t => (∃ (v : Option Value) (L2 : List Nat) (E2 : Nat → va_E) (u : Nat), oc = .returned v ∧ Post v L2 E2 u ∧ mu t.heap ≤ mu st.heap + u ∧ va_P G.1 vwCl (va_pl L2 E2) t.heap ∧ va_D A (va_pl L2 E2)) ∧ va_F A st t
abbrev rmu (d r : Nat) : Room := { frames := d, cells := r / 16, slots := r, locals := 64 * d }
def Mir (mi : Nat) (U : State) : Prop := va_Mi "[Ljava/lang/Object;" mi U ∧ va_Dc U
theorem Mir.warm {mi : Nat} {s U : State} (h : Mir mi s) (hW : s.WarmedH U.vm) : Mir mi U := ⟨va_Mi.moved hW.alike h.1, va_Dc.moved hW.alike h.2⟩
def Pcu (G : GT) (mi : Nat) (L : List Nat) (E : Nat → va_E) (sz : Nat) (U : State) : Prop := Pcq G L E sz U ∧ Mir mi U
def Mu (l : Launch) (G : GT) (mi : Nat) (y : MethodName) (cc : ByteArray) (n : Nat) (ret : Option FieldType) (d : Nat) (av : List Value) (L : List Nat) (E : Nat → va_E) (r : Nat) (Post : PU) : Prop :=
  ∀ sz : Nat, Met l y (.code y cc n ret :: lw_g) (rmu d r) (va_Pc av (Pcu G mi L E sz)) (Qu G (va_A (va_pl L E) sz) Post) (r / 16) r (va_A (va_pl L E) sz)

def wu (p : Program) (l : Launch) (e : Env) (d0 r0 : Nat) (s : State) (m : MethodId) (args : Array Value) (below : List Frame) (meth : Method) (c : Code) (G : GT) (A : Nat → Prop) (nL : Nat) (Q : State → Prop) (L : List Nat) (E : Nat → va_E) (u pc : Nat) (lv : List (Nat × Value)) (st : List Value) : Prop := ∀ kc ks : Nat, 16 * kc + ks ≤ u → wq p l e (rmu d0 r0) s m args below meth c G A nL Q L E kc ks pc lv st
theorem Pcu.blind {G : GT} {mi : Nat} {L : List Nat} {E : Nat → va_E} {sz : Nat} {av : List Value} : FrameBlind (va_Pc av (Pcu G mi L E sz)) := by
  intro a U g mk q
  have h1 := Pcq.blind (G := G) (L := L) (E := E) (sz := sz) (av := av) a U g mk ⟨q.1, q.2.1⟩
  exact ⟨h1.1, h1.2, va_Mi.moved (u := U) (U := U.calling g mk a) (Vm.Alike.refl U.vm) q.2.2.1, va_Dc.moved (u := U) (U := U.calling g mk a) (Vm.Alike.refl U.vm) q.2.2.2⟩
section UQ
variable {p : Program} {l : Launch} {e : Env} {d0 r0 : Nat} {s : State} {m : MethodId} {args : Array Value} {below : List Frame} {meth : Method} {c : Code} {cc : ByteArray} {y : MethodName} {ret : Option FieldType} {G : GT} {A : Nat → Prop} {nL mi : Nat} {Q : State → Prop} {L : List Nat} {E : Nat → va_E} {u pc : Nat} {lv : List (Nat × Value)} {st : List Value} {Post : PU}
theorem Mu.mk {n d r : Nat} {av : List Value} (hy : plainName y.cls = true) (hn : (lg_sl av).length ≤ n) (body : ∀ (p : Program) (e : Env) (s : State) (m : MethodId) (args : Array Value) (below : List Frame) (meth : Method) (c : Code) (A : Nat → Prop), Cq p s m args meth c cc y ret G A n → Mir mi s → wu p l e d r s m args below meth c G A n (MQ below (Qu G A Post) args s (r / 16) r A) L E 0 0 (lv_args 0 av) []) : Mu l G mi y cc n ret d av L E r Post := by
  intro sz
  refine Met.ofW (cc := cc) (maxL := n) (ret := ret) hy rfl ?_
  intro p e s m args below meth c s₁ B hml hv
  obtain ⟨rfl, ⟨hsz, hP, hK, hD0, hZ, hN⟩, hM⟩ := hv
  subst hsz
  refine hv2 (atoms_spec (ws := .code y cc n ret :: lw_g) B.pre) (lv_entry av (n := n) hn) (fun hts hl => ?_)
  rw [lg_entry_eq]
  have hown := findClass_of_methodNamed B.named
  exact body p e s m _ below meth c _ ⟨B.exec, B.bytes, hml, hown, fun w hw => hts w (List.mem_cons_of_mem _ hw), hK, fun q h => Or.inr h, hZ, B.returns, B.notSynchronized, (name_of_methodNamed B.named B.method).1, hN⟩ hM 0 0 (Nat.le_refl _) s.heap [] _ hP hD0.self va_S.rf hl
theorem u_after (C : Cq p s m args meth c cc y ret G A nL) {r2 kc ks : Nat} {a2 : Array Value} {st0 rest : List Value} {P2 : PU} {H : Heap} {locs : List Loc} {ls : Array Slot} (hu : 16 * kc + ks ≤ u) (hD : va_D A (va_pl L E)) (hS : va_S A s.heap H locs) (hl : lv_has ls nL lv) (hr : va_Run p l e (rmu d0 r0) s m args below meth c H locs kc ks (r2 / 16) r2 (F0 m pc ls st0) rest (Qu G (va_A (va_pl L E) H.size) P2 a2) (va_A (va_pl L E) H.size)) (kk : ∀ (v : Option Value) (L2 : List Nat) (E2 : Nat → va_E) (u2 : Nat), P2 v L2 E2 u2 → wu p l e d0 r0 s m args below meth c G A nL Q L2 E2 (u + u2) (pc + 3) lv (v.toList ++ rest)) : W p l e (rmu d0 r0) s m args below meth c H locs kc ks Q (F0 m pc ls st0) := by
  have hF := pl_free hD hS C.2.2.2.2.2.2.1
  intro T hT X
  obtain ⟨v, st₀, t, T', Lc, h0, X', hL, e1, e2, ⟨⟨v', L', E', u2, hv, hp, hm, hP', hD'⟩, hz, hk⟩, stp⟩ := hr T hT X
  cases hv
  have hmu := stand_mu X
  rw [hT] at hmu
  rw [h0] at hz hk hm
  obtain ⟨kc2, ks2, hn, X''⟩ := stand_narrow X' (u := u + u2) (by rw [e1]; omega)
  have hS1 : va_S A s.heap T'.heap (locs ++ Lc) := ⟨Nat.le_trans hS.1 (by rw [e1]; exact hz), fun q h1 h2 => by rw [e1, hk q (Nat.lt_of_lt_of_le h1 hS.1) (fun z => h2 (hF q z))]; exact hS.2.1 q h1 h2, fun q hq => by
      rcases List.mem_append.mp hq with h | h
      · exact hS.2.2 q h
      · exact hF _ (hL q h)⟩
  obtain ⟨t2, a1, b1⟩ := kk v L' E' u2 hp kc2 ks2 hn T'.heap (locs ++ Lc) ls (by rw [e1]; exact hP') (hD'.weaken (fun _ q _ h => hF q.1 h)) hS1 hl T' rfl X''
  exact ⟨t2, stp t2 a1, b1⟩
theorem u_room {kc ks u r2 r0 : Nat} (h : 16 * kc + ks ≤ u) (hr : u + r2 ≤ r0) : kc + r2 / 16 ≤ r0 / 16 ∧ ks + r2 ≤ r0 := ⟨by omega, by omega⟩
theorem u_callV (C : Cq p s m args meth c cc y ret G A nL) (hM : Mir mi s) {y2 : MethodName} {cc2 : ByteArray} {n2 d2 r2 idx k2 : Nat} {P2 : PU} {As rest : List Value} {b ci N : Nat} {ret2 : Option FieldType} {T : u_T} {ty : Nat → FieldType} {f : Nat → Value} (M : Mu l G mi y2 cc2 n2 ret2 d2 (.ref b :: As) L E r2 P2) (d : decode cc pc = .ok (.invokevirtual idx, 3)) (hw : Wv y.cls idx y2 cc2 n2 ret2 k2) (hk : As.length = k2) (hb : b ∈ L) (hE : E b = ob ci N f) (ck : Ck ci y2.cls T N ty) (hst : st = As.reverse ++ .ref b :: rest) (hcat : (rest.map fun v => v.category).sum ≤ 8) (hR : d2 + 1 ≤ d0 ∧ 8 + (n2 + 11) + 64 * d2 ≤ 64 * d0) (hf : u + r2 ≤ r0) (kk : ∀ (v : Option Value) (L2 : List Nat) (E2 : Nat → va_E) (u2 : Nat), P2 v L2 E2 u2 → wu p l e d0 r0 s m args below meth c G A nL Q L2 E2 (u + u2) (pc + 3) lv (v.toList ++ rest)) : wu p l e d0 r0 s m args below meth c G A nL Q L E u pc lv st := by
  intro kc ks hu H locs ls hP hD hS hl
  subst hst
  obtain ⟨q0, hq⟩ := pl_at (E := E) hb
  obtain ⟨⟨w1, w2, w3, w4⟩, w5, w6⟩ := hw
  have hts := C.2.2.2.2.1
  exact u_after C hu hD hS hl (va_runV (As := As) (rest := rest) (Ts := lw_g) ⟨C.1, C.2.1, C.2.2.1, C.2.2.2.1, hts⟩ (M H.size) ⟨callB_of k2 hts (lw_goodIn w3) rfl rfl rfl (hts _ w2) (hts _ w1) w4 hR, hts _ w5, hts _ w6⟩ ⟨Pcu.blind, va_recv C.2.2.2.2.2.1 hP (ci := ci) (q0 := q0) ck.1 (by rw [hq, hE]; rfl), fun U hU hW => ⟨rfl, ⟨by rw [hU], by rw [hU]; exact hP, va_K.moved hW.alike C.2.2.2.2.2.1, hD.weaken (fun _ _ _ _ => trivial), C.2.2.2.2.2.2.2.1.pass hS (pl_free hD hS C.2.2.2.2.2.2.1) hW.alike hU, C.2.2.2.2.2.2.2.2.2.2.2.warm hW⟩, hM.warm hW⟩⟩ rfl hk hl.1 rfl (lv_room hcat) d (u_room hu hf)) kk
theorem u_callI (C : Cq p s m args meth c cc y ret G A nL) (hM : Mir mi s) {y2 : MethodName} {cc2 : ByteArray} {n2 d2 r2 idx k2 : Nat} {P2 : PU} {As rest : List Value} {b : Nat} (M : Mu l G mi y2 cc2 n2 none d2 (.ref b :: As) L E r2 P2) (d : decode cc pc = .ok (.invokespecial idx, 3)) (hw : Wi y.cls idx y2 cc2 n2 k2) (hk : As.length = k2) (hst : st = As.reverse ++ .ref b :: rest) (hcat : (rest.map fun v => v.category).sum ≤ 8) (hR : d2 + 1 ≤ d0 ∧ 8 + (n2 + 11) + 64 * d2 ≤ 64 * d0) (hf : u + r2 ≤ r0) (kk : ∀ (v : Option Value) (L2 : List Nat) (E2 : Nat → va_E) (u2 : Nat), P2 v L2 E2 u2 → wu p l e d0 r0 s m args below meth c G A nL Q L2 E2 (u + u2) (pc + 3) lv (v.toList ++ rest)) : wu p l e d0 r0 s m args below meth c G A nL Q L E u pc lv st := by
  intro kc ks hu H locs ls hP hD hS hl
  subst hst
  obtain ⟨⟨w1, w2, w3, w4⟩, w5, w6⟩ := hw
  have hts := C.2.2.2.2.1
  exact u_after C hu hD hS hl (va_runI (As := As) (rest := rest) (Ts := lw_g) ⟨C.1, C.2.1, C.2.2.1, C.2.2.2.1, hts⟩ (M H.size) ⟨callB_of k2 hts (lw_goodIn w3) rfl rfl rfl (hts _ w2) (hts _ w1) w4 hR, w5, hts _ w6⟩ ⟨Pcu.blind, fun U hU hW => ⟨rfl, ⟨by rw [hU], by rw [hU]; exact hP, va_K.moved hW.alike C.2.2.2.2.2.1, hD.weaken (fun _ _ _ _ => trivial), C.2.2.2.2.2.2.2.1.pass hS (pl_free hD hS C.2.2.2.2.2.2.1) hW.alike hU, C.2.2.2.2.2.2.2.2.2.2.2.warm hW⟩, hM.warm hW⟩⟩ rfl hk hl.1 rfl (lv_room hcat) d (u_room hu hf)) kk
theorem u_callS (C : Cq p s m args meth c cc y ret G A nL) (hM : Mir mi s) {y2 : MethodName} {cc2 : ByteArray} {n2 d2 r2 idx k2 : Nat} {P2 : PU} {As rest : List Value} {ret2 : Option FieldType} (M : Mu l G mi y2 cc2 n2 ret2 d2 As L E r2 P2) (d : decode cc pc = .ok (.invokestatic idx, 3)) (hw : Ws y.cls idx y2 cc2 n2 ret2 k2) (hk : As.length = k2) (hst : st = As.reverse ++ rest) (hcat : (rest.map fun v => v.category).sum ≤ 8) (hR : d2 + 1 ≤ d0 ∧ 8 + (n2 + 11) + 64 * d2 ≤ 64 * d0) (hf : u + r2 ≤ r0) (kk : ∀ (v : Option Value) (L2 : List Nat) (E2 : Nat → va_E) (u2 : Nat), P2 v L2 E2 u2 → wu p l e d0 r0 s m args below meth c G A nL Q L2 E2 (u + u2) (pc + 3) lv (v.toList ++ rest)) : wu p l e d0 r0 s m args below meth c G A nL Q L E u pc lv st := by
  intro kc ks hu H locs ls hP hD hS hl
  subst hst
  obtain ⟨⟨w1, w2, w3, w4⟩, w5⟩ := hw
  have hts := C.2.2.2.2.1
  exact u_after C hu hD hS hl (va_runS (As := As) (rest := rest) (Ts := lw_g) ⟨C.1, C.2.1, C.2.2.1, C.2.2.2.1, hts⟩ (M H.size) ⟨callB_of k2 hts (lw_goodIn w3) rfl rfl rfl (hts _ w2) (hts _ w1) w4 hR, hts _ w5⟩ ⟨Pcu.blind, fun U hU hW => ⟨rfl, ⟨by rw [hU], by rw [hU]; exact hP, va_K.moved hW.alike C.2.2.2.2.2.1, hD.weaken (fun _ _ _ _ => trivial), C.2.2.2.2.2.2.2.1.pass hS (pl_free hD hS C.2.2.2.2.2.2.1) hW.alike hU, C.2.2.2.2.2.2.2.2.2.2.2.warm hW⟩, hM.warm hW⟩⟩ rfl hk hl.1 rfl (lv_room hcat) d (u_room hu hf)) kk
theorem u_callIN (C : Cq p s m args meth c cc y ret G A nL) (hM : Mir mi s) {y2 : MethodName} {cc2 : ByteArray} {n2 d2 r2 idx k2 : Nat} {P2 : PU} {As rest : List Value} {b : Nat} {host : String} (M : Mu l G mi y2 cc2 n2 none d2 (.ref b :: As) L E r2 P2) (d : decode cc pc = .ok (.invokespecial idx, 3)) (hw : Wn y.cls idx y2 host cc2 n2 k2) (hk : As.length = k2) (hst : st = As.reverse ++ .ref b :: rest) (hcat : (rest.map fun v => v.category).sum ≤ 8) (hR : d2 + 1 ≤ d0 ∧ 8 + (n2 + 11) + 64 * d2 ≤ 64 * d0) (hf : u + r2 ≤ r0) (kk : ∀ (v : Option Value) (L2 : List Nat) (E2 : Nat → va_E) (u2 : Nat), P2 v L2 E2 u2 → wu p l e d0 r0 s m args below meth c G A nL Q L2 E2 (u + u2) (pc + 3) lv (v.toList ++ rest)) : wu p l e d0 r0 s m args below meth c G A nL Q L E u pc lv st := by
  intro kc ks hu H locs ls hP hD hS hl
  subst hst
  obtain ⟨⟨w1, w2, w3, w4⟩, w5, w6⟩ := hw
  have hts := C.2.2.2.2.1
  exact u_after C hu hD hS hl (va_runIN (As := As) (rest := rest) (Ts := lw_g) ⟨C.1, C.2.1, C.2.2.1, C.2.2.2.1, hts⟩ (M H.size) ⟨va_cnB k2 hts (lw_goodIn w3) rfl rfl rfl (C.2.2.2.2.2.2.2.2.2.2.2.1 _ _ _ _ w1) (hts _ w2) w4 hR, w5, hts _ w6⟩ ⟨Pcu.blind, fun U hU hW => ⟨rfl, ⟨by rw [hU], by rw [hU]; exact hP, va_K.moved hW.alike C.2.2.2.2.2.1, hD.weaken (fun _ _ _ _ => trivial), C.2.2.2.2.2.2.2.1.pass hS (pl_free hD hS C.2.2.2.2.2.2.1) hW.alike hU, C.2.2.2.2.2.2.2.2.2.2.2.warm hW⟩, hM.warm hW⟩⟩ rfl hk hl.1 rfl (lv_room hcat) d (u_room hu hf)) kk
theorem u_wid {kc ks u r0 : Nat} (h : 16 * kc + ks ≤ u) (hr : u ≤ r0) : kc ≤ r0 / 16 ∧ ks ≤ r0 := ⟨by omega, by omega⟩
theorem u_iret (C : Cq p s m args meth c cc y ret G A nL) {v : Int32} (d : decode cc pc = .ok (.ireturn, 1)) (hr : ret = some .int) (hur : u ≤ r0) (hp : Post (some (.int v)) L E u) : wu p l e d0 r0 s m args below meth c G A nL (MQ below (Qu G A Post) args s (r0 / 16) r0 A) L E u pc lv [.int v] := by
  intro kc ks hu H locs ls hP hD hS hl T hT X
  have hmu := stand_mu X
  rw [hT] at hmu
  refine W.widen (u_wid hu hur).1 (u_wid hu hur).2 ?_ T hT X
  exact W.iret C.1 C.2.1 (C.2.2.2.2.2.2.2.2.1.trans hr) (fun t ht hW => ⟨⟨_, L, E, u, rfl, hp, by rw [ht]; omega, by rw [ht]; exact hP, hD⟩, hS.F ht⟩) hS.2.2 d C.2.2.2.2.2.2.2.2.2.1
theorem u_zret (C : Cq p s m args meth c cc y ret G A nL) {v : Int32} (d : decode cc pc = .ok (.ireturn, 1)) (hr : ret = some .boolean) (hn : narrow .boolean (.int v) = .int v) (hur : u ≤ r0) (hp : Post (some (.int v)) L E u) : wu p l e d0 r0 s m args below meth c G A nL (MQ below (Qu G A Post) args s (r0 / 16) r0 A) L E u pc lv [.int v] := by
  intro kc ks hu H locs ls hP hD hS hl T hT X
  have hmu := stand_mu X
  rw [hT] at hmu
  refine W.widen (u_wid hu hur).1 (u_wid hu hur).2 ?_ T hT X
  exact W.zret C.1 C.2.1 (C.2.2.2.2.2.2.2.2.1.trans hr) hn (fun t ht hW => ⟨⟨_, L, E, u, rfl, hp, by rw [ht]; omega, by rw [ht]; exact hP, hD⟩, hS.F ht⟩) hS.2.2 d C.2.2.2.2.2.2.2.2.2.1
theorem u_vret (C : Cq p s m args meth c cc y ret G A nL) (d : decode cc pc = .ok (.return_, 1)) (hr : ret = none) (hur : u ≤ r0) (hp : Post none L E u) : wu p l e d0 r0 s m args below meth c G A nL (MQ below (Qu G A Post) args s (r0 / 16) r0 A) L E u pc lv [] := by
  intro kc ks hu H locs ls hP hD hS hl T hT X
  have hmu := stand_mu X
  rw [hT] at hmu
  refine W.widen (u_wid hu hur).1 (u_wid hu hur).2 ?_ T hT X
  exact W.vret C.1 C.2.1 (C.2.2.2.2.2.2.2.2.1.trans hr) (fun t ht hW => ⟨⟨_, L, E, u, rfl, hp, by rw [ht]; omega, by rw [ht]; exact hP, hD⟩, hS.F ht⟩) hS.2.2 d C.2.2.2.2.2.2.2.2.2.1
theorem u_aret (C : Cq p s m args meth c cc y ret G A nL) {v : Value} {rt : FieldType} (d : decode cc pc = .ok (.areturn, 1)) (hr : ret = some rt) (hrt : (∃ n, rt = .object n) ∨ ∃ t, rt = .array t) (hv : v = .null ∨ ∃ a, v = .ref a) (hur : u ≤ r0) (hp : Post (some v) L E u) : wu p l e d0 r0 s m args below meth c G A nL (MQ below (Qu G A Post) args s (r0 / 16) r0 A) L E u pc lv [v] := by
  intro kc ks hu H locs ls hP hD hS hl T hT X
  have hmu := stand_mu X
  rw [hT] at hmu
  refine W.widen (u_wid hu hur).1 (u_wid hu hur).2 ?_ T hT X
  exact W.aret C.1 C.2.1 (C.2.2.2.2.2.2.2.2.1.trans hr) hrt hv (fun t ht hW => ⟨⟨_, L, E, u, rfl, hp, by rw [ht]; omega, by rw [ht]; exact hP, hD⟩, hS.F ht⟩) hS.2.2 d C.2.2.2.2.2.2.2.2.2.1
end UQ
end
section
def bt (t : Nat) : Nat := if t < 100 then (if t = 28 then 18 else if t = 69 then 67 else t) else if t < 130 then 100 else if t < 1000 then t else 1000 + t % 5
def kd (T : Nat) : Nat := match T with
  | 1 => 12
  | 2 => 2
  | 3 => 2
  | 4 => 2
  | 5 => 2
  | 6 => 2
  | 7 => 2
  | 8 => 2
  | 9 => 2
  | 10 => 2
  | 11 => 2
  | 12 => 2
  | 13 => 11
  | 14 => 9
  | 15 => 7
  | 16 => 4
  | 17 => 5
  | 18 => 8
  | 19 => 3
  | 20 => 6
  | 21 => 1
  | 22 => 0
  | 23 => 0
  | 24 => 0
  | 25 => 0
  | 26 => 0
  | 52 => 21
  | 56 => 21
  | 59 => 21
  | 67 => 22
  | 68 => 23
  | 100 => 10
  | 200 => 0
  | 201 => 1
  | 202 => 2
  | 203 => 3
  | 204 => 4
  | 205 => 5
  | 206 => 6
  | 207 => 7
  | 208 => 8
  | 209 => 9
  | 210 => 10
  | 211 => 11
  | 212 => 12
  | 213 => 22
  | 1000 => 24
  | 1001 => 24
  | 1002 => 24
  | 1003 => 24
  | 1004 => 24
  | _ => 20
def nf (ci : Nat) : Nat := match ci with
  | 0 => 3
  | 1 => 4
  | 2 => 3
  | 3 => 3
  | 4 => 8
  | 5 => 11
  | 6 => 4
  | 7 => 12
  | 8 => 3
  | 9 => 8
  | 10 => 8
  | 11 => 2
  | _ => 19
def rf (ci k : Nat) : Bool := (match ci with
  | 0 => [1]
  | 1 => [1, 2]
  | 2 => [1]
  | 3 => [0]
  | 4 => [0, 1, 2, 3, 4, 5, 6]
  | 5 => [0, 1, 2, 3, 4, 7, 8]
  | 6 => [1, 2]
  | 7 => [0, 1, 2, 3, 6, 8]
  | 8 => [0]
  | 9 => [3, 4, 6]
  | 10 => [2, 3, 4, 5, 6]
  | 11 => [0, 1]
  | _ => [0, 1, 2, 3, 4, 5, 6, 7, 8, 9, 10] : List Nat).contains k
def ofv (ci : Nat) (i : Nat → Int) (r : Nat → Option Nat) : Nat → Value := fun k => if rf ci k = true then va_rf (r k) else .int (iI (i k))
def enc (G : GT) (cl ln : Nat → Nat) (iv : Nat → Nat → Int) (rv : Nat → Nat → Option Nat) (a : Nat) : va_E := if kd (bt (cl a)) < 13 then ob (kd (bt (cl a))) (nf (kd (bt (cl a)))) (ofv (kd (bt (cl a))) (iv a) (rv a)) else if kd (bt (cl a)) = 20 then aI G (ln a) (fun j => iI (iv a j)) else if kd (bt (cl a)) = 21 then aZ G (ln a) (fun j => iI (iv a j)) else if kd (bt (cl a)) = 22 then aL G (ln a) (rv a) else if kd (bt (cl a)) = 23 then aR G (ln a) (rv a) else aO G (ln a) (rv a)
def ty (L : List Nat) (cl : Nat → Nat) (a T : Nat) : Prop := a ∈ L ∧ bt (cl a) = T
def upr (rv : Nat → Nat → Option Nat) (a k : Nat) (x : Option Nat) : Nat → Nat → Option Nat := fun b j => if b = a then (if j = k then x else rv b j) else rv b j
def up0 {α : Type} (f : Nat → Nat → α) (q : Nat) (x : α) : Nat → Nat → α := fun b j => if b = q then x else f b j
theorem upr_s {rv : Nat → Nat → Option Nat} {a k : Nat} {x : Option Nat} : upr rv a k x a k = x := by unfold upr; rw [if_pos rfl, if_pos rfl]
theorem upr_a {rv : Nat → Nat → Option Nat} {a k b : Nat} {x : Option Nat} (h : b ≠ a) : upr rv a k x b = rv b := by funext j; unfold upr; rw [if_neg h]
theorem upr_j {rv : Nat → Nat → Option Nat} {a k b j : Nat} {x : Option Nat} (h : j ≠ k) : upr rv a k x b j = rv b j := by unfold upr; simp [h]
theorem upi_a {iv : Nat → Nat → Int} {a k b : Nat} {x : Int} (h : b ≠ a) : up2 iv a k x b = iv b := by funext j; exact up2_k h
theorem up0_s {α : Type} {f : Nat → Nat → α} {q : Nat} {x : α} {j : Nat} : up0 f q x q j = x := by unfold up0; rw [if_pos rfl]
theorem up0_a {α : Type} {f : Nat → Nat → α} {q b : Nat} {x : α} (h : b ≠ q) : up0 f q x b = f b := by funext j; unfold up0; rw [if_neg h]
theorem ofv_i {ci k : Nat} {i : Nat → Int} {r : Nat → Option Nat} (h : rf ci k = false) : ofv ci i r k = .int (iI (i k)) := by unfold ofv; rw [h]; rfl
theorem ofv_r {ci k : Nat} {i : Nat → Int} {r : Nat → Option Nat} (h : rf ci k = true) : ofv ci i r k = va_rf (r k) := by unfold ofv; rw [h]; rfl
section ENC
variable {G : GT} {cl ln : Nat → Nat} {iv : Nat → Nat → Int} {rv : Nat → Nat → Option Nat} {a T ci N : Nat} {L : List Nat}
theorem enc_ob (ha : ty L cl a T) (hT : kd T = ci) (hN : nf ci = N) (h13 : ci < 13) : enc G cl ln iv rv a = ob ci N (ofv ci (iv a) (rv a)) := by unfold enc; rw [ha.2, hT, if_pos h13, hN]
theorem enc_I (ha : ty L cl a T) (hT : kd T = 20) : enc G cl ln iv rv a = aI G (ln a) (fun j => iI (iv a j)) := by unfold enc; rw [ha.2, hT]; rfl
theorem enc_Z (ha : ty L cl a T) (hT : kd T = 21) : enc G cl ln iv rv a = aZ G (ln a) (fun j => iI (iv a j)) := by unfold enc; rw [ha.2, hT]; rfl
theorem enc_L (ha : ty L cl a T) (hT : kd T = 22) : enc G cl ln iv rv a = aL G (ln a) (rv a) := by unfold enc; rw [ha.2, hT]; rfl
theorem enc_R (ha : ty L cl a T) (hT : kd T = 23) : enc G cl ln iv rv a = aR G (ln a) (rv a) := by unfold enc; rw [ha.2, hT]; rfl
theorem enc_O (ha : ty L cl a T) (hT : kd T = 24) : enc G cl ln iv rv a = aO G (ln a) (rv a) := by unfold enc; rw [ha.2, hT]; rfl
theorem enc_ext {cl2 ln2 : Nat → Nat} {iv2 : Nat → Nat → Int} {rv2 : Nat → Nat → Option Nat} (h1 : kd (bt (cl2 a)) = kd (bt (cl a))) (h2 : ln2 a = ln a) (h3 : iv2 a = iv a) (h4 : rv2 a = rv a) : enc G cl2 ln2 iv2 rv2 a = enc G cl ln iv rv a := by unfold enc; rw [h1, h2, h3, h4]
theorem enc_up {cl2 ln2 : Nat → Nat} {iv2 : Nat → Nat → Int} {rv2 : Nat → Nat → Option Nat} {x : va_E} (h : ∀ b, b ≠ a → cl2 b = cl b ∧ ln2 b = ln b ∧ iv2 b = iv b ∧ rv2 b = rv b) (hx : enc G cl2 ln2 iv2 rv2 a = x) : va_up (enc G cl ln iv rv) a x = enc G cl2 ln2 iv2 rv2 := by
  funext b
  by_cases e : b = a
  · subst e; rw [va_up_self, hx]
  · rw [va_up_ne _ _ e]
    obtain ⟨q1, q2, q3, q4⟩ := h b e
    exact (enc_ext (by rw [q1]) q2 q3 q4).symm
theorem enc_put {k : Nat} {z : Int} (ha : ty L cl a T) (hT : kd T = ci) (hN : nf ci = N) (h13 : ci < 13) (hr : rf ci k = false) : va_up (enc G cl ln iv rv) a (ob ci N (va_up (ofv ci (iv a) (rv a)) k (.int (iI z)))) = enc G cl ln (up2 iv a k z) rv := by
  refine enc_up (fun b hb => ⟨rfl, rfl, upi_a hb, rfl⟩) ?_
  rw [enc_ob ha hT hN h13]
  congr 1
  funext j
  by_cases e : j = k
  · subst e; rw [va_up_self, ofv_i hr, up2_s]
  · rw [va_up_ne _ _ e]; unfold ofv; rw [up2_j e]
theorem enc_putr {k : Nat} {x : Option Nat} (ha : ty L cl a T) (hT : kd T = ci) (hN : nf ci = N) (h13 : ci < 13) (hr : rf ci k = true) : va_up (enc G cl ln iv rv) a (ob ci N (va_up (ofv ci (iv a) (rv a)) k (va_rf x))) = enc G cl ln iv (upr rv a k x) := by
  refine enc_up (fun b hb => ⟨rfl, rfl, rfl, upr_a hb⟩) ?_
  rw [enc_ob ha hT hN h13]
  congr 1
  funext j
  by_cases e : j = k
  · subst e; rw [va_up_self, ofv_r hr, upr_s]
  · rw [va_up_ne _ _ e]; unfold ofv; rw [upr_j e]
theorem enc_ast {k : Nat} {z : Int} (ha : ty L cl a T) (hT : kd T = 20) : va_up (enc G cl ln iv rv) a (aI G (ln a) (fun j => if j = k then iI z else iI (iv a j))) = enc G cl ln (up2 iv a k z) rv := by
  refine enc_up (fun b hb => ⟨rfl, rfl, upi_a hb, rfl⟩) ?_
  rw [enc_I ha hT]
  congr 1
  funext j
  by_cases e : j = k
  · subst e; rw [if_pos rfl, up2_s]
  · rw [if_neg e, up2_j e]
theorem enc_zst {k : Nat} {z : Int} (ha : ty L cl a T) (hT : kd T = 21) : va_up (enc G cl ln iv rv) a (aZ G (ln a) (fun j => if j = k then iI z else iI (iv a j))) = enc G cl ln (up2 iv a k z) rv := by
  refine enc_up (fun b hb => ⟨rfl, rfl, upi_a hb, rfl⟩) ?_
  rw [enc_Z ha hT]
  congr 1
  funext j
  by_cases e : j = k
  · subst e; rw [if_pos rfl, up2_s]
  · rw [if_neg e, up2_j e]
theorem upr_up {k : Nat} {x : Option Nat} : upr rv a k x a = va_up (rv a) k x := by
  funext j
  by_cases e : j = k
  · subst e; rw [upr_s, va_up_self]
  · rw [upr_j e, va_up_ne _ _ e]
theorem enc_rst {k : Nat} {x : Option Nat} {mk : (Nat → Option Nat) → va_E} (hm : ∀ r2 : Nat → Nat → Option Nat, enc G cl ln iv r2 a = mk (r2 a)) : va_up (enc G cl ln iv rv) a (mk (va_up (rv a) k x)) = enc G cl ln iv (upr rv a k x) := by
  refine enc_up (fun b hb => ⟨rfl, rfl, rfl, upr_a hb⟩) ?_
  rw [hm, upr_up]
end ENC
theorem ob_ext {ci N : Nat} {f g : Nat → Value} (h : ∀ j, j < N → f j = g j) : ob ci N f = ob ci N g := by
  unfold ob
  congr 2
  exact List.map_congr_left (fun j hj => h j (List.mem_range.mp hj))
abbrev PF : Type := (Nat → Nat) → (Nat → Nat → Option Nat) → Nat
def cw (p : Program) (l : Launch) (e : Env) (d0 r0 : Nat) (s : State) (m : MethodId) (args : Array Value) (below : List Frame) (meth : Method) (c : Code) (G : GT) (A : Nat → Prop) (nL : Nat) (Q : State → Prop) (Pf : PF) (ph : Nat) (L : List Nat) (cl ln : Nat → Nat) (iv : Nat → Nat → Int) (rv : Nat → Nat → Option Nat) (K pc : Nat) (lv : List (Nat × Value)) (st : List Value) : Prop := ∀ u : Nat, u + ph ≤ Pf ln rv + K → wu p l e d0 r0 s m args below meth c G A nL Q L (enc G cl ln iv rv) u pc lv st
abbrev PC : Type := Option Value → List Nat → (Nat → Nat) → (Nat → Nat) → (Nat → Nat → Int) → (Nat → Nat → Option Nat) → Prop
def Qp (G : GT) (Pf : PF) (ph c0 : Nat) (Post : PC) : PU := fun v L2 E2 u => ∃ (cl2 ln2 : Nat → Nat) (iv2 : Nat → Nat → Int) (rv2 : Nat → Nat → Option Nat), E2 = enc G cl2 ln2 iv2 rv2 ∧ u + ph ≤ Pf ln2 rv2 + c0 ∧ Post v L2 cl2 ln2 iv2 rv2
def Mc (l : Launch) (G : GT) (mi : Nat) (Pf : PF) (pm : Nat) (y : MethodName) (cc : ByteArray) (n : Nat) (ret : Option FieldType) (d : Nat) (av : List Value) (L : List Nat) (cl ln : Nat → Nat) (iv : Nat → Nat → Int) (rv : Nat → Nat → Option Nat) (c0 : Nat) (Post : PC) : Prop := Mu l G mi y cc n ret d av L (enc G cl ln iv rv) (pm + c0 - Pf ln rv) (Qp G Pf (Pf ln rv) c0 Post)
section CQ
variable {p : Program} {l : Launch} {e : Env} {d0 r0 : Nat} {s : State} {m : MethodId} {args : Array Value} {below : List Frame} {meth : Method} {c : Code} {cc : ByteArray} {y : MethodName} {ret : Option FieldType} {G : GT} {A : Nat → Prop} {nL mi : Nat} {Q : State → Prop} {Pf : PF} {ph : Nat} {L : List Nat} {cl ln : Nat → Nat} {iv : Nat → Nat → Int} {rv : Nat → Nat → Option Nat} {K pc : Nat} {lv : List (Nat × Value)} {st : List Value}
theorem c_iconst (C : Cq p s m args meth c cc y ret G A nL) {n : Int} (d : decode cc pc = .ok (.iconst n, 1))  (k : cw p l e d0 r0 s m args below meth c G A nL Q Pf ph L cl ln iv rv K (pc + 1) lv (.int (iI n) :: st)) : cw p l e d0 r0 s m args below meth c G A nL Q Pf ph L cl ln iv rv K pc lv st := fun uu huu kc ks hkk => q_iconst C d rfl (k uu huu kc ks hkk)
theorem c_bipush (C : Cq p s m args meth c cc y ret G A nL) {n z : Int} (d : decode cc pc = .ok (.bipush n, 2)) (hz : (Int8.ofInt n).toInt32 = iI z) (k : cw p l e d0 r0 s m args below meth c G A nL Q Pf ph L cl ln iv rv K (pc + 2) lv (.int (iI z) :: st)) : cw p l e d0 r0 s m args below meth c G A nL Q Pf ph L cl ln iv rv K pc lv st := fun uu huu kc ks hkk => q_bipush C d hz (k uu huu kc ks hkk)
theorem c_sipush (C : Cq p s m args meth c cc y ret G A nL) {n z : Int} (d : decode cc pc = .ok (.sipush n, 3)) (hz : (Int16.ofInt n).toInt32 = iI z) (k : cw p l e d0 r0 s m args below meth c G A nL Q Pf ph L cl ln iv rv K (pc + 3) lv (.int (iI z) :: st)) : cw p l e d0 r0 s m args below meth c G A nL Q Pf ph L cl ln iv rv K pc lv st := fun uu huu kc ks hkk => q_sipush C d hz (k uu huu kc ks hkk)
theorem c_ldc (C : Cq p s m args meth c cc y ret G A nL) {idx : Nat} {x : Int32} {z : Int} (d : decode cc pc = .ok (.ldc idx, 2)) (hc : Cond.constant y.cls idx x ∈ lw_g) (hz : x = iI z) (k : cw p l e d0 r0 s m args below meth c G A nL Q Pf ph L cl ln iv rv K (pc + 2) lv (.int (iI z) :: st)) : cw p l e d0 r0 s m args below meth c G A nL Q Pf ph L cl ln iv rv K pc lv st := fun uu huu kc ks hkk => q_ldc C d hc (hz ▸ k uu huu kc ks hkk)
theorem c_iload_n (C : Cq p s m args meth c cc y ret G A nL) {i : Fin 4} {j : Nat} {x : Int32} (d : decode cc pc = .ok (.iload_n i, 1)) (hj : lv[j]? = some ((i : Nat), .int x)) (k : cw p l e d0 r0 s m args below meth c G A nL Q Pf ph L cl ln iv rv K (pc + 1) lv (.int x :: st)) : cw p l e d0 r0 s m args below meth c G A nL Q Pf ph L cl ln iv rv K pc lv st := fun uu huu kc ks hkk => q_iload_n C d hj (k uu huu kc ks hkk)
theorem c_iload (C : Cq p s m args meth c cc y ret G A nL) {i j : Nat} {x : Int32} (d : decode cc pc = .ok (.iload i, 2)) (hj : lv[j]? = some (i, .int x)) (k : cw p l e d0 r0 s m args below meth c G A nL Q Pf ph L cl ln iv rv K (pc + 2) lv (.int x :: st)) : cw p l e d0 r0 s m args below meth c G A nL Q Pf ph L cl ln iv rv K pc lv st := fun uu huu kc ks hkk => q_iload C d hj (k uu huu kc ks hkk)
theorem c_aload_n (C : Cq p s m args meth c cc y ret G A nL) {i : Fin 4} {j : Nat} {x : Nat} (d : decode cc pc = .ok (.aload_n i, 1)) (hj : lv[j]? = some ((i : Nat), .ref x)) (k : cw p l e d0 r0 s m args below meth c G A nL Q Pf ph L cl ln iv rv K (pc + 1) lv (.ref x :: st)) : cw p l e d0 r0 s m args below meth c G A nL Q Pf ph L cl ln iv rv K pc lv st := fun uu huu kc ks hkk => q_aload_n C d hj (k uu huu kc ks hkk)
theorem c_aload (C : Cq p s m args meth c cc y ret G A nL) {i j : Nat} {x : Nat} (d : decode cc pc = .ok (.aload i, 2)) (hj : lv[j]? = some (i, .ref x)) (k : cw p l e d0 r0 s m args below meth c G A nL Q Pf ph L cl ln iv rv K (pc + 2) lv (.ref x :: st)) : cw p l e d0 r0 s m args below meth c G A nL Q Pf ph L cl ln iv rv K pc lv st := fun uu huu kc ks hkk => q_aload C d hj (k uu huu kc ks hkk)
theorem c_istore_n (C : Cq p s m args meth c cc y ret G A nL) {i : Fin 4} {x : Int32} {lv2 : List (Nat × Value)} (d : decode cc pc = .ok (.istore_n i, 1)) (hn : (i : Nat) < nL) (hl : ((i : Nat), Value.int x) :: lv.filter (fun q => !(q.1 == (i : Nat)) && !(q.1 + 1 == (i : Nat) && q.2.category == 2)) = lv2) (k : cw p l e d0 r0 s m args below meth c G A nL Q Pf ph L cl ln iv rv K (pc + 1) lv2 st) : cw p l e d0 r0 s m args below meth c G A nL Q Pf ph L cl ln iv rv K pc lv (Value.int x :: st) := fun uu huu kc ks hkk => q_istore_n C d hn hl (k uu huu kc ks hkk)
theorem c_istore (C : Cq p s m args meth c cc y ret G A nL) {i : Nat} {x : Int32} {lv2 : List (Nat × Value)} (d : decode cc pc = .ok (.istore i, 2)) (hn : i < nL) (hl : (i, Value.int x) :: lv.filter (fun q => !(q.1 == i) && !(q.1 + 1 == i && q.2.category == 2)) = lv2) (k : cw p l e d0 r0 s m args below meth c G A nL Q Pf ph L cl ln iv rv K (pc + 2) lv2 st) : cw p l e d0 r0 s m args below meth c G A nL Q Pf ph L cl ln iv rv K pc lv (Value.int x :: st) := fun uu huu kc ks hkk => q_istore C d hn hl (k uu huu kc ks hkk)
theorem c_astore_n (C : Cq p s m args meth c cc y ret G A nL) {i : Fin 4} {x : Nat} {lv2 : List (Nat × Value)} (d : decode cc pc = .ok (.astore_n i, 1)) (hn : (i : Nat) < nL) (hl : ((i : Nat), Value.ref x) :: lv.filter (fun q => !(q.1 == (i : Nat)) && !(q.1 + 1 == (i : Nat) && q.2.category == 2)) = lv2) (k : cw p l e d0 r0 s m args below meth c G A nL Q Pf ph L cl ln iv rv K (pc + 1) lv2 st) : cw p l e d0 r0 s m args below meth c G A nL Q Pf ph L cl ln iv rv K pc lv (Value.ref x :: st) := fun uu huu kc ks hkk => q_astore_n C d hn hl (k uu huu kc ks hkk)
theorem c_astore (C : Cq p s m args meth c cc y ret G A nL) {i : Nat} {x : Nat} {lv2 : List (Nat × Value)} (d : decode cc pc = .ok (.astore i, 2)) (hn : i < nL) (hl : (i, Value.ref x) :: lv.filter (fun q => !(q.1 == i) && !(q.1 + 1 == i && q.2.category == 2)) = lv2) (k : cw p l e d0 r0 s m args below meth c G A nL Q Pf ph L cl ln iv rv K (pc + 2) lv2 st) : cw p l e d0 r0 s m args below meth c G A nL Q Pf ph L cl ln iv rv K pc lv (Value.ref x :: st) := fun uu huu kc ks hkk => q_astore C d hn hl (k uu huu kc ks hkk)
theorem c_iinc (C : Cq p s m args meth c cc y ret G A nL) {i j : Nat} {n z : Int} {lv2 : List (Nat × Value)} (d : decode cc pc = .ok (.iinc i n, 3)) (hj : lv[j]? = some (i, .int (iI z))) (hn : i < nL) (hl : (i, Value.int (iI (z + n))) :: lv.filter (fun q => !(q.1 == i) && !(q.1 + 1 == i && q.2.category == 2)) = lv2) (k : cw p l e d0 r0 s m args below meth c G A nL Q Pf ph L cl ln iv rv K (pc + 3) lv2 st) : cw p l e d0 r0 s m args below meth c G A nL Q Pf ph L cl ln iv rv K pc lv st := fun uu huu kc ks hkk => q_iinc C d hj (Int32.ofInt_add z n).symm hn hl (k uu huu kc ks hkk)
theorem c_iadd (C : Cq p s m args meth c cc y ret G A nL) {x z : Int} (d : decode cc pc = .ok (.iadd, 1))  (k : cw p l e d0 r0 s m args below meth c G A nL Q Pf ph L cl ln iv rv K (pc + 1) lv (.int (iI (x + z)) :: st)) : cw p l e d0 r0 s m args below meth c G A nL Q Pf ph L cl ln iv rv K pc lv (.int (iI z) :: .int (iI x) :: st) := fun uu huu kc ks hkk => q_iadd C d (Int32.ofInt_add x z).symm (k uu huu kc ks hkk)
theorem c_isub (C : Cq p s m args meth c cc y ret G A nL) {x z : Int} (d : decode cc pc = .ok (.isub, 1))  (k : cw p l e d0 r0 s m args below meth c G A nL Q Pf ph L cl ln iv rv K (pc + 1) lv (.int (iI (x - z)) :: st)) : cw p l e d0 r0 s m args below meth c G A nL Q Pf ph L cl ln iv rv K pc lv (.int (iI z) :: .int (iI x) :: st) := fun uu huu kc ks hkk => q_isub C d (Int32.ofInt_sub x z).symm (k uu huu kc ks hkk)
theorem c_imul (C : Cq p s m args meth c cc y ret G A nL) {x z : Int} (d : decode cc pc = .ok (.imul, 1))  (k : cw p l e d0 r0 s m args below meth c G A nL Q Pf ph L cl ln iv rv K (pc + 1) lv (.int (iI (x * z)) :: st)) : cw p l e d0 r0 s m args below meth c G A nL Q Pf ph L cl ln iv rv K pc lv (.int (iI z) :: .int (iI x) :: st) := fun uu huu kc ks hkk => q_imul C d (Int32.ofInt_mul x z).symm (k uu huu kc ks hkk)
theorem c_iand (C : Cq p s m args meth c cc y ret G A nL) {x y2 w : Int32} (d : decode cc pc = .ok (.iand, 1)) (hv : x &&& y2 = w) (k : cw p l e d0 r0 s m args below meth c G A nL Q Pf ph L cl ln iv rv K (pc + 1) lv (.int w :: st)) : cw p l e d0 r0 s m args below meth c G A nL Q Pf ph L cl ln iv rv K pc lv (.int y2 :: .int x :: st) := fun uu huu kc ks hkk => q_iand C d hv (k uu huu kc ks hkk)
theorem c_ior (C : Cq p s m args meth c cc y ret G A nL) {x y2 w : Int32} (d : decode cc pc = .ok (.ior, 1)) (hv : x ||| y2 = w) (k : cw p l e d0 r0 s m args below meth c G A nL Q Pf ph L cl ln iv rv K (pc + 1) lv (.int w :: st)) : cw p l e d0 r0 s m args below meth c G A nL Q Pf ph L cl ln iv rv K pc lv (.int y2 :: .int x :: st) := fun uu huu kc ks hkk => q_ior C d hv (k uu huu kc ks hkk)
theorem c_ixor (C : Cq p s m args meth c cc y ret G A nL) {x y2 w : Int32} (d : decode cc pc = .ok (.ixor, 1)) (hv : x ^^^ y2 = w) (k : cw p l e d0 r0 s m args below meth c G A nL Q Pf ph L cl ln iv rv K (pc + 1) lv (.int w :: st)) : cw p l e d0 r0 s m args below meth c G A nL Q Pf ph L cl ln iv rv K pc lv (.int y2 :: .int x :: st) := fun uu huu kc ks hkk => q_ixor C d hv (k uu huu kc ks hkk)
theorem c_ishl (C : Cq p s m args meth c cc y ret G A nL) {x y2 w : Int32} (d : decode cc pc = .ok (.ishl, 1)) (hv : x <<< (y2 &&& 31) = w) (k : cw p l e d0 r0 s m args below meth c G A nL Q Pf ph L cl ln iv rv K (pc + 1) lv (.int w :: st)) : cw p l e d0 r0 s m args below meth c G A nL Q Pf ph L cl ln iv rv K pc lv (.int y2 :: .int x :: st) := fun uu huu kc ks hkk => q_ishl C d hv (k uu huu kc ks hkk)
theorem c_ishr (C : Cq p s m args meth c cc y ret G A nL) {x y2 w : Int32} (d : decode cc pc = .ok (.ishr, 1)) (hv : x >>> (y2 &&& 31) = w) (k : cw p l e d0 r0 s m args below meth c G A nL Q Pf ph L cl ln iv rv K (pc + 1) lv (.int w :: st)) : cw p l e d0 r0 s m args below meth c G A nL Q Pf ph L cl ln iv rv K pc lv (.int y2 :: .int x :: st) := fun uu huu kc ks hkk => q_ishr C d hv (k uu huu kc ks hkk)
theorem c_iushr (C : Cq p s m args meth c cc y ret G A nL) {x y2 w : Int32} (d : decode cc pc = .ok (.iushr, 1)) (hv : (x.toUInt32 >>> (y2.toUInt32 &&& Int32.toUInt32 31)).toInt32 = w) (k : cw p l e d0 r0 s m args below meth c G A nL Q Pf ph L cl ln iv rv K (pc + 1) lv (.int w :: st)) : cw p l e d0 r0 s m args below meth c G A nL Q Pf ph L cl ln iv rv K pc lv (.int y2 :: .int x :: st) := fun uu huu kc ks hkk => q_iushr C d hv (k uu huu kc ks hkk)
theorem c_idiv (C : Cq p s m args meth c cc y ret G A nL) {x y2 w : Int32} (d : decode cc pc = .ok (.idiv, 1)) (hne : ¬ y2 = 0) (hv : x / y2 = w) (k : cw p l e d0 r0 s m args below meth c G A nL Q Pf ph L cl ln iv rv K (pc + 1) lv (.int w :: st)) : cw p l e d0 r0 s m args below meth c G A nL Q Pf ph L cl ln iv rv K pc lv (.int y2 :: .int x :: st) := fun uu huu kc ks hkk => q_idiv C d hne hv (k uu huu kc ks hkk)
theorem c_ineg (C : Cq p s m args meth c cc y ret G A nL) {z : Int} (d : decode cc pc = .ok (.ineg, 1))  (k : cw p l e d0 r0 s m args below meth c G A nL Q Pf ph L cl ln iv rv K (pc + 1) lv (.int (iI (-z)) :: st)) : cw p l e d0 r0 s m args below meth c G A nL Q Pf ph L cl ln iv rv K pc lv (.int (iI z) :: st) := fun uu huu kc ks hkk => q_ineg C d (Int32.ofInt_neg z).symm (k uu huu kc ks hkk)
theorem c_dup (C : Cq p s m args meth c cc y ret G A nL) {u : Value} (d : decode cc pc = .ok (.dup, 1)) (hu : u.category = 1) (k : cw p l e d0 r0 s m args below meth c G A nL Q Pf ph L cl ln iv rv K (pc + 1) lv (u :: u :: st)) : cw p l e d0 r0 s m args below meth c G A nL Q Pf ph L cl ln iv rv K pc lv (u :: st) := fun uu huu kc ks hkk => q_dup C d hu (k uu huu kc ks hkk)
theorem c_pop (C : Cq p s m args meth c cc y ret G A nL) {u : Value} (d : decode cc pc = .ok (.pop, 1)) (hu : u.category = 1) (k : cw p l e d0 r0 s m args below meth c G A nL Q Pf ph L cl ln iv rv K (pc + 1) lv st) : cw p l e d0 r0 s m args below meth c G A nL Q Pf ph L cl ln iv rv K pc lv (u :: st) := fun uu huu kc ks hkk => q_pop C d hu (k uu huu kc ks hkk)
theorem c_dup2 (C : Cq p s m args meth c cc y ret G A nL) {u w : Value} (d : decode cc pc = .ok (.dup2, 1)) (hu : u.category = 1) (hw : w.category = 1) (k : cw p l e d0 r0 s m args below meth c G A nL Q Pf ph L cl ln iv rv K (pc + 1) lv (u :: w :: u :: w :: st)) : cw p l e d0 r0 s m args below meth c G A nL Q Pf ph L cl ln iv rv K pc lv (u :: w :: st) := fun uu huu kc ks hkk => q_dup2 C d hu hw (k uu huu kc ks hkk)
theorem c_goto (C : Cq p s m args meth c cc y ret G A nL) {off : Int} {tgt : Nat} (d : decode cc pc = .ok (.goto off, 3)) (ht : (pc : Int) + off = (tgt : Int)) (k : cw p l e d0 r0 s m args below meth c G A nL Q Pf ph L cl ln iv rv K tgt lv st) : cw p l e d0 r0 s m args below meth c G A nL Q Pf ph L cl ln iv rv K pc lv st := fun uu huu kc ks hkk => q_goto C d ht (k uu huu kc ks hkk)
theorem c_icmp_eq (C : Cq p s m args meth c cc y ret G A nL) {x z off : Int} {tgt : Nat} (hx : R32 x) (hz : R32 z) (d : decode cc pc = .ok (.if_icmp .eq off, 3)) (ht : (pc : Int) + off = (tgt : Int)) (kt : x = z → cw p l e d0 r0 s m args below meth c G A nL Q Pf ph L cl ln iv rv K tgt lv st) (kf : ¬ x = z → cw p l e d0 r0 s m args below meth c G A nL Q Pf ph L cl ln iv rv K (pc + 3) lv st) : cw p l e d0 r0 s m args below meth c G A nL Q Pf ph L cl ln iv rv K pc lv (.int (iI z) :: .int (iI x) :: st) := fun uu huu kc ks hkk => q_icmp_eq C d ht (fun q => kt ((iI_eq hx hz).mp q) uu huu kc ks hkk) (fun q => kf (fun r => q ((iI_eq hx hz).mpr r)) uu huu kc ks hkk)
theorem c_if_eq (C : Cq p s m args meth c cc y ret G A nL) {x off : Int} {tgt : Nat} (hx : R32 x) (d : decode cc pc = .ok (.ifCond .eq off, 3)) (ht : (pc : Int) + off = (tgt : Int)) (kt : x = 0 → cw p l e d0 r0 s m args below meth c G A nL Q Pf ph L cl ln iv rv K tgt lv st) (kf : ¬ x = 0 → cw p l e d0 r0 s m args below meth c G A nL Q Pf ph L cl ln iv rv K (pc + 3) lv st) : cw p l e d0 r0 s m args below meth c G A nL Q Pf ph L cl ln iv rv K pc lv (.int (iI x) :: st) := fun uu huu kc ks hkk => q_if_eq C d ht (fun q => kt ((iI_eq hx R32_0).mp q) uu huu kc ks hkk) (fun q => kf (fun r => q ((iI_eq hx R32_0).mpr r)) uu huu kc ks hkk)
theorem c_icmp_ne (C : Cq p s m args meth c cc y ret G A nL) {x z off : Int} {tgt : Nat} (hx : R32 x) (hz : R32 z) (d : decode cc pc = .ok (.if_icmp .ne off, 3)) (ht : (pc : Int) + off = (tgt : Int)) (kt : ¬ x = z → cw p l e d0 r0 s m args below meth c G A nL Q Pf ph L cl ln iv rv K tgt lv st) (kf : x = z → cw p l e d0 r0 s m args below meth c G A nL Q Pf ph L cl ln iv rv K (pc + 3) lv st) : cw p l e d0 r0 s m args below meth c G A nL Q Pf ph L cl ln iv rv K pc lv (.int (iI z) :: .int (iI x) :: st) := fun uu huu kc ks hkk => q_icmp_ne C d ht (fun q => kt (fun r => q ((iI_eq hx hz).mpr r)) uu huu kc ks hkk) (fun q => kf ((iI_eq hx hz).mp q) uu huu kc ks hkk)
theorem c_if_ne (C : Cq p s m args meth c cc y ret G A nL) {x off : Int} {tgt : Nat} (hx : R32 x) (d : decode cc pc = .ok (.ifCond .ne off, 3)) (ht : (pc : Int) + off = (tgt : Int)) (kt : ¬ x = 0 → cw p l e d0 r0 s m args below meth c G A nL Q Pf ph L cl ln iv rv K tgt lv st) (kf : x = 0 → cw p l e d0 r0 s m args below meth c G A nL Q Pf ph L cl ln iv rv K (pc + 3) lv st) : cw p l e d0 r0 s m args below meth c G A nL Q Pf ph L cl ln iv rv K pc lv (.int (iI x) :: st) := fun uu huu kc ks hkk => q_if_ne C d ht (fun q => kt (fun r => q ((iI_eq hx R32_0).mpr r)) uu huu kc ks hkk) (fun q => kf ((iI_eq hx R32_0).mp q) uu huu kc ks hkk)
theorem c_icmp_lt (C : Cq p s m args meth c cc y ret G A nL) {x z off : Int} {tgt : Nat} (hx : R32 x) (hz : R32 z) (d : decode cc pc = .ok (.if_icmp .lt off, 3)) (ht : (pc : Int) + off = (tgt : Int)) (kt : x < z → cw p l e d0 r0 s m args below meth c G A nL Q Pf ph L cl ln iv rv K tgt lv st) (kf : ¬ x < z → cw p l e d0 r0 s m args below meth c G A nL Q Pf ph L cl ln iv rv K (pc + 3) lv st) : cw p l e d0 r0 s m args below meth c G A nL Q Pf ph L cl ln iv rv K pc lv (.int (iI z) :: .int (iI x) :: st) := fun uu huu kc ks hkk => q_icmp_lt C d ht (fun q => kt ((iI_lt hx hz).mp q) uu huu kc ks hkk) (fun q => kf (fun r => q ((iI_lt hx hz).mpr r)) uu huu kc ks hkk)
theorem c_if_lt (C : Cq p s m args meth c cc y ret G A nL) {x off : Int} {tgt : Nat} (hx : R32 x) (d : decode cc pc = .ok (.ifCond .lt off, 3)) (ht : (pc : Int) + off = (tgt : Int)) (kt : x < 0 → cw p l e d0 r0 s m args below meth c G A nL Q Pf ph L cl ln iv rv K tgt lv st) (kf : ¬ x < 0 → cw p l e d0 r0 s m args below meth c G A nL Q Pf ph L cl ln iv rv K (pc + 3) lv st) : cw p l e d0 r0 s m args below meth c G A nL Q Pf ph L cl ln iv rv K pc lv (.int (iI x) :: st) := fun uu huu kc ks hkk => q_if_lt C d ht (fun q => kt ((iI_lt hx R32_0).mp q) uu huu kc ks hkk) (fun q => kf (fun r => q ((iI_lt hx R32_0).mpr r)) uu huu kc ks hkk)
theorem c_icmp_ge (C : Cq p s m args meth c cc y ret G A nL) {x z off : Int} {tgt : Nat} (hx : R32 x) (hz : R32 z) (d : decode cc pc = .ok (.if_icmp .ge off, 3)) (ht : (pc : Int) + off = (tgt : Int)) (kt : z ≤ x → cw p l e d0 r0 s m args below meth c G A nL Q Pf ph L cl ln iv rv K tgt lv st) (kf : ¬ z ≤ x → cw p l e d0 r0 s m args below meth c G A nL Q Pf ph L cl ln iv rv K (pc + 3) lv st) : cw p l e d0 r0 s m args below meth c G A nL Q Pf ph L cl ln iv rv K pc lv (.int (iI z) :: .int (iI x) :: st) := fun uu huu kc ks hkk => q_icmp_ge C d ht (fun q => kt ((iI_le hz hx).mp q) uu huu kc ks hkk) (fun q => kf (fun r => q ((iI_le hz hx).mpr r)) uu huu kc ks hkk)
theorem c_if_ge (C : Cq p s m args meth c cc y ret G A nL) {x off : Int} {tgt : Nat} (hx : R32 x) (d : decode cc pc = .ok (.ifCond .ge off, 3)) (ht : (pc : Int) + off = (tgt : Int)) (kt : 0 ≤ x → cw p l e d0 r0 s m args below meth c G A nL Q Pf ph L cl ln iv rv K tgt lv st) (kf : ¬ 0 ≤ x → cw p l e d0 r0 s m args below meth c G A nL Q Pf ph L cl ln iv rv K (pc + 3) lv st) : cw p l e d0 r0 s m args below meth c G A nL Q Pf ph L cl ln iv rv K pc lv (.int (iI x) :: st) := fun uu huu kc ks hkk => q_if_ge C d ht (fun q => kt ((iI_le R32_0 hx).mp q) uu huu kc ks hkk) (fun q => kf (fun r => q ((iI_le R32_0 hx).mpr r)) uu huu kc ks hkk)
theorem c_icmp_gt (C : Cq p s m args meth c cc y ret G A nL) {x z off : Int} {tgt : Nat} (hx : R32 x) (hz : R32 z) (d : decode cc pc = .ok (.if_icmp .gt off, 3)) (ht : (pc : Int) + off = (tgt : Int)) (kt : z < x → cw p l e d0 r0 s m args below meth c G A nL Q Pf ph L cl ln iv rv K tgt lv st) (kf : ¬ z < x → cw p l e d0 r0 s m args below meth c G A nL Q Pf ph L cl ln iv rv K (pc + 3) lv st) : cw p l e d0 r0 s m args below meth c G A nL Q Pf ph L cl ln iv rv K pc lv (.int (iI z) :: .int (iI x) :: st) := fun uu huu kc ks hkk => q_icmp_gt C d ht (fun q => kt ((iI_lt hz hx).mp q) uu huu kc ks hkk) (fun q => kf (fun r => q ((iI_lt hz hx).mpr r)) uu huu kc ks hkk)
theorem c_if_gt (C : Cq p s m args meth c cc y ret G A nL) {x off : Int} {tgt : Nat} (hx : R32 x) (d : decode cc pc = .ok (.ifCond .gt off, 3)) (ht : (pc : Int) + off = (tgt : Int)) (kt : 0 < x → cw p l e d0 r0 s m args below meth c G A nL Q Pf ph L cl ln iv rv K tgt lv st) (kf : ¬ 0 < x → cw p l e d0 r0 s m args below meth c G A nL Q Pf ph L cl ln iv rv K (pc + 3) lv st) : cw p l e d0 r0 s m args below meth c G A nL Q Pf ph L cl ln iv rv K pc lv (.int (iI x) :: st) := fun uu huu kc ks hkk => q_if_gt C d ht (fun q => kt ((iI_lt R32_0 hx).mp q) uu huu kc ks hkk) (fun q => kf (fun r => q ((iI_lt R32_0 hx).mpr r)) uu huu kc ks hkk)
theorem c_icmp_le (C : Cq p s m args meth c cc y ret G A nL) {x z off : Int} {tgt : Nat} (hx : R32 x) (hz : R32 z) (d : decode cc pc = .ok (.if_icmp .le off, 3)) (ht : (pc : Int) + off = (tgt : Int)) (kt : x ≤ z → cw p l e d0 r0 s m args below meth c G A nL Q Pf ph L cl ln iv rv K tgt lv st) (kf : ¬ x ≤ z → cw p l e d0 r0 s m args below meth c G A nL Q Pf ph L cl ln iv rv K (pc + 3) lv st) : cw p l e d0 r0 s m args below meth c G A nL Q Pf ph L cl ln iv rv K pc lv (.int (iI z) :: .int (iI x) :: st) := fun uu huu kc ks hkk => q_icmp_le C d ht (fun q => kt ((iI_le hx hz).mp q) uu huu kc ks hkk) (fun q => kf (fun r => q ((iI_le hx hz).mpr r)) uu huu kc ks hkk)
theorem c_if_le (C : Cq p s m args meth c cc y ret G A nL) {x off : Int} {tgt : Nat} (hx : R32 x) (d : decode cc pc = .ok (.ifCond .le off, 3)) (ht : (pc : Int) + off = (tgt : Int)) (kt : x ≤ 0 → cw p l e d0 r0 s m args below meth c G A nL Q Pf ph L cl ln iv rv K tgt lv st) (kf : ¬ x ≤ 0 → cw p l e d0 r0 s m args below meth c G A nL Q Pf ph L cl ln iv rv K (pc + 3) lv st) : cw p l e d0 r0 s m args below meth c G A nL Q Pf ph L cl ln iv rv K pc lv (.int (iI x) :: st) := fun uu huu kc ks hkk => q_if_le C d ht (fun q => kt ((iI_le hx R32_0).mp q) uu huu kc ks hkk) (fun q => kf (fun r => q ((iI_le hx R32_0).mpr r)) uu huu kc ks hkk)
theorem c_st {st2 : List Value} (h : st = st2) (k : cw p l e d0 r0 s m args below meth c G A nL Q Pf ph L cl ln iv rv K pc lv st2) : cw p l e d0 r0 s m args below meth c G A nL Q Pf ph L cl ln iv rv K pc lv st := by subst h; exact k
theorem c_lv {lv2 : List (Nat × Value)} (ps : List Nat) (hl : lv_pick lv ps = lv2) (k : cw p l e d0 r0 s m args below meth c G A nL Q Pf ph L cl ln iv rv K pc lv2 st) : cw p l e d0 r0 s m args below meth c G A nL Q Pf ph L cl ln iv rv K pc lv st := fun u hu kc ks hk H locs ls hP hD hS hv => k u hu kc ks hk H locs ls hP hD hS (lv_sub hv ps hl)
theorem c_K {K2 : Nat} (h : K ≤ K2) (k : cw p l e d0 r0 s m args below meth c G A nL Q Pf ph L cl ln iv rv K2 pc lv st) : cw p l e d0 r0 s m args below meth c G A nL Q Pf ph L cl ln iv rv K pc lv st := fun u hu => k u (by omega)
theorem c_g0 (C : Cq p s m args meth c cc y ret G A nL) (k : (∀ b ∈ L, b ≠ g0 G) → cw p l e d0 r0 s m args below meth c G A nL Q Pf ph L cl ln iv rv K pc lv st) : cw p l e d0 r0 s m args below meth c G A nL Q Pf ph L cl ln iv rv K pc lv st := by
  intro u hu kc ks hk H locs ls hP hD hS hl
  refine k ?_ u hu kc ks hk H locs ls hP hD hS hl
  intro b hb e
  obtain ⟨q0, hq⟩ := pl_at (E := enc G cl ln iv rv) hb
  obtain ⟨_, _, _, _, _, _, _, hn⟩ := C.2.2.2.2.2.2.2.1.2
  exact hn (e ▸ hD.2 q0 _ hq)
theorem c_null (C : Cq p s m args meth c cc y ret G A nL) (d : decode cc pc = .ok (.aconst_null, 1)) (k : cw p l e d0 r0 s m args below meth c G A nL Q Pf ph L cl ln iv rv K (pc + 1) lv (.null :: st)) : cw p l e d0 r0 s m args below meth c G A nL Q Pf ph L cl ln iv rv K pc lv st := fun u hu kc ks hk => q_null C d (k u hu kc ks hk)
theorem c_aloadr_n (C : Cq p s m args meth c cc y ret G A nL) {i : Fin 4} {j : Nat} {r : Option Nat} (d : decode cc pc = .ok (.aload_n i, 1)) (hj : lv[j]? = some ((i : Nat), va_rf r)) (k : cw p l e d0 r0 s m args below meth c G A nL Q Pf ph L cl ln iv rv K (pc + 1) lv (va_rf r :: st)) : cw p l e d0 r0 s m args below meth c G A nL Q Pf ph L cl ln iv rv K pc lv st := by
  cases r with
  | none => exact fun u hu kc ks hk => q_aload_nN C d hj (k u hu kc ks hk)
  | some x => exact fun u hu kc ks hk => q_aload_n C d hj (k u hu kc ks hk)
theorem c_aloadr (C : Cq p s m args meth c cc y ret G A nL) {i j : Nat} {r : Option Nat} (d : decode cc pc = .ok (.aload i, 2)) (hj : lv[j]? = some (i, va_rf r)) (k : cw p l e d0 r0 s m args below meth c G A nL Q Pf ph L cl ln iv rv K (pc + 2) lv (va_rf r :: st)) : cw p l e d0 r0 s m args below meth c G A nL Q Pf ph L cl ln iv rv K pc lv st := by
  cases r with
  | none => exact fun u hu kc ks hk => q_aloadN C d hj (k u hu kc ks hk)
  | some x => exact fun u hu kc ks hk => q_aload C d hj (k u hu kc ks hk)
theorem c_astorer_n (C : Cq p s m args meth c cc y ret G A nL) {i : Fin 4} {r : Option Nat} {lv2 : List (Nat × Value)} (d : decode cc pc = .ok (.astore_n i, 1)) (hn : (i : Nat) < nL) (hl : ((i : Nat), va_rf r) :: lv.filter (fun q => !(q.1 == (i : Nat)) && !(q.1 + 1 == (i : Nat) && q.2.category == 2)) = lv2) (k : cw p l e d0 r0 s m args below meth c G A nL Q Pf ph L cl ln iv rv K (pc + 1) lv2 st) : cw p l e d0 r0 s m args below meth c G A nL Q Pf ph L cl ln iv rv K pc lv (va_rf r :: st) := by
  cases r with
  | none => exact fun u hu kc ks hk => q_astore_nN C d hn hl (k u hu kc ks hk)
  | some x => exact fun u hu kc ks hk => q_astore_n C d hn hl (k u hu kc ks hk)
theorem c_astorer (C : Cq p s m args meth c cc y ret G A nL) {i : Nat} {r : Option Nat} {lv2 : List (Nat × Value)} (d : decode cc pc = .ok (.astore i, 2)) (hn : i < nL) (hl : (i, va_rf r) :: lv.filter (fun q => !(q.1 == i) && !(q.1 + 1 == i && q.2.category == 2)) = lv2) (k : cw p l e d0 r0 s m args below meth c G A nL Q Pf ph L cl ln iv rv K (pc + 2) lv2 st) : cw p l e d0 r0 s m args below meth c G A nL Q Pf ph L cl ln iv rv K pc lv (va_rf r :: st) := by
  cases r with
  | none => exact fun u hu kc ks hk => q_astoreN C d hn hl (k u hu kc ks hk)
  | some x => exact fun u hu kc ks hk => q_astore C d hn hl (k u hu kc ks hk)
theorem c_get (C : Cq p s m args meth c cc y ret G A nL) {a k idx ci N T : Nat} {Cn : String} {TT : u_T} {tyy : Nat → FieldType} (ck : Ck ci Cn TT N tyy) (d : decode cc pc = .ok (.getfield idx, 3)) (lk : Cond.fieldLink y.cls idx (TT k).1 (TT k).2.1 (TT k).2.2.1 ∈ lw_g) (hk : k < N) (ha : ty L cl a T) (hT : kd T = ci) (hN : nf ci = N) (h13 : ci < 13) (hr : rf ci k = false) (kk : cw p l e d0 r0 s m args below meth c G A nL Q Pf ph L cl ln iv rv K (pc + 3) lv (.int (iI (iv a k)) :: st)) : cw p l e d0 r0 s m args below meth c G A nL Q Pf ph L cl ln iv rv K pc lv (.ref a :: st) := fun u hu kc ks hh => q_get (k := k) C ck d lk hk ha.1 (enc_ob ha hT hN h13) (ofv_i hr) (kk u hu kc ks hh)
theorem c_getr (C : Cq p s m args meth c cc y ret G A nL) {a k idx ci N T : Nat} {Cn : String} {TT : u_T} {tyy : Nat → FieldType} {x : Option Nat} (ck : Ck ci Cn TT N tyy) (d : decode cc pc = .ok (.getfield idx, 3)) (lk : Cond.fieldLink y.cls idx (TT k).1 (TT k).2.1 (TT k).2.2.1 ∈ lw_g) (hk : k < N) (ha : ty L cl a T) (hT : kd T = ci) (hN : nf ci = N) (h13 : ci < 13) (hr : rf ci k = true) (hx : rv a k = x) (kk : cw p l e d0 r0 s m args below meth c G A nL Q Pf ph L cl ln iv rv K (pc + 3) lv (va_rf x :: st)) : cw p l e d0 r0 s m args below meth c G A nL Q Pf ph L cl ln iv rv K pc lv (.ref a :: st) := fun u hu kc ks hh => q_get (k := k) C ck d lk hk ha.1 (enc_ob ha hT hN h13) (by rw [ofv_r hr, hx]) (kk u hu kc ks hh)
theorem c_put (C : Cq p s m args meth c cc y ret G A nL) {a k idx ci N T : Nat} {Cn : String} {TT : u_T} {tyy : Nat → FieldType} {z : Int} (ck : Ck ci Cn TT N tyy) (d : decode cc pc = .ok (.putfield idx, 3)) (lk : Cond.fieldLink y.cls idx (TT k).1 (TT k).2.1 (TT k).2.2.1 ∈ lw_g) (hk : k < N) (hfin : (TT k).2.2.2 = false) (ha : ty L cl a T) (hT : kd T = ci) (hN : nf ci = N) (h13 : ci < 13) (hr : rf ci k = false) (hn : narrow (tyy k) (.int (iI z)) = .int (iI z)) (hfit : fits (tyy k) (.int (iI z)) = true) (kk : ∀ iv2, iv2 = up2 iv a k z → cw p l e d0 r0 s m args below meth c G A nL Q Pf ph L cl ln iv2 rv K (pc + 3) lv st) : cw p l e d0 r0 s m args below meth c G A nL Q Pf ph L cl ln iv rv K pc lv (.int (iI z) :: .ref a :: st) := fun u hu kc ks hh => q_put (k := k) C ck d lk hk hfin ha.1 (enc_ob ha hT hN h13) hn hfit (by rw [enc_put ha hT hN h13 hr]; exact kk _ rfl u hu kc ks hh)
theorem c_putF (C : Cq p s m args meth c cc y ret G A nL) {a k idx ci N T : Nat} {Cn : String} {TT : u_T} {tyy : Nat → FieldType} {z : Int} (ck : Ck ci Cn TT N tyy) (d : decode cc pc = .ok (.putfield idx, 3)) (lk : Cond.fieldLink y.cls idx (TT k).1 (TT k).2.1 (TT k).2.2.1 ∈ lw_g) (hk : k < N) (hfin : (TT k).2.2.2 = true) (hi : y.name = "<init>") (hd : (TT k).1 = y.cls) (ha : ty L cl a T) (hT : kd T = ci) (hN : nf ci = N) (h13 : ci < 13) (hr : rf ci k = false) (hn : narrow (tyy k) (.int (iI z)) = .int (iI z)) (hfit : fits (tyy k) (.int (iI z)) = true) (kk : ∀ iv2, iv2 = up2 iv a k z → cw p l e d0 r0 s m args below meth c G A nL Q Pf ph L cl ln iv2 rv K (pc + 3) lv st) : cw p l e d0 r0 s m args below meth c G A nL Q Pf ph L cl ln iv rv K pc lv (.int (iI z) :: .ref a :: st) := fun u hu kc ks hh => q_putF (k := k) C ck d lk hk hfin hi hd ha.1 (enc_ob ha hT hN h13) hn hfit (by rw [enc_put ha hT hN h13 hr]; exact kk _ rfl u hu kc ks hh)
theorem c_putrF (C : Cq p s m args meth c cc y ret G A nL) {a k idx ci N T : Nat} {Cn : String} {TT : u_T} {tyy : Nat → FieldType} {x : Option Nat} (ck : Ck ci Cn TT N tyy) (d : decode cc pc = .ok (.putfield idx, 3)) (lk : Cond.fieldLink y.cls idx (TT k).1 (TT k).2.1 (TT k).2.2.1 ∈ lw_g) (hk : k < N) (hfin : (TT k).2.2.2 = true) (hi : y.name = "<init>") (hd : (TT k).1 = y.cls) (ha : ty L cl a T) (hT : kd T = ci) (hN : nf ci = N) (h13 : ci < 13) (hr : rf ci k = true) (hn : narrow (tyy k) (va_rf x) = va_rf x) (hfit : fits (tyy k) (va_rf x) = true) (kk : ∀ rv2, rv2 = upr rv a k x → ∃ K2 : Nat, Pf ln rv + K ≤ Pf ln rv2 + K2 ∧ cw p l e d0 r0 s m args below meth c G A nL Q Pf ph L cl ln iv rv2 K2 (pc + 3) lv st) : cw p l e d0 r0 s m args below meth c G A nL Q Pf ph L cl ln iv rv K pc lv (va_rf x :: .ref a :: st) := fun u hu kc ks hh => q_putF (k := k) C ck d lk hk hfin hi hd ha.1 (enc_ob ha hT hN h13) hn hfit (by rw [enc_putr ha hT hN h13 hr]; obtain ⟨K2, h1, h2⟩ := kk _ rfl; exact h2 u (by omega) kc ks hh)
theorem c_putr (C : Cq p s m args meth c cc y ret G A nL) {a k idx ci N T : Nat} {Cn : String} {TT : u_T} {tyy : Nat → FieldType} {x : Option Nat} (ck : Ck ci Cn TT N tyy) (d : decode cc pc = .ok (.putfield idx, 3)) (lk : Cond.fieldLink y.cls idx (TT k).1 (TT k).2.1 (TT k).2.2.1 ∈ lw_g) (hk : k < N) (hfin : (TT k).2.2.2 = false) (ha : ty L cl a T) (hT : kd T = ci) (hN : nf ci = N) (h13 : ci < 13) (hr : rf ci k = true) (hn : narrow (tyy k) (va_rf x) = va_rf x) (hfit : fits (tyy k) (va_rf x) = true) (kk : ∀ rv2, rv2 = upr rv a k x → ∃ K2 : Nat, Pf ln rv + K ≤ Pf ln rv2 + K2 ∧ cw p l e d0 r0 s m args below meth c G A nL Q Pf ph L cl ln iv rv2 K2 (pc + 3) lv st) : cw p l e d0 r0 s m args below meth c G A nL Q Pf ph L cl ln iv rv K pc lv (va_rf x :: .ref a :: st) := fun u hu kc ks hh => q_put (k := k) C ck d lk hk hfin ha.1 (enc_ob ha hT hN h13) hn hfit (by rw [enc_putr ha hT hN h13 hr]; obtain ⟨K2, h1, h2⟩ := kk _ rfl; exact h2 u (by omega) kc ks hh)
theorem c_iald (C : Cq p s m args meth c cc y ret G A nL) {a T : Nat} {z : Int} (d : decode cc pc = .ok (.iaload, 1)) (ha : ty L cl a T) (hT : kd T = 20) (h1 : 0 ≤ z) (h2 : z < (ln a : Nat)) (hm : ln a ≤ 1000000) (kk : cw p l e d0 r0 s m args below meth c G A nL Q Pf ph L cl ln iv rv K (pc + 1) lv (.int (iI (iv a z.toNat)) :: st)) : cw p l e d0 r0 s m args below meth c G A nL Q Pf ph L cl ln iv rv K pc lv (.int (iI z) :: .ref a :: st) := fun u hu kc ks hh => q_iald C d ha.1 (enc_I ha hT) (iI_in ⟨by omega, by omega⟩ h1 h2) (by rw [iI_cl ⟨by omega, by omega⟩]) (kk u hu kc ks hh)
theorem c_zald (C : Cq p s m args meth c cc y ret G A nL) {a T : Nat} {z : Int} (d : decode cc pc = .ok (.baload, 1)) (ha : ty L cl a T) (hT : kd T = 21) (h1 : 0 ≤ z) (h2 : z < (ln a : Nat)) (hm : ln a ≤ 1000000) (kk : cw p l e d0 r0 s m args below meth c G A nL Q Pf ph L cl ln iv rv K (pc + 1) lv (.int (iI (iv a z.toNat)) :: st)) : cw p l e d0 r0 s m args below meth c G A nL Q Pf ph L cl ln iv rv K pc lv (.int (iI z) :: .ref a :: st) := fun u hu kc ks hh => q_zald C d ha.1 (enc_Z ha hT) (iI_in ⟨by omega, by omega⟩ h1 h2) (by rw [iI_cl ⟨by omega, by omega⟩]) (kk u hu kc ks hh)
theorem c_iast (C : Cq p s m args meth c cc y ret G A nL) {a T : Nat} {z x : Int} (d : decode cc pc = .ok (.iastore, 1)) (ha : ty L cl a T) (hT : kd T = 20) (h1 : 0 ≤ z) (h2 : z < (ln a : Nat)) (hm : ln a ≤ 1000000) (kk : ∀ iv2, iv2 = up2 iv a z.toNat x → cw p l e d0 r0 s m args below meth c G A nL Q Pf ph L cl ln iv2 rv K (pc + 1) lv st) : cw p l e d0 r0 s m args below meth c G A nL Q Pf ph L cl ln iv rv K pc lv (.int (iI x) :: .int (iI z) :: .ref a :: st) := by
  intro u hu kc ks hh
  refine q_iast C d ha.1 (enc_I ha hT) (iI_in ⟨by omega, by omega⟩ h1 h2) ?_
  rw [iI_cl ⟨by omega, by omega⟩]
  have e : upd (fun j => iI (iv a j)) z.toNat (iI x) = fun j => if j = z.toNat then iI x else iI (iv a j) := by funext j; unfold upd; rfl
  rw [e, enc_ast ha hT]
  exact kk _ rfl u hu kc ks hh
theorem c_zast (C : Cq p s m args meth c cc y ret G A nL) {a T : Nat} {z x : Int} (d : decode cc pc = .ok (.bastore, 1)) (ha : ty L cl a T) (hT : kd T = 21) (h1 : 0 ≤ z) (h2 : z < (ln a : Nat)) (hm : ln a ≤ 1000000) (hx : x = 0 ∨ x = 1) (kk : ∀ iv2, iv2 = up2 iv a z.toNat x → cw p l e d0 r0 s m args below meth c G A nL Q Pf ph L cl ln iv2 rv K (pc + 1) lv st) : cw p l e d0 r0 s m args below meth c G A nL Q Pf ph L cl ln iv rv K pc lv (.int (iI x) :: .int (iI z) :: .ref a :: st) := by
  intro u hu kc ks hh
  refine q_zast2 C d ha.1 (enc_Z ha hT) (iI_in ⟨by omega, by omega⟩ h1 h2) ?_
  rw [iI_cl ⟨by omega, by omega⟩, nar_b hx]
  have e : upd (fun j => iI (iv a j)) z.toNat (iI x) = fun j => if j = z.toNat then iI x else iI (iv a j) := by funext j; unfold upd; rfl
  rw [e, enc_zst ha hT]
  exact kk _ rfl u hu kc ks hh
theorem c_alenI (C : Cq p s m args meth c cc y ret G A nL) {a T : Nat} (d : decode cc pc = .ok (.arraylength, 1)) (ha : ty L cl a T) (hT : kd T = 20) (kk : cw p l e d0 r0 s m args below meth c G A nL Q Pf ph L cl ln iv rv K (pc + 1) lv (.int (iI ((ln a : Nat) : Int)) :: st)) : cw p l e d0 r0 s m args below meth c G A nL Q Pf ph L cl ln iv rv K pc lv (.ref a :: st) := fun u hu kc ks hh => q_alenI C d ha.1 (enc_I ha hT) Int32.ofInt_eq_ofNat.symm (kk u hu kc ks hh)
theorem c_alenO (C : Cq p s m args meth c cc y ret G A nL) {a T : Nat} (d : decode cc pc = .ok (.arraylength, 1)) (ha : ty L cl a T) (hT : kd T = 24) (kk : cw p l e d0 r0 s m args below meth c G A nL Q Pf ph L cl ln iv rv K (pc + 1) lv (.int (iI ((ln a : Nat) : Int)) :: st)) : cw p l e d0 r0 s m args below meth c G A nL Q Pf ph L cl ln iv rv K pc lv (.ref a :: st) := fun u hu kc ks hh => q_alenO C d ha.1 (enc_O ha hT) Int32.ofInt_eq_ofNat.symm (kk u hu kc ks hh)
theorem c_aaldL (C : Cq p s m args meth c cc y ret G A nL) {a T : Nat} {z : Int} {x : Option Nat} (d : decode cc pc = .ok (.aaload, 1)) (ha : ty L cl a T) (hT : kd T = 22) (h1 : 0 ≤ z) (h2 : z < (ln a : Nat)) (hm : ln a ≤ 1000000) (hx : rv a z.toNat = x) (kk : cw p l e d0 r0 s m args below meth c G A nL Q Pf ph L cl ln iv rv K (pc + 1) lv (va_rf x :: st)) : cw p l e d0 r0 s m args below meth c G A nL Q Pf ph L cl ln iv rv K pc lv (.int (iI z) :: .ref a :: st) := fun u hu kc ks hh => q_aaldL C d ha.1 (enc_L ha hT) (iI_in ⟨by omega, by omega⟩ h1 h2) (by rw [iI_cl ⟨by omega, by omega⟩, hx]) (kk u hu kc ks hh)
theorem c_aaldR (C : Cq p s m args meth c cc y ret G A nL) {a T : Nat} {z : Int} {x : Option Nat} (d : decode cc pc = .ok (.aaload, 1)) (ha : ty L cl a T) (hT : kd T = 23) (h1 : 0 ≤ z) (h2 : z < (ln a : Nat)) (hm : ln a ≤ 1000000) (hx : rv a z.toNat = x) (kk : cw p l e d0 r0 s m args below meth c G A nL Q Pf ph L cl ln iv rv K (pc + 1) lv (va_rf x :: st)) : cw p l e d0 r0 s m args below meth c G A nL Q Pf ph L cl ln iv rv K pc lv (.int (iI z) :: .ref a :: st) := fun u hu kc ks hh => q_aaldR C d ha.1 (enc_R ha hT) (iI_in ⟨by omega, by omega⟩ h1 h2) (by rw [iI_cl ⟨by omega, by omega⟩, hx]) (kk u hu kc ks hh)
theorem c_aaldO (C : Cq p s m args meth c cc y ret G A nL) {a T : Nat} {z : Int} {x : Option Nat} (d : decode cc pc = .ok (.aaload, 1)) (ha : ty L cl a T) (hT : kd T = 24) (h1 : 0 ≤ z) (h2 : z < (ln a : Nat)) (hm : ln a ≤ 1000000) (hx : rv a z.toNat = x) (kk : cw p l e d0 r0 s m args below meth c G A nL Q Pf ph L cl ln iv rv K (pc + 1) lv (va_rf x :: st)) : cw p l e d0 r0 s m args below meth c G A nL Q Pf ph L cl ln iv rv K pc lv (.int (iI z) :: .ref a :: st) := fun u hu kc ks hh => q_aaldO C d ha.1 (enc_O ha hT) (iI_in ⟨by omega, by omega⟩ h1 h2) (by rw [iI_cl ⟨by omega, by omega⟩, hx]) (kk u hu kc ks hh)
end CQ
section CQ2
variable {p : Program} {l : Launch} {e : Env} {s : State} {m : MethodId} {args : Array Value} {below : List Frame} {meth : Method} {c : Code} {cc : ByteArray} {y : MethodName} {ret : Option FieldType} {G : GT} {A : Nat → Prop} {nL mi : Nat} {Q : State → Prop} {L : List Nat} {E : Nat → va_E} {R : Room} {kc ks pc : Nat} {lv : List (Nat × Value)} {st : List Value}
theorem q_aastN (C : Cq p s m args meth c cc y ret G A nL) {a n t0 : Nat} {Cn : String} {cA : ClassId} {f : Nat → Option Nat} {i : Int32} (d : decode cc pc = .ok (.aastore, 1)) (ha : a ∈ L) (ht : (gT G)[t0]? = some (cA, .object Cn)) (hE : E a = .inl (cA, n, .inr (.inr (.inr (.inr f))))) (hin : vp_in i n) (kk : wq p l e R s m args below meth c G A nL Q L (va_up E a (.inl (cA, n, .inr (.inr (.inr (.inr (va_up f i.toNatClampNeg none))))))) kc ks (pc + 1) lv st) : wq p l e R s m args below meth c G A nL Q L E kc ks pc lv (.null :: .int i :: .ref a :: st) := by
  intro H locs ls hP hD hS hl
  obtain ⟨q0, hq⟩ := pl_at (E := E) ha
  refine va_astqN C.1 C.2.1 C.2.2.2.2.2.1 hP hD hS q0 t0 (by rw [hq, hE]) ht hin d (fun H1 locs1 hP1 hD1 hS1 => ?_)
  rw [pl_set hD ha hq] at hP1 hD1
  exact kk H1 locs1 ls hP1 hD1 hS1 hl
theorem q_aastC (C : Cq p s m args meth c cc y ret G A nL) {a b n t0 ci N : Nat} {cA : ClassId} {Cn : String} {TT : u_T} {tyy : Nat → FieldType} {f : Nat → Option Nat} {g : Nat → Value} {i : Int32} (ck : Ck ci Cn TT N tyy) (d : decode cc pc = .ok (.aastore, 1)) (ha : a ∈ L) (ht : (gT G)[t0]? = some (cA, .object Cn)) (hE : E a = .inl (cA, n, .inr (.inr (.inr (.inr f))))) (hb : b ∈ L) (hEb : E b = ob ci N g) (hin : vp_in i n) (kk : wq p l e R s m args below meth c G A nL Q L (va_up E a (.inl (cA, n, .inr (.inr (.inr (.inr (va_up f i.toNatClampNeg (some b)))))))) kc ks (pc + 1) lv st) : wq p l e R s m args below meth c G A nL Q L E kc ks pc lv (.ref b :: .int i :: .ref a :: st) := by
  intro H locs ls hP hD hS hl
  obtain ⟨q0, hq⟩ := pl_at (E := E) ha
  obtain ⟨q1, hq1⟩ := pl_at (E := E) hb
  refine va_astq C.1 C.2.1 C.2.2.2.2.2.1 hP hD hS q0 t0 q1 ci (r := (Cn, TT, N)) (by rw [hq, hE]) ht (by rw [hq1, hEb]; rfl) ck.1 hin d (fun H1 locs1 hP1 hD1 hS1 => ?_)
  rw [pl_set hD ha hq] at hP1 hD1
  exact kk H1 locs1 ls hP1 hD1 hS1 hl
end CQ2
section CQ3
variable {p : Program} {l : Launch} {e : Env} {d0 r0 : Nat} {s : State} {m : MethodId} {args : Array Value} {below : List Frame} {meth : Method} {c : Code} {cc : ByteArray} {y : MethodName} {ret : Option FieldType} {G : GT} {A : Nat → Prop} {nL mi : Nat} {Q : State → Prop} {Pf : PF} {ph : Nat} {L : List Nat} {cl ln : Nat → Nat} {iv : Nat → Nat → Int} {rv : Nat → Nat → Option Nat} {K pc : Nat} {lv : List (Nat × Value)} {st : List Value}
theorem c_aastL (C : Cq p s m args meth c cc y ret G A nL) {a b T T2 ci N : Nat} {z : Int} {TT : u_T} {tyy : Nat → FieldType} (ck : Ck ci RX2 TT N tyy) (d : decode cc pc = .ok (.aastore, 1)) (ha : ty L cl a T) (hT : kd T = 22) (hb : ty L cl b T2) (hT2 : kd T2 = ci) (hN : nf ci = N) (h13 : ci < 13) (h1 : 0 ≤ z) (h2 : z < (ln a : Nat)) (hm : ln a ≤ 1000000) (kk : ∀ rv2, rv2 = upr rv a z.toNat (some b) → ∃ K2 : Nat, Pf ln rv + K ≤ Pf ln rv2 + K2 ∧ cw p l e d0 r0 s m args below meth c G A nL Q Pf ph L cl ln iv rv2 K2 (pc + 1) lv st) : cw p l e d0 r0 s m args below meth c G A nL Q Pf ph L cl ln iv rv K pc lv (.ref b :: .int (iI z) :: .ref a :: st) := by
  intro u hu kc ks hh
  refine q_aastC (t0 := 2) (cA := G.2.2.2.1) C ck d ha.1 rfl (enc_L ha hT) hb.1 (enc_ob hb hT2 hN h13) (iI_in ⟨by omega, by omega⟩ h1 h2) ?_
  rw [iI_cl ⟨by omega, by omega⟩]
  obtain ⟨K2, g1, g2⟩ := kk _ rfl
  refine hv2 (enc_rst (G := G) (cl := cl) (ln := ln) (iv := iv) (rv := rv) (k := z.toNat) (x := some b) (mk := fun f => aL G (ln a) f) (fun r2 => enc_L (rv := r2) ha hT)) (show aL G (ln a) (va_up (rv a) z.toNat (some b)) = Sum.inl (G.2.2.2.1, ln a, .inr (.inr (.inr (.inr (va_up (rv a) z.toNat (some b)))))) from rfl) (fun e e2 => ?_)
  rw [← e2, e]
  exact g2 u (by omega) kc ks hh
theorem c_aastR (C : Cq p s m args meth c cc y ret G A nL) {a b T T2 ci N : Nat} {z : Int} {TT : u_T} {tyy : Nat → FieldType} (ck : Ck ci RX5 TT N tyy) (d : decode cc pc = .ok (.aastore, 1)) (ha : ty L cl a T) (hT : kd T = 23) (hb : ty L cl b T2) (hT2 : kd T2 = ci) (hN : nf ci = N) (h13 : ci < 13) (h1 : 0 ≤ z) (h2 : z < (ln a : Nat)) (hm : ln a ≤ 1000000) (kk : ∀ rv2, rv2 = upr rv a z.toNat (some b) → ∃ K2 : Nat, Pf ln rv + K ≤ Pf ln rv2 + K2 ∧ cw p l e d0 r0 s m args below meth c G A nL Q Pf ph L cl ln iv rv2 K2 (pc + 1) lv st) : cw p l e d0 r0 s m args below meth c G A nL Q Pf ph L cl ln iv rv K pc lv (.ref b :: .int (iI z) :: .ref a :: st) := by
  intro u hu kc ks hh
  refine q_aastC (t0 := 3) (cA := G.2.2.2.2.1) C ck d ha.1 rfl (enc_R ha hT) hb.1 (enc_ob hb hT2 hN h13) (iI_in ⟨by omega, by omega⟩ h1 h2) ?_
  rw [iI_cl ⟨by omega, by omega⟩]
  obtain ⟨K2, g1, g2⟩ := kk _ rfl
  refine hv2 (enc_rst (G := G) (cl := cl) (ln := ln) (iv := iv) (rv := rv) (k := z.toNat) (x := some b) (mk := fun f => aR G (ln a) f) (fun r2 => enc_R (rv := r2) ha hT)) (show aR G (ln a) (va_up (rv a) z.toNat (some b)) = Sum.inl (G.2.2.2.2.1, ln a, .inr (.inr (.inr (.inr (va_up (rv a) z.toNat (some b)))))) from rfl) (fun e e2 => ?_)
  rw [← e2, e]
  exact g2 u (by omega) kc ks hh
theorem c_aastNR (C : Cq p s m args meth c cc y ret G A nL) {a T : Nat} {z : Int} (d : decode cc pc = .ok (.aastore, 1)) (ha : ty L cl a T) (hT : kd T = 23) (h1 : 0 ≤ z) (h2 : z < (ln a : Nat)) (hm : ln a ≤ 1000000) (kk : ∀ rv2, rv2 = upr rv a z.toNat none → ∃ K2 : Nat, Pf ln rv + K ≤ Pf ln rv2 + K2 ∧ cw p l e d0 r0 s m args below meth c G A nL Q Pf ph L cl ln iv rv2 K2 (pc + 1) lv st) : cw p l e d0 r0 s m args below meth c G A nL Q Pf ph L cl ln iv rv K pc lv (.null :: .int (iI z) :: .ref a :: st) := by
  intro u hu kc ks hh
  refine q_aastN (t0 := 3) (cA := G.2.2.2.2.1) (Cn := RX5) C d ha.1 rfl (enc_R ha hT) (iI_in ⟨by omega, by omega⟩ h1 h2) ?_
  rw [iI_cl ⟨by omega, by omega⟩]
  obtain ⟨K2, g1, g2⟩ := kk _ rfl
  refine hv2 (enc_rst (G := G) (cl := cl) (ln := ln) (iv := iv) (rv := rv) (k := z.toNat) (x := none) (mk := fun f => aR G (ln a) f) (fun r2 => enc_R (rv := r2) ha hT)) (show aR G (ln a) (va_up (rv a) z.toNat none) = Sum.inl (G.2.2.2.2.1, ln a, .inr (.inr (.inr (.inr (va_up (rv a) z.toNat none))))) from rfl) (fun e e2 => ?_)
  rw [← e2, e]
  exact g2 u (by omega) kc ks hh
theorem c_aastO (C : Cq p s m args meth c cc y ret G A nL) {a b T T2 ci N : Nat} {z : Int} {Cn : String} {TT : u_T} {tyy : Nat → FieldType} (ck : Ck ci Cn TT N tyy) (hc : Cond.castable Cn "java/lang/Object" ∈ lw_tbl) (d : decode cc pc = .ok (.aastore, 1)) (ha : ty L cl a T) (hT : kd T = 24) (hb : ty L cl b T2) (hT2 : kd T2 = ci) (hN : nf ci = N) (h13 : ci < 13) (h1 : 0 ≤ z) (h2 : z < (ln a : Nat)) (hm : ln a ≤ 1000000) (kk : ∀ rv2, rv2 = upr rv a z.toNat (some b) → ∃ K2 : Nat, Pf ln rv + K ≤ Pf ln rv2 + K2 ∧ cw p l e d0 r0 s m args below meth c G A nL Q Pf ph L cl ln iv rv2 K2 (pc + 1) lv st) : cw p l e d0 r0 s m args below meth c G A nL Q Pf ph L cl ln iv rv K pc lv (.ref b :: .int (iI z) :: .ref a :: st) := by
  intro u hu kc ks hh
  refine q_aastO C ck d hc ha.1 (enc_O ha hT) hb.1 (enc_ob hb hT2 hN h13) (iI_in ⟨by omega, by omega⟩ h1 h2) ?_
  rw [iI_cl ⟨by omega, by omega⟩]
  obtain ⟨K2, g1, g2⟩ := kk _ rfl
  rw [enc_rst (G := G) (cl := cl) (ln := ln) (iv := iv) (rv := rv) (k := z.toNat) (x := some b) (mk := fun f => aO G (ln a) f) (fun r2 => enc_O (rv := r2) ha hT)]
  exact g2 u (by omega) kc ks hh
theorem c_aastNO (C : Cq p s m args meth c cc y ret G A nL) {a T : Nat} {z : Int} (d : decode cc pc = .ok (.aastore, 1)) (ha : ty L cl a T) (hT : kd T = 24) (h1 : 0 ≤ z) (h2 : z < (ln a : Nat)) (hm : ln a ≤ 1000000) (kk : ∀ rv2, rv2 = upr rv a z.toNat none → ∃ K2 : Nat, Pf ln rv + K ≤ Pf ln rv2 + K2 ∧ cw p l e d0 r0 s m args below meth c G A nL Q Pf ph L cl ln iv rv2 K2 (pc + 1) lv st) : cw p l e d0 r0 s m args below meth c G A nL Q Pf ph L cl ln iv rv K pc lv (.null :: .int (iI z) :: .ref a :: st) := by
  intro u hu kc ks hh
  refine q_aastN (t0 := 4) (cA := G.2.2.2.2.2.1) (Cn := "java/lang/Object") C d ha.1 rfl (enc_O ha hT) (iI_in ⟨by omega, by omega⟩ h1 h2) ?_
  rw [iI_cl ⟨by omega, by omega⟩]
  obtain ⟨K2, g1, g2⟩ := kk _ rfl
  refine hv2 (enc_rst (G := G) (cl := cl) (ln := ln) (iv := iv) (rv := rv) (k := z.toNat) (x := none) (mk := fun f => aO G (ln a) f) (fun r2 => enc_O (rv := r2) ha hT)) (show aO G (ln a) (va_up (rv a) z.toNat none) = Sum.inl (G.2.2.2.2.2.1, ln a, .inr (.inr (.inr (.inr (va_up (rv a) z.toNat none))))) from rfl) (fun e e2 => ?_)
  rw [← e2, e]
  exact g2 u (by omega) kc ks hh
theorem c_cast (C : Cq p s m args meth c cc y ret G A nL) {a T ci N idx : Nat} {Cn nm : String} {TT : u_T} {tyy : Nat → FieldType} (ck : Ck ci Cn TT N tyy) (d : decode cc pc = .ok (.checkcast idx, 3)) (lk : Cond.classLink y.cls idx nm ∈ lw_g) (hc : Cond.castable Cn nm ∈ lw_tbl) (ha : ty L cl a T) (hT : kd T = ci) (hN : nf ci = N) (h13 : ci < 13) (kk : cw p l e d0 r0 s m args below meth c G A nL Q Pf ph L cl ln iv rv K (pc + 3) lv (.ref a :: st)) : cw p l e d0 r0 s m args below meth c G A nL Q Pf ph L cl ln iv rv K pc lv (.ref a :: st) := by
  intro u hu kc ks hh H locs ls hP hD hS hl
  obtain ⟨q0, hq⟩ := pl_at (E := enc G cl ln iv rv) ha.1
  exact va_castY C.1 C.2.1 C.2.2.2.1 (C.2.2.2.2.1 _ lk) (C.2.2.2.2.2.2.2.2.2.2.2.2.1 _ _ hc) (va_recv C.2.2.2.2.2.1 hP (ci := ci) (q0 := q0) ck.1 (by rw [hq, enc_ob ha hT hN h13]; rfl)) d (kk u hu kc ks hh H locs ls hP hD hS hl)
theorem c_tabIn (C : Cq p s m args meth c cc y ret G A nL) {dflt lo hi z off : Int} {offs : Array Int} {len tgt : Nat} (hz : R32 z) (d : decode cc pc = .ok (.tableswitch dflt lo hi offs, len)) (h1 : ¬ z < lo) (h2 : ¬ hi < z) (ho : offs[(z - lo).toNat]? = some off) (ht : (pc : Int) + off = (tgt : Int)) (k : cw p l e d0 r0 s m args below meth c G A nL Q Pf ph L cl ln iv rv K tgt lv st) : cw p l e d0 r0 s m args below meth c G A nL Q Pf ph L cl ln iv rv K pc lv (.int (iI z) :: st) := fun uu huu kc ks hkk H locs ls hP hD hS hl => lv_tableIn C.1 C.2.1 d (by rw [iI_int hz]; exact h1) (by rw [iI_int hz]; exact h2) (by rw [iI_int hz]; exact ho) ht (k uu huu kc ks hkk H locs ls hP hD hS hl)
theorem c_tabOut (C : Cq p s m args meth c cc y ret G A nL) {dflt lo hi z : Int} {offs : Array Int} {len tgt : Nat} (hz : R32 z) (d : decode cc pc = .ok (.tableswitch dflt lo hi offs, len)) (h1 : z < lo ∨ hi < z) (ht : (pc : Int) + dflt = (tgt : Int)) (k : cw p l e d0 r0 s m args below meth c G A nL Q Pf ph L cl ln iv rv K tgt lv st) : cw p l e d0 r0 s m args below meth c G A nL Q Pf ph L cl ln iv rv K pc lv (.int (iI z) :: st) := fun uu huu kc ks hkk H locs ls hP hD hS hl => lv_tableOut C.1 C.2.1 d (by rw [iI_int hz]; exact h1) ht (k uu huu kc ks hkk H locs ls hP hD hS hl)
theorem c_dup_x1 (C : Cq p s m args meth c cc y ret G A nL) {v w : Value} (d : decode cc pc = .ok (.dup_x1, 1)) (hv : v.category = 1) (hw : w.category = 1) (k : cw p l e d0 r0 s m args below meth c G A nL Q Pf ph L cl ln iv rv K (pc + 1) lv (v :: w :: v :: st)) : cw p l e d0 r0 s m args below meth c G A nL Q Pf ph L cl ln iv rv K pc lv (v :: w :: st) := fun u hu kc ks hk => q_dup_x1 C d hv hw (k u hu kc ks hk)
theorem c_acmp_eq (C : Cq p s m args meth c cc y ret G A nL) {rx ry : Option Nat} {off : Int} {tgt : Nat} (d : decode cc pc = .ok (.if_acmp .eq off, 3)) (ht : (pc : Int) + off = (tgt : Int)) (kt : rx = ry → cw p l e d0 r0 s m args below meth c G A nL Q Pf ph L cl ln iv rv K tgt lv st) (kf : ¬ rx = ry → cw p l e d0 r0 s m args below meth c G A nL Q Pf ph L cl ln iv rv K (pc + 3) lv st) : cw p l e d0 r0 s m args below meth c G A nL Q Pf ph L cl ln iv rv K pc lv (va_rf ry :: va_rf rx :: st) := fun u hu kc ks hk => q_acmp_eq C d ht (fun h => kt h u hu kc ks hk) (fun h => kf h u hu kc ks hk)
theorem c_acmp_ne (C : Cq p s m args meth c cc y ret G A nL) {rx ry : Option Nat} {off : Int} {tgt : Nat} (d : decode cc pc = .ok (.if_acmp .ne off, 3)) (ht : (pc : Int) + off = (tgt : Int)) (kt : ¬ rx = ry → cw p l e d0 r0 s m args below meth c G A nL Q Pf ph L cl ln iv rv K tgt lv st) (kf : rx = ry → cw p l e d0 r0 s m args below meth c G A nL Q Pf ph L cl ln iv rv K (pc + 3) lv st) : cw p l e d0 r0 s m args below meth c G A nL Q Pf ph L cl ln iv rv K pc lv (va_rf ry :: va_rf rx :: st) := fun u hu kc ks hk => q_acmp_ne C d ht (fun h => kt h u hu kc ks hk) (fun h => kf h u hu kc ks hk)
theorem c_ifnull (C : Cq p s m args meth c cc y ret G A nL) {r : Option Nat} {off : Int} {tgt : Nat} (d : decode cc pc = .ok (.ifnull off, 3)) (ht : (pc : Int) + off = (tgt : Int)) (kt : r = none → cw p l e d0 r0 s m args below meth c G A nL Q Pf ph L cl ln iv rv K tgt lv st) (kf : ∀ b, r = some b → cw p l e d0 r0 s m args below meth c G A nL Q Pf ph L cl ln iv rv K (pc + 3) lv st) : cw p l e d0 r0 s m args below meth c G A nL Q Pf ph L cl ln iv rv K pc lv (va_rf r :: st) := by
  cases r with
  | none => exact fun u hu kc ks hk => q_ifnullN C d ht (kt rfl u hu kc ks hk)
  | some x => exact fun u hu kc ks hk => q_ifnull C d (kf x rfl u hu kc ks hk)
theorem c_ifnonnull (C : Cq p s m args meth c cc y ret G A nL) {r : Option Nat} {off : Int} {tgt : Nat} (d : decode cc pc = .ok (.ifnonnull off, 3)) (ht : (pc : Int) + off = (tgt : Int)) (kt : ∀ b, r = some b → cw p l e d0 r0 s m args below meth c G A nL Q Pf ph L cl ln iv rv K tgt lv st) (kf : r = none → cw p l e d0 r0 s m args below meth c G A nL Q Pf ph L cl ln iv rv K (pc + 3) lv st) : cw p l e d0 r0 s m args below meth c G A nL Q Pf ph L cl ln iv rv K pc lv (va_rf r :: st) := by
  cases r with
  | none => exact fun u hu kc ks hk => q_ifnonnullN C d (kf rfl u hu kc ks hk)
  | some x => exact fun u hu kc ks hk => q_ifnonnull C d ht (kt x rfl u hu kc ks hk)
theorem c_gets (C : Cq p s m args meth c cc y ret G A nL) {idx : Nat} (d : decode cc pc = .ok (.getstatic idx, 3)) (lk : Cond.fieldLink y.cls idx "java/util/ArrayList" "DEFAULTCAPACITY_EMPTY_ELEMENTDATA" "[Ljava/lang/Object;" ∈ lw_g) (k : cw p l e d0 r0 s m args below meth c G A nL Q Pf ph L cl ln iv rv K (pc + 3) lv (.ref (g0 G) :: st)) : cw p l e d0 r0 s m args below meth c G A nL Q Pf ph L cl ln iv rv K pc lv st := fun u hu kc ks hk => q_gets C d lk (k u hu kc ks hk)
theorem c_tlen (C : Cq p s m args meth c cc y ret G A nL) (d : decode cc pc = .ok (.arraylength, 1)) (k : cw p l e d0 r0 s m args below meth c G A nL Q Pf ph L cl ln iv rv K (pc + 1) lv (.int (iI 0) :: st)) : cw p l e d0 r0 s m args below meth c G A nL Q Pf ph L cl ln iv rv K pc lv (.ref (g0 G) :: st) := fun u hu kc ks hk => q_tlen C d (k u hu kc ks hk)
theorem c_mmax (C : Cq p s m args meth c cc y ret G A nL) {idx : Nat} {x y2 w : Int32} (d : decode cc pc = .ok (.invokestatic idx, 3)) (lk : Cond.methodLink y.cls idx Lib.Math.max.name ∈ lw_g) (h1 : Cond.static Lib.Math.max.name ∈ lw_g) (h2 : Cond.initialized "java/lang/Math" ∈ lw_g) (h3 : Cond.code Lib.Math.max.name Lib.Math.max.code 2 (some .int) ∈ lw_g) (hd : 1 ≤ d0) (hro : Pf ln rv + K ≤ r0 + ph) (hst : (st.map fun v => v.category).sum ≤ 8) (hv : (if x < y2 then y2 else x) = w) (kk : cw p l e d0 r0 s m args below meth c G A nL Q Pf ph L cl ln iv rv K (pc + 3) lv (.int w :: st)) : cw p l e d0 r0 s m args below meth c G A nL Q Pf ph L cl ln iv rv K pc lv (.int y2 :: .int x :: st) := fun u hu kc ks hk => q_mmax C d lk h1 h2 h3 ⟨hd, by show 21 ≤ 64 * d0; omega⟩ (u_wid hk (by omega)) hst hv (kk u hu kc ks hk)
theorem c_mmin (C : Cq p s m args meth c cc y ret G A nL) {idx : Nat} {x y2 w : Int32} (d : decode cc pc = .ok (.invokestatic idx, 3)) (lk : Cond.methodLink y.cls idx Lib.Math.min.name ∈ lw_g) (h1 : Cond.static Lib.Math.min.name ∈ lw_g) (h2 : Cond.initialized "java/lang/Math" ∈ lw_g) (h3 : Cond.code Lib.Math.min.name Lib.Math.min.code 2 (some .int) ∈ lw_g) (hd : 1 ≤ d0) (hro : Pf ln rv + K ≤ r0 + ph) (hst : (st.map fun v => v.category).sum ≤ 8) (hv : (if y2 < x then y2 else x) = w) (kk : cw p l e d0 r0 s m args below meth c G A nL Q Pf ph L cl ln iv rv K (pc + 3) lv (.int w :: st)) : cw p l e d0 r0 s m args below meth c G A nL Q Pf ph L cl ln iv rv K pc lv (.int y2 :: .int x :: st) := fun u hu kc ks hk => q_mmin C d lk h1 h2 h3 ⟨hd, by show 21 ≤ 64 * d0; omega⟩ (u_wid hk (by omega)) hst hv (kk u hu kc ks hk)
theorem c_callS0 (C : Cq p s m args meth c cc y ret G A nL) {y2 : MethodName} {cc2 : ByteArray} {n2 d2 idx k2 : Nat} {ret2 : Option FieldType} {r2 : Value} {As rest : List Value} (M : ∀ (L : List Nat) (E : Nat → va_E), Mq l G y2 cc2 n2 ret2 d2 As L E 0 0 (fun r L2 E2 => r = some r2 ∧ L2 = L ∧ E2 = E)) (d : decode cc pc = .ok (.invokestatic idx, 3)) (hw : Ws y.cls idx y2 cc2 n2 ret2 k2) (hk : As.length = k2) (hst : st = As.reverse ++ rest) (hcat : (rest.map fun v => v.category).sum ≤ 8) (hR : d2 + 1 ≤ d0 ∧ 8 + (n2 + 11) + 64 * d2 ≤ 64 * d0) (hro : Pf ln rv + K ≤ r0 + ph) (kk : cw p l e d0 r0 s m args below meth c G A nL Q Pf ph L cl ln iv rv K (pc + 3) lv (r2 :: rest)) : cw p l e d0 r0 s m args below meth c G A nL Q Pf ph L cl ln iv rv K pc lv st := fun u hu kc ks hh => q_callS C (M L _) d hw hk hst hcat hR (u_wid hh (by omega)) (fun r L2 E2 ⟨h1, h2, h3⟩ => by subst h1; subst h2; subst h3; exact kk u hu kc ks hh)
theorem c_callSN0 (C : Cq p s m args meth c cc y ret G A nL) {y2 : MethodName} {host : String} {cc2 : ByteArray} {n2 d2 idx k2 : Nat} {ret2 : Option FieldType} {r2 : Value} {As rest : List Value} (M : ∀ (L : List Nat) (E : Nat → va_E), Mq l G y2 cc2 n2 ret2 d2 As L E 0 0 (fun r L2 E2 => r = some r2 ∧ L2 = L ∧ E2 = E)) (d : decode cc pc = .ok (.invokestatic idx, 3)) (hw : Wns y.cls idx y2 host cc2 n2 ret2 k2) (hk : As.length = k2) (hst : st = As.reverse ++ rest) (hcat : (rest.map fun v => v.category).sum ≤ 8) (hR : d2 + 1 ≤ d0 ∧ 8 + (n2 + 11) + 64 * d2 ≤ 64 * d0) (hro : Pf ln rv + K ≤ r0 + ph) (kk : cw p l e d0 r0 s m args below meth c G A nL Q Pf ph L cl ln iv rv K (pc + 3) lv (r2 :: rest)) : cw p l e d0 r0 s m args below meth c G A nL Q Pf ph L cl ln iv rv K pc lv st := fun u hu kc ks hh => q_callSN C (M L _) d hw hk hst hcat hR (u_wid hh (by omega)) (fun r L2 E2 ⟨h1, h2, h3⟩ => by subst h1; subst h2; subst h3; exact kk u hu kc ks hh)
theorem c_objInit (C : Cq p s m args meth c cc y ret G A nL) {idx a : Nat} (d : decode cc pc = .ok (.invokespecial idx, 3)) (lk : Cond.methodLink y.cls idx Lib.objectInit ∈ lw_g) (hi : Cond.instanceMethod Lib.objectInit ∈ lw_g) (hc : Cond.code Lib.objectInit ⟨#[0xb1]⟩ 1 none ∈ lw_g) (hd : 1 ≤ d0) (hst : (st.map fun v => v.category).sum ≤ 8) (kk : cw p l e d0 r0 s m args below meth c G A nL Q Pf ph L cl ln iv rv K (pc + 3) lv st) : cw p l e d0 r0 s m args below meth c G A nL Q Pf ph L cl ln iv rv K pc lv (.ref a :: st) := fun u hu kc ks hk => q_objInit C d lk hi hc ⟨hd, by show 20 ≤ 64 * d0; omega⟩ hst (kk u hu kc ks hk)
theorem c_new (C : Cq p s m args meth c cc y ret G A nL) {ci N idx : Nat} {Cn : String} {TT : u_T} {tyy : Nat → FieldType} (ck : Ck ci Cn TT N tyy) (hv : ∀ j, j < N → defaultValue (tyy j) = ofv ci (fun _ => 0) (fun _ => none) j) (hT : kd (200 + ci) = ci ∧ bt (200 + ci) = 200 + ci) (hN : nf ci = N) (h13 : ci < 13) (d : decode cc pc = .ok (.new idx, 3)) (lk : Cond.classLink y.cls idx Cn ∈ lw_g) (hi : Cond.instantiable Cn N ∈ lw_g) (hn : Cond.initialized Cn ∈ lw_g) (hro : Pf ln rv + K + (16 + N) ≤ r0 + ph) (kk : ∀ (q : Nat) (cl2 ln2 : Nat → Nat) (iv2 : Nat → Nat → Int) (rv2 : Nat → Nat → Option Nat), q ∉ L → cl2 = va_up cl q (200 + ci) → ln2 = ln → iv2 = up0 iv q 0 → rv2 = up0 rv q none → ∃ K2 : Nat, Pf ln rv + K + (16 + N) ≤ Pf ln2 rv2 + K2 ∧ cw p l e d0 r0 s m args below meth c G A nL Q Pf ph (L ++ [q]) cl2 ln2 iv2 rv2 K2 (pc + 3) lv (.ref q :: st)) : cw p l e d0 r0 s m args below meth c G A nL Q Pf ph L cl ln iv rv K pc lv st := by
  intro u hu kc ks hh
  refine q_new C ck d lk hi hn ⟨by show kc + 1 ≤ r0 / 16; omega, by show ks + N ≤ r0; omega⟩ (fun q hq => ?_)
  obtain ⟨K2, g1, g2⟩ := kk q _ _ _ _ hq rfl rfl rfl rfl
  have e : va_up (enc G cl ln iv rv) q (ob ci N (fun j => defaultValue (tyy j))) = enc G (va_up cl q (200 + ci)) ln (up0 iv q 0) (up0 rv q none) := by
    refine enc_up (fun b hb => ⟨va_up_ne _ _ hb, rfl, up0_a hb, up0_a hb⟩) ?_
    have h2 : ty (L ++ [q]) (va_up cl q (200 + ci)) q (200 + ci) := ⟨List.mem_append_right _ List.mem_cons_self, by rw [va_up_self]; exact hT.2⟩
    rw [enc_ob h2 hT.1 hN h13]
    refine ob_ext (fun j hj => ?_)
    rw [hv j hj]
    unfold ofv
    rw [up0_s, up0_s]
  rw [e]
  exact g2 (u + (16 + N)) (by omega) _ _ (by omega)
theorem c_newaI (C : Cq p s m args meth c cc y ret G A nL) {z : Int} {N : Nat} (t : Nat)  (d : decode cc pc = .ok (.newarray .int, 2)) (lk : Cond.arrayClass .int ∈ lw_g) (hT : kd (bt t) = 20) (hz : z = (N : Int)) (hb : N ≤ 100000) (hro : Pf ln rv + K + (16 + N) ≤ r0 + ph) (kk : ∀ (q : Nat) (cl2 ln2 : Nat → Nat) (iv2 : Nat → Nat → Int) (rv2 : Nat → Nat → Option Nat), q ∉ L → cl2 = va_up cl q t → ln2 = va_up ln q N → iv2 = up0 iv q 0 → rv2 = up0 rv q none → ∃ K2 : Nat, Pf ln rv + K + (16 + N) ≤ Pf ln2 rv2 + K2 ∧ cw p l e d0 r0 s m args below meth c G A nL Q Pf ph (L ++ [q]) cl2 ln2 iv2 rv2 K2 (pc + 2) lv (.ref q :: st)) : cw p l e d0 r0 s m args below meth c G A nL Q Pf ph L cl ln iv rv K pc lv (.int (iI z) :: st) := by
  intro u hu kc ks hh
  subst hz
  have hr : R32 (N : Int) := ⟨by omega, by omega⟩
  refine q_newaI (N := N) C d lk (by rw [show (0 : Int32) = iI 0 from rfl, iI_lt hr R32_0]; omega) (by rw [iI_cl hr]; omega) hb ⟨by show kc + 1 ≤ r0 / 16; omega, by show ks + N ≤ r0; omega⟩ (fun q hq => ?_)
  obtain ⟨K2, g1, g2⟩ := kk q _ _ _ _ hq rfl rfl rfl rfl
  have e : va_up (enc G cl ln iv rv) q (aI G N (fun _ => 0)) = enc G (va_up cl q t) (va_up ln q N) (up0 iv q 0) (up0 rv q none) := by
    refine enc_up (fun b hb => ⟨va_up_ne _ _ hb, va_up_ne _ _ hb, up0_a hb, up0_a hb⟩) ?_
    have h2 : ty (L ++ [q]) (va_up cl q t) q (bt t) := ⟨List.mem_append_right _ List.mem_cons_self, by rw [va_up_self]⟩
    rw [enc_I h2 hT, va_up_self]
    congr 1
    funext j
    rw [up0_s]; rfl
  rw [e]
  exact g2 (u + (16 + N)) (by omega) _ _ (by omega)
theorem c_newaZ (C : Cq p s m args meth c cc y ret G A nL) {z : Int} {N : Nat} (t : Nat)  (d : decode cc pc = .ok (.newarray .boolean, 2)) (lk : Cond.arrayClass .boolean ∈ lw_g) (hT : kd (bt t) = 21) (hz : z = (N : Int)) (hb : N ≤ 100000) (hro : Pf ln rv + K + (16 + N) ≤ r0 + ph) (kk : ∀ (q : Nat) (cl2 ln2 : Nat → Nat) (iv2 : Nat → Nat → Int) (rv2 : Nat → Nat → Option Nat), q ∉ L → cl2 = va_up cl q t → ln2 = va_up ln q N → iv2 = up0 iv q 0 → rv2 = up0 rv q none → ∃ K2 : Nat, Pf ln rv + K + (16 + N) ≤ Pf ln2 rv2 + K2 ∧ cw p l e d0 r0 s m args below meth c G A nL Q Pf ph (L ++ [q]) cl2 ln2 iv2 rv2 K2 (pc + 2) lv (.ref q :: st)) : cw p l e d0 r0 s m args below meth c G A nL Q Pf ph L cl ln iv rv K pc lv (.int (iI z) :: st) := by
  intro u hu kc ks hh
  subst hz
  have hr : R32 (N : Int) := ⟨by omega, by omega⟩
  refine q_newaZ (N := N) C d lk (by rw [show (0 : Int32) = iI 0 from rfl, iI_lt hr R32_0]; omega) (by rw [iI_cl hr]; omega) hb ⟨by show kc + 1 ≤ r0 / 16; omega, by show ks + N ≤ r0; omega⟩ (fun q hq => ?_)
  obtain ⟨K2, g1, g2⟩ := kk q _ _ _ _ hq rfl rfl rfl rfl
  have e : va_up (enc G cl ln iv rv) q (aZ G N (fun _ => 0)) = enc G (va_up cl q t) (va_up ln q N) (up0 iv q 0) (up0 rv q none) := by
    refine enc_up (fun b hb => ⟨va_up_ne _ _ hb, va_up_ne _ _ hb, up0_a hb, up0_a hb⟩) ?_
    have h2 : ty (L ++ [q]) (va_up cl q t) q (bt t) := ⟨List.mem_append_right _ List.mem_cons_self, by rw [va_up_self]⟩
    rw [enc_Z h2 hT, va_up_self]
    congr 1
    funext j
    rw [up0_s]; rfl
  rw [e]
  exact g2 (u + (16 + N)) (by omega) _ _ (by omega)
theorem c_newaL (C : Cq p s m args meth c cc y ret G A nL) {z : Int} {N : Nat} (t : Nat) {idx : Nat} (d : decode cc pc = .ok (.anewarray idx, 3)) (lk : Cond.classLink y.cls idx RX2 ∈ lw_g) (lo : Cond.arrayOver (.object RX2) ∈ lw_tbl) (hT : kd (bt t) = 22) (hz : z = (N : Int)) (hb : N ≤ 100000) (hro : Pf ln rv + K + (16 + N) ≤ r0 + ph) (kk : ∀ (q : Nat) (cl2 ln2 : Nat → Nat) (iv2 : Nat → Nat → Int) (rv2 : Nat → Nat → Option Nat), q ∉ L → cl2 = va_up cl q t → ln2 = va_up ln q N → iv2 = up0 iv q 0 → rv2 = up0 rv q none → ∃ K2 : Nat, Pf ln rv + K + (16 + N) ≤ Pf ln2 rv2 + K2 ∧ cw p l e d0 r0 s m args below meth c G A nL Q Pf ph (L ++ [q]) cl2 ln2 iv2 rv2 K2 (pc + 3) lv (.ref q :: st)) : cw p l e d0 r0 s m args below meth c G A nL Q Pf ph L cl ln iv rv K pc lv (.int (iI z) :: st) := by
  intro u hu kc ks hh
  subst hz
  have hr : R32 (N : Int) := ⟨by omega, by omega⟩
  refine q_newqL (N := N) C d lk lo (by rw [show (0 : Int32) = iI 0 from rfl, iI_lt hr R32_0]; omega) (by rw [iI_cl hr]; omega) hb ⟨by show kc + 1 ≤ r0 / 16; omega, by show ks + N ≤ r0; omega⟩ (fun q hq => ?_)
  obtain ⟨K2, g1, g2⟩ := kk q _ _ _ _ hq rfl rfl rfl rfl
  have e : va_up (enc G cl ln iv rv) q (aL G N (fun _ => none)) = enc G (va_up cl q t) (va_up ln q N) (up0 iv q 0) (up0 rv q none) := by
    refine enc_up (fun b hb => ⟨va_up_ne _ _ hb, va_up_ne _ _ hb, up0_a hb, up0_a hb⟩) ?_
    have h2 : ty (L ++ [q]) (va_up cl q t) q (bt t) := ⟨List.mem_append_right _ List.mem_cons_self, by rw [va_up_self]⟩
    rw [enc_L h2 hT, va_up_self]
    congr 1
    funext j
    rw [up0_s]
  rw [e]
  exact g2 (u + (16 + N)) (by omega) _ _ (by omega)
theorem c_newaR (C : Cq p s m args meth c cc y ret G A nL) {z : Int} {N : Nat} (t : Nat) {idx : Nat} (d : decode cc pc = .ok (.anewarray idx, 3)) (lk : Cond.classLink y.cls idx RX5 ∈ lw_g) (lo : Cond.arrayOver (.object RX5) ∈ lw_tbl) (hT : kd (bt t) = 23) (hz : z = (N : Int)) (hb : N ≤ 100000) (hro : Pf ln rv + K + (16 + N) ≤ r0 + ph) (kk : ∀ (q : Nat) (cl2 ln2 : Nat → Nat) (iv2 : Nat → Nat → Int) (rv2 : Nat → Nat → Option Nat), q ∉ L → cl2 = va_up cl q t → ln2 = va_up ln q N → iv2 = up0 iv q 0 → rv2 = up0 rv q none → ∃ K2 : Nat, Pf ln rv + K + (16 + N) ≤ Pf ln2 rv2 + K2 ∧ cw p l e d0 r0 s m args below meth c G A nL Q Pf ph (L ++ [q]) cl2 ln2 iv2 rv2 K2 (pc + 3) lv (.ref q :: st)) : cw p l e d0 r0 s m args below meth c G A nL Q Pf ph L cl ln iv rv K pc lv (.int (iI z) :: st) := by
  intro u hu kc ks hh
  subst hz
  have hr : R32 (N : Int) := ⟨by omega, by omega⟩
  refine q_newqR (N := N) C d lk lo (by rw [show (0 : Int32) = iI 0 from rfl, iI_lt hr R32_0]; omega) (by rw [iI_cl hr]; omega) hb ⟨by show kc + 1 ≤ r0 / 16; omega, by show ks + N ≤ r0; omega⟩ (fun q hq => ?_)
  obtain ⟨K2, g1, g2⟩ := kk q _ _ _ _ hq rfl rfl rfl rfl
  have e : va_up (enc G cl ln iv rv) q (aR G N (fun _ => none)) = enc G (va_up cl q t) (va_up ln q N) (up0 iv q 0) (up0 rv q none) := by
    refine enc_up (fun b hb => ⟨va_up_ne _ _ hb, va_up_ne _ _ hb, up0_a hb, up0_a hb⟩) ?_
    have h2 : ty (L ++ [q]) (va_up cl q t) q (bt t) := ⟨List.mem_append_right _ List.mem_cons_self, by rw [va_up_self]⟩
    rw [enc_R h2 hT, va_up_self]
    congr 1
    funext j
    rw [up0_s]
  rw [e]
  exact g2 (u + (16 + N)) (by omega) _ _ (by omega)
theorem c_newaO (C : Cq p s m args meth c cc y ret G A nL) {z : Int} {N : Nat} (t : Nat) {idx : Nat} (d : decode cc pc = .ok (.anewarray idx, 3)) (lk : Cond.classLink y.cls idx "java/lang/Object" ∈ lw_g) (lo : Cond.arrayOver (.object "java/lang/Object") ∈ lw_tbl) (hT : kd (bt t) = 24) (hz : z = (N : Int)) (hb : N ≤ 100000) (hro : Pf ln rv + K + (16 + N) ≤ r0 + ph) (kk : ∀ (q : Nat) (cl2 ln2 : Nat → Nat) (iv2 : Nat → Nat → Int) (rv2 : Nat → Nat → Option Nat), q ∉ L → cl2 = va_up cl q t → ln2 = va_up ln q N → iv2 = up0 iv q 0 → rv2 = up0 rv q none → ∃ K2 : Nat, Pf ln rv + K + (16 + N) ≤ Pf ln2 rv2 + K2 ∧ cw p l e d0 r0 s m args below meth c G A nL Q Pf ph (L ++ [q]) cl2 ln2 iv2 rv2 K2 (pc + 3) lv (.ref q :: st)) : cw p l e d0 r0 s m args below meth c G A nL Q Pf ph L cl ln iv rv K pc lv (.int (iI z) :: st) := by
  intro u hu kc ks hh
  subst hz
  have hr : R32 (N : Int) := ⟨by omega, by omega⟩
  refine q_newqO (N := N) C d lk lo (by rw [show (0 : Int32) = iI 0 from rfl, iI_lt hr R32_0]; omega) (by rw [iI_cl hr]; omega) hb ⟨by show kc + 1 ≤ r0 / 16; omega, by show ks + N ≤ r0; omega⟩ (fun q hq => ?_)
  obtain ⟨K2, g1, g2⟩ := kk q _ _ _ _ hq rfl rfl rfl rfl
  have e : va_up (enc G cl ln iv rv) q (aO G N (fun _ => none)) = enc G (va_up cl q t) (va_up ln q N) (up0 iv q 0) (up0 rv q none) := by
    refine enc_up (fun b hb => ⟨va_up_ne _ _ hb, va_up_ne _ _ hb, up0_a hb, up0_a hb⟩) ?_
    have h2 : ty (L ++ [q]) (va_up cl q t) q (bt t) := ⟨List.mem_append_right _ List.mem_cons_self, by rw [va_up_self]⟩
    rw [enc_O h2 hT, va_up_self]
    congr 1
    funext j
    rw [up0_s]
  rw [e]
  exact g2 (u + (16 + N)) (by omega) _ _ (by omega)
theorem c_callV (C : Cq p s m args meth c cc y ret G A nL) (hM : Mir mi s) {y2 : MethodName} {cc2 : ByteArray} {n2 d2 c2 pm2 idx k2 : Nat} {P2 : PC} {As rest : List Value} {Pf2 : PF} {b ci N T : Nat} {ret2 : Option FieldType} {TT : u_T} {tyy : Nat → FieldType} (M : Mc l G mi Pf2 pm2 y2 cc2 n2 ret2 d2 (.ref b :: As) L cl ln iv rv c2 P2) (d : decode cc pc = .ok (.invokevirtual idx, 3)) (hw : Wv y.cls idx y2 cc2 n2 ret2 k2) (hk : As.length = k2) (hb : ty L cl b T) (hT : kd T = ci) (hN : nf ci = N) (h13 : ci < 13) (ck : Ck ci y2.cls TT N tyy) (hst : st = As.reverse ++ .ref b :: rest) (hcat : (rest.map fun v => v.category).sum ≤ 8) (hR : d2 + 1 ≤ d0 ∧ 8 + (n2 + 11) + 64 * d2 ≤ 64 * d0) (hro : Pf ln rv + K + (pm2 + c2 - Pf2 ln rv) ≤ r0 + ph) (kk : ∀ (v : Option Value) (L2 : List Nat) (cl2 ln2 : Nat → Nat) (iv2 : Nat → Nat → Int) (rv2 : Nat → Nat → Option Nat), P2 v L2 cl2 ln2 iv2 rv2 → ∃ K2 : Nat, (∀ u2 : Nat, u2 + Pf2 ln rv ≤ Pf2 ln2 rv2 + c2 → u2 + Pf ln rv + K ≤ Pf ln2 rv2 + K2) ∧ cw p l e d0 r0 s m args below meth c G A nL Q Pf ph L2 cl2 ln2 iv2 rv2 K2 (pc + 3) lv (v.toList ++ rest)) : cw p l e d0 r0 s m args below meth c G A nL Q Pf ph L cl ln iv rv K pc lv st := fun u hu kc ks hh => u_callV C hM M d hw hk hb.1 (enc_ob hb hT hN h13) ck hst hcat hR (by omega) (fun v L2 E2 u2 ⟨cl2, ln2, iv2, rv2, h1, h2, h3⟩ => by subst h1; obtain ⟨K2, g1, g2⟩ := kk v L2 cl2 ln2 iv2 rv2 h3; have g3 := g1 u2 h2; exact g2 (u + u2) (by omega)) kc ks hh
theorem c_callI (C : Cq p s m args meth c cc y ret G A nL) (hM : Mir mi s) {y2 : MethodName} {cc2 : ByteArray} {n2 d2 c2 pm2 idx k2 : Nat} {P2 : PC} {As rest : List Value} {Pf2 : PF} {b : Nat} (M : Mc l G mi Pf2 pm2 y2 cc2 n2 none d2 (.ref b :: As) L cl ln iv rv c2 P2) (d : decode cc pc = .ok (.invokespecial idx, 3)) (hw : Wi y.cls idx y2 cc2 n2 k2) (hk : As.length = k2) (hst : st = As.reverse ++ .ref b :: rest) (hcat : (rest.map fun v => v.category).sum ≤ 8) (hR : d2 + 1 ≤ d0 ∧ 8 + (n2 + 11) + 64 * d2 ≤ 64 * d0) (hro : Pf ln rv + K + (pm2 + c2 - Pf2 ln rv) ≤ r0 + ph) (kk : ∀ (v : Option Value) (L2 : List Nat) (cl2 ln2 : Nat → Nat) (iv2 : Nat → Nat → Int) (rv2 : Nat → Nat → Option Nat), P2 v L2 cl2 ln2 iv2 rv2 → ∃ K2 : Nat, (∀ u2 : Nat, u2 + Pf2 ln rv ≤ Pf2 ln2 rv2 + c2 → u2 + Pf ln rv + K ≤ Pf ln2 rv2 + K2) ∧ cw p l e d0 r0 s m args below meth c G A nL Q Pf ph L2 cl2 ln2 iv2 rv2 K2 (pc + 3) lv (v.toList ++ rest)) : cw p l e d0 r0 s m args below meth c G A nL Q Pf ph L cl ln iv rv K pc lv st := fun u hu kc ks hh => u_callI C hM M d hw hk hst hcat hR (by omega) (fun v L2 E2 u2 ⟨cl2, ln2, iv2, rv2, h1, h2, h3⟩ => by subst h1; obtain ⟨K2, g1, g2⟩ := kk v L2 cl2 ln2 iv2 rv2 h3; have g3 := g1 u2 h2; exact g2 (u + u2) (by omega)) kc ks hh
theorem c_callIN (C : Cq p s m args meth c cc y ret G A nL) (hM : Mir mi s) {y2 : MethodName} {cc2 : ByteArray} {n2 d2 c2 pm2 idx k2 : Nat} {P2 : PC} {As rest : List Value} {Pf2 : PF} {b : Nat} {host : String} (M : Mc l G mi Pf2 pm2 y2 cc2 n2 none d2 (.ref b :: As) L cl ln iv rv c2 P2) (d : decode cc pc = .ok (.invokespecial idx, 3)) (hw : Wn y.cls idx y2 host cc2 n2 k2) (hk : As.length = k2) (hst : st = As.reverse ++ .ref b :: rest) (hcat : (rest.map fun v => v.category).sum ≤ 8) (hR : d2 + 1 ≤ d0 ∧ 8 + (n2 + 11) + 64 * d2 ≤ 64 * d0) (hro : Pf ln rv + K + (pm2 + c2 - Pf2 ln rv) ≤ r0 + ph) (kk : ∀ (v : Option Value) (L2 : List Nat) (cl2 ln2 : Nat → Nat) (iv2 : Nat → Nat → Int) (rv2 : Nat → Nat → Option Nat), P2 v L2 cl2 ln2 iv2 rv2 → ∃ K2 : Nat, (∀ u2 : Nat, u2 + Pf2 ln rv ≤ Pf2 ln2 rv2 + c2 → u2 + Pf ln rv + K ≤ Pf ln2 rv2 + K2) ∧ cw p l e d0 r0 s m args below meth c G A nL Q Pf ph L2 cl2 ln2 iv2 rv2 K2 (pc + 3) lv (v.toList ++ rest)) : cw p l e d0 r0 s m args below meth c G A nL Q Pf ph L cl ln iv rv K pc lv st := fun u hu kc ks hh => u_callIN C hM M d hw hk hst hcat hR (by omega) (fun v L2 E2 u2 ⟨cl2, ln2, iv2, rv2, h1, h2, h3⟩ => by subst h1; obtain ⟨K2, g1, g2⟩ := kk v L2 cl2 ln2 iv2 rv2 h3; have g3 := g1 u2 h2; exact g2 (u + u2) (by omega)) kc ks hh
theorem c_callS (C : Cq p s m args meth c cc y ret G A nL) (hM : Mir mi s) {y2 : MethodName} {cc2 : ByteArray} {n2 d2 c2 pm2 idx k2 : Nat} {P2 : PC} {As rest : List Value} {Pf2 : PF} {ret2 : Option FieldType} (M : Mc l G mi Pf2 pm2 y2 cc2 n2 ret2 d2 As L cl ln iv rv c2 P2) (d : decode cc pc = .ok (.invokestatic idx, 3)) (hw : Ws y.cls idx y2 cc2 n2 ret2 k2) (hk : As.length = k2) (hst : st = As.reverse ++ rest) (hcat : (rest.map fun v => v.category).sum ≤ 8) (hR : d2 + 1 ≤ d0 ∧ 8 + (n2 + 11) + 64 * d2 ≤ 64 * d0) (hro : Pf ln rv + K + (pm2 + c2 - Pf2 ln rv) ≤ r0 + ph) (kk : ∀ (v : Option Value) (L2 : List Nat) (cl2 ln2 : Nat → Nat) (iv2 : Nat → Nat → Int) (rv2 : Nat → Nat → Option Nat), P2 v L2 cl2 ln2 iv2 rv2 → ∃ K2 : Nat, (∀ u2 : Nat, u2 + Pf2 ln rv ≤ Pf2 ln2 rv2 + c2 → u2 + Pf ln rv + K ≤ Pf ln2 rv2 + K2) ∧ cw p l e d0 r0 s m args below meth c G A nL Q Pf ph L2 cl2 ln2 iv2 rv2 K2 (pc + 3) lv (v.toList ++ rest)) : cw p l e d0 r0 s m args below meth c G A nL Q Pf ph L cl ln iv rv K pc lv st := fun u hu kc ks hh => u_callS C hM M d hw hk hst hcat hR (by omega) (fun v L2 E2 u2 ⟨cl2, ln2, iv2, rv2, h1, h2, h3⟩ => by subst h1; obtain ⟨K2, g1, g2⟩ := kk v L2 cl2 ln2 iv2 rv2 h3; have g3 := g1 u2 h2; exact g2 (u + u2) (by omega)) kc ks hh
theorem c_iret (C : Cq p s m args meth c cc y ret G A nL) {Post : PC} {c0 : Nat} {z : Int} (d : decode cc pc = .ok (.ireturn, 1)) (hr : ret = some .int) (hKc : K ≤ c0) (hro : Pf ln rv + K ≤ r0 + ph) (hp : Post (some (.int (iI z))) L cl ln iv rv) : cw p l e d0 r0 s m args below meth c G A nL (MQ below (Qu G A (Qp G Pf ph c0 Post)) args s (r0 / 16) r0 A) Pf ph L cl ln iv rv K pc lv [.int (iI z)] := fun u hu kc ks hh => u_iret C d hr (by omega) ⟨cl, ln, iv, rv, rfl, by omega, hp⟩ kc ks hh
theorem c_zret (C : Cq p s m args meth c cc y ret G A nL) {Post : PC} {c0 : Nat} {z : Int} (d : decode cc pc = .ok (.ireturn, 1)) (hr : ret = some .boolean) (hz : z = 0 ∨ z = 1) (hKc : K ≤ c0) (hro : Pf ln rv + K ≤ r0 + ph) (hp : Post (some (.int (iI z))) L cl ln iv rv) : cw p l e d0 r0 s m args below meth c G A nL (MQ below (Qu G A (Qp G Pf ph c0 Post)) args s (r0 / 16) r0 A) Pf ph L cl ln iv rv K pc lv [.int (iI z)] := fun u hu kc ks hh => u_zret C d hr (by rcases hz with rfl | rfl <;> decide) (by omega) ⟨cl, ln, iv, rv, rfl, by omega, hp⟩ kc ks hh
theorem c_vret (C : Cq p s m args meth c cc y ret G A nL) {Post : PC} {c0 : Nat} (d : decode cc pc = .ok (.return_, 1)) (hr : ret = none) (hKc : K ≤ c0) (hro : Pf ln rv + K ≤ r0 + ph) (hp : Post none L cl ln iv rv) : cw p l e d0 r0 s m args below meth c G A nL (MQ below (Qu G A (Qp G Pf ph c0 Post)) args s (r0 / 16) r0 A) Pf ph L cl ln iv rv K pc lv [] := fun u hu kc ks hh => u_vret C d hr (by omega) ⟨cl, ln, iv, rv, rfl, by omega, hp⟩ kc ks hh
theorem c_aret (C : Cq p s m args meth c cc y ret G A nL) {Post : PC} {c0 : Nat} {x : Option Nat} {rt : FieldType} (d : decode cc pc = .ok (.areturn, 1)) (hr : ret = some rt) (hrt : (∃ n, rt = .object n) ∨ ∃ t, rt = .array t) (hKc : K ≤ c0) (hro : Pf ln rv + K ≤ r0 + ph) (hp : Post (some (va_rf x)) L cl ln iv rv) : cw p l e d0 r0 s m args below meth c G A nL (MQ below (Qu G A (Qp G Pf ph c0 Post)) args s (r0 / 16) r0 A) Pf ph L cl ln iv rv K pc lv [va_rf x] := fun u hu kc ks hh => u_aret C d hr hrt (by cases x with | none => exact Or.inl rfl | some w => exact Or.inr ⟨w, rfl⟩) (by omega) ⟨cl, ln, iv, rv, rfl, by omega, hp⟩ kc ks hh
theorem Mc.mk {n d c0 pm : Nat} {av : List Value} {Post : PC} (hy : plainName y.cls = true) (hn : (lg_sl av).length ≤ n) (body : ∀ (p : Program) (e : Env) (s : State) (m : MethodId) (args : Array Value) (below : List Frame) (meth : Method) (c : Code) (A : Nat → Prop), Cq p s m args meth c cc y ret G A n → Mir mi s → cw p l e d (pm + c0 - Pf ln rv) s m args below meth c G A n (MQ below (Qu G A (Qp G Pf (Pf ln rv) c0 Post)) args s ((pm + c0 - Pf ln rv) / 16) (pm + c0 - Pf ln rv) A) Pf (Pf ln rv) L cl ln iv rv 0 0 (lv_args 0 av) []) : Mc l G mi Pf pm y cc n ret d av L cl ln iv rv c0 Post := Mu.mk hy hn (fun p e s m args below meth c A C hM => body p e s m args below meth c A C hM 0 (by omega))
theorem c_copyi (C : Cq p s m args meth c cc y ret G A nL) {a b T T2 idx : Nat} {sp dp n : Int} (d : decode cc pc = .ok (.invokestatic idx, 3)) (lk : Cond.methodLink y.cls idx arraycopyName ∈ lw_g) (hn : Cond.native arraycopyName ∈ lw_g) (hs : Cond.static arraycopyName ∈ lw_g) (hi : Cond.initialized "java/lang/System" ∈ lw_g) (ha : ty L cl a T) (hT : kd T = 20) (hb : ty L cl b T2) (hT2 : kd T2 = 20) (h1 : 0 ≤ sp) (h2 : 0 ≤ dp) (h3 : 0 ≤ n) (h4 : sp + n ≤ (ln a : Nat)) (h5 : dp + n ≤ (ln b : Nat)) (hla : ln a ≤ 1000000) (hlb : ln b ≤ 1000000) (hd : 1 ≤ d0) (hst : (st.map fun v => v.category).sum ≤ 8) (kk : ∀ iv2, iv2 = (fun w j => if w = b then (if dp.toNat ≤ j ∧ j < dp.toNat + n.toNat then iv a (sp.toNat + (j - dp.toNat)) else iv b j) else iv w j) → cw p l e d0 r0 s m args below meth c G A nL Q Pf ph L cl ln iv2 rv K (pc + 3) lv st) : cw p l e d0 r0 s m args below meth c G A nL Q Pf ph L cl ln iv rv K pc lv (.int (iI n) :: .int (iI dp) :: .ref b :: .int (iI sp) :: .ref a :: st) := by
  intro u hu kc ks hh
  have r1 : R32 sp := ⟨by omega, by omega⟩
  have r2 : R32 dp := ⟨by omega, by omega⟩
  have r3 : R32 n := ⟨by omega, by omega⟩
  refine q_copyi C d lk hn hs hi ha.1 (enc_I ha hT) hb.1 (enc_I hb hT2) (by rw [show (0 : Int32) = iI 0 from rfl, iI_lt r1 R32_0]; omega) (by rw [show (0 : Int32) = iI 0 from rfl, iI_lt r2 R32_0]; omega) (by rw [show (0 : Int32) = iI 0 from rfl, iI_lt r3 R32_0]; omega) (by rw [iI_cl r1, iI_cl r3]; omega) (by rw [iI_cl r2, iI_cl r3]; omega) ⟨hd, by show 64 ≤ 64 * d0; omega⟩ hst ?_
  rw [iI_cl r1, iI_cl r2, iI_cl r3]
  have e : va_up (enc G cl ln iv rv) b (aI G (ln b) (va_cpy (fun j => iI (iv a j)) (fun j => iI (iv b j)) sp.toNat dp.toNat n.toNat)) = enc G cl ln (fun w j => if w = b then (if dp.toNat ≤ j ∧ j < dp.toNat + n.toNat then iv a (sp.toNat + (j - dp.toNat)) else iv b j) else iv w j) rv := by
    refine enc_up (fun w hw => ⟨rfl, rfl, by funext j; rw [if_neg hw], rfl⟩) ?_
    rw [enc_I hb hT2]
    congr 1
    funext j
    rw [if_pos rfl]
    unfold va_cpy
    split <;> rfl
  rw [e]
  exact kk _ rfl u hu kc ks hh
end CQ3
end
section
def ilo (T k : Nat) : Int := match T with
  | 1 => (match k with | 11 => 1 | 12 => 1 | _ => (-2147483648))
  | 2 => (match k with | 0 => 3000 | 2 => 0 | _ => (-2147483648))
  | 3 => (match k with | 0 => 500 | 2 => 0 | _ => (-2147483648))
  | 4 => (match k with | 0 => 4000 | 2 => 0 | _ => (-2147483648))
  | 5 => (match k with | 0 => 200 | 2 => 0 | _ => (-2147483648))
  | 6 => (match k with | 0 => 6003 | 2 => 0 | _ => (-2147483648))
  | 7 => (match k with | 0 => 6003 | 2 => 0 | _ => (-2147483648))
  | 8 => (match k with | 0 => 40200 | 2 => 0 | _ => (-2147483648))
  | 9 => (match k with | 0 => 40200 | 2 => 0 | _ => (-2147483648))
  | 10 => (match k with | 0 => 4001 | 2 => 0 | _ => (-2147483648))
  | 11 => (match k with | 0 => 40000 | 2 => 0 | _ => (-2147483648))
  | 12 => (match k with | 0 => 200 | 2 => 0 | _ => (-2147483648))
  | 14 => (match k with | 1 => 0 | 2 => 0 | 5 => 0 | 7 => 0 | _ => (-2147483648))
  | 15 => (match k with | 4 => 0 | 5 => 0 | 7 => 0 | 10 => 0 | 11 => 0 | _ => (-2147483648))
  | 17 => (match k with | 5 => 0 | 6 => 0 | 9 => 0 | _ => (-2147483648))
  | 18 => (match k with | 1 => 0 | _ => (-2147483648))
  | 19 => (match k with | 1 => 0 | 2 => 0 | _ => (-2147483648))
  | 20 => (match k with | 3 => 0 | _ => (-2147483648))
  | 21 => (match k with | 3 => 0 | _ => (-2147483648))
  | 22 => (match k with | 2 => 0 | _ => (-2147483648))
  | 23 => (match k with | 2 => 0 | _ => (-2147483648))
  | 24 => (match k with | 2 => 0 | _ => (-2147483648))
  | 25 => (match k with | 2 => 0 | _ => (-2147483648))
  | 26 => (match k with | 2 => 0 | _ => (-2147483648))
  | 52 => 0
  | 56 => 0
  | 58 => 0
  | 59 => 0
  | 100 => (match k with | 7 => 0 | _ => (-2147483648))
  | _ => (-2147483648)
def ihi (T k : Nat) : Int := match T with
  | 1 => (match k with | 11 => 100 | 12 => 50 | _ => 2147483647)
  | 2 => (match k with | 0 => 3000 | 2 => 3000 | _ => 2147483647)
  | 3 => (match k with | 0 => 500 | 2 => 500 | _ => 2147483647)
  | 4 => (match k with | 0 => 4000 | 2 => 4000 | _ => 2147483647)
  | 5 => (match k with | 0 => 200 | 2 => 200 | _ => 2147483647)
  | 6 => (match k with | 0 => 6003 | 2 => 6003 | _ => 2147483647)
  | 7 => (match k with | 0 => 6003 | 2 => 6003 | _ => 2147483647)
  | 8 => (match k with | 0 => 40200 | 2 => 40200 | _ => 2147483647)
  | 9 => (match k with | 0 => 40200 | 2 => 40200 | _ => 2147483647)
  | 10 => (match k with | 0 => 4001 | 2 => 4001 | _ => 2147483647)
  | 11 => (match k with | 0 => 40000 | 2 => 40000 | _ => 2147483647)
  | 12 => (match k with | 0 => 200 | 2 => 200 | _ => 2147483647)
  | 14 => (match k with | 1 => 1 | 2 => 1 | 5 => 126 | 7 => 6 | _ => 2147483647)
  | 15 => (match k with | 4 => 500 | 5 => 1 | 7 => 100000 | 10 => 500 | 11 => 500 | _ => 2147483647)
  | 17 => (match k with | 5 => 50 | 6 => 1 | 9 => 100 | _ => 2147483647)
  | 18 => (match k with | 1 => 200 | _ => 2147483647)
  | 19 => (match k with | 1 => 200 | 2 => 1 | _ => 2147483647)
  | 20 => (match k with | 3 => 5 | _ => 2147483647)
  | 21 => (match k with | 3 => 5 | _ => 2147483647)
  | 22 => (match k with | 2 => 30 | _ => 2147483647)
  | 23 => (match k with | 2 => 512 | _ => 2147483647)
  | 24 => (match k with | 2 => 6003 | _ => 2147483647)
  | 25 => (match k with | 2 => 6003 | _ => 2147483647)
  | 26 => (match k with | 2 => 200 | _ => 2147483647)
  | 52 => 1
  | 56 => 1
  | 58 => 125
  | 59 => 1
  | 100 => (match k with | 7 => 1 | _ => 2147483647)
  | _ => 2147483647
def tgt (T k : Nat) : Nat := match T with
  | 1 => (match k with | 0 => 2 | 1 => 3 | 2 => 4 | 3 => 5 | 4 => 13 | 5 => 14 | 6 => 15 | 7 => 16 | 8 => 17 | 9 => 18 | 10 => 18 | _ => 0)
  | 2 => (match k with | 1 => 32 | _ => 0)
  | 3 => (match k with | 1 => 33 | _ => 0)
  | 4 => (match k with | 1 => 34 | _ => 0)
  | 5 => (match k with | 1 => 35 | _ => 0)
  | 6 => (match k with | 1 => 36 | _ => 0)
  | 7 => (match k with | 1 => 37 | _ => 0)
  | 8 => (match k with | 1 => 38 | _ => 0)
  | 9 => (match k with | 1 => 39 | _ => 0)
  | 10 => (match k with | 1 => 40 | _ => 0)
  | 11 => (match k with | 1 => 41 | _ => 0)
  | 12 => (match k with | 1 => 42 | _ => 0)
  | 13 => (match k with | 0 => 22 | 1 => 23 | _ => 0)
  | 14 => (match k with | 3 => 56 | 4 => 57 | 6 => 58 | _ => 0)
  | 15 => (match k with | 0 => 50 | 1 => 51 | 2 => 52 | 3 => 53 | 6 => 54 | 8 => 55 | _ => 0)
  | 16 => (match k with | 0 => 24 | 1 => 25 | 2 => 6 | 3 => 7 | 4 => 8 | 5 => 9 | 6 => 10 | _ => 0)
  | 17 => (match k with | 0 => 59 | 1 => 60 | 2 => 61 | 3 => 62 | 4 => 11 | 7 => 16 | 8 => 63 | _ => 0)
  | 18 => (match k with | 0 => 67 | _ => 0)
  | 19 => (match k with | 0 => 64 | _ => 0)
  | 20 => (match k with | 1 => 65 | 2 => 66 | _ => 0)
  | 21 => (match k with | 1 => 100 | 2 => 20 | _ => 0)
  | 22 => (match k with | 1 => 1000 | _ => 0)
  | 23 => (match k with | 1 => 1001 | _ => 0)
  | 24 => (match k with | 1 => 1002 | _ => 0)
  | 25 => (match k with | 1 => 1003 | _ => 0)
  | 26 => (match k with | 1 => 1004 | _ => 0)
  | 67 => 19
  | 68 => 20
  | 100 => (match k with | 2 => 100 | 3 => 100 | 4 => 26 | 5 => 12 | 6 => 68 | _ => 0)
  | 1000 => 100
  | 1001 => 21
  | 1002 => 20
  | 1003 => 20
  | 1004 => 20
  | _ => 0
def nul (T k : Nat) : Bool := match T with
  | 1 => !([0, 1, 2, 3, 4, 5, 6, 7, 8, 9, 10] : List Nat).contains k
  | 2 => !([1] : List Nat).contains k
  | 3 => !([1] : List Nat).contains k
  | 4 => !([1] : List Nat).contains k
  | 5 => !([1] : List Nat).contains k
  | 6 => !([1] : List Nat).contains k
  | 7 => !([1] : List Nat).contains k
  | 8 => !([1] : List Nat).contains k
  | 9 => !([1] : List Nat).contains k
  | 10 => !([1] : List Nat).contains k
  | 11 => !([1] : List Nat).contains k
  | 12 => !([1] : List Nat).contains k
  | 13 => !([0, 1] : List Nat).contains k
  | 14 => !([3, 4, 6] : List Nat).contains k
  | 15 => !([0, 1, 2, 3, 6, 8] : List Nat).contains k
  | 16 => !([0, 1, 2, 3, 4, 5, 6] : List Nat).contains k
  | 17 => !([0, 1, 2, 3, 4, 7, 8] : List Nat).contains k
  | 18 => !([0] : List Nat).contains k
  | 19 => !([0] : List Nat).contains k
  | 20 => !([1, 2] : List Nat).contains k
  | 21 => !([1] : List Nat).contains k
  | 22 => !([1] : List Nat).contains k
  | 23 => !([1] : List Nat).contains k
  | 24 => !([1] : List Nat).contains k
  | 25 => !([1] : List Nat).contains k
  | 26 => !([1] : List Nat).contains k
  | 100 => !([4, 5, 6] : List Nat).contains k
  | _ => true
def llo (T : Nat) : Nat := match T with
  | 32 => 16
  | 33 => 16
  | 34 => 16
  | 35 => 16
  | 36 => 16
  | 37 => 16
  | 38 => 16
  | 39 => 16
  | 40 => 16
  | 41 => 16
  | 42 => 16
  | 50 => 500
  | 51 => 500
  | 52 => 500
  | 53 => 500
  | 54 => 200
  | 55 => 5
  | 56 => 126
  | 57 => 126
  | 58 => 6
  | 59 => 404
  | 60 => 101
  | 61 => 101
  | 62 => 50
  | 63 => 100
  | 64 => 200
  | 65 => 0
  | 66 => 1
  | 67 => 200
  | 68 => 4
  | 1000 => 10
  | 1001 => 10
  | 1002 => 10
  | 1003 => 10
  | 1004 => 10
  | _ => 0
def lhi (T : Nat) : Nat := match T with
  | 32 => 6000
  | 33 => 1000
  | 34 => 8000
  | 35 => 400
  | 36 => 12006
  | 37 => 12006
  | 38 => 80400
  | 39 => 80400
  | 40 => 8002
  | 41 => 80000
  | 42 => 400
  | 50 => 500
  | 51 => 500
  | 52 => 500
  | 53 => 500
  | 54 => 200
  | 55 => 5
  | 56 => 126
  | 57 => 126
  | 58 => 6
  | 59 => 404
  | 60 => 101
  | 61 => 101
  | 62 => 50
  | 63 => 100
  | 64 => 200
  | 65 => 8
  | 66 => 4
  | 67 => 200
  | 68 => 4
  | 1000 => 60
  | 1001 => 1200
  | 1002 => 9100
  | 1003 => 9100
  | 1004 => 400
  | _ => 0
def raw (T : Nat) : Bool := decide (200 ≤ T) && decide (T < 1000)
def lst (T : Nat) : Bool := decide (22 ≤ T) && decide (T ≤ 26)
def szd (T : Nat) : Bool := (decide (2 ≤ T) && decide (T ≤ 12)) || lst T
def arr (T : Nat) : Bool := (decide (30 ≤ T) && decide (T < 100)) || decide (1000 ≤ T)
def uq (t : Nat) : Bool := ([1, 2, 3, 4, 5, 6, 7, 8, 9, 10, 11, 13, 14, 15, 16, 17, 18, 28, 22, 23, 24, 25, 67, 69] : List Nat).contains t
def pot (T : Nat) : Bool := ([2, 3, 4, 5, 6, 7, 8, 9, 10, 11, 24, 25, 67] : List Nat).contains T
theorem lst_szd {T : Nat} (h : lst T = true) : szd T = true := by unfold szd; rw [h]; simp
theorem bt_list {a r : Nat} (h : r < 5) : bt (1000 + 5 * a + r) = 1000 + r := by unfold bt; rw [if_neg (by omega), if_neg (by omega), if_neg (by omega)]; omega
theorem tgt_list {T : Nat} (h : lst T = true) : tgt T 1 = 1000 + (T - 22) := by
  unfold lst at h
  simp only [Bool.and_eq_true, decide_eq_true_eq] at h
  have : T = 22 ∨ T = 23 ∨ T = 24 ∨ T = 25 ∨ T = 26 := by omega
  rcases this with rfl | rfl | rfl | rfl | rfl <;> rfl
def rkx (cl : Nat → Nat) (a k b : Nat) : Prop := (bt (cl a) = 100 → k < 4 → cl b < cl a) ∧ (lst (bt (cl a)) = true → k = 1 → cl b = 1000 + 5 * a + (bt (cl a) - 22))
def rok (L : List Nat) (cl : Nat → Nat) (g a k : Nat) (r : Option Nat) : Prop := raw (bt (cl a)) = false → (r = none → nul (bt (cl a)) k = true) ∧ ∀ b, r = some b → (b ∈ L ∧ bt (cl b) = tgt (bt (cl a)) k ∧ rkx cl a k b) ∨ (b = g ∧ lst (bt (cl a)) = true ∧ k = 1)
def WT (g : Nat) (sk : Nat → Nat) (L : List Nat) (cl ln : Nat → Nat) (iv : Nat → Nat → Int) (rv : Nat → Nat → Option Nat) : Prop :=
  (∀ a ∈ L, ∀ k, ilo (bt (cl a)) k ≤ iv a k ∧ iv a k ≤ ihi (bt (cl a)) k) ∧
  (∀ a ∈ L, ∀ k, rok L cl g a k (rv a k)) ∧
  (∀ a ∈ L, arr (bt (cl a)) = true → llo (bt (cl a)) ≤ ln a ∧ ln a ≤ lhi (bt (cl a))) ∧
  (∀ a ∈ L, szd (bt (cl a)) = true → ∀ b, rv a 1 = some b → (b = g ∧ iv a 2 = 0) ∨ (b ∈ L ∧ iv a 2 ≤ ((ln b : Nat) : Int))) ∧
  (∀ a ∈ L, lst (bt (cl a)) = true → ∀ b, rv a 1 = some b → ∀ i : Nat, (i : Int) < iv a 2 → rv b i ≠ none) ∧
  (∀ a ∈ L, uq (cl a) = true → a = sk (cl a)) ∧ g ∉ L
def SKL (sk : Nat → Nat) (L : List Nat) (cl : Nat → Nat) : Prop := ∀ t, uq t = true → sk t ∈ L ∧ cl (sk t) = t
section WTS
variable {g : Nat} {sk : Nat → Nat} {L : List Nat} {cl ln : Nat → Nat} {iv : Nat → Nat → Int} {rv : Nat → Nat → Option Nat} {a b T k : Nat} {z : Int}
theorem WT.int (h : WT g sk L cl ln iv rv) (ha : ty L cl a T) (k : Nat) : ilo T k ≤ iv a k ∧ iv a k ≤ ihi T k := by have q := h.1 a ha.1 k; rw [ha.2] at q; exact q
theorem bx_lo {x v lo : Int} (e : x = v) (h : lo ≤ v) : lo ≤ x := e ▸ h
theorem bx_hi {x v hi : Int} (e : x = v) (h : v ≤ hi) : x ≤ hi := e ▸ h
theorem opt_n {o : Option Nat} {P : Prop} {Q : Nat → Prop} (h : (o = none ∧ P) ∨ ∃ b, o = some b ∧ Q b) : ∃ o2, o = o2 ∧ ∀ b, o2 = some b → Q b := ⟨o, rfl, fun b e => by
  rcases h with ⟨e1, _⟩ | ⟨b2, e1, q⟩
  · rw [e1] at e
    cases e
  · rw [e1] at e
    cases e
    exact q⟩
theorem WT.opt (h : WT g sk L cl ln iv rv) (ha : ty L cl a T) (k : Nat) (hr : raw T = false) (hl : (lst T && k == 1) = false) : (rv a k = none ∧ nul T k = true) ∨ ∃ b, rv a k = some b ∧ ty L cl b (tgt T k) := by
  have q := h.2.1 a ha.1 k (by rw [ha.2]; exact hr)
  rw [ha.2] at q
  cases e : rv a k with
  | none => exact Or.inl ⟨rfl, q.1 e⟩
  | some b =>
    rcases q.2 b e with w | w
    · exact Or.inr ⟨b, rfl, w.1, w.2.1⟩
    · rw [w.2.1, w.2.2] at hl; cases hl
theorem WT.ref (h : WT g sk L cl ln iv rv) (ha : ty L cl a T) (k : Nat) (hr : raw T = false) (hl : (lst T && k == 1) = false) (hn : nul T k = false) : ∃ b, rv a k = some b ∧ ty L cl b (tgt T k) := by
  rcases h.opt ha k hr hl with w | w
  · rw [hn] at w; cases w.2
  · exact w
theorem WT.rank (h : WT g sk L cl ln iv rv) (ha : ty L cl a 100) (hk : k < 4) (hb : rv a k = some b) : cl b < cl a := by
  rcases (h.2.1 a ha.1 k (by rw [ha.2]; rfl)).2 b hb with w | w
  · exact w.2.2.1 ha.2 hk
  · rw [ha.2] at w; cases w.2.1
theorem WT.len (h : WT g sk L cl ln iv rv) (ha : ty L cl a T) (hA : arr T = true) : llo T ≤ ln a ∧ ln a ≤ lhi T := by have q := h.2.2.1 a ha.1 (by rw [ha.2]; exact hA); rw [ha.2] at q; exact q
theorem WT.isz (h : WT g sk L cl ln iv rv) (ha : ty L cl a T) (hs : szd T = true) (hl : lst T = false) (hb : rv a 1 = some b) : iv a 2 ≤ ((ln b : Nat) : Int) := by
  rcases h.2.2.2.1 a ha.1 (by rw [ha.2]; exact hs) b hb with w | w
  · rcases (h.2.1 a ha.1 1 (by rw [ha.2]; unfold szd at hs; rw [hl] at hs; unfold raw; simp at hs ⊢; omega)).2 b hb with q | q
    · exact absurd q.1 (by rw [w.1]; exact h.2.2.2.2.2.2)
    · rw [ha.2, hl] at q; cases q.2.1
  · exact w.2
theorem ne_ty {T2 : Nat} (ha : ty L cl a T) (hb : ty L cl b T2) (h : T ≠ T2) : a ≠ b := fun e => h (by rw [← ha.2, ← hb.2, e])
theorem WT.puti {iv2 : Nat → Nat → Int} (h : WT g sk L cl ln iv rv) (he : iv2 = up2 iv a k z) (ha : ty L cl a T) (hz : ilo T k ≤ z ∧ z ≤ ihi T k) (hx : (szd T && k == 2) = false) : WT g sk L cl ln iv2 rv := by
  subst he
  obtain ⟨h1, h2, h3, h4, h5, h6⟩ := h
  have key : ∀ w, szd (bt (cl w)) = true → up2 iv a k z w 2 = iv w 2 := by
    intro w hw
    by_cases e : w = a
    · subst e
      rw [ha.2] at hw
      rw [hw] at hx
      refine up2_j (fun q => ?_)
      subst q; cases hx
    · exact up2_k e
  refine ⟨fun w hw j => ?_, h2, h3, fun w hw hs => ?_, fun w hw hs => ?_, h6⟩
  · by_cases e : w = a
    · subst e
      by_cases ej : j = k
      · subst ej; rw [up2_s, ha.2]; exact hz
      · rw [up2_j ej]; exact h1 w hw j
    · rw [up2_k e]; exact h1 w hw j
  · rw [key w hs]; exact h4 w hw hs
  · rw [key w (lst_szd hs)]; exact h5 w hw hs
theorem WT.putsz {iv2 : Nat → Nat → Int} (h : WT g sk L cl ln iv rv) (he : iv2 = up2 iv a 2 z) (ha : ty L cl a T) (hz : ilo T 2 ≤ z ∧ z ≤ ihi T 2) (hs : ∀ b, rv a 1 = some b → (b = g ∧ z = 0) ∨ (b ∈ L ∧ z ≤ ((ln b : Nat) : Int))) (hn : lst T = true → ∀ b, rv a 1 = some b → ∀ i : Nat, (i : Int) < z → rv b i ≠ none) : WT g sk L cl ln iv2 rv := by
  subst he
  obtain ⟨h1, h2, h3, h4, h5, h6⟩ := h
  refine ⟨fun w hw j => ?_, h2, h3, fun w hw hq => ?_, fun w hw hq => ?_, h6⟩
  · by_cases e : w = a
    · subst e
      by_cases ej : j = 2
      · subst ej; rw [up2_s, ha.2]; exact hz
      · rw [up2_j ej]; exact h1 w hw j
    · rw [up2_k e]; exact h1 w hw j
  · by_cases e : w = a
    · subst e; rw [up2_s]; exact hs
    · rw [up2_k e]; exact h4 w hw hq
  · by_cases e : w = a
    · subst e; rw [up2_s]; rw [ha.2] at hq; exact hn hq
    · rw [up2_k e]; exact h5 w hw hq
theorem WT.isz_put {iv2 : Nat → Nat → Int} (h : WT g sk L cl ln iv rv) (he : iv2 = up2 iv a 2 z) (ha : ty L cl a T) (hz : ilo T 2 ≤ z ∧ z ≤ ihi T 2) (hl : lst T = false) (hr : raw T = false) (hb : rv a 1 = some b) (hs : z ≤ ((ln b : Nat) : Int)) : WT g sk L cl ln iv2 rv := by
  refine h.putsz he ha hz (fun b2 hb2 => ?_) (fun q => by rw [hl] at q; cases q)
  rw [hb] at hb2; cases hb2
  rcases (h.2.1 a ha.1 1 (by rw [ha.2]; exact hr)).2 b hb with q | q
  · exact Or.inr ⟨q.1, hs⟩
  · rw [ha.2, hl] at q; cases q.2.1
theorem WT.putr {rv2 : Nat → Nat → Option Nat} {x : Option Nat} (h : WT g sk L cl ln iv rv) (he : rv2 = upr rv a k x) (ha : ty L cl a T) (hr : rok L cl g a k x) (hx : (szd T && k == 1) = false) (hT : T < 1000) : WT g sk L cl ln iv rv2 := by
  subst he
  obtain ⟨h1, h2, h3, h4, h5, h6⟩ := h
  have key : ∀ w, szd (bt (cl w)) = true → upr rv a k x w 1 = rv w 1 := by
    intro w hw
    by_cases e : w = a
    · subst e
      rw [ha.2] at hw
      rw [hw] at hx
      refine upr_j (fun q => ?_)
      subst q; cases hx
    · rw [upr_a e]
  refine ⟨h1, fun w hw j => ?_, h3, fun w hw hs => ?_, fun w hw hs b hb i hi => ?_, h6⟩
  · by_cases e : w = a
    · subst e
      by_cases ej : j = k
      · subst ej; rw [upr_s]; exact hr
      · rw [upr_j ej]; exact h2 w hw j
    · rw [upr_a e]; exact h2 w hw j
  · rw [key w hs]; exact h4 w hw hs
  · rw [key w (lst_szd hs)] at hb
    have hba : b ≠ a := by
      intro e
      subst e
      rcases (h2 w hw 1 (by unfold raw; unfold lst at hs; simp at hs ⊢; omega)).2 b hb with q | q
      · rw [ha.2, tgt_list hs] at q; omega
      · exact h6.2 (q.1 ▸ ha.1)
    rw [upr_a hba]
    exact h5 w hw hs b hb i hi
end WTS
def XT (L : List Nat) (cl ln : Nat → Nat) (L2 : List Nat) (cl2 ln2 : Nat → Nat) : Prop := ∀ a ∈ L, a ∈ L2 ∧ cl2 a = cl a ∧ ln2 a = ln a
def fT (ls : List Nat) (L : List Nat) (cl : Nat → Nat) (iv : Nat → Nat → Int) (rv : Nat → Nat → Option Nat) (iv2 : Nat → Nat → Int) (rv2 : Nat → Nat → Option Nat) : Prop := ∀ b ∈ L, ls.contains (bt (cl b)) = false → iv2 b = iv b ∧ rv2 b = rv b
section XTS
variable {ls : List Nat} {g : Nat} {sk : Nat → Nat} {L L2 L3 : List Nat} {cl ln cl2 ln2 cl3 ln3 : Nat → Nat} {iv iv2 iv3 : Nat → Nat → Int} {rv rv2 rv3 : Nat → Nat → Option Nat} {a b T k : Nat} {z : Int}
theorem XT.refl : XT L cl ln L cl ln := fun _ h => ⟨h, rfl, rfl⟩
theorem XT.trans (h1 : XT L cl ln L2 cl2 ln2) (h2 : XT L2 cl2 ln2 L3 cl3 ln3) : XT L cl ln L3 cl3 ln3 := fun a h => ⟨(h2 a (h1 a h).1).1, (h2 a (h1 a h).1).2.1.trans (h1 a h).2.1, (h2 a (h1 a h).1).2.2.trans (h1 a h).2.2⟩
theorem XT.ty (h : XT L cl ln L2 cl2 ln2) (ha : ty L cl a T) : ty L2 cl2 a T := ⟨(h a ha.1).1, by rw [(h a ha.1).2.1]; exact ha.2⟩
theorem XT.skl (h : XT L cl ln L2 cl2 ln2) (hs : SKL sk L cl) : SKL sk L2 cl2 := fun t ht => ⟨(h _ (hs t ht).1).1, ((h _ (hs t ht).1).2.1).trans (hs t ht).2⟩
theorem fT.refl : fT ls L cl iv rv iv rv := fun _ _ _ => ⟨rfl, rfl⟩
theorem fT.puti (h : fT ls L cl iv rv iv2 rv2) (hX : XT L cl ln L2 cl2 ln2) (he : iv3 = up2 iv2 a k z) (ha : ty L2 cl2 a T) (hc : ls.contains T = true) : fT ls L cl iv rv iv3 rv2 := by
  intro b hb hq
  refine ⟨?_, (h b hb hq).2⟩
  rw [he, upi_a (fun e => ?_)]
  · exact (h b hb hq).1
  · subst e; rw [← (hX b hb).2.1, ha.2, hc] at hq; cases hq
theorem fT.putr {x : Option Nat} (h : fT ls L cl iv rv iv2 rv2) (hX : XT L cl ln L2 cl2 ln2) (he : rv3 = upr rv2 a k x) (ha : ty L2 cl2 a T) (hc : ls.contains T = true) : fT ls L cl iv rv iv2 rv3 := by
  intro b hb hq
  refine ⟨(h b hb hq).1, ?_⟩
  rw [he, upr_a (fun e => ?_)]
  · exact (h b hb hq).2
  · subst e; rw [← (hX b hb).2.1, ha.2, hc] at hq; cases hq
theorem fT.call {ls2 : List Nat} (h : fT ls L cl iv rv iv2 rv2) (hX : XT L cl ln L2 cl2 ln2) (h2 : fT ls2 L2 cl2 iv2 rv2 iv3 rv3) (hs : ls2.all (fun j => ls.contains j) = true) : fT ls L cl iv rv iv3 rv3 := by
  intro b hb hq
  have q2 := h2 b (hX b hb).1 (by rw [(hX b hb).2.1]; exact con_sub hs hq)
  exact ⟨q2.1.trans (h b hb hq).1, q2.2.trans (h b hb hq).2⟩
theorem fT.i (h : fT ls L cl iv rv iv2 rv2) (ha : ty L cl a T) (hc : ls.contains T = false) (k : Nat) : iv2 a k = iv a k := congrFun (h a ha.1 (by rw [ha.2]; exact hc)).1 k
theorem fT.r (h : fT ls L cl iv rv iv2 rv2) (ha : ty L cl a T) (hc : ls.contains T = false) (k : Nat) : rv2 a k = rv a k := congrFun (h a ha.1 (by rw [ha.2]; exact hc)).2 k
end XTS
def cap (g : Nat) (ln : Nat → Nat) (rv : Nat → Nat → Option Nat) (a : Nat) : Nat := match rv a 1 with
  | some b => if b = g then 0 else ln b
  | none => 0
def nn (f : Nat → Option Nat) : Nat → Nat
  | 0 => 0
  | n + 1 => nn f n + (if (f n).isSome = true then 1 else 0)
def Phi (g : Nat) (sk : Nat → Nat) : PF := fun ln rv => 3 * (cap g ln rv (sk 2) + cap g ln rv (sk 3) + cap g ln rv (sk 4) + cap g ln rv (sk 5) + cap g ln rv (sk 6) + cap g ln rv (sk 7) + cap g ln rv (sk 8) + cap g ln rv (sk 9) + cap g ln rv (sk 10) + cap g ln rv (sk 11)) + 8 * (cap g ln rv (sk 24) + cap g ln rv (sk 25)) + 240 * (nn (rv (sk 67)) 200 + nn (rv (sk 69)) 200)
abbrev PHM : Nat := 1110000
theorem nn_le (f : Nat → Option Nat) : ∀ n, nn f n ≤ n := by
  intro n
  induction n with
  | zero => exact Nat.le_refl _
  | succ n ih => unfold nn; split <;> omega
theorem cap_le {g : Nat} {sk : Nat → Nat} {L : List Nat} {cl ln : Nat → Nat} {iv : Nat → Nat → Int} {rv : Nat → Nat → Option Nat} {t m : Nat} (h : WT g sk L cl ln iv rv) (hS : SKL sk L cl) (hu : uq t = true) (hb : bt t = t) (hr : raw t = false) (ha : arr (tgt t 1) = true) (hl : lhi (tgt t 1) = m) : cap g ln rv (sk t) ≤ m := by
  obtain ⟨q1, q2⟩ := hS t hu
  unfold cap
  split
  · rename_i b e
    split
    · exact Nat.zero_le _
    · rename_i hg
      have w := (h.2.1 _ q1 1 (by rw [q2, hb]; exact hr)).2 b e
      rw [q2, hb] at w
      rcases w with w | w
      · have l2 := (h.len (T := tgt t 1) ⟨w.1, w.2.1⟩ ha).2
        rw [hl] at l2; exact l2
      · exact absurd w.1 hg
  · exact Nat.zero_le _
theorem Phi.le {g : Nat} {sk : Nat → Nat} {L : List Nat} {cl ln : Nat → Nat} {iv : Nat → Nat → Int} {rv : Nat → Nat → Option Nat} (h : WT g sk L cl ln iv rv) (hS : SKL sk L cl) : Phi g sk ln rv ≤ PHM := by
  refine hv14 (cap_le (t := 2) (m := 6000) h hS rfl rfl rfl rfl rfl) (cap_le (t := 3) (m := 1000) h hS rfl rfl rfl rfl rfl) (cap_le (t := 4) (m := 8000) h hS rfl rfl rfl rfl rfl) (cap_le (t := 5) (m := 400) h hS rfl rfl rfl rfl rfl) (cap_le (t := 6) (m := 12006) h hS rfl rfl rfl rfl rfl) (cap_le (t := 7) (m := 12006) h hS rfl rfl rfl rfl rfl) (cap_le (t := 8) (m := 80400) h hS rfl rfl rfl rfl rfl) (cap_le (t := 9) (m := 80400) h hS rfl rfl rfl rfl rfl) (cap_le (t := 10) (m := 8002) h hS rfl rfl rfl rfl rfl) (cap_le (t := 11) (m := 80000) h hS rfl rfl rfl rfl rfl) (cap_le (t := 24) (m := 9100) h hS rfl rfl rfl rfl rfl) (cap_le (t := 25) (m := 9100) h hS rfl rfl rfl rfl rfl) (nn_le (rv (sk 67)) 200) (nn_le (rv (sk 69)) 200) (fun c2 c3 c4 c5 c6 c7 c8 c9 c10 c11 c24 c25 n1 n2 => ?_)
  unfold Phi
  show _ ≤ 1110000
  omega
theorem Phi.congr {g : Nat} {sk : Nat → Nat} {ln ln2 : Nat → Nat} {rv rv2 : Nat → Nat → Option Nat} (h : ∀ t, uq t = true → pot (bt t) = true → rv2 (sk t) = rv (sk t)) (hl : ∀ t b, uq t = true → pot (bt t) = true → szd t = true → rv (sk t) 1 = some b → b ≠ g → ln2 b = ln b) : Phi g sk ln2 rv2 = Phi g sk ln rv := by
  have hc : ∀ t, uq t = true → pot (bt t) = true → szd t = true → cap g ln2 rv2 (sk t) = cap g ln rv (sk t) := by
    intro t ht hp hs
    unfold cap
    rw [h t ht hp]
    split
    · rename_i b e
      split
      · rfl
      · rename_i hg; exact hl t b ht hp hs e hg
    · rfl
  unfold Phi
  rw [hc 2 rfl rfl rfl, hc 3 rfl rfl rfl, hc 4 rfl rfl rfl, hc 5 rfl rfl rfl, hc 6 rfl rfl rfl, hc 7 rfl rfl rfl, hc 8 rfl rfl rfl, hc 9 rfl rfl rfl, hc 10 rfl rfl rfl, hc 11 rfl rfl rfl, hc 24 rfl rfl rfl, hc 25 rfl rfl rfl, h 67 rfl rfl, h 69 rfl rfl]
theorem Phi.putr {g : Nat} {sk : Nat → Nat} {L : List Nat} {cl ln : Nat → Nat} {rv rv2 : Nat → Nat → Option Nat} {a k T : Nat} {x : Option Nat} (hS : SKL sk L cl) (he : rv2 = upr rv a k x) (ha : ty L cl a T) (hp : pot T = false) : Phi g sk ln rv2 = Phi g sk ln rv := by
  refine Phi.congr (fun t ht hq => ?_) (fun _ _ _ _ _ _ _ => rfl)
  rw [he, upr_a (fun e => ?_)]
  rw [← ha.2, ← e, (hS t ht).2, hq] at hp; cases hp
end
