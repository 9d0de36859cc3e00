def tw (T : Nat → Int) (N : Nat) : Nat → Nat → Int → List (Int × Nat × Int) → Nat × List (Int × Nat × Int)
  | 0, p, _, w => (p, w)
  | n + 1, p, b, w => if N ≤ p ∨ T p = 10 then (p, w) else if T p = 32 then (if w.length = 0 then tw T N n (p + 1) b w else (p, w)) else if T p = 126 then tw T N n (p + 1) 1 w else tw T N n (p + 1) 0 (w ++ [(T p, p, b)])
def NNL (T : Nat → Int) (q u : Int) : Prop := ∀ j : Int, q ≤ j → j < u → T j.toNat ≠ 10
def LEX (T : Nat → Int) (N q f : Int) : Prop := NNL T q f ∧ (N ≤ f ∨ T f.toNat = 10)
def TKP (T : Nat → Int) (N q u : Int) : Prop := (q ≤ u ∧ u ≤ N) ∧ NNL T q u ∧ (u = N ∨ T u.toNat = 10)
def TWF (T : Nat → Int) (N q : Int) : Nat × List (Int × Nat × Int) := tw T N.toNat (N.toNat + 1 - q.toNat) q.toNat 0 []
def TKI (T : Nat → Int) (N q p b : Int) (w : List (Int × Nat × Int)) : Prop := ∃ n, N.toNat + 1 ≤ n + p.toNat ∧ TWF T N q = tw T N.toNat n p.toNat b w
def WDH (v : Nat → Int) (a : Nat → Nat → Int) (w : List (Int × Nat × Int)) : Prop := v 23 = ((w.length : Nat) : Int) ∧ ∀ (j : Nat) (x : Int × Nat × Int), w[j]? = some x → a 20 j = x.1 ∧ a 21 j = ((x.2.1 : Nat) : Int) ∧ (1 ≤ j → a 22 j = x.2.2)
def TKW (v : Nat → Int) (a : Nat → Nat → Int) (T : Nat → Int) (N q x : Int) : Prop := ∃ w b, TKI T N q x b w ∧ WDH v a w ∧ (1 ≤ w.length → a 22 w.length = b)
def TKX (T : Nat → Int) (N : Int) (v : Nat → Int) (a : Nat → Nat → Int) (q f : Int) : Prop := ∃ w, TWF T N q = (f.toNat, w) ∧ WDH v a w
section WORDS
variable {v v2 : Nat → Int} {a a1 : Nat → Nat → Int} {T : Nat → Int} {N q u p b f z y x l : Int} {w : List (Int × Nat × Int)} {i i2 i3 pp n M P : Nat}
theorem tw_s : tw T M (n + 1) P b w = if M ≤ P ∨ T P = 10 then (P, w) else if T P = 32 then (if w.length = 0 then tw T M n (P + 1) b w else (P, w)) else if T P = 126 then tw T M n (P + 1) 1 w else tw T M n (P + 1) 0 (w ++ [(T P, P, b)]) := rfl
theorem TKI.init : TKI T N q q 0 [] := ⟨_, by omega, rfl⟩
theorem TKI.unf (h : TKI T N q p b w) (hp : 0 ≤ p ∧ p < N) (hn : T p.toNat ≠ 10) : ∃ n, N.toNat + 1 ≤ n + (p + 1).toNat ∧ TWF T N q = if T p.toNat = 32 then (if w.length = 0 then tw T N.toNat n (p + 1).toNat b w else (p.toNat, w)) else if T p.toNat = 126 then tw T N.toNat n (p + 1).toNat 1 w else tw T N.toNat n (p + 1).toNat 0 (w ++ [(T p.toNat, p.toNat, b)]) := by
  obtain ⟨n, h1, h2⟩ := h
  cases n with
  | zero => omega
  | succ n =>
    refine ⟨n, by omega, ?_⟩
    have no : ¬ (N.toNat ≤ p.toNat ∨ T p.toNat = 10) := fun e => by
      rcases e with e | e
      · omega
      · exact hn e
    rw [h2, tw_s, if_neg no, show (p + 1).toNat = p.toNat + 1 by omega]
theorem TKI.sp (h : TKI T N q p b w) (hp : 0 ≤ p ∧ p < N) (e : T p.toNat = 32) (hw : w.length = 0) : TKI T N q (p + 1) b w := by
  obtain ⟨n, h1, h2⟩ := h.unf hp (by omega)
  rw [if_pos e, if_pos hw] at h2
  exact ⟨n, h1, h2⟩
theorem TKI.til (h : TKI T N q p b w) (hp : 0 ≤ p ∧ p < N) (e : T p.toNat = 126) : TKI T N q (p + 1) 1 w := by
  obtain ⟨n, h1, h2⟩ := h.unf hp (by omega)
  rw [if_neg (by omega), if_pos e] at h2
  exact ⟨n, h1, h2⟩
theorem TKI.ltr (h : TKI T N q p b w) (hp : 0 ≤ p ∧ p < N) (h0 : T p.toNat ≠ 10) (e1 : T p.toNat ≠ 32) (e2 : T p.toNat ≠ 126) : TKI T N q (p + 1) 0 (w ++ [(T p.toNat, p.toNat, b)]) := by
  obtain ⟨n, h1, h2⟩ := h.unf hp h0
  rw [if_neg e1, if_neg e2] at h2
  exact ⟨n, h1, h2⟩
theorem TKI.end1 (h : TKI T N q p b w) (hp : 0 ≤ p) (he : N ≤ p ∨ T p.toNat = 10) : TWF T N q = (p.toNat, w) := by
  obtain ⟨n, h1, h2⟩ := h
  rw [h2]
  cases n with
  | zero => rfl
  | succ n =>
    rw [tw_s, if_pos]
    rcases he with e | e
    · exact Or.inl (by omega)
    · exact Or.inr e
theorem TKI.end2 (h : TKI T N q p b w) (hp : 0 ≤ p ∧ p < N) (e : T p.toNat = 32) (hw : w.length ≠ 0) : TWF T N q = (p.toNat, w) := by
  obtain ⟨n, h1, h2⟩ := h.unf hp (by omega)
  rw [if_pos e, if_neg hw] at h2
  exact h2
theorem WDH.nil (h : v 23 = 0) : WDH v a [] := ⟨h, fun j x e => by simp at e⟩
theorem wnil (h : w.length = 0) : w = [] := List.length_eq_zero_iff.mp h
theorem gl3 {α : Type} {ls : List α} {d : α} {r : Nat} (h : ls[r]? = some d) : r < ls.length := by
  by_cases e : r < ls.length
  · exact e
  · rw [List.getElem?_eq_none (by omega)] at h; cases h
theorem WDH.push (h : WDH v a w) (hb : 1 ≤ w.length → a 22 w.length = b) (hi : i = w.length) (hi2 : i2 = w.length) (hi3 : i3 = w.length + 1) (hv : v2 23 = v 23 + 1) (hz : z = l) (hy : y = ((pp : Nat) : Int)) : WDH v2 (up2 (up2 (up2 a 20 i z) 21 i2 y) 22 i3 0) (w ++ [(l, pp, b)]) ∧ (1 ≤ (w ++ [(l, pp, b)]).length → up2 (up2 (up2 a 20 i z) 21 i2 y) 22 i3 0 22 (w ++ [(l, pp, b)]).length = 0) := by
  have e0 : (w ++ [(l, pp, b)]).length = w.length + 1 := by rw [List.length_append]; rfl
  subst hi
  subst hi2
  subst hi3
  subst hz
  subst hy
  obtain ⟨h1, h2⟩ := h
  refine ⟨⟨by omega, fun j x e => ?_⟩, fun _ => by rw [e0, up2_s]⟩
  have v20 : up2 (up2 (up2 a 20 w.length z) 21 w.length ((pp : Nat) : Int)) 22 (w.length + 1) 0 20 j = if j = w.length then z else a 20 j := by
    rw [up2_k (by decide), up2_k (by decide)]
    by_cases c : j = w.length
    · rw [c, up2_s, if_pos rfl]
    · rw [up2_j c, if_neg c]
  have v21 : up2 (up2 (up2 a 20 w.length z) 21 w.length ((pp : Nat) : Int)) 22 (w.length + 1) 0 21 j = if j = w.length then ((pp : Nat) : Int) else a 21 j := by
    rw [up2_k (by decide)]
    by_cases c : j = w.length
    · rw [c, up2_s, if_pos rfl]
    · rw [up2_j c, up2_k (by decide), if_neg c]
  have v22 : up2 (up2 (up2 a 20 w.length z) 21 w.length ((pp : Nat) : Int)) 22 (w.length + 1) 0 22 j = if j = w.length + 1 then 0 else a 22 j := by
    by_cases c : j = w.length + 1
    · rw [c, up2_s, if_pos rfl]
    · rw [up2_j c, up2_k (by decide), up2_k (by decide), if_neg c]
  rw [v20, v21, v22]
  have lt := gl3 e
  by_cases c : j < w.length
  · rw [List.getElem?_append_left c] at e
    rw [if_neg (by omega), if_neg (by omega), if_neg (by omega)]
    exact h2 j x e
  · rw [List.getElem?_append_right (by omega), show j - w.length = 0 by omega] at e
    cases e
    rw [if_pos (by omega), if_pos (by omega), if_neg (by omega)]
    refine ⟨rfl, rfl, fun q => ?_⟩
    rw [show j = w.length by omega]
    exact hb (by omega)
theorem TKW.init (h : v 23 = 0) : TKW v a T N q q := ⟨[], 0, TKI.init, WDH.nil h, fun e => absurd e (by decide)⟩
theorem TKW.sp (h : TKW v a T N q x) (hp : 0 ≤ x ∧ x < N) (e : T x.toNat = 32) (h23 : v 23 = 0) : TKW v a T N q (x + 1) := by
  obtain ⟨w, b, h1, h2, h3⟩ := h
  have h4 := h2.1
  exact ⟨w, b, h1.sp hp e (by omega), h2, h3⟩
theorem TKW.m0 (h : TKW v a T N q x) (h23 : v 23 = 0) : TKW v (up2 a 22 i z) T N q x := by
  obtain ⟨w, b, h1, h2, h3⟩ := h
  have h4 := h2.1
  have e := wnil (w := w) (by omega)
  subst e
  exact ⟨[], b, h1, WDH.nil h23, fun e => absurd e (by decide)⟩
theorem TKW.til (h : TKW v a T N q x) (hp : 0 ≤ x ∧ x < N) (e : T x.toNat = 126) (hi : i = (v 23).toNat) (hz : (0 < v 23 ∧ z = 1) ∨ (v 23 ≤ 0 ∧ z = 0)) : TKW v (up2 a 22 i z) T N q (x + 1) := by
  obtain ⟨w, b, h1, h2, h3⟩ := h
  have h4 := h2.1
  have ei : i = w.length := by omega
  subst ei
  refine ⟨w, 1, h1.til hp e, ⟨h4, fun j y g => ?_⟩, fun g => ?_⟩
  · have lt := gl3 g
    obtain ⟨k1, k2, k3⟩ := h2.2 j y g
    rw [up2_k (by decide), up2_k (by decide), up2_j (by omega)]
    exact ⟨k1, k2, k3⟩
  · rw [up2_s]; omega
theorem TKW.ltr (h : TKW v a T N q x) (hp : 0 ≤ x ∧ x < N) (h0 : T x.toNat ≠ 10) (e1 : T x.toNat ≠ 32) (e2 : T x.toNat ≠ 126) (hi : i = (v 23).toNat) (hi2 : i2 = (v 23).toNat) (hi3 : i3 = (v 23 + 1).toNat) (hv : v2 23 = v 23 + 1) (hz : z = T x.toNat) (hy : y = x) : TKW v2 (up2 (up2 (up2 a 20 i z) 21 i2 y) 22 i3 0) T N q (x + 1) := by
  obtain ⟨w, b, h1, h2, h3⟩ := h
  have h4 := h2.1
  obtain ⟨g1, g2⟩ := h2.push (v2 := v2) (l := T x.toNat) (pp := x.toNat) (i := i) (i2 := i2) (i3 := i3) (z := z) (y := y) h3 (by omega) (by omega) (by omega) hv hz (by omega)
  exact ⟨_, 0, h1.ltr hp h0 e1 e2, g1, g2⟩
theorem TKW.end1 (h : TKW v a T N q x) (hp : 0 ≤ x) (he : N ≤ x ∨ T x.toNat = 10) : TKX T N v a q x := by
  obtain ⟨w, b, h1, h2, h3⟩ := h
  exact ⟨w, h1.end1 hp he, h2⟩
theorem TKW.end2 (h : TKW v a T N q x) (hp : 0 ≤ x ∧ x < N) (e : T x.toNat = 32) (h23 : v 23 ≠ 0) : TKX T N v a q x := by
  obtain ⟨w, b, h1, h2, h3⟩ := h
  have h4 := h2.1
  exact ⟨w, h1.end2 hp e (by omega), h2⟩
theorem NNL.zero : NNL T q q := fun j h1 h2 => absurd h1 (by omega)
theorem NNL.step (h : NNL T q p) (e : T p.toNat ≠ 10) : NNL T q (p + 1) := fun j h1 h2 => by
  by_cases c : j < p
  · exact h j h1 c
  · rw [show j = p by omega]; exact e
theorem TKP.cg {T2 : Nat → Int} {N2 : Int} (h : TKP T N q u) (h29 : T2 = T) (h30 : N2 = N) : TKP T2 N2 q u := by
  subst h29
  subst h30
  exact h
end WORDS
set_option maxHeartbeats 4000000 in
set_option maxRecDepth 100000 in
theorem E_lineEnd {l : Launch} {G : GT} {h0 : Nat} {ad ln : Nat → Nat} {v : Nat → Int} {a : Nat → Nat → Int}  {q : Int} (hB : BX v a) (hq : 0 ≤ q ∧ q ≤ 1000) : Mm l G yX12_lineEnd cX12_lineEnd 3 (some .int) 0 [.int (iI q)] h0 ad ln v a 0 0 (fun r v2 a2 => ∃ f : Int, r = some (.int (iI f)) ∧ fr [] [] v a v2 a2 ∧ BX v2 a2 ∧ ((q ≤ f ∧ (f = q ∨ f ≤ v 30)) ∧ LEX (a 29) (v 30) q f)) := by
  refine Mm.mk (by decide) (Nat.le_of_ble_eq_true rfl) ?_
  intro p e s m args below meth c A C
  refine hv2 (show 0 ≤ v 30 ∧ v 30 ≤ 500 from hB.1 30) (show fr [] [] v a v a from fr.refl) (fun r30 fp0 => ?_)
  refine m_iload_n (j := 1) C dX12_lineEnd_0 rfl ?_
  refine m_istore_n (lv2 := [(2, .int (iI q)), (0, .ref h0), (1, .int (iI q))]) C dX12_lineEnd_1 (by decide) rfl ?_
  have Lp1 : ∀ (nn : Nat) (k : Int) (vb1 : Nat → Int) (ab1 : Nat → Nat → Int), 1001 - k < (nn : Int) → BX vb1 ab1 → fr [] [] v a vb1 ab1 → (q ≤ k ∧ k ≤ 1000 ∧ (k = q ∨ k ≤ v 30)) → (NNL (a 29) q k) → mw p l e (rmq 0 0 0) s m args below meth c G A 3 (MQ below (Qm G A (fun rq Lq Eq => ∃ (vq : Nat → Int) (aq : Nat → Nat → Int), mI G h0 ad ln vq aq Lq Eq ∧ (fun r v2 a2 => ∃ f : Int, r = some (.int (iI f)) ∧ fr [] [] v a v2 a2 ∧ BX v2 a2 ∧ ((q ≤ f ∧ (f = q ∨ f ≤ v 30)) ∧ LEX (a 29) (v 30) q f)) rq vq aq)) args s 0 0 A) h0 ad ln vb1 ab1 0 0 2 [(2, .int (iI k)), (0, .ref h0), (1, .int (iI q))] [] := by
    intro nn
    induction nn with
    | zero =>
      intro k vb1 ab1 hm bxb1 fpb1 hk hN
      obtain ⟨rfl, rfl⟩ := fpb1.eq
      exact absurd hm (by omega)
    | succ nn ih1 =>
      intro k vb1 ab1 hm bxb1 fpb1 hk hN
      obtain ⟨rfl, rfl⟩ := fpb1.eq
      refine m_iload_n (j := 0) C dX12_lineEnd_2 rfl ?_
      refine m_aload_n (j := 1) C dX12_lineEnd_3 rfl ?_
      have rv1 : 0 ≤ v 30 ∧ v 30 ≤ 500 := bxb1.1 30
      refine m_get (k := 30) C dX12_lineEnd_4 w6_89 (by decide) rfl ?_
      refine m_icmp_ge (tgt := 27) C ⟨by omega, by omega⟩ (r32_c (lo := 0) (hi := 500) rv1.1 rv1.2 (by decide) (by decide)) dX12_lineEnd_7 (by decide) (fun c1 => ?_) (fun c1 => ?_)
      · refine m_iload_n (j := 0) C dX12_lineEnd_27 rfl ?_
        exact m_iret C dX12_lineEnd_28 rfl (Nat.le_of_ble_eq_true rfl) (Nat.le_of_ble_eq_true rfl) ⟨k, rfl, fpb1, bxb1, ⟨by omega, hN, Or.inl (by omega)⟩⟩
      · refine m_aload_n (j := 1) C dX12_lineEnd_10 rfl ?_
        refine m_geta (k := 29) C dX12_lineEnd_11 w6_88 (by decide) rfl ?_
        refine m_iload_n (j := 0) C dX12_lineEnd_14 rfl ?_
        refine m_ald (k := 29) C dX12_lineEnd_15 rfl rfl (by decide) (by omega) (by show _ < ((_ : Nat) : Int); simp only [mlen]; omega) (by decide) ?_
        have ra1 : (-2147483648) ≤ a 29 k.toNat ∧ a 29 k.toNat ≤ 2147483647 := bxb1.2 29 (k.toNat)
        refine m_bipush (z := 10) C dX12_lineEnd_16 (by decide) ?_
        refine m_icmp_eq (tgt := 27) C (r32_c (lo := (-2147483648)) (hi := 2147483647) ra1.1 ra1.2 (by decide) (by decide)) ⟨by decide, by decide⟩ dX12_lineEnd_18 (by decide) (fun c2 => ?_) (fun c2 => ?_)
        · refine m_iload_n (j := 0) C dX12_lineEnd_27 rfl ?_
          exact m_iret C dX12_lineEnd_28 rfl (Nat.le_of_ble_eq_true rfl) (Nat.le_of_ble_eq_true rfl) ⟨k, rfl, fpb1, bxb1, ⟨by omega, hN, Or.inr (by omega)⟩⟩
        · refine m_iinc (z := k) (j := 0) (lv2 := [(2, .int (iI (k + 1))), (0, .ref h0), (1, .int (iI q))]) C dX12_lineEnd_21 rfl (by decide) rfl ?_
          refine m_goto (tgt := 2) C dX12_lineEnd_24 (by decide) ?_
          refine m_lv (lv2 := [(2, .int (iI (k + 1))), (0, .ref h0), (1, .int (iI q))]) [0, 1, 2] rfl ?_
          exact ih1  (k + 1) _ _ (by omega) bxb1 fpb1 (by omega) (hN.step (by omega))
  refine m_lv (lv2 := [(2, .int (iI q)), (0, .ref h0), (1, .int (iI q))]) [0, 1, 2] rfl ?_
  exact Lp1 1002 q _ _ (by omega) hB fp0 (by omega) NNL.zero
set_option maxHeartbeats 4000000 in
set_option maxRecDepth 100000 in
theorem E_takeWord {l : Launch} {G : GT} {h0 : Nat} {ad ln : Nat → Nat} {v : Nat → Int} {a : Nat → Nat → Int}  {q u : Int} (hB : BX v a) (hq : 0 ≤ q ∧ q ≤ 501) (hu : 0 ≤ u ∧ u ≤ 500) (hL : TKP (a 29) (v 30) q u) : Mm l G yX12_takeWord cX12_takeWord 4 (some .int) 0 [.int (iI q), .int (iI u)] h0 ad ln v a 0 0 (fun r v2 a2 => ∃ f : Int, r = some (.int (iI f)) ∧ fr [23] [20, 21, 22] v a v2 a2 ∧ BX v2 a2 ∧ (((f = q ∨ (q ≤ f ∧ f ≤ u)) ∧ v2 23 ≤ f - q) ∧ (TKX (a 29) (v 30) v2 a2 q f ∧ (v2 23 ≠ 0 ∨ f = u)))) := by
  refine Mm.mk (by decide) (Nat.le_of_ble_eq_true rfl) ?_
  intro p e s m args below meth c A C
  refine hv2 (hL.1) (show fr [23] [20, 21, 22] v a v a from fr.refl) (fun hL1 fp0 => ?_)
  refine m_iload_n (j := 1) C dX12_takeWord_0 rfl ?_
  refine m_istore_n (lv2 := [(3, .int (iI q)), (0, .ref h0), (1, .int (iI q)), (2, .int (iI u))]) C dX12_takeWord_1 (by decide) rfl ?_
  refine m_aload_n (j := 1) C dX12_takeWord_2 rfl ?_
  refine m_iconst C dX12_takeWord_3 ?_
  refine m_put (k := 23) (z := 0) C dX12_takeWord_4 w6_82 (by decide) rfl rfl rfl ?_
  refine hv2 (show BX (va_up v 23 0) a from hB.put (k := 23) (z := 0) ⟨by decide, by decide⟩) (fp0.put (k := 23) (z := 0) rfl) (fun bq1 fq1 => ?_)
  have Lp1 : ∀ (nn : Nat) (x : Int) (vb1 : Nat → Int) (ab1 : Nat → Nat → Int), 502 - x < (nn : Int) → BX vb1 ab1 → fr [23] [20, 21, 22] v a vb1 ab1 → (q ≤ x ∧ (x = q ∨ x ≤ u)) → (0 ≤ vb1 23 ∧ vb1 23 + q ≤ x) → (vb1 23 = 0 ∨ u ≤ x ∨ a 29 x.toNat = 32) → (TKW vb1 ab1 (a 29) (v 30) q x) → mw p l e (rmq 0 0 0) s m args below meth c G A 4 (MQ below (Qm G A (fun rq Lq Eq => ∃ (vq : Nat → Int) (aq : Nat → Nat → Int), mI G h0 ad ln vq aq Lq Eq ∧ (fun r v2 a2 => ∃ f : Int, r = some (.int (iI f)) ∧ fr [23] [20, 21, 22] v a v2 a2 ∧ BX v2 a2 ∧ (((f = q ∨ (q ≤ f ∧ f ≤ u)) ∧ v2 23 ≤ f - q) ∧ (TKX (a 29) (v 30) v2 a2 q f ∧ (v2 23 ≠ 0 ∨ f = u)))) rq vq aq)) args s 0 0 A) h0 ad ln vb1 ab1 0 0 7 [(3, .int (iI x)), (0, .ref h0), (1, .int (iI q)), (2, .int (iI u))] [] := by
    intro nn
    induction nn with
    | zero =>
      intro x vb1 ab1 hm bxb1 fpb1 hx h23 hsp hI
      exact absurd hm (by omega)
    | succ nn ih1 =>
      intro x vb1 ab1 hm bxb1 fpb1 hx h23 hsp hI
      refine m_iload_n (j := 0) C dX12_takeWord_7 rfl ?_
      refine m_iload_n (j := 3) C dX12_takeWord_8 rfl ?_
      refine m_icmp_ge (tgt := 150) C ⟨by omega, by omega⟩ ⟨by omega, by omega⟩ dX12_takeWord_9 (by decide) (fun c1 => ?_) (fun c1 => ?_)
      · refine m_iload_n (j := 0) C dX12_takeWord_150 rfl ?_
        have rv1 : 0 ≤ vb1 23 ∧ vb1 23 ≤ 500 := bxb1.1 23
        exact m_iret C dX12_takeWord_151 rfl (Nat.le_of_ble_eq_true rfl) (Nat.le_of_ble_eq_true rfl) ⟨x, rfl, fpb1, bxb1, ⟨(by show (x = q ∨ (q ≤ x ∧ x ≤ u)) ∧ vb1 23 ≤ x - q; omega), hI.end1 (by omega) (by have e : x = u := (by omega); rw [e]; rcases hL.2.2 with k | k; exact Or.inl (by omega); exact Or.inr k), Or.inr (by omega)⟩⟩
      · refine m_aload_n (j := 1) C dX12_takeWord_12 rfl ?_
        have rv2 : 0 ≤ vb1 23 ∧ vb1 23 ≤ 500 := bxb1.1 23
        refine m_get (k := 23) C dX12_takeWord_13 w6_82 (by decide) rfl ?_
        refine m_if_ne (tgt := 150) C (r32_c (lo := 0) (hi := 500) rv2.1 rv2.2 (by decide) (by decide)) dX12_takeWord_16 (by decide) (fun c2 => ?_) (fun c2 => ?_)
        · refine m_iload_n (j := 0) C dX12_takeWord_150 rfl ?_
          exact m_iret C dX12_takeWord_151 rfl (Nat.le_of_ble_eq_true rfl) (Nat.le_of_ble_eq_true rfl) ⟨x, rfl, fpb1, bxb1, ⟨(by show (x = q ∨ (q ≤ x ∧ x ≤ u)) ∧ vb1 23 ≤ x - q; omega), hI.end2 ⟨by omega, by omega⟩ (by omega) (by omega), Or.inl (by show (vb1 23) ≠ 0; omega)⟩⟩
        · have Lp2 : ∀ (nn : Nat) (z : Int) (vb2 : Nat → Int) (ab2 : Nat → Nat → Int), 502 - z < (nn : Int) → BX vb2 ab2 → fr [23] [20, 21, 22] v a vb2 ab2 → (x ≤ z ∧ z ≤ u) → (vb2 23 = 0) → (TKW vb2 ab2 (a 29) (v 30) q z) → mw p l e (rmq 0 0 0) s m args below meth c G A 4 (MQ below (Qm G A (fun rq Lq Eq => ∃ (vq : Nat → Int) (aq : Nat → Nat → Int), mI G h0 ad ln vq aq Lq Eq ∧ (fun r v2 a2 => ∃ f : Int, r = some (.int (iI f)) ∧ fr [23] [20, 21, 22] v a v2 a2 ∧ BX v2 a2 ∧ (((f = q ∨ (q ≤ f ∧ f ≤ u)) ∧ v2 23 ≤ f - q) ∧ (TKX (a 29) (v 30) v2 a2 q f ∧ (v2 23 ≠ 0 ∨ f = u)))) rq vq aq)) args s 0 0 A) h0 ad ln vb2 ab2 0 0 19 [(3, .int (iI z)), (0, .ref h0), (1, .int (iI q)), (2, .int (iI u))] [] := by
            intro nn
            induction nn with
            | zero =>
              intro z vb2 ab2 hm bxb2 fpb2 hz hz3 hI2
              exact absurd hm (by omega)
            | succ nn ih2 =>
              intro z vb2 ab2 hm bxb2 fpb2 hz hz3 hI2
              refine m_iload_n (j := 0) C dX12_takeWord_19 rfl ?_
              refine m_iload_n (j := 3) C dX12_takeWord_20 rfl ?_
              refine m_icmp_ge (tgt := 41) C ⟨by omega, by omega⟩ ⟨by omega, by omega⟩ dX12_takeWord_21 (by decide) (fun c3 => ?_) (fun c3 => ?_)
              · refine m_aload_n (j := 1) C dX12_takeWord_41 rfl ?_
                refine m_geta (k := 22) C dX12_takeWord_42 w6_81 (by decide) rfl ?_
                refine m_iconst C dX12_takeWord_45 ?_
                refine m_iconst C dX12_takeWord_46 ?_
                refine m_zast (k := 22) (w := 0) C dX12_takeWord_47 rfl rfl (by decide) (by decide) (by decide) (by decide) (by omega) ?_
                refine hv2 (show BX vb2 (up2 ab2 22 (0 : Int).toNat 0) from bxb2.set (k := 22) (i := (0 : Int).toNat) (z := 0) ⟨by decide, by decide⟩) (fpb2.set (k := 22) (i := (0 : Int).toNat) (z := 0) rfl) (fun bq2 fq2 => ?_)
                have Lp3 : ∀ (nn : Nat) (y : Int) (vb3 : Nat → Int) (ab3 : Nat → Nat → Int), 502 - y < (nn : Int) → BX vb3 ab3 → fr [23] [20, 21, 22] v a vb3 ab3 → (x ≤ y ∧ y ≤ u) → (0 ≤ vb3 23 ∧ vb3 23 + q ≤ y) → (x < y ∨ (y = x ∧ ¬ a 29 y.toNat = 32)) → (TKW vb3 ab3 (a 29) (v 30) q y) → mw p l e (rmq 0 0 0) s m args below meth c G A 4 (MQ below (Qm G A (fun rq Lq Eq => ∃ (vq : Nat → Int) (aq : Nat → Nat → Int), mI G h0 ad ln vq aq Lq Eq ∧ (fun r v2 a2 => ∃ f : Int, r = some (.int (iI f)) ∧ fr [23] [20, 21, 22] v a v2 a2 ∧ BX v2 a2 ∧ (((f = q ∨ (q ≤ f ∧ f ≤ u)) ∧ v2 23 ≤ f - q) ∧ (TKX (a 29) (v 30) v2 a2 q f ∧ (v2 23 ≠ 0 ∨ f = u)))) rq vq aq)) args s 0 0 A) h0 ad ln vb3 ab3 0 0 48 [(3, .int (iI y)), (0, .ref h0), (1, .int (iI q)), (2, .int (iI u))] [] := by
                  intro nn
                  induction nn with
                  | zero =>
                    intro y vb3 ab3 hm bxb3 fpb3 hy hy3 hy4 hI3
                    exact absurd hm (by omega)
                  | succ nn ih3 =>
                    intro y vb3 ab3 hm bxb3 fpb3 hy hy3 hy4 hI3
                    refine m_iload_n (j := 0) C dX12_takeWord_48 rfl ?_
                    refine m_iload_n (j := 3) C dX12_takeWord_49 rfl ?_
                    refine m_icmp_ge (tgt := 7) C ⟨by omega, by omega⟩ ⟨by omega, by omega⟩ dX12_takeWord_50 (by decide) (fun c4 => ?_) (fun c4 => ?_)
                    · have rv3 : 0 ≤ vb3 23 ∧ vb3 23 ≤ 500 := bxb3.1 23
                      refine m_lv (lv2 := [(3, .int (iI y)), (0, .ref h0), (1, .int (iI q)), (2, .int (iI u))]) [0, 1, 2, 3] rfl ?_
                      exact ih1  y _ _ (by omega) bxb3 fpb3 (by omega) (by show 0 ≤ (vb3 23) ∧ (vb3 23) + q ≤ y; omega) (Or.inr (Or.inl (by omega))) hI3
                    · refine m_aload_n (j := 1) C dX12_takeWord_53 rfl ?_
                      refine m_geta (k := 29) C dX12_takeWord_54 w6_88 (by decide) rfl ?_
                      refine m_iload_n (j := 0) C dX12_takeWord_57 rfl ?_
                      refine m_ald (k := 29) C dX12_takeWord_58 rfl rfl (by decide) (by omega) (by show _ < ((_ : Nat) : Int); simp only [mlen]; omega) (by decide) ?_
                      refine hv2 (show (-2147483648) ≤ ab3 29 y.toNat ∧ ab3 29 y.toNat ≤ 2147483647 from bxb3.2 29 (y.toNat)) (show ab3 29 (y.toNat) = a 29 (y.toNat) from congrFun (fpb3.2 29 rfl) (y.toNat)) (fun ra1 ae1 => ?_)
                      refine m_st (st2 := [.int (iI (a 29 y.toNat))]) (congrArg (fun z => Value.int (iI z) :: []) (congrFun (fpb3.2 29 rfl) (y.toNat))) ?_
                      refine m_bipush (z := 32) C dX12_takeWord_59 (by decide) ?_
                      refine m_icmp_eq (tgt := 7) C ⟨by omega, by omega⟩ ⟨by decide, by decide⟩ dX12_takeWord_61 (by decide) (fun c5 => ?_) (fun c5 => ?_)
                      · have rv4 : 0 ≤ vb3 23 ∧ vb3 23 ≤ 500 := bxb3.1 23
                        refine m_lv (lv2 := [(3, .int (iI y)), (0, .ref h0), (1, .int (iI q)), (2, .int (iI u))]) [0, 1, 2, 3] rfl ?_
                        exact ih1  y _ _ (by omega) bxb3 fpb3 (by omega) (by show 0 ≤ (vb3 23) ∧ (vb3 23) + q ≤ y; omega) (Or.inr (Or.inr (by omega))) hI3
                      · refine m_aload_n (j := 1) C dX12_takeWord_64 rfl ?_
                        refine m_geta (k := 29) C dX12_takeWord_65 w6_88 (by decide) rfl ?_
                        refine m_iload_n (j := 0) C dX12_takeWord_68 rfl ?_
                        refine m_ald (k := 29) C dX12_takeWord_69 rfl rfl (by decide) (by omega) (by show _ < ((_ : Nat) : Int); simp only [mlen]; omega) (by decide) ?_
                        refine m_st (st2 := [.int (iI (a 29 y.toNat))]) (congrArg (fun z => Value.int (iI z) :: []) (congrFun (fpb3.2 29 rfl) (y.toNat))) ?_
                        refine m_bipush (z := 126) C dX12_takeWord_70 (by decide) ?_
                        refine m_icmp_ne (tgt := 99) C ⟨by omega, by omega⟩ ⟨by decide, by decide⟩ dX12_takeWord_72 (by decide) (fun c6 => ?_) (fun c6 => ?_)
                        · refine m_aload_n (j := 1) C dX12_takeWord_99 rfl ?_
                          refine m_geta (k := 20) C dX12_takeWord_100 w6_79 (by decide) rfl ?_
                          refine m_aload_n (j := 1) C dX12_takeWord_103 rfl ?_
                          have rv5 : 0 ≤ vb3 23 ∧ vb3 23 ≤ 500 := bxb3.1 23
                          refine m_get (k := 23) C dX12_takeWord_104 w6_82 (by decide) rfl ?_
                          refine m_aload_n (j := 1) C dX12_takeWord_107 rfl ?_
                          refine m_geta (k := 29) C dX12_takeWord_108 w6_88 (by decide) rfl ?_
                          refine m_iload_n (j := 0) C dX12_takeWord_111 rfl ?_
                          refine m_ald (k := 29) C dX12_takeWord_112 rfl rfl (by decide) (by omega) (by show _ < ((_ : Nat) : Int); simp only [mlen]; omega) (by decide) ?_
                          refine m_st (st2 := [.int (iI (a 29 y.toNat)), .int (iI (vb3 23)), .ref (ad 20)]) (congrArg (fun z => Value.int (iI z) :: [.int (iI (vb3 23)), .ref (ad 20)]) (congrFun (fpb3.2 29 rfl) (y.toNat))) ?_
                          refine m_ast (k := 20) C dX12_takeWord_113 rfl rfl (by decide) rv5.1 (Int.lt_of_le_of_lt rv5.2 (by decide)) (by decide) ?_
                          refine hv2 (show BX vb3 (up2 ab3 20 (vb3 23).toNat (a 29 y.toNat)) from bxb3.set (k := 20) (i := (vb3 23).toNat) (z := a 29 y.toNat) (show (-2147483648) ≤ (a 29 y.toNat) ∧ (a 29 y.toNat) ≤ 2147483647 by omega)) (fpb3.set (k := 20) (i := (vb3 23).toNat) (z := a 29 y.toNat) rfl) (fun bq3 fq3 => ?_)
                          refine m_aload_n (j := 1) C dX12_takeWord_114 rfl ?_
                          refine m_geta (k := 21) C dX12_takeWord_115 w6_80 (by decide) rfl ?_
                          refine m_aload_n (j := 1) C dX12_takeWord_118 rfl ?_
                          refine m_get (k := 23) C dX12_takeWord_119 w6_82 (by decide) rfl ?_
                          refine m_iload_n (j := 0) C dX12_takeWord_122 rfl ?_
                          refine m_ast (k := 21) C dX12_takeWord_123 rfl rfl (by decide) rv5.1 (Int.lt_of_le_of_lt rv5.2 (by decide)) (by decide) ?_
                          refine hv2 (show BX vb3 (up2 (up2 ab3 20 (vb3 23).toNat (a 29 y.toNat)) 21 (vb3 23).toNat y) from bq3.set (k := 21) (i := (vb3 23).toNat) (z := y) (show (-2147483648) ≤ y ∧ y ≤ 2147483647 by omega)) (fq3.set (k := 21) (i := (vb3 23).toNat) (z := y) rfl) (fun bq4 fq4 => ?_)
                          refine m_aload_n (j := 1) C dX12_takeWord_124 rfl ?_
                          refine m_dup C dX12_takeWord_125 rfl ?_
                          refine m_get (k := 23) C dX12_takeWord_126 w6_82 (by decide) rfl ?_
                          refine m_iconst C dX12_takeWord_129 ?_
                          refine m_iadd C dX12_takeWord_130 ?_
                          refine m_put (k := 23) (z := (vb3 23) + 1) C dX12_takeWord_131 w6_82 (by decide) rfl rfl rfl ?_
                          refine hv2 (show BX (va_up vb3 23 ((vb3 23) + 1)) (up2 (up2 ab3 20 (vb3 23).toNat (a 29 y.toNat)) 21 (vb3 23).toNat y) from bq4.put (k := 23) (z := (vb3 23) + 1) (show 0 ≤ ((vb3 23) + 1) ∧ ((vb3 23) + 1) ≤ 500 by omega)) (fq4.put (k := 23) (z := (vb3 23) + 1) rfl) (fun bq5 fq5 => ?_)
                          refine m_aload_n (j := 1) C dX12_takeWord_134 rfl ?_
                          refine m_geta (k := 22) C dX12_takeWord_135 w6_81 (by decide) rfl ?_
                          refine m_aload_n (j := 1) C dX12_takeWord_138 rfl ?_
                          refine m_get (k := 23) C dX12_takeWord_139 w6_82 (by decide) rfl ?_
                          refine m_st (st2 := [.int (iI ((vb3 23) + 1)), .ref (ad 22)]) rfl ?_
                          refine m_iconst C dX12_takeWord_142 ?_
                          refine m_zast (k := 22) (w := 0) C dX12_takeWord_143 rfl rfl (by decide) (by omega) (by show _ < ((_ : Nat) : Int); simp only [mlen]; omega) (by decide) (by omega) ?_
                          refine hv2 (show BX (va_up vb3 23 ((vb3 23) + 1)) (up2 (up2 (up2 ab3 20 (vb3 23).toNat (a 29 y.toNat)) 21 (vb3 23).toNat y) 22 ((vb3 23) + 1).toNat 0) from bq5.set (k := 22) (i := ((vb3 23) + 1).toNat) (z := 0) ⟨by decide, by decide⟩) (fq5.set (k := 22) (i := ((vb3 23) + 1).toNat) (z := 0) rfl) (fun bq6 fq6 => ?_)
                          refine m_iinc (z := y) (j := 0) (lv2 := [(3, .int (iI (y + 1))), (0, .ref h0), (1, .int (iI q)), (2, .int (iI u))]) C dX12_takeWord_144 rfl (by decide) rfl ?_
                          refine m_goto (tgt := 48) C dX12_takeWord_147 (by decide) ?_
                          refine m_lv (lv2 := [(3, .int (iI (y + 1))), (0, .ref h0), (1, .int (iI q)), (2, .int (iI u))]) [0, 1, 2, 3] rfl ?_
                          exact ih3  (y + 1) _ _ (by omega) bq6 fq6 (by omega) (by show 0 ≤ ((vb3 23) + 1) ∧ ((vb3 23) + 1) + q ≤ (y + 1); omega) (by omega) (hI3.ltr ⟨by omega, by omega⟩ (hL.2.1 y (by omega) (by omega)) (by omega) (by omega) rfl rfl (by omega) (va_up_self _ _ _) (by omega) rfl)
                        · refine m_aload_n (j := 1) C dX12_takeWord_75 rfl ?_
                          refine m_geta (k := 22) C dX12_takeWord_76 w6_81 (by decide) rfl ?_
                          refine m_aload_n (j := 1) C dX12_takeWord_79 rfl ?_
                          have rv6 : 0 ≤ vb3 23 ∧ vb3 23 ≤ 500 := bxb3.1 23
                          refine m_get (k := 23) C dX12_takeWord_80 w6_82 (by decide) rfl ?_
                          refine m_aload_n (j := 1) C dX12_takeWord_83 rfl ?_
                          refine m_get (k := 23) C dX12_takeWord_84 w6_82 (by decide) rfl ?_
                          refine m_if_le (tgt := 94) C (r32_c (lo := 0) (hi := 500) rv6.1 rv6.2 (by decide) (by decide)) dX12_takeWord_87 (by decide) (fun c7 => ?_) (fun c7 => ?_)
                          · refine m_iconst C dX12_takeWord_94 ?_
                            refine m_zast (k := 22) (w := 0) C dX12_takeWord_95 rfl rfl (by decide) rv6.1 (Int.lt_of_le_of_lt rv6.2 (by decide)) (by decide) (by omega) ?_
                            refine hv2 (show BX vb3 (up2 ab3 22 (vb3 23).toNat 0) from bxb3.set (k := 22) (i := (vb3 23).toNat) (z := 0) ⟨by decide, by decide⟩) (fpb3.set (k := 22) (i := (vb3 23).toNat) (z := 0) rfl) (fun bq7 fq7 => ?_)
                            refine m_goto (tgt := 144) C dX12_takeWord_96 (by decide) ?_
                            refine m_iinc (z := y) (j := 0) (lv2 := [(3, .int (iI (y + 1))), (0, .ref h0), (1, .int (iI q)), (2, .int (iI u))]) C dX12_takeWord_144 rfl (by decide) rfl ?_
                            refine m_goto (tgt := 48) C dX12_takeWord_147 (by decide) ?_
                            refine m_lv (lv2 := [(3, .int (iI (y + 1))), (0, .ref h0), (1, .int (iI q)), (2, .int (iI u))]) [0, 1, 2, 3] rfl ?_
                            exact ih3  (y + 1) _ _ (by omega) bq7 fq7 (by omega) (by show 0 ≤ (vb3 23) ∧ (vb3 23) + q ≤ (y + 1); omega) (by omega) (hI3.til ⟨by omega, by omega⟩ (by omega) rfl (by omega))
                          · refine m_iconst C dX12_takeWord_90 ?_
                            refine m_goto (tgt := 95) C dX12_takeWord_91 (by decide) ?_
                            refine m_zast (k := 22) (w := 1) C dX12_takeWord_95 rfl rfl (by decide) rv6.1 (Int.lt_of_le_of_lt rv6.2 (by decide)) (by decide) (by omega) ?_
                            refine hv2 (show BX vb3 (up2 ab3 22 (vb3 23).toNat 1) from bxb3.set (k := 22) (i := (vb3 23).toNat) (z := 1) ⟨by decide, by decide⟩) (fpb3.set (k := 22) (i := (vb3 23).toNat) (z := 1) rfl) (fun bq8 fq8 => ?_)
                            refine m_goto (tgt := 144) C dX12_takeWord_96 (by decide) ?_
                            refine m_iinc (z := y) (j := 0) (lv2 := [(3, .int (iI (y + 1))), (0, .ref h0), (1, .int (iI q)), (2, .int (iI u))]) C dX12_takeWord_144 rfl (by decide) rfl ?_
                            refine m_goto (tgt := 48) C dX12_takeWord_147 (by decide) ?_
                            refine m_lv (lv2 := [(3, .int (iI (y + 1))), (0, .ref h0), (1, .int (iI q)), (2, .int (iI u))]) [0, 1, 2, 3] rfl ?_
                            exact ih3  (y + 1) _ _ (by omega) bq8 fq8 (by omega) (by show 0 ≤ (vb3 23) ∧ (vb3 23) + q ≤ (y + 1); omega) (by omega) (hI3.til ⟨by omega, by omega⟩ (by omega) rfl (by omega))
                have rv7 : 0 ≤ vb2 23 ∧ vb2 23 ≤ 500 := bq2.1 23
                refine m_lv (lv2 := [(3, .int (iI z)), (0, .ref h0), (1, .int (iI q)), (2, .int (iI u))]) [0, 1, 2, 3] rfl ?_
                exact Lp3 503 z _ _ (by omega) bq2 fq2 (by omega) (by show 0 ≤ (vb2 23) ∧ (vb2 23) + q ≤ z; omega) (by omega) (hI2.m0 (by omega))
              · refine m_aload_n (j := 1) C dX12_takeWord_24 rfl ?_
                refine m_geta (k := 29) C dX12_takeWord_25 w6_88 (by decide) rfl ?_
                refine m_iload_n (j := 0) C dX12_takeWord_28 rfl ?_
                refine m_ald (k := 29) C dX12_takeWord_29 rfl rfl (by decide) (by omega) (by show _ < ((_ : Nat) : Int); simp only [mlen]; omega) (by decide) ?_
                refine hv2 (show (-2147483648) ≤ ab2 29 z.toNat ∧ ab2 29 z.toNat ≤ 2147483647 from bxb2.2 29 (z.toNat)) (show ab2 29 (z.toNat) = a 29 (z.toNat) from congrFun (fpb2.2 29 rfl) (z.toNat)) (fun ra2 ae2 => ?_)
                refine m_st (st2 := [.int (iI (a 29 z.toNat))]) (congrArg (fun z => Value.int (iI z) :: []) (congrFun (fpb2.2 29 rfl) (z.toNat))) ?_
                refine m_bipush (z := 32) C dX12_takeWord_30 (by decide) ?_
                refine m_icmp_ne (tgt := 41) C ⟨by omega, by omega⟩ ⟨by decide, by decide⟩ dX12_takeWord_32 (by decide) (fun c8 => ?_) (fun c8 => ?_)
                · refine m_aload_n (j := 1) C dX12_takeWord_41 rfl ?_
                  refine m_geta (k := 22) C dX12_takeWord_42 w6_81 (by decide) rfl ?_
                  refine m_iconst C dX12_takeWord_45 ?_
                  refine m_iconst C dX12_takeWord_46 ?_
                  refine m_zast (k := 22) (w := 0) C dX12_takeWord_47 rfl rfl (by decide) (by decide) (by decide) (by decide) (by omega) ?_
                  refine hv2 (show BX vb2 (up2 ab2 22 (0 : Int).toNat 0) from bxb2.set (k := 22) (i := (0 : Int).toNat) (z := 0) ⟨by decide, by decide⟩) (fpb2.set (k := 22) (i := (0 : Int).toNat) (z := 0) rfl) (fun bq9 fq9 => ?_)
                  have Lp4 : ∀ (nn : Nat) (y : Int) (vb4 : Nat → Int) (ab4 : Nat → Nat → Int), 502 - y < (nn : Int) → BX vb4 ab4 → fr [23] [20, 21, 22] v a vb4 ab4 → (x ≤ y ∧ y ≤ u) → (0 ≤ vb4 23 ∧ vb4 23 + q ≤ y) → (x < y ∨ (y = x ∧ ¬ a 29 y.toNat = 32)) → (TKW vb4 ab4 (a 29) (v 30) q y) → mw p l e (rmq 0 0 0) s m args below meth c G A 4 (MQ below (Qm G A (fun rq Lq Eq => ∃ (vq : Nat → Int) (aq : Nat → Nat → Int), mI G h0 ad ln vq aq Lq Eq ∧ (fun r v2 a2 => ∃ f : Int, r = some (.int (iI f)) ∧ fr [23] [20, 21, 22] v a v2 a2 ∧ BX v2 a2 ∧ (((f = q ∨ (q ≤ f ∧ f ≤ u)) ∧ v2 23 ≤ f - q) ∧ (TKX (a 29) (v 30) v2 a2 q f ∧ (v2 23 ≠ 0 ∨ f = u)))) rq vq aq)) args s 0 0 A) h0 ad ln vb4 ab4 0 0 48 [(3, .int (iI y)), (0, .ref h0), (1, .int (iI q)), (2, .int (iI u))] [] := by
                    intro nn
                    induction nn with
                    | zero =>
                      intro y vb4 ab4 hm bxb4 fpb4 hy hy3 hy4 hI3
                      exact absurd hm (by omega)
                    | succ nn ih4 =>
                      intro y vb4 ab4 hm bxb4 fpb4 hy hy3 hy4 hI3
                      refine m_iload_n (j := 0) C dX12_takeWord_48 rfl ?_
                      refine m_iload_n (j := 3) C dX12_takeWord_49 rfl ?_
                      refine m_icmp_ge (tgt := 7) C ⟨by omega, by omega⟩ ⟨by omega, by omega⟩ dX12_takeWord_50 (by decide) (fun c9 => ?_) (fun c9 => ?_)
                      · have rv8 : 0 ≤ vb4 23 ∧ vb4 23 ≤ 500 := bxb4.1 23
                        refine m_lv (lv2 := [(3, .int (iI y)), (0, .ref h0), (1, .int (iI q)), (2, .int (iI u))]) [0, 1, 2, 3] rfl ?_
                        exact ih1  y _ _ (by omega) bxb4 fpb4 (by omega) (by show 0 ≤ (vb4 23) ∧ (vb4 23) + q ≤ y; omega) (Or.inr (Or.inl (by omega))) hI3
                      · refine m_aload_n (j := 1) C dX12_takeWord_53 rfl ?_
                        refine m_geta (k := 29) C dX12_takeWord_54 w6_88 (by decide) rfl ?_
                        refine m_iload_n (j := 0) C dX12_takeWord_57 rfl ?_
                        refine m_ald (k := 29) C dX12_takeWord_58 rfl rfl (by decide) (by omega) (by show _ < ((_ : Nat) : Int); simp only [mlen]; omega) (by decide) ?_
                        refine hv2 (show (-2147483648) ≤ ab4 29 y.toNat ∧ ab4 29 y.toNat ≤ 2147483647 from bxb4.2 29 (y.toNat)) (show ab4 29 (y.toNat) = a 29 (y.toNat) from congrFun (fpb4.2 29 rfl) (y.toNat)) (fun ra3 ae3 => ?_)
                        refine m_st (st2 := [.int (iI (a 29 y.toNat))]) (congrArg (fun z => Value.int (iI z) :: []) (congrFun (fpb4.2 29 rfl) (y.toNat))) ?_
                        refine m_bipush (z := 32) C dX12_takeWord_59 (by decide) ?_
                        refine m_icmp_eq (tgt := 7) C ⟨by omega, by omega⟩ ⟨by decide, by decide⟩ dX12_takeWord_61 (by decide) (fun c10 => ?_) (fun c10 => ?_)
                        · have rv9 : 0 ≤ vb4 23 ∧ vb4 23 ≤ 500 := bxb4.1 23
                          refine m_lv (lv2 := [(3, .int (iI y)), (0, .ref h0), (1, .int (iI q)), (2, .int (iI u))]) [0, 1, 2, 3] rfl ?_
                          exact ih1  y _ _ (by omega) bxb4 fpb4 (by omega) (by show 0 ≤ (vb4 23) ∧ (vb4 23) + q ≤ y; omega) (Or.inr (Or.inr (by omega))) hI3
                        · refine m_aload_n (j := 1) C dX12_takeWord_64 rfl ?_
                          refine m_geta (k := 29) C dX12_takeWord_65 w6_88 (by decide) rfl ?_
                          refine m_iload_n (j := 0) C dX12_takeWord_68 rfl ?_
                          refine m_ald (k := 29) C dX12_takeWord_69 rfl rfl (by decide) (by omega) (by show _ < ((_ : Nat) : Int); simp only [mlen]; omega) (by decide) ?_
                          refine m_st (st2 := [.int (iI (a 29 y.toNat))]) (congrArg (fun z => Value.int (iI z) :: []) (congrFun (fpb4.2 29 rfl) (y.toNat))) ?_
                          refine m_bipush (z := 126) C dX12_takeWord_70 (by decide) ?_
                          refine m_icmp_ne (tgt := 99) C ⟨by omega, by omega⟩ ⟨by decide, by decide⟩ dX12_takeWord_72 (by decide) (fun c11 => ?_) (fun c11 => ?_)
                          · refine m_aload_n (j := 1) C dX12_takeWord_99 rfl ?_
                            refine m_geta (k := 20) C dX12_takeWord_100 w6_79 (by decide) rfl ?_
                            refine m_aload_n (j := 1) C dX12_takeWord_103 rfl ?_
                            have rv10 : 0 ≤ vb4 23 ∧ vb4 23 ≤ 500 := bxb4.1 23
                            refine m_get (k := 23) C dX12_takeWord_104 w6_82 (by decide) rfl ?_
                            refine m_aload_n (j := 1) C dX12_takeWord_107 rfl ?_
                            refine m_geta (k := 29) C dX12_takeWord_108 w6_88 (by decide) rfl ?_
                            refine m_iload_n (j := 0) C dX12_takeWord_111 rfl ?_
                            refine m_ald (k := 29) C dX12_takeWord_112 rfl rfl (by decide) (by omega) (by show _ < ((_ : Nat) : Int); simp only [mlen]; omega) (by decide) ?_
                            refine m_st (st2 := [.int (iI (a 29 y.toNat)), .int (iI (vb4 23)), .ref (ad 20)]) (congrArg (fun z => Value.int (iI z) :: [.int (iI (vb4 23)), .ref (ad 20)]) (congrFun (fpb4.2 29 rfl) (y.toNat))) ?_
                            refine m_ast (k := 20) C dX12_takeWord_113 rfl rfl (by decide) rv10.1 (Int.lt_of_le_of_lt rv10.2 (by decide)) (by decide) ?_
                            refine hv2 (show BX vb4 (up2 ab4 20 (vb4 23).toNat (a 29 y.toNat)) from bxb4.set (k := 20) (i := (vb4 23).toNat) (z := a 29 y.toNat) (show (-2147483648) ≤ (a 29 y.toNat) ∧ (a 29 y.toNat) ≤ 2147483647 by omega)) (fpb4.set (k := 20) (i := (vb4 23).toNat) (z := a 29 y.toNat) rfl) (fun bq10 fq10 => ?_)
                            refine m_aload_n (j := 1) C dX12_takeWord_114 rfl ?_
                            refine m_geta (k := 21) C dX12_takeWord_115 w6_80 (by decide) rfl ?_
                            refine m_aload_n (j := 1) C dX12_takeWord_118 rfl ?_
                            refine m_get (k := 23) C dX12_takeWord_119 w6_82 (by decide) rfl ?_
                            refine m_iload_n (j := 0) C dX12_takeWord_122 rfl ?_
                            refine m_ast (k := 21) C dX12_takeWord_123 rfl rfl (by decide) rv10.1 (Int.lt_of_le_of_lt rv10.2 (by decide)) (by decide) ?_
                            refine hv2 (show BX vb4 (up2 (up2 ab4 20 (vb4 23).toNat (a 29 y.toNat)) 21 (vb4 23).toNat y) from bq10.set (k := 21) (i := (vb4 23).toNat) (z := y) (show (-2147483648) ≤ y ∧ y ≤ 2147483647 by omega)) (fq10.set (k := 21) (i := (vb4 23).toNat) (z := y) rfl) (fun bq11 fq11 => ?_)
                            refine m_aload_n (j := 1) C dX12_takeWord_124 rfl ?_
                            refine m_dup C dX12_takeWord_125 rfl ?_
                            refine m_get (k := 23) C dX12_takeWord_126 w6_82 (by decide) rfl ?_
                            refine m_iconst C dX12_takeWord_129 ?_
                            refine m_iadd C dX12_takeWord_130 ?_
                            refine m_put (k := 23) (z := (vb4 23) + 1) C dX12_takeWord_131 w6_82 (by decide) rfl rfl rfl ?_
                            refine hv2 (show BX (va_up vb4 23 ((vb4 23) + 1)) (up2 (up2 ab4 20 (vb4 23).toNat (a 29 y.toNat)) 21 (vb4 23).toNat y) from bq11.put (k := 23) (z := (vb4 23) + 1) (show 0 ≤ ((vb4 23) + 1) ∧ ((vb4 23) + 1) ≤ 500 by omega)) (fq11.put (k := 23) (z := (vb4 23) + 1) rfl) (fun bq12 fq12 => ?_)
                            refine m_aload_n (j := 1) C dX12_takeWord_134 rfl ?_
                            refine m_geta (k := 22) C dX12_takeWord_135 w6_81 (by decide) rfl ?_
                            refine m_aload_n (j := 1) C dX12_takeWord_138 rfl ?_
                            refine m_get (k := 23) C dX12_takeWord_139 w6_82 (by decide) rfl ?_
                            refine m_st (st2 := [.int (iI ((vb4 23) + 1)), .ref (ad 22)]) rfl ?_
                            refine m_iconst C dX12_takeWord_142 ?_
                            refine m_zast (k := 22) (w := 0) C dX12_takeWord_143 rfl rfl (by decide) (by omega) (by show _ < ((_ : Nat) : Int); simp only [mlen]; omega) (by decide) (by omega) ?_
                            refine hv2 (show BX (va_up vb4 23 ((vb4 23) + 1)) (up2 (up2 (up2 ab4 20 (vb4 23).toNat (a 29 y.toNat)) 21 (vb4 23).toNat y) 22 ((vb4 23) + 1).toNat 0) from bq12.set (k := 22) (i := ((vb4 23) + 1).toNat) (z := 0) ⟨by decide, by decide⟩) (fq12.set (k := 22) (i := ((vb4 23) + 1).toNat) (z := 0) rfl) (fun bq13 fq13 => ?_)
                            refine m_iinc (z := y) (j := 0) (lv2 := [(3, .int (iI (y + 1))), (0, .ref h0), (1, .int (iI q)), (2, .int (iI u))]) C dX12_takeWord_144 rfl (by decide) rfl ?_
                            refine m_goto (tgt := 48) C dX12_takeWord_147 (by decide) ?_
                            refine m_lv (lv2 := [(3, .int (iI (y + 1))), (0, .ref h0), (1, .int (iI q)), (2, .int (iI u))]) [0, 1, 2, 3] rfl ?_
                            exact ih4  (y + 1) _ _ (by omega) bq13 fq13 (by omega) (by show 0 ≤ ((vb4 23) + 1) ∧ ((vb4 23) + 1) + q ≤ (y + 1); omega) (by omega) (hI3.ltr ⟨by omega, by omega⟩ (hL.2.1 y (by omega) (by omega)) (by omega) (by omega) rfl rfl (by omega) (va_up_self _ _ _) (by omega) rfl)
                          · refine m_aload_n (j := 1) C dX12_takeWord_75 rfl ?_
                            refine m_geta (k := 22) C dX12_takeWord_76 w6_81 (by decide) rfl ?_
                            refine m_aload_n (j := 1) C dX12_takeWord_79 rfl ?_
                            have rv11 : 0 ≤ vb4 23 ∧ vb4 23 ≤ 500 := bxb4.1 23
                            refine m_get (k := 23) C dX12_takeWord_80 w6_82 (by decide) rfl ?_
                            refine m_aload_n (j := 1) C dX12_takeWord_83 rfl ?_
                            refine m_get (k := 23) C dX12_takeWord_84 w6_82 (by decide) rfl ?_
                            refine m_if_le (tgt := 94) C (r32_c (lo := 0) (hi := 500) rv11.1 rv11.2 (by decide) (by decide)) dX12_takeWord_87 (by decide) (fun c12 => ?_) (fun c12 => ?_)
                            · refine m_iconst C dX12_takeWord_94 ?_
                              refine m_zast (k := 22) (w := 0) C dX12_takeWord_95 rfl rfl (by decide) rv11.1 (Int.lt_of_le_of_lt rv11.2 (by decide)) (by decide) (by omega) ?_
                              refine hv2 (show BX vb4 (up2 ab4 22 (vb4 23).toNat 0) from bxb4.set (k := 22) (i := (vb4 23).toNat) (z := 0) ⟨by decide, by decide⟩) (fpb4.set (k := 22) (i := (vb4 23).toNat) (z := 0) rfl) (fun bq14 fq14 => ?_)
                              refine m_goto (tgt := 144) C dX12_takeWord_96 (by decide) ?_
                              refine m_iinc (z := y) (j := 0) (lv2 := [(3, .int (iI (y + 1))), (0, .ref h0), (1, .int (iI q)), (2, .int (iI u))]) C dX12_takeWord_144 rfl (by decide) rfl ?_
                              refine m_goto (tgt := 48) C dX12_takeWord_147 (by decide) ?_
                              refine m_lv (lv2 := [(3, .int (iI (y + 1))), (0, .ref h0), (1, .int (iI q)), (2, .int (iI u))]) [0, 1, 2, 3] rfl ?_
                              exact ih4  (y + 1) _ _ (by omega) bq14 fq14 (by omega) (by show 0 ≤ (vb4 23) ∧ (vb4 23) + q ≤ (y + 1); omega) (by omega) (hI3.til ⟨by omega, by omega⟩ (by omega) rfl (by omega))
                            · refine m_iconst C dX12_takeWord_90 ?_
                              refine m_goto (tgt := 95) C dX12_takeWord_91 (by decide) ?_
                              refine m_zast (k := 22) (w := 1) C dX12_takeWord_95 rfl rfl (by decide) rv11.1 (Int.lt_of_le_of_lt rv11.2 (by decide)) (by decide) (by omega) ?_
                              refine hv2 (show BX vb4 (up2 ab4 22 (vb4 23).toNat 1) from bxb4.set (k := 22) (i := (vb4 23).toNat) (z := 1) ⟨by decide, by decide⟩) (fpb4.set (k := 22) (i := (vb4 23).toNat) (z := 1) rfl) (fun bq15 fq15 => ?_)
                              refine m_goto (tgt := 144) C dX12_takeWord_96 (by decide) ?_
                              refine m_iinc (z := y) (j := 0) (lv2 := [(3, .int (iI (y + 1))), (0, .ref h0), (1, .int (iI q)), (2, .int (iI u))]) C dX12_takeWord_144 rfl (by decide) rfl ?_
                              refine m_goto (tgt := 48) C dX12_takeWord_147 (by decide) ?_
                              refine m_lv (lv2 := [(3, .int (iI (y + 1))), (0, .ref h0), (1, .int (iI q)), (2, .int (iI u))]) [0, 1, 2, 3] rfl ?_
                              exact ih4  (y + 1) _ _ (by omega) bq15 fq15 (by omega) (by show 0 ≤ (vb4 23) ∧ (vb4 23) + q ≤ (y + 1); omega) (by omega) (hI3.til ⟨by omega, by omega⟩ (by omega) rfl (by omega))
                  have rv12 : 0 ≤ vb2 23 ∧ vb2 23 ≤ 500 := bq9.1 23
                  refine m_lv (lv2 := [(3, .int (iI z)), (0, .ref h0), (1, .int (iI q)), (2, .int (iI u))]) [0, 1, 2, 3] rfl ?_
                  exact Lp4 503 z _ _ (by omega) bq9 fq9 (by omega) (by show 0 ≤ (vb2 23) ∧ (vb2 23) + q ≤ z; omega) (by omega) (hI2.m0 (by omega))
                · refine m_iinc (z := z) (j := 0) (lv2 := [(3, .int (iI (z + 1))), (0, .ref h0), (1, .int (iI q)), (2, .int (iI u))]) C dX12_takeWord_35 rfl (by decide) rfl ?_
                  refine m_goto (tgt := 19) C dX12_takeWord_38 (by decide) ?_
                  have rv13 : 0 ≤ vb2 23 ∧ vb2 23 ≤ 500 := bxb2.1 23
                  refine m_lv (lv2 := [(3, .int (iI (z + 1))), (0, .ref h0), (1, .int (iI q)), (2, .int (iI u))]) [0, 1, 2, 3] rfl ?_
                  exact ih2  (z + 1) _ _ (by omega) bxb2 fpb2 (by omega) (by show (vb2 23) = 0; omega) (hI2.sp ⟨by omega, by omega⟩ (by omega) (by omega))
          refine m_lv (lv2 := [(3, .int (iI x)), (0, .ref h0), (1, .int (iI q)), (2, .int (iI u))]) [0, 1, 2, 3] rfl ?_
          exact Lp2 503 x _ _ (by omega) bxb1 fpb1 (by omega) (by show (vb1 23) = 0; omega) hI
  refine m_lv (lv2 := [(3, .int (iI q)), (0, .ref h0), (1, .int (iI q)), (2, .int (iI u))]) [0, 1, 2, 3] rfl ?_
  exact Lp1 503 q _ _ (by omega) bq1 fq1 (by omega) (by show 0 ≤ 0 ∧ 0 + q ≤ q; omega) (Or.inl (va_up_self _ _ _)) (TKW.init (va_up_self _ _ _))
