section
def LSA (v : Nat → Int) (a : Nat → Nat → Int) (v2 : Nat → Int) (a2 : Nat → Nat → Int) (l f : Int) : Prop := ∀ E, SHA v a E → ∃ E2, LOSX E l f E2 ∧ SHA v2 a2 E2
def CTA (v : Nat → Int) (a : Nat → Nat → Int) (v2 : Nat → Int) (a2 : Nat → Nat → Int) (l n f : Int) : Prop := ∀ E, SHA v a E → ∃ E2, CUTX E l n f E2 ∧ SHA v2 a2 E2
def CT1 (a : Nat → Nat → Int) (a1 : Nat → Nat → Int) (l k : Int) : Prop := a1 34 = a 34 ∧ ∀ j : Nat, a1 35 j = if 200 * l + a 34 l.toNat ≤ ((j : Nat) : Int) ∧ ((j : Nat) : Int) < 200 * l + k then 0 else a 35 j
def CRA (v : Nat → Int) (a : Nat → Nat → Int) (v2 : Nat → Int) (a2 : Nat → Nat → Int) (q w u x n f : Int) : Prop := ∀ E, SHA v a E → ∃ E2, CPRX E q w u x n f E2 ∧ SHA v2 a2 E2
def CR1 (a : Nat → Nat → Int) (a1 : Nat → Nat → Int) (p t n g k : Int) : Prop := a1 34 = a 34 ∧ ∀ j : Nat, a1 35 j = if (g = 0 ∧ t ≤ ((j : Nat) : Int) ∧ ((j : Nat) : Int) < t + k) ∨ (g ≠ 0 ∧ t + (n - k) ≤ ((j : Nat) : Int) ∧ ((j : Nat) : Int) < t + n) then a 35 (((j : Nat) : Int) - t + p).toNat else a 35 j
def KSA (v : Nat → Int) (a : Nat → Nat → Int) (v2 : Nat → Int) (a2 : Nat → Nat → Int) : Prop := v2 36 = v 36 ∧ a2 34 = a 34 ∧ a2 35 = a 35
section RSHT
variable {v v1 v2 : Nat → Int} {a a1 a2 a3 : Nat → Nat → Int} {E E2 : List (Option (List Int))} {l i n q u w x f k z p t g : Int} {m m2 : Nat} {y : Option (List Int)} {xs ys : List Int}
theorem SHA.cg (h : SHA v a E) (hk : KSA v a v2 a2) : SHA v2 a2 E := by
  obtain ⟨k1, k2, k3⟩ := hk
  refine ⟨k1.trans h.1, fun l x e => ?_⟩
  unfold RWA
  rw [k2, k3]
  exact h.2 l x e
theorem SHA.set (h : SHA v a E) (hb : ∀ j, a 34 j ≤ 200) (h0 : 0 ≤ l ∧ l < v 36) (h36 : v2 36 = v 36) (hr : RWA a2 l.toNat y) (ho : ∀ j : Nat, j ≠ l.toNat → a2 34 j = a 34 j ∧ ∀ o : Nat, o < 200 → a2 35 (200 * j + o) = a 35 (200 * j + o)) : SHA v2 a2 (E.set l.toNat y) := by
  obtain ⟨h1, h2⟩ := h
  refine ⟨by rw [List.length_set]; omega, fun j x e => ?_⟩
  rw [List.getElem?_set] at e
  by_cases c : l.toNat = j
  · rw [if_pos c] at e
    split at e
    · cases e
      rw [← c]
      exact hr
    · cases e
  · rw [if_neg c] at e
    obtain ⟨o1, o2⟩ := ho j (fun e2 => c e2.symm)
    rcases h2 j x e with ⟨d1, d2⟩ | ⟨xs, d1, d2, d3⟩
    · exact Or.inl ⟨d1, by omega⟩
    · refine Or.inr ⟨xs, d1, by omega, fun o z ez => ?_⟩
      refine hv2 (gl3 ez) (hb j) (fun lt b => ?_)
      rw [o2 o (by omega)]
      exact d3 o z ez
theorem SHA.fault (h : SHA v a E) (hl : ¬ (0 ≤ l ∧ l < v 36) ∨ ((0 ≤ l ∧ l < v 36) ∧ a 34 l.toNat < 0)) : ¬ ∃ xs, rwe E l = some (some xs) := fun e => by
  obtain ⟨xs, e⟩ := e
  rcases hl with c | ⟨c1, c2⟩
  · rw [h.off c] at e
    cases e
  · rw [h.lack c1.1 c1.2 c2] at e
    cases e
theorem LSA.bad (hl : ¬ (0 ≤ l ∧ l < v 36)) (hf : f = -1) (hk : KSA v a v2 a2) : LSA v a v2 a2 l f := fun E h => ⟨E, Or.inr ⟨h.off hl, rfl, hf⟩, h.cg hk⟩
theorem LSA.ok (hb : ∀ j, a 34 j ≤ 200) (h0 : 0 ≤ l ∧ l < v 36) (hf : f = 1) (h36 : v2 36 = v 36) (h34 : a2 34 = up2 a 34 l.toNat (-1) 34) (h35 : a2 35 = up2 a 34 l.toNat (-1) 35) : LSA v a v2 a2 l f := fun E h => by
  obtain ⟨y, y1, _⟩ := h.on h0.1 h0.2
  refine ⟨_, Or.inl ⟨⟨y, y1⟩, rfl, hf⟩, h.set hb h0 h36 (Or.inl ⟨rfl, ?_⟩) (fun j hj => ⟨?_, fun o _ => ?_⟩)⟩
  · rw [h34, up2_s]
    decide
  · rw [h34, up2_j hj]
  · rw [h35, up2_k (by decide)]
theorem CT1.zero (hk : k = a 34 l.toNat) : CT1 a a l k := ⟨rfl, fun j => by rw [if_neg (by omega)]⟩
theorem CT1.step (h : CT1 a a1 l k) (hk : a 34 l.toNat ≤ k ∧ 0 ≤ 200 * l + k) (hm : m = (200 * l + k).toNat) : CT1 a (up2 a1 35 m 0) l (k + 1) := by
  obtain ⟨h1, h2⟩ := h
  refine ⟨by rw [← h1]; funext j; exact up2_k (by decide), fun j => ?_⟩
  by_cases c : j = m
  · rw [c, up2_s, if_pos (by omega)]
  · rw [up2_j c, h2 j]
    by_cases c2 : 200 * l + a 34 l.toNat ≤ ((j : Nat) : Int) ∧ ((j : Nat) : Int) < 200 * l + k
    · rw [if_pos c2, if_pos (by omega)]
    · rw [if_neg c2, if_neg (by omega)]
theorem CTA.bad (hl : (n < 0 ∨ 200 < n) ∨ (¬ (0 ≤ l ∧ l < v 36) ∨ ((0 ≤ l ∧ l < v 36) ∧ a 34 l.toNat < 0))) (hf : f = -1) (hk : KSA v a v2 a2) : CTA v a v2 a2 l n f := fun E h => by
  refine ⟨E, Or.inr ⟨fun ⟨c, xs, e⟩ => ?_, rfl, hf⟩, h.cg hk⟩
  rcases hl with c2 | c2
  · omega
  · exact h.fault c2 ⟨xs, e⟩
theorem CTA.ok (hb : ∀ j, a 34 j ≤ 200) (h0 : 0 ≤ l ∧ l < v 36) (hn : 0 ≤ n ∧ n ≤ 200) (hp : 0 ≤ a 34 l.toNat) (hc : CT1 a a1 l k) (hk : (k = a 34 l.toNat ∨ k ≤ n) ∧ n ≤ k) (hf : f = n) (h36 : v2 36 = v 36) (h34 : a2 34 = up2 a1 34 l.toNat n 34) (h35 : a2 35 = up2 a1 34 l.toNat n 35) : CTA v a v2 a2 l n f := fun E h => by
  obtain ⟨xs, e1, e2, e3⟩ := h.have_ h0.1 h0.2 hp
  obtain ⟨c1, c2⟩ := hc
  have b := hb l.toNat
  refine ⟨_, Or.inl ⟨hn, xs, e1, rfl, hf⟩, h.set hb h0 h36 (Or.inr ⟨_, rfl, ?_, fun j y ey => ?_⟩) (fun j hj => ⟨?_, fun o ho => ?_⟩)⟩
  · rw [h34, up2_s, mpr_len]
    omega
  · obtain ⟨m1, m2⟩ := mpr_at ey
    rw [h35, up2_k (by decide), c2, m2]
    by_cases c : j < xs.length
    · rw [if_neg (by omega)]
      exact e3 j c
    · rw [if_pos (by omega), gd0_out (by omega)]
  · rw [h34, up2_j hj, c1]
  · rw [h35, up2_k (by decide), c2, if_neg (by omega)]
theorem CR1.zero (hk : k = 0) (h34 : a1 34 = a 34 ∧ a1 35 = a 35) : CR1 a a1 p t n g k := ⟨h34.1, fun j => by rw [if_neg (by omega), h34.2]⟩
theorem CR1.step (h : CR1 a a1 p t n g k) (hg : (g = 0 ∧ z = k) ∨ (g = 1 ∧ z = n - 1 - k)) (hk : 0 ≤ k ∧ k < n) (hp : 0 ≤ p ∧ 0 ≤ t) (ho : (g = 1 ∧ p < t) ∨ (g = 0 ∧ (t ≤ p ∨ t + n ≤ p ∨ p + n ≤ t))) (hm : m = (t + z).toNat) (hm2 : m2 = (p + z).toNat) : CR1 a (up2 a1 35 m (a1 35 m2)) p t n g (k + 1) := by
  obtain ⟨h1, h2⟩ := h
  refine ⟨by rw [← h1]; funext j; exact up2_k (by decide), fun j => ?_⟩
  by_cases c : j = m
  · rw [c, up2_s, if_pos (by omega), h2 m2, if_neg (by omega), show ((m : Nat) : Int) - t + p = ((m2 : Nat) : Int) by omega, Int.toNat_natCast]
  · rw [up2_j c, h2 j]
    by_cases c2 : (g = 0 ∧ t ≤ ((j : Nat) : Int) ∧ ((j : Nat) : Int) < t + k) ∨ (g ≠ 0 ∧ t + (n - k) ≤ ((j : Nat) : Int) ∧ ((j : Nat) : Int) < t + n)
    · rw [if_pos c2, if_pos (by omega)]
    · rw [if_neg c2, if_neg (by omega)]
theorem CRA.bad (hf : f = -1) (hk : KSA v a v2 a2) (hn : ¬ (((0 ≤ q ∧ q < v 36) ∧ 0 ≤ a 34 q.toNat) ∧ ((0 ≤ u ∧ u < v 36) ∧ 0 ≤ a 34 u.toNat) ∧ 0 ≤ n ∧ 0 ≤ w ∧ 0 ≤ x ∧ w + n ≤ a 34 q.toNat ∧ x + n ≤ a 34 u.toNat)) : CRA v a v2 a2 q w u x n f := fun E h => by
  refine ⟨E, Or.inr ⟨fun ⟨xs, ys, e1, e2, e3, e4, e5, e6, e7⟩ => hn ?_, rfl, hf⟩, h.cg hk⟩
  have k : ∀ l zs, rwe E l = some (some zs) → (0 ≤ l ∧ l < v 36) ∧ a 34 l.toNat = ((zs.length : Nat) : Int) := fun l zs e => by
    obtain ⟨r1, r2, r3⟩ := rwl_lt e
    refine ⟨⟨r1, by have q := h.1; omega⟩, ?_⟩
    rcases h.2 _ _ r3 with ⟨d, _⟩ | ⟨ws, d1, d2, _⟩
    · cases d
    · cases d1
      exact d2
  obtain ⟨a1, a2⟩ := k q xs e1
  obtain ⟨b1, b2⟩ := k u ys e2
  exact ⟨⟨a1, by omega⟩, ⟨b1, by omega⟩, e3, e4, e5, by omega, by omega⟩
theorem CRA.ok (hb : ∀ j, a 34 j ≤ 200) (hq : (0 ≤ q ∧ q < v 36) ∧ 0 ≤ a 34 q.toNat) (hu : (0 ≤ u ∧ u < v 36) ∧ 0 ≤ a 34 u.toNat) (hn : 0 ≤ n) (hw : 0 ≤ w) (hx : 0 ≤ x) (h1 : w + n ≤ a 34 q.toNat) (h2 : x + n ≤ a 34 u.toNat) (hc : CR1 a a1 (200 * q + w) (200 * u + x) n g k) (hk : k = n) (hf : f = n) (h36 : v2 36 = v 36) (h34 : a2 34 = a1 34) (h35 : a2 35 = a1 35) : CRA v a v2 a2 q w u x n f := fun E h => by
  obtain ⟨xs, e1, e2, e3⟩ := h.have_ hq.1.1 hq.1.2 hq.2
  obtain ⟨ys, d1, d2, d3⟩ := h.have_ hu.1.1 hu.1.2 hu.2
  obtain ⟨c1, c2⟩ := hc
  refine hv2 (hb u.toNat) (hb q.toNat) (fun b b3 => ?_)
  refine ⟨_, Or.inl ⟨xs, ys, ⟨e1, d1, hn, hw, hx, by omega, by omega⟩, rfl, hf⟩, h.set hb hu.1 h36 (Or.inr ⟨_, rfl, ?_, fun j y ey => ?_⟩) (fun j hj => ⟨?_, fun o ho => ?_⟩)⟩
  · unfold cpx
    rw [h34, c1, mpr_len]
    exact d2
  · unfold cpx at ey
    obtain ⟨m1, m2⟩ := mpr_at ey
    rw [h35, c2, m2]
    by_cases c : x.toNat ≤ j ∧ j < x.toNat + n.toNat
    · rw [if_pos (by omega), if_pos c, ← e3 _ (by omega)]
      congr 1
      omega
    · rw [if_neg (by omega), if_neg c]
      exact d3 j m1
  · rw [h34, c1]
  · rw [h35, c2, if_neg (by omega)]
end RSHT
set_option maxHeartbeats 4000000 in
set_option maxRecDepth 100000 in
theorem N2_lose {l : Launch} {G : GT} {h0 : Nat} {ad ln : Nat → Nat} {v : Nat → Int} {a : Nat → Nat → Int}  {l0 : Int} (hB : BX v a) (hl0 : -2147483648 ≤ l0 ∧ l0 ≤ 2147483647) : Mm l G yX12_lose cX12_lose 2 (some .int) 2 [.int (iI l0)] h0 ad ln v a 0 0 (fun r v2 a2 => ∃ f : Int, r = some (.int (iI f)) ∧ fr [0, 1] [34] v a v2 a2 ∧ BX v2 a2 ∧ (LSA v a v2 a2 l0 f)) := by
  refine Mm.mk (by decide) (Nat.le_of_ble_eq_true rfl) ?_
  intro p e s m args below meth c A C
  have fp0 : fr [0, 1] [34] v a v a := fr.refl
  refine m_iload_n (j := 1) C dX12_lose_0 rfl ?_
  refine m_iconst C dX12_lose_1 ?_
  refine m_aload_n (j := 0) C dX12_lose_2 rfl ?_
  have rv1 : 0 ≤ v 36 ∧ v 36 ≤ 200 := hB.1 36
  refine m_get (k := 36) C dX12_lose_3 w6_95 (by decide) rfl ?_
  refine m_iconst C dX12_lose_6 ?_
  refine m_isub C dX12_lose_7 ?_
  refine m_callS (As := [.int (iI l0), .int (iI 0), .int (iI ((v 36) - 1))]) (rest := []) C (fun L E => s_isIn (iI l0) (iI 0) (iI ((v 36) - 1))) dX12_lose_8 kS_X12_174 rfl rfl (Nat.le_of_ble_eq_true rfl) ⟨Nat.le_of_ble_eq_true rfl, Nat.le_of_ble_eq_true rfl⟩ ⟨Nat.le_of_ble_eq_true rfl, Nat.le_of_ble_eq_true rfl⟩ ?_
  rcases inn_c (x := l0) (lo := 0) (hi := (v 36) - 1) ⟨by omega, by omega⟩ ⟨by decide, by decide⟩ ⟨by omega, by omega⟩ with ⟨h1a, h1b, h1e⟩ | ⟨h1a, h1e⟩
  · refine m_st (st2 := [.int (iI 1)]) (by rw [h1e]) ?_
    refine m_if_ne (tgt := 20) C ⟨by decide, by decide⟩ dX12_lose_11 (by decide) (fun _ => ?_) (fun z => absurd z (by omega))
    refine m_aload_n (j := 0) C dX12_lose_20 rfl ?_
    refine m_geta (k := 34) C dX12_lose_21 w6_93 (by decide) rfl ?_
    refine m_iload_n (j := 1) C dX12_lose_24 rfl ?_
    refine m_iconst C dX12_lose_25 ?_
    refine m_ast (k := 34) C dX12_lose_26 rfl rfl (by decide) (by omega) (by show _ < ((_ : Nat) : Int); simp only [mlen]; omega) (by decide) ?_
    refine hv2 (show BX v (up2 a 34 l0.toNat (-1)) from hB.set (k := 34) (i := l0.toNat) (z := (-1)) ⟨by decide, by decide⟩) (fp0.set (k := 34) (i := l0.toNat) (z := (-1)) rfl) (fun bq1 fq1 => ?_)
    refine m_aload_n (j := 0) C dX12_lose_27 rfl ?_
    refine m_iconst C dX12_lose_28 ?_
    refine m_call (mc2 := 0) (ms2 := 0) (As := [.int (iI 1)]) (rest := []) C (B_fine (x := 1) bq1 (by show -2147483648 ≤ (1 : Int) ∧ (1 : Int) ≤ 2147483647; omega)) dX12_lose_29 kV_X12_158 rfl ck_13 rfl (Nat.le_of_ble_eq_true rfl) ⟨Nat.le_of_ble_eq_true rfl, Nat.le_of_ble_eq_true rfl⟩ ⟨Nat.le_of_ble_eq_true rfl, Nat.le_of_ble_eq_true rfl⟩ (fun rh2 vh2 ah2 h2 => ?_)
    obtain ⟨f1, rfl, fn1, bn1, ex1⟩ := h2
    refine hv2 (fq1.call fn1 rfl rfl) (show f1 = (1 : Int) from ex1) (fun fq2 gf1 => ?_)
    refine m_st (st2 := [.int (iI f1)]) rfl ?_
    exact m_iret C dX12_lose_32 rfl (Nat.le_of_ble_eq_true rfl) (Nat.le_of_ble_eq_true rfl) ⟨f1, rfl, fq2, bn1, (LSA.ok (fun j => (hB.2 34 j).2) ⟨by omega, by omega⟩ (by omega) (fn1.1 36 rfl) (fn1.2 34 rfl) (fn1.2 35 rfl))⟩
  · refine m_st (st2 := [.int (iI 0)]) (by rw [h1e]) ?_
    refine m_if_ne (tgt := 20) C ⟨by decide, by decide⟩ dX12_lose_11 (by decide) (fun z => absurd z (by omega)) (fun _ => ?_)
    refine m_aload_n (j := 0) C dX12_lose_14 rfl ?_
    refine m_iconst C dX12_lose_15 ?_
    refine m_call (mc2 := 0) (ms2 := 0) (As := [.int (iI 2)]) (rest := []) C (B_bad (x := 2) hB (by show -2147483648 ≤ (2 : Int) ∧ (2 : Int) ≤ 2147483647; omega)) dX12_lose_16 kV_X12_154 rfl ck_13 rfl (Nat.le_of_ble_eq_true rfl) ⟨Nat.le_of_ble_eq_true rfl, Nat.le_of_ble_eq_true rfl⟩ ⟨Nat.le_of_ble_eq_true rfl, Nat.le_of_ble_eq_true rfl⟩ (fun rh3 vh3 ah3 h3 => ?_)
    obtain ⟨f2, rfl, fn2, bn2, ex2⟩ := h3
    refine hv2 (fp0.call fn2 rfl rfl) (show f2 = -1 from ex2) (fun fq3 gf2 => ?_)
    refine m_st (st2 := [.int (iI f2)]) rfl ?_
    exact m_iret C dX12_lose_19 rfl (Nat.le_of_ble_eq_true rfl) (Nat.le_of_ble_eq_true rfl) ⟨f2, rfl, fq3, bn2, (LSA.bad (by omega) (by omega) ⟨fn2.1 36 rfl, fn2.2 34 rfl, fn2.2 35 rfl⟩)⟩
set_option maxHeartbeats 4000000 in
set_option maxRecDepth 100000 in
theorem N2_cut {l : Launch} {G : GT} {h0 : Nat} {ad ln : Nat → Nat} {v : Nat → Int} {a : Nat → Nat → Int}  {l0 n1 : Int} (hB : BX v a) (hl0 : -2147483648 ≤ l0 ∧ l0 ≤ 2147483647) (hn1 : -2147483648 ≤ n1 ∧ n1 ≤ 2147483647) : Mm l G yX12_cut cX12_cut 4 (some .int) 2 [.int (iI l0), .int (iI n1)] h0 ad ln v a 0 0 (fun r v2 a2 => ∃ f : Int, r = some (.int (iI f)) ∧ fr [0, 1] [34, 35] v a v2 a2 ∧ BX v2 a2 ∧ (CTA v a v2 a2 l0 n1 f)) := by
  refine Mm.mk (by decide) (Nat.le_of_ble_eq_true rfl) ?_
  intro p e s m args below meth c A C
  refine hv2 (show 0 ≤ v 36 ∧ v 36 ≤ 200 from hB.1 36) (show fr [0, 1] [34, 35] v a v a from fr.refl) (fun r36 fp0 => ?_)
  refine m_iload_n (j := 2) C dX12_cut_0 rfl ?_
  refine m_sipush (z := 200) C dX12_cut_1 (by decide) ?_
  refine m_icmp_le (tgt := 14) C ⟨by omega, by omega⟩ ⟨by decide, by decide⟩ dX12_cut_4 (by decide) (fun c1 => ?_) (fun c1 => ?_)
  · refine m_iload_n (j := 2) C dX12_cut_14 rfl ?_
    refine m_if_ge (tgt := 24) C ⟨by omega, by omega⟩ dX12_cut_15 (by decide) (fun c2 => ?_) (fun c2 => ?_)
    · refine m_aload_n (j := 0) C dX12_cut_24 rfl ?_
      refine m_iload_n (j := 1) C dX12_cut_25 rfl ?_
      have rv1 : 0 ≤ v 36 ∧ v 36 ≤ 200 := hB.1 36
      refine m_call (mc2 := 0) (ms2 := 0) (As := [.int (iI l0)]) (rest := []) C (M_lineFault (l0 := l0) hB.rg ⟨by omega, by omega⟩ ⟨hB.1 36, hB.2 34⟩) dX12_cut_26 kV_X12_294 rfl ck_13 rfl (Nat.le_of_ble_eq_true rfl) ⟨Nat.le_of_ble_eq_true rfl, Nat.le_of_ble_eq_true rfl⟩ ⟨Nat.le_of_ble_eq_true rfl, Nat.le_of_ble_eq_true rfl⟩ (fun rh1 vh1 ah1 h1 => ?_)
      obtain ⟨f1, rfl, hf1, rfl, rfl⟩ := h1
      refine hv2 (show (f1 = 2 ∧ ¬ (0 ≤ l0 ∧ l0 < (v 36))) ∨ (f1 = 1 ∧ 0 ≤ l0 ∧ l0 < (v 36) ∧ a 34 l0.toNat < 0) ∨ (f1 = 0 ∧ 0 ≤ l0 ∧ l0 < (v 36) ∧ 0 ≤ a 34 l0.toNat) from hf1) (show (-1) ≤ a 34 l0.toNat ∧ a 34 l0.toNat ≤ 200 from hB.2 34 (l0.toNat)) (fun gf1 ra1 => ?_)
      refine m_st (st2 := [.int (iI f1)]) rfl ?_
      refine m_if_le (tgt := 42) C ⟨by omega, by omega⟩ dX12_cut_29 (by decide) (fun c3 => ?_) (fun c3 => ?_)
      · refine m_aload_n (j := 0) C dX12_cut_42 rfl ?_
        refine m_geta (k := 34) C dX12_cut_43 w6_93 (by decide) rfl ?_
        refine m_iload_n (j := 1) C dX12_cut_46 rfl ?_
        refine m_ald (k := 34) C dX12_cut_47 rfl rfl (by decide) (by omega) (by show _ < ((_ : Nat) : Int); simp only [mlen]; omega) (by decide) ?_
        refine m_istore_n (lv2 := [(3, .int (iI (a 34 l0.toNat))), (0, .ref h0), (1, .int (iI l0)), (2, .int (iI n1))]) C dX12_cut_48 (by decide) rfl ?_
        have Lp1 : ∀ (nn : Nat) (k : Int) (vb1 : Nat → Int) (ab1 : Nat → Nat → Int), 201 - k < (nn : Int) → BX vb1 ab1 → fr [0, 1] [34, 35] v a vb1 ab1 → (0 ≤ k ∧ (k ≤ n1 ∨ k ≤ 200)) → ((k = a 34 l0.toNat ∨ k ≤ n1) ∧ a 34 l0.toNat ≤ k) → (CT1 a ab1 l0 k) → mw p l e (rmq 2 0 0) s m args below meth c G A 4 (MQ below (Qm G A (fun rq Lq Eq => ∃ (vq : Nat → Int) (aq : Nat → Nat → Int), mI G h0 ad ln vq aq Lq Eq ∧ (fun r v2 a2 => ∃ f : Int, r = some (.int (iI f)) ∧ fr [0, 1] [34, 35] v a v2 a2 ∧ BX v2 a2 ∧ (CTA v a v2 a2 l0 n1 f)) rq vq aq)) args s 0 0 A) h0 ad ln vb1 ab1 0 0 49 [(3, .int (iI k)), (0, .ref h0), (1, .int (iI l0)), (2, .int (iI n1))] [] := by
          intro nn
          induction nn with
          | zero =>
            intro k vb1 ab1 hm bxb1 fpb1 hk hk2 hC
            exact absurd hm (by omega)
          | succ nn ih1 =>
            intro k vb1 ab1 hm bxb1 fpb1 hk hk2 hC
            refine m_iload_n (j := 0) C dX12_cut_49 rfl ?_
            refine m_iload_n (j := 3) C dX12_cut_50 rfl ?_
            refine m_icmp_ge (tgt := 73) C ⟨by omega, by omega⟩ ⟨by omega, by omega⟩ dX12_cut_51 (by decide) (fun c4 => ?_) (fun c4 => ?_)
            · refine m_aload_n (j := 1) C dX12_cut_73 rfl ?_
              refine m_geta (k := 34) C dX12_cut_74 w6_93 (by decide) rfl ?_
              refine m_iload_n (j := 2) C dX12_cut_77 rfl ?_
              refine m_iload_n (j := 3) C dX12_cut_78 rfl ?_
              refine m_ast (k := 34) C dX12_cut_79 rfl rfl (by decide) (by omega) (by show _ < ((_ : Nat) : Int); simp only [mlen]; omega) (by decide) ?_
              refine hv2 (show BX vb1 (up2 ab1 34 l0.toNat n1) from bxb1.set (k := 34) (i := l0.toNat) (z := n1) (show (-1) ≤ n1 ∧ n1 ≤ 200 by omega)) (fpb1.set (k := 34) (i := l0.toNat) (z := n1) rfl) (fun bq1 fq1 => ?_)
              refine m_aload_n (j := 1) C dX12_cut_80 rfl ?_
              refine m_iload_n (j := 3) C dX12_cut_81 rfl ?_
              refine m_call (mc2 := 0) (ms2 := 0) (As := [.int (iI n1)]) (rest := []) C (B_fine (x := n1) bq1 (by show -2147483648 ≤ n1 ∧ n1 ≤ 2147483647; omega)) dX12_cut_82 kV_X12_158 rfl ck_13 rfl (Nat.le_of_ble_eq_true rfl) ⟨Nat.le_of_ble_eq_true rfl, Nat.le_of_ble_eq_true rfl⟩ ⟨Nat.le_of_ble_eq_true rfl, Nat.le_of_ble_eq_true rfl⟩ (fun rh2 vh2 ah2 h2 => ?_)
              obtain ⟨f2, rfl, fn1, bn1, ex1⟩ := h2
              refine hv2 (fq1.call fn1 rfl rfl) (show f2 = n1 from ex1) (fun fq2 gf2 => ?_)
              refine m_st (st2 := [.int (iI f2)]) rfl ?_
              exact m_iret C dX12_cut_85 rfl (Nat.le_of_ble_eq_true rfl) (Nat.le_of_ble_eq_true rfl) ⟨f2, rfl, fq2, bn1, (CTA.ok (fun j => (hB.2 34 j).2) ⟨by omega, by omega⟩ ⟨by omega, by omega⟩ (by omega) hC (by omega) (by omega) (fq2.1 36 rfl) (fn1.2 34 rfl) (fn1.2 35 rfl))⟩
            · refine m_aload_n (j := 1) C dX12_cut_54 rfl ?_
              refine m_geta (k := 35) C dX12_cut_55 w6_94 (by decide) rfl ?_
              refine m_sipush (z := 200) C dX12_cut_58 (by decide) ?_
              refine m_iload_n (j := 2) C dX12_cut_61 rfl ?_
              refine m_imul C dX12_cut_62 ?_
              refine m_iload_n (j := 0) C dX12_cut_63 rfl ?_
              refine m_iadd C dX12_cut_64 ?_
              refine m_iconst C dX12_cut_65 ?_
              refine m_ast (k := 35) C dX12_cut_66 rfl rfl (by decide) (by omega) (by show _ < ((_ : Nat) : Int); simp only [mlen]; omega) (by decide) ?_
              refine hv2 (show BX vb1 (up2 ab1 35 ((200 * l0) + k).toNat 0) from bxb1.set (k := 35) (i := ((200 * l0) + k).toNat) (z := 0) ⟨by decide, by decide⟩) (fpb1.set (k := 35) (i := ((200 * l0) + k).toNat) (z := 0) rfl) (fun bq2 fq3 => ?_)
              refine m_iinc (z := k) (j := 0) (lv2 := [(3, .int (iI (k + 1))), (0, .ref h0), (1, .int (iI l0)), (2, .int (iI n1))]) C dX12_cut_67 rfl (by decide) rfl ?_
              refine m_goto (tgt := 49) C dX12_cut_70 (by decide) ?_
              refine m_lv (lv2 := [(3, .int (iI (k + 1))), (0, .ref h0), (1, .int (iI l0)), (2, .int (iI n1))]) [0, 1, 2, 3] rfl ?_
              exact ih1  (k + 1) _ _ (by omega) bq2 fq3 (by omega) (by omega) (CT1.step hC ⟨by omega, by omega⟩ rfl)
        refine m_lv (lv2 := [(3, .int (iI (a 34 l0.toNat))), (0, .ref h0), (1, .int (iI l0)), (2, .int (iI n1))]) [0, 1, 2, 3] rfl ?_
        exact Lp1 202 (a 34 l0.toNat) _ _ (by omega) hB fp0 (by omega) (by omega) (CT1.zero rfl)
      · refine m_aload_n (j := 0) C dX12_cut_32 rfl ?_
        refine m_aload_n (j := 0) C dX12_cut_33 rfl ?_
        refine m_iload_n (j := 1) C dX12_cut_34 rfl ?_
        refine m_call (mc2 := 0) (ms2 := 0) (As := [.int (iI l0)]) (rest := [.ref h0]) C (M_lineFault (l0 := l0) hB.rg ⟨by omega, by omega⟩ ⟨hB.1 36, hB.2 34⟩) dX12_cut_35 kV_X12_294 rfl ck_13 rfl (Nat.le_of_ble_eq_true rfl) ⟨Nat.le_of_ble_eq_true rfl, Nat.le_of_ble_eq_true rfl⟩ ⟨Nat.le_of_ble_eq_true rfl, Nat.le_of_ble_eq_true rfl⟩ (fun rh3 vh3 ah3 h3 => ?_)
        obtain ⟨f3, rfl, hf3, rfl, rfl⟩ := h3
        have gf3 : (f3 = 2 ∧ ¬ (0 ≤ l0 ∧ l0 < (v 36))) ∨ (f3 = 1 ∧ 0 ≤ l0 ∧ l0 < (v 36) ∧ a 34 l0.toNat < 0) ∨ (f3 = 0 ∧ 0 ≤ l0 ∧ l0 < (v 36) ∧ 0 ≤ a 34 l0.toNat) := hf3
        refine m_st (st2 := [.int (iI f3), .ref h0]) rfl ?_
        refine m_call (mc2 := 0) (ms2 := 0) (As := [.int (iI f3)]) (rest := []) C (B_bad (x := f3) hB (by show -2147483648 ≤ f3 ∧ f3 ≤ 2147483647; omega)) dX12_cut_38 kV_X12_154 rfl ck_13 rfl (Nat.le_of_ble_eq_true rfl) ⟨Nat.le_of_ble_eq_true rfl, Nat.le_of_ble_eq_true rfl⟩ ⟨Nat.le_of_ble_eq_true rfl, Nat.le_of_ble_eq_true rfl⟩ (fun rh4 vh4 ah4 h4 => ?_)
        obtain ⟨f4, rfl, fn2, bn2, ex2⟩ := h4
        refine hv2 (fp0.call fn2 rfl rfl) (show f4 = -1 from ex2) (fun fq4 gf4 => ?_)
        refine m_st (st2 := [.int (iI f4)]) rfl ?_
        exact m_iret C dX12_cut_41 rfl (Nat.le_of_ble_eq_true rfl) (Nat.le_of_ble_eq_true rfl) ⟨f4, rfl, fq4, bn2, (CTA.bad (by omega) (by omega) ⟨fn2.1 36 rfl, fn2.2 34 rfl, fn2.2 35 rfl⟩)⟩
    · refine m_aload_n (j := 0) C dX12_cut_18 rfl ?_
      refine m_iconst C dX12_cut_19 ?_
      refine m_call (mc2 := 0) (ms2 := 0) (As := [.int (iI 5)]) (rest := []) C (B_bad (x := 5) hB (by show -2147483648 ≤ (5 : Int) ∧ (5 : Int) ≤ 2147483647; omega)) dX12_cut_20 kV_X12_154 rfl ck_13 rfl (Nat.le_of_ble_eq_true rfl) ⟨Nat.le_of_ble_eq_true rfl, Nat.le_of_ble_eq_true rfl⟩ ⟨Nat.le_of_ble_eq_true rfl, Nat.le_of_ble_eq_true rfl⟩ (fun rh5 vh5 ah5 h5 => ?_)
      obtain ⟨f5, rfl, fn3, bn3, ex3⟩ := h5
      refine hv2 (fp0.call fn3 rfl rfl) (show f5 = -1 from ex3) (fun fq5 gf5 => ?_)
      refine m_st (st2 := [.int (iI f5)]) rfl ?_
      exact m_iret C dX12_cut_23 rfl (Nat.le_of_ble_eq_true rfl) (Nat.le_of_ble_eq_true rfl) ⟨f5, rfl, fq5, bn3, (CTA.bad (by omega) (by omega) ⟨fn3.1 36 rfl, fn3.2 34 rfl, fn3.2 35 rfl⟩)⟩
  · refine m_aload_n (j := 0) C dX12_cut_7 rfl ?_
    refine m_bipush (z := 6) C dX12_cut_8 (by decide) ?_
    refine m_call (mc2 := 0) (ms2 := 0) (As := [.int (iI 6)]) (rest := []) C (B_bad (x := 6) hB (by show -2147483648 ≤ (6 : Int) ∧ (6 : Int) ≤ 2147483647; omega)) dX12_cut_10 kV_X12_154 rfl ck_13 rfl (Nat.le_of_ble_eq_true rfl) ⟨Nat.le_of_ble_eq_true rfl, Nat.le_of_ble_eq_true rfl⟩ ⟨Nat.le_of_ble_eq_true rfl, Nat.le_of_ble_eq_true rfl⟩ (fun rh6 vh6 ah6 h6 => ?_)
    obtain ⟨f6, rfl, fn4, bn4, ex4⟩ := h6
    refine hv2 (fp0.call fn4 rfl rfl) (show f6 = -1 from ex4) (fun fq6 gf6 => ?_)
    refine m_st (st2 := [.int (iI f6)]) rfl ?_
    exact m_iret C dX12_cut_13 rfl (Nat.le_of_ble_eq_true rfl) (Nat.le_of_ble_eq_true rfl) ⟨f6, rfl, fq6, bn4, (CTA.bad (by omega) (by omega) ⟨fn4.1 36 rfl, fn4.2 34 rfl, fn4.2 35 rfl⟩)⟩
set_option maxHeartbeats 4000000 in
set_option maxRecDepth 100000 in
theorem N2_copyRow {l : Launch} {G : GT} {h0 : Nat} {ad ln : Nat → Nat} {v : Nat → Int} {a : Nat → Nat → Int}  {q w1 u x n1 : Int} (hB : BX v a) (hq : -2147483648 ≤ q ∧ q ≤ 2147483647) (hw1 : -2147483648 ≤ w1 ∧ w1 ≤ 2147483647) (hu : -2147483648 ≤ u ∧ u ≤ 2147483647) (hx : -2147483648 ≤ x ∧ x ≤ 2147483647) (hn1 : -2147483648 ≤ n1 ∧ n1 ≤ 2147483647) : Mm l G yX12_copyRow cX12_copyRow 11 (some .int) 1 [.int (iI q), .int (iI w1), .int (iI u), .int (iI x), .int (iI n1)] h0 ad ln v a 0 0 (fun r v2 a2 => ∃ f : Int, r = some (.int (iI f)) ∧ fr [0, 1] [35] v a v2 a2 ∧ BX v2 a2 ∧ (CRA v a v2 a2 q w1 u x n1 f)) := by
  refine Mm.mk (by decide) (Nat.le_of_ble_eq_true rfl) ?_
  intro p e s m args below meth c A C
  refine hv2 (show 0 ≤ v 36 ∧ v 36 ≤ 200 from hB.1 36) (show fr [0, 1] [35] v a v a from fr.refl) (fun r36 fp0 => ?_)
  refine m_iload_n (j := 1) C dX12_copyRow_0 rfl ?_
  refine m_iconst C dX12_copyRow_1 ?_
  refine m_aload_n (j := 0) C dX12_copyRow_2 rfl ?_
  have rv1 : 0 ≤ v 36 ∧ v 36 ≤ 200 := hB.1 36
  refine m_get (k := 36) C dX12_copyRow_3 w6_95 (by decide) rfl ?_
  refine m_iconst C dX12_copyRow_6 ?_
  refine m_isub C dX12_copyRow_7 ?_
  refine m_callS (As := [.int (iI q), .int (iI 0), .int (iI ((v 36) - 1))]) (rest := []) C (fun L E => s_isIn (iI q) (iI 0) (iI ((v 36) - 1))) dX12_copyRow_8 kS_X12_174 rfl rfl (Nat.le_of_ble_eq_true rfl) ⟨Nat.le_of_ble_eq_true rfl, Nat.le_of_ble_eq_true rfl⟩ ⟨Nat.le_of_ble_eq_true rfl, Nat.le_of_ble_eq_true rfl⟩ ?_
  rcases inn_c (x := q) (lo := 0) (hi := (v 36) - 1) ⟨by omega, by omega⟩ ⟨by decide, by decide⟩ ⟨by omega, by omega⟩ with ⟨h1a, h1b, h1e⟩ | ⟨h1a, h1e⟩
  · refine m_st (st2 := [.int (iI 1)]) (by rw [h1e]) ?_
    refine m_if_eq (tgt := 28) C ⟨by decide, by decide⟩ dX12_copyRow_11 (by decide) (fun z => absurd z (by omega)) (fun _ => ?_)
    refine m_iload_n (j := 3) C dX12_copyRow_14 rfl ?_
    refine m_iconst C dX12_copyRow_15 ?_
    refine m_aload_n (j := 0) C dX12_copyRow_16 rfl ?_
    refine m_get (k := 36) C dX12_copyRow_17 w6_95 (by decide) rfl ?_
    refine m_iconst C dX12_copyRow_20 ?_
    refine m_isub C dX12_copyRow_21 ?_
    refine m_callS (As := [.int (iI u), .int (iI 0), .int (iI ((v 36) - 1))]) (rest := []) C (fun L E => s_isIn (iI u) (iI 0) (iI ((v 36) - 1))) dX12_copyRow_22 kS_X12_174 rfl rfl (Nat.le_of_ble_eq_true rfl) ⟨Nat.le_of_ble_eq_true rfl, Nat.le_of_ble_eq_true rfl⟩ ⟨Nat.le_of_ble_eq_true rfl, Nat.le_of_ble_eq_true rfl⟩ ?_
    rcases inn_c (x := u) (lo := 0) (hi := (v 36) - 1) ⟨by omega, by omega⟩ ⟨by decide, by decide⟩ ⟨by omega, by omega⟩ with ⟨h2a, h2b, h2e⟩ | ⟨h2a, h2e⟩
    · refine m_st (st2 := [.int (iI 1)]) (by rw [h2e]) ?_
      refine m_if_ne (tgt := 34) C ⟨by decide, by decide⟩ dX12_copyRow_25 (by decide) (fun _ => ?_) (fun z => absurd z (by omega))
      refine m_aload_n (j := 0) C dX12_copyRow_34 rfl ?_
      refine m_geta (k := 34) C dX12_copyRow_35 w6_93 (by decide) rfl ?_
      refine m_iload_n (j := 1) C dX12_copyRow_38 rfl ?_
      refine m_ald (k := 34) C dX12_copyRow_39 rfl rfl (by decide) (by omega) (by show _ < ((_ : Nat) : Int); simp only [mlen]; omega) (by decide) ?_
      have ra1 : (-1) ≤ a 34 q.toNat ∧ a 34 q.toNat ≤ 200 := hB.2 34 (q.toNat)
      refine m_if_lt (tgt := 52) C (r32_c (lo := (-1)) (hi := 200) ra1.1 ra1.2 (by decide) (by decide)) dX12_copyRow_40 (by decide) (fun c1 => ?_) (fun c1 => ?_)
      · refine m_aload_n (j := 0) C dX12_copyRow_52 rfl ?_
        refine m_iconst C dX12_copyRow_53 ?_
        refine m_call (mc2 := 0) (ms2 := 0) (As := [.int (iI 1)]) (rest := []) C (B_bad (x := 1) hB (by show -2147483648 ≤ (1 : Int) ∧ (1 : Int) ≤ 2147483647; omega)) dX12_copyRow_54 kV_X12_154 rfl ck_13 rfl (Nat.le_of_ble_eq_true rfl) ⟨Nat.le_of_ble_eq_true rfl, Nat.le_of_ble_eq_true rfl⟩ ⟨Nat.le_of_ble_eq_true rfl, Nat.le_of_ble_eq_true rfl⟩ (fun rh3 vh3 ah3 h3 => ?_)
        obtain ⟨f1, rfl, fn1, bn1, ex1⟩ := h3
        refine hv2 (fp0.call fn1 rfl rfl) (show f1 = -1 from ex1) (fun fq1 gf1 => ?_)
        refine m_st (st2 := [.int (iI f1)]) rfl ?_
        exact m_iret C dX12_copyRow_57 rfl (Nat.le_of_ble_eq_true rfl) (Nat.le_of_ble_eq_true rfl) ⟨f1, rfl, fq1, bn1, (CRA.bad (by omega) ⟨fn1.1 36 rfl, fn1.2 34 rfl, fn1.2 35 rfl⟩ (by omega))⟩
      · refine m_aload_n (j := 0) C dX12_copyRow_43 rfl ?_
        refine m_geta (k := 34) C dX12_copyRow_44 w6_93 (by decide) rfl ?_
        refine m_iload_n (j := 3) C dX12_copyRow_47 rfl ?_
        refine m_ald (k := 34) C dX12_copyRow_48 rfl rfl (by decide) (by omega) (by show _ < ((_ : Nat) : Int); simp only [mlen]; omega) (by decide) ?_
        have ra2 : (-1) ≤ a 34 u.toNat ∧ a 34 u.toNat ≤ 200 := hB.2 34 (u.toNat)
        refine m_if_ge (tgt := 58) C (r32_c (lo := (-1)) (hi := 200) ra2.1 ra2.2 (by decide) (by decide)) dX12_copyRow_49 (by decide) (fun c2 => ?_) (fun c2 => ?_)
        · refine m_iload (j := 5) C dX12_copyRow_58 rfl ?_
          refine m_if_lt (tgt := 99) C ⟨by omega, by omega⟩ dX12_copyRow_60 (by decide) (fun c3 => ?_) (fun c3 => ?_)
          · refine m_aload_n (j := 0) C dX12_copyRow_99 rfl ?_
            refine m_iconst C dX12_copyRow_100 ?_
            refine m_call (mc2 := 0) (ms2 := 0) (As := [.int (iI 2)]) (rest := []) C (B_bad (x := 2) hB (by show -2147483648 ≤ (2 : Int) ∧ (2 : Int) ≤ 2147483647; omega)) dX12_copyRow_101 kV_X12_154 rfl ck_13 rfl (Nat.le_of_ble_eq_true rfl) ⟨Nat.le_of_ble_eq_true rfl, Nat.le_of_ble_eq_true rfl⟩ ⟨Nat.le_of_ble_eq_true rfl, Nat.le_of_ble_eq_true rfl⟩ (fun rh4 vh4 ah4 h4 => ?_)
            obtain ⟨f2, rfl, fn2, bn2, ex2⟩ := h4
            refine hv2 (fp0.call fn2 rfl rfl) (show f2 = -1 from ex2) (fun fq2 gf2 => ?_)
            refine m_st (st2 := [.int (iI f2)]) rfl ?_
            exact m_iret C dX12_copyRow_104 rfl (Nat.le_of_ble_eq_true rfl) (Nat.le_of_ble_eq_true rfl) ⟨f2, rfl, fq2, bn2, (CRA.bad (by omega) ⟨fn2.1 36 rfl, fn2.2 34 rfl, fn2.2 35 rfl⟩ (by omega))⟩
          · refine m_iload_n (j := 2) C dX12_copyRow_63 rfl ?_
            refine m_if_lt (tgt := 99) C ⟨by omega, by omega⟩ dX12_copyRow_64 (by decide) (fun c4 => ?_) (fun c4 => ?_)
            · refine m_aload_n (j := 0) C dX12_copyRow_99 rfl ?_
              refine m_iconst C dX12_copyRow_100 ?_
              refine m_call (mc2 := 0) (ms2 := 0) (As := [.int (iI 2)]) (rest := []) C (B_bad (x := 2) hB (by show -2147483648 ≤ (2 : Int) ∧ (2 : Int) ≤ 2147483647; omega)) dX12_copyRow_101 kV_X12_154 rfl ck_13 rfl (Nat.le_of_ble_eq_true rfl) ⟨Nat.le_of_ble_eq_true rfl, Nat.le_of_ble_eq_true rfl⟩ ⟨Nat.le_of_ble_eq_true rfl, Nat.le_of_ble_eq_true rfl⟩ (fun rh5 vh5 ah5 h5 => ?_)
              obtain ⟨f3, rfl, fn3, bn3, ex3⟩ := h5
              refine hv2 (fp0.call fn3 rfl rfl) (show f3 = -1 from ex3) (fun fq3 gf3 => ?_)
              refine m_st (st2 := [.int (iI f3)]) rfl ?_
              exact m_iret C dX12_copyRow_104 rfl (Nat.le_of_ble_eq_true rfl) (Nat.le_of_ble_eq_true rfl) ⟨f3, rfl, fq3, bn3, (CRA.bad (by omega) ⟨fn3.1 36 rfl, fn3.2 34 rfl, fn3.2 35 rfl⟩ (by omega))⟩
            · refine m_iload (j := 4) C dX12_copyRow_67 rfl ?_
              refine m_if_lt (tgt := 99) C ⟨by omega, by omega⟩ dX12_copyRow_69 (by decide) (fun c5 => ?_) (fun c5 => ?_)
              · refine m_aload_n (j := 0) C dX12_copyRow_99 rfl ?_
                refine m_iconst C dX12_copyRow_100 ?_
                refine m_call (mc2 := 0) (ms2 := 0) (As := [.int (iI 2)]) (rest := []) C (B_bad (x := 2) hB (by show -2147483648 ≤ (2 : Int) ∧ (2 : Int) ≤ 2147483647; omega)) dX12_copyRow_101 kV_X12_154 rfl ck_13 rfl (Nat.le_of_ble_eq_true rfl) ⟨Nat.le_of_ble_eq_true rfl, Nat.le_of_ble_eq_true rfl⟩ ⟨Nat.le_of_ble_eq_true rfl, Nat.le_of_ble_eq_true rfl⟩ (fun rh6 vh6 ah6 h6 => ?_)
                obtain ⟨f4, rfl, fn4, bn4, ex4⟩ := h6
                refine hv2 (fp0.call fn4 rfl rfl) (show f4 = -1 from ex4) (fun fq4 gf4 => ?_)
                refine m_st (st2 := [.int (iI f4)]) rfl ?_
                exact m_iret C dX12_copyRow_104 rfl (Nat.le_of_ble_eq_true rfl) (Nat.le_of_ble_eq_true rfl) ⟨f4, rfl, fq4, bn4, (CRA.bad (by omega) ⟨fn4.1 36 rfl, fn4.2 34 rfl, fn4.2 35 rfl⟩ (by omega))⟩
              · refine m_iload (j := 5) C dX12_copyRow_72 rfl ?_
                refine m_aload_n (j := 0) C dX12_copyRow_74 rfl ?_
                refine m_geta (k := 34) C dX12_copyRow_75 w6_93 (by decide) rfl ?_
                refine m_iload_n (j := 1) C dX12_copyRow_78 rfl ?_
                refine m_ald (k := 34) C dX12_copyRow_79 rfl rfl (by decide) (by omega) (by show _ < ((_ : Nat) : Int); simp only [mlen]; omega) (by decide) ?_
                refine m_iload_n (j := 2) C dX12_copyRow_80 rfl ?_
                refine m_isub C dX12_copyRow_81 ?_
                refine m_icmp_gt (tgt := 99) C ⟨by omega, by omega⟩ ⟨by omega, by omega⟩ dX12_copyRow_82 (by decide) (fun c6 => ?_) (fun c6 => ?_)
                · refine m_aload_n (j := 0) C dX12_copyRow_99 rfl ?_
                  refine m_iconst C dX12_copyRow_100 ?_
                  refine m_call (mc2 := 0) (ms2 := 0) (As := [.int (iI 2)]) (rest := []) C (B_bad (x := 2) hB (by show -2147483648 ≤ (2 : Int) ∧ (2 : Int) ≤ 2147483647; omega)) dX12_copyRow_101 kV_X12_154 rfl ck_13 rfl (Nat.le_of_ble_eq_true rfl) ⟨Nat.le_of_ble_eq_true rfl, Nat.le_of_ble_eq_true rfl⟩ ⟨Nat.le_of_ble_eq_true rfl, Nat.le_of_ble_eq_true rfl⟩ (fun rh7 vh7 ah7 h7 => ?_)
                  obtain ⟨f5, rfl, fn5, bn5, ex5⟩ := h7
                  refine hv2 (fp0.call fn5 rfl rfl) (show f5 = -1 from ex5) (fun fq5 gf5 => ?_)
                  refine m_st (st2 := [.int (iI f5)]) rfl ?_
                  exact m_iret C dX12_copyRow_104 rfl (Nat.le_of_ble_eq_true rfl) (Nat.le_of_ble_eq_true rfl) ⟨f5, rfl, fq5, bn5, (CRA.bad (by omega) ⟨fn5.1 36 rfl, fn5.2 34 rfl, fn5.2 35 rfl⟩ (by omega))⟩
                · refine m_iload (j := 5) C dX12_copyRow_85 rfl ?_
                  refine m_aload_n (j := 0) C dX12_copyRow_87 rfl ?_
                  refine m_geta (k := 34) C dX12_copyRow_88 w6_93 (by decide) rfl ?_
                  refine m_iload_n (j := 3) C dX12_copyRow_91 rfl ?_
                  refine m_ald (k := 34) C dX12_copyRow_92 rfl rfl (by decide) (by omega) (by show _ < ((_ : Nat) : Int); simp only [mlen]; omega) (by decide) ?_
                  refine m_iload (j := 4) C dX12_copyRow_93 rfl ?_
                  refine m_isub C dX12_copyRow_95 ?_
                  refine m_icmp_le (tgt := 105) C ⟨by omega, by omega⟩ ⟨by omega, by omega⟩ dX12_copyRow_96 (by decide) (fun c7 => ?_) (fun c7 => ?_)
                  · refine m_sipush (z := 200) C dX12_copyRow_105 (by decide) ?_
                    refine m_iload_n (j := 1) C dX12_copyRow_108 rfl ?_
                    refine m_imul C dX12_copyRow_109 ?_
                    refine m_iload_n (j := 2) C dX12_copyRow_110 rfl ?_
                    refine m_iadd C dX12_copyRow_111 ?_
                    refine m_istore (lv2 := [(6, .int (iI ((200 * q) + w1))), (0, .ref h0), (1, .int (iI q)), (2, .int (iI w1)), (3, .int (iI u)), (4, .int (iI x)), (5, .int (iI n1))]) C dX12_copyRow_112 (by decide) rfl ?_
                    refine m_sipush (z := 200) C dX12_copyRow_114 (by decide) ?_
                    refine m_iload_n (j := 4) C dX12_copyRow_117 rfl ?_
                    refine m_imul C dX12_copyRow_118 ?_
                    refine m_iload (j := 5) C dX12_copyRow_119 rfl ?_
                    refine m_iadd C dX12_copyRow_121 ?_
                    refine m_istore (lv2 := [(7, .int (iI ((200 * u) + x))), (6, .int (iI ((200 * q) + w1))), (0, .ref h0), (1, .int (iI q)), (2, .int (iI w1)), (3, .int (iI u)), (4, .int (iI x)), (5, .int (iI n1))]) C dX12_copyRow_122 (by decide) rfl ?_
                    refine m_iload_n (j := 3) C dX12_copyRow_124 rfl ?_
                    refine m_iload_n (j := 5) C dX12_copyRow_125 rfl ?_
                    have J1 : ∀ (g : Int) (vb1 : Nat → Int) (ab1 : Nat → Nat → Int), BX vb1 ab1 → fr [0, 1] [35] v a vb1 ab1 → (g = 0 ∨ g = 1) → ((g = 1 ∧ q = u ∧ w1 < x) ∨ (g = 0 ∧ (q ≠ u ∨ x ≤ w1))) → (ab1 34 = a 34 ∧ ab1 35 = a 35) → mw p l e (rmq 1 0 0) s m args below meth c G A 11 (MQ below (Qm G A (fun rq Lq Eq => ∃ (vq : Nat → Int) (aq : Nat → Nat → Int), mI G h0 ad ln vq aq Lq Eq ∧ (fun r v2 a2 => ∃ f : Int, r = some (.int (iI f)) ∧ fr [0, 1] [35] v a v2 a2 ∧ BX v2 a2 ∧ (CRA v a v2 a2 q w1 u x n1 f)) rq vq aq)) args s 0 0 A) h0 ad ln vb1 ab1 0 0 140 [(7, .int (iI ((200 * u) + x))), (6, .int (iI ((200 * q) + w1))), (0, .ref h0), (1, .int (iI q)), (2, .int (iI w1)), (3, .int (iI u)), (4, .int (iI x)), (5, .int (iI n1))] [.int (iI g)] := by
                      intro g vb1 ab1 bxb1 fpb1 hg hg2 hKK
                      refine m_istore (lv2 := [(8, .int (iI g)), (7, .int (iI ((200 * u) + x))), (6, .int (iI ((200 * q) + w1))), (0, .ref h0), (1, .int (iI q)), (2, .int (iI w1)), (3, .int (iI u)), (4, .int (iI x)), (5, .int (iI n1))]) C dX12_copyRow_140 (by decide) rfl ?_
                      refine m_iconst C dX12_copyRow_142 ?_
                      refine m_istore (lv2 := [(9, .int (iI 0)), (8, .int (iI g)), (7, .int (iI ((200 * u) + x))), (6, .int (iI ((200 * q) + w1))), (0, .ref h0), (1, .int (iI q)), (2, .int (iI w1)), (3, .int (iI u)), (4, .int (iI x)), (5, .int (iI n1))]) C dX12_copyRow_143 (by decide) rfl ?_
                      have Lp1 : ∀ (nn : Nat) (i1 : Int) (vb2 : Nat → Int) (ab2 : Nat → Nat → Int), 201 - i1 < (nn : Int) → BX vb2 ab2 → fr [0, 1] [35] v a vb2 ab2 → (0 ≤ i1 ∧ i1 ≤ n1) → ((g = 1 ∧ q = u ∧ w1 < x) ∨ (g = 0 ∧ (q ≠ u ∨ x ≤ w1))) → (CR1 a ab2 (200 * q + w1) (200 * u + x) n1 g i1) → mw p l e (rmq 1 0 0) s m args below meth c G A 11 (MQ below (Qm G A (fun rq Lq Eq => ∃ (vq : Nat → Int) (aq : Nat → Nat → Int), mI G h0 ad ln vq aq Lq Eq ∧ (fun r v2 a2 => ∃ f : Int, r = some (.int (iI f)) ∧ fr [0, 1] [35] v a v2 a2 ∧ BX v2 a2 ∧ (CRA v a v2 a2 q w1 u x n1 f)) rq vq aq)) args s 0 0 A) h0 ad ln vb2 ab2 0 0 145 [(9, .int (iI i1)), (8, .int (iI g)), (7, .int (iI ((200 * u) + x))), (6, .int (iI ((200 * q) + w1))), (0, .ref h0), (1, .int (iI q)), (2, .int (iI w1)), (3, .int (iI u)), (4, .int (iI x)), (5, .int (iI n1))] [] := by
                        intro nn
                        induction nn with
                        | zero =>
                          intro i1 vb2 ab2 hm bxb2 fpb2 hi hg3 hC
                          exact absurd hm (by omega)
                        | succ nn ih1 =>
                          intro i1 vb2 ab2 hm bxb2 fpb2 hi hg3 hC
                          refine m_iload (j := 0) C dX12_copyRow_145 rfl ?_
                          refine m_iload (j := 9) C dX12_copyRow_147 rfl ?_
                          refine m_icmp_ge (tgt := 197) C ⟨by omega, by omega⟩ ⟨by omega, by omega⟩ dX12_copyRow_149 (by decide) (fun c8 => ?_) (fun c8 => ?_)
                          · refine m_aload_n (j := 4) C dX12_copyRow_197 rfl ?_
                            refine m_iload (j := 9) C dX12_copyRow_198 rfl ?_
                            refine m_call (mc2 := 0) (ms2 := 0) (As := [.int (iI n1)]) (rest := []) C (B_fine (x := n1) bxb2 (by show -2147483648 ≤ n1 ∧ n1 ≤ 2147483647; omega)) dX12_copyRow_200 kV_X12_158 rfl ck_13 rfl (Nat.le_of_ble_eq_true rfl) ⟨Nat.le_of_ble_eq_true rfl, Nat.le_of_ble_eq_true rfl⟩ ⟨Nat.le_of_ble_eq_true rfl, Nat.le_of_ble_eq_true rfl⟩ (fun rh8 vh8 ah8 h8 => ?_)
                            obtain ⟨f6, rfl, fn6, bn6, ex6⟩ := h8
                            refine hv2 (fpb2.call fn6 rfl rfl) (show f6 = n1 from ex6) (fun fq6 gf6 => ?_)
                            refine m_st (st2 := [.int (iI f6)]) rfl ?_
                            exact m_iret C dX12_copyRow_203 rfl (Nat.le_of_ble_eq_true rfl) (Nat.le_of_ble_eq_true rfl) ⟨f6, rfl, fq6, bn6, (CRA.ok (fun j => (hB.2 34 j).2) ⟨⟨by omega, by omega⟩, by omega⟩ ⟨⟨by omega, by omega⟩, by omega⟩ (by omega) (by omega) (by omega) (by omega) (by omega) hC (by omega) (by omega) (fq6.1 36 rfl) (fn6.2 34 rfl) (fn6.2 35 rfl))⟩
                          · refine m_iload (j := 1) C dX12_copyRow_152 rfl ?_
                            have J2 : ∀ (k : Int) (vb3 : Nat → Int) (ab3 : Nat → Nat → Int), BX vb3 ab3 → fr [0, 1] [35] v a vb3 ab3 → (0 ≤ k ∧ k < n1) → ((g = 0 ∧ k = i1) ∨ (g = 1 ∧ k = n1 - 1 - i1)) → (CR1 a ab3 (200 * q + w1) (200 * u + x) n1 g i1) → mw p l e (rmq 1 0 0) s m args below meth c G A 11 (MQ below (Qm G A (fun rq Lq Eq => ∃ (vq : Nat → Int) (aq : Nat → Nat → Int), mI G h0 ad ln vq aq Lq Eq ∧ (fun r v2 a2 => ∃ f : Int, r = some (.int (iI f)) ∧ fr [0, 1] [35] v a v2 a2 ∧ BX v2 a2 ∧ (CRA v a v2 a2 q w1 u x n1 f)) rq vq aq)) args s 0 0 A) h0 ad ln vb3 ab3 0 0 169 [(9, .int (iI i1)), (8, .int (iI g)), (7, .int (iI ((200 * u) + x))), (6, .int (iI ((200 * q) + w1))), (0, .ref h0), (1, .int (iI q)), (2, .int (iI w1)), (3, .int (iI u)), (4, .int (iI x)), (5, .int (iI n1))] [.int (iI k)] := by
                              intro k vb3 ab3 bxb3 fpb3 hk hkg hC2
                              refine m_istore (lv2 := [(10, .int (iI k)), (9, .int (iI i1)), (8, .int (iI g)), (7, .int (iI ((200 * u) + x))), (6, .int (iI ((200 * q) + w1))), (0, .ref h0), (1, .int (iI q)), (2, .int (iI w1)), (3, .int (iI u)), (4, .int (iI x)), (5, .int (iI n1))]) C dX12_copyRow_169 (by decide) rfl ?_
                              refine m_aload_n (j := 5) C dX12_copyRow_171 rfl ?_
                              refine m_geta (k := 35) C dX12_copyRow_172 w6_94 (by decide) rfl ?_
                              refine m_iload (j := 3) C dX12_copyRow_175 rfl ?_
                              refine m_iload (j := 0) C dX12_copyRow_177 rfl ?_
                              refine m_iadd C dX12_copyRow_179 ?_
                              refine m_aload_n (j := 5) C dX12_copyRow_180 rfl ?_
                              refine m_geta (k := 35) C dX12_copyRow_181 w6_94 (by decide) rfl ?_
                              refine m_iload (j := 4) C dX12_copyRow_184 rfl ?_
                              refine m_iload (j := 0) C dX12_copyRow_186 rfl ?_
                              refine m_iadd C dX12_copyRow_188 ?_
                              refine m_ald (k := 35) C dX12_copyRow_189 rfl rfl (by decide) (by omega) (by show _ < ((_ : Nat) : Int); simp only [mlen]; omega) (by decide) ?_
                              have ra3 : (-2147483648) ≤ ab3 35 (((200 * q) + w1) + k).toNat ∧ ab3 35 (((200 * q) + w1) + k).toNat ≤ 2147483647 := bxb3.2 35 ((((200 * q) + w1) + k).toNat)
                              refine m_ast (k := 35) C dX12_copyRow_190 rfl rfl (by decide) (by omega) (by show _ < ((_ : Nat) : Int); simp only [mlen]; omega) (by decide) ?_
                              refine hv2 (show BX vb3 (up2 ab3 35 (((200 * u) + x) + k).toNat (ab3 35 (((200 * q) + w1) + k).toNat)) from bxb3.set (k := 35) (i := (((200 * u) + x) + k).toNat) (z := ab3 35 (((200 * q) + w1) + k).toNat) (show (-2147483648) ≤ (ab3 35 (((200 * q) + w1) + k).toNat) ∧ (ab3 35 (((200 * q) + w1) + k).toNat) ≤ 2147483647 by omega)) (fpb3.set (k := 35) (i := (((200 * u) + x) + k).toNat) (z := ab3 35 (((200 * q) + w1) + k).toNat) rfl) (fun bq1 fq7 => ?_)
                              refine m_iinc (z := i1) (j := 1) (lv2 := [(9, .int (iI (i1 + 1))), (10, .int (iI k)), (8, .int (iI g)), (7, .int (iI ((200 * u) + x))), (6, .int (iI ((200 * q) + w1))), (0, .ref h0), (1, .int (iI q)), (2, .int (iI w1)), (3, .int (iI u)), (4, .int (iI x)), (5, .int (iI n1))]) C dX12_copyRow_191 rfl (by decide) rfl ?_
                              refine m_goto (tgt := 145) C dX12_copyRow_194 (by decide) ?_
                              refine m_lv (lv2 := [(9, .int (iI (i1 + 1))), (8, .int (iI g)), (7, .int (iI ((200 * u) + x))), (6, .int (iI ((200 * q) + w1))), (0, .ref h0), (1, .int (iI q)), (2, .int (iI w1)), (3, .int (iI u)), (4, .int (iI x)), (5, .int (iI n1))]) [0, 2, 3, 4, 5, 6, 7, 8, 9, 10] rfl ?_
                              exact ih1  (i1 + 1) _ _ (by omega) bq1 fq7 (by omega) (by omega) (CR1.step hC2 (by omega) ⟨by omega, by omega⟩ ⟨by omega, by omega⟩ (by omega) rfl rfl)
                            refine m_if_eq (tgt := 167) C (r32_01 hg) dX12_copyRow_154 (by decide) (fun c9 => ?_) (fun c9 => ?_)
                            · clear hg
                              replace hg2 := (hg2.resolve_left (fun q => absurd (q.1.symm.trans c9) (by decide)))
                              refine m_iload (j := 0) C dX12_copyRow_167 rfl ?_
                              refine m_lv (lv2 := [(9, .int (iI i1)), (8, .int (iI g)), (7, .int (iI ((200 * u) + x))), (6, .int (iI ((200 * q) + w1))), (0, .ref h0), (1, .int (iI q)), (2, .int (iI w1)), (3, .int (iI u)), (4, .int (iI x)), (5, .int (iI n1))]) [0, 1, 2, 3, 4, 5, 6, 7, 8, 9] rfl ?_
                              exact J2  i1 _ _  bxb2 fpb2 (by omega) (by omega) hC
                            · replace hg := (hg.resolve_left c9)
                              replace hg2 := (hg2.resolve_right (fun q => c9 q.1))
                              refine m_iload (j := 9) C dX12_copyRow_157 rfl ?_
                              refine m_iconst C dX12_copyRow_159 ?_
                              refine m_isub C dX12_copyRow_160 ?_
                              refine m_iload (j := 0) C dX12_copyRow_161 rfl ?_
                              refine m_isub C dX12_copyRow_163 ?_
                              refine m_goto (tgt := 169) C dX12_copyRow_164 (by decide) ?_
                              refine m_lv (lv2 := [(9, .int (iI i1)), (8, .int (iI g)), (7, .int (iI ((200 * u) + x))), (6, .int (iI ((200 * q) + w1))), (0, .ref h0), (1, .int (iI q)), (2, .int (iI w1)), (3, .int (iI u)), (4, .int (iI x)), (5, .int (iI n1))]) [0, 1, 2, 3, 4, 5, 6, 7, 8, 9] rfl ?_
                              exact J2  ((n1 - 1) - i1) _ _  bxb2 fpb2 (by omega) (by omega) hC
                      refine m_lv (lv2 := [(9, .int (iI 0)), (8, .int (iI g)), (7, .int (iI ((200 * u) + x))), (6, .int (iI ((200 * q) + w1))), (0, .ref h0), (1, .int (iI q)), (2, .int (iI w1)), (3, .int (iI u)), (4, .int (iI x)), (5, .int (iI n1))]) [0, 1, 2, 3, 4, 5, 6, 7, 8, 9] rfl ?_
                      exact Lp1 202 0 _ _ (by omega) bxb1 fpb1 (by omega) (by omega) (CR1.zero rfl hKK)
                    refine m_icmp_ne (tgt := 139) C ⟨by omega, by omega⟩ ⟨by omega, by omega⟩ dX12_copyRow_126 (by decide) (fun c10 => ?_) (fun c10 => ?_)
                    · refine m_iconst C dX12_copyRow_139 ?_
                      refine m_lv (lv2 := [(7, .int (iI ((200 * u) + x))), (6, .int (iI ((200 * q) + w1))), (0, .ref h0), (1, .int (iI q)), (2, .int (iI w1)), (3, .int (iI u)), (4, .int (iI x)), (5, .int (iI n1))]) [0, 1, 2, 3, 4, 5, 6, 7] rfl ?_
                      exact J1  0 _ _  hB fp0 (by omega) (by omega) ⟨rfl, rfl⟩
                    · refine m_iload_n (j := 4) C dX12_copyRow_129 rfl ?_
                      refine m_iload (j := 6) C dX12_copyRow_130 rfl ?_
                      refine m_icmp_ge (tgt := 139) C ⟨by omega, by omega⟩ ⟨by omega, by omega⟩ dX12_copyRow_132 (by decide) (fun c11 => ?_) (fun c11 => ?_)
                      · refine m_iconst C dX12_copyRow_139 ?_
                        refine m_lv (lv2 := [(7, .int (iI ((200 * u) + x))), (6, .int (iI ((200 * q) + w1))), (0, .ref h0), (1, .int (iI q)), (2, .int (iI w1)), (3, .int (iI u)), (4, .int (iI x)), (5, .int (iI n1))]) [0, 1, 2, 3, 4, 5, 6, 7] rfl ?_
                        exact J1  0 _ _  hB fp0 (by omega) (by omega) ⟨rfl, rfl⟩
                      · refine m_iconst C dX12_copyRow_135 ?_
                        refine m_goto (tgt := 140) C dX12_copyRow_136 (by decide) ?_
                        refine m_lv (lv2 := [(7, .int (iI ((200 * u) + x))), (6, .int (iI ((200 * q) + w1))), (0, .ref h0), (1, .int (iI q)), (2, .int (iI w1)), (3, .int (iI u)), (4, .int (iI x)), (5, .int (iI n1))]) [0, 1, 2, 3, 4, 5, 6, 7] rfl ?_
                        exact J1  1 _ _  hB fp0 (by omega) (by omega) ⟨rfl, rfl⟩
                  · refine m_aload_n (j := 0) C dX12_copyRow_99 rfl ?_
                    refine m_iconst C dX12_copyRow_100 ?_
                    refine m_call (mc2 := 0) (ms2 := 0) (As := [.int (iI 2)]) (rest := []) C (B_bad (x := 2) hB (by show -2147483648 ≤ (2 : Int) ∧ (2 : Int) ≤ 2147483647; omega)) dX12_copyRow_101 kV_X12_154 rfl ck_13 rfl (Nat.le_of_ble_eq_true rfl) ⟨Nat.le_of_ble_eq_true rfl, Nat.le_of_ble_eq_true rfl⟩ ⟨Nat.le_of_ble_eq_true rfl, Nat.le_of_ble_eq_true rfl⟩ (fun rh9 vh9 ah9 h9 => ?_)
                    obtain ⟨f7, rfl, fn7, bn7, ex7⟩ := h9
                    refine hv2 (fp0.call fn7 rfl rfl) (show f7 = -1 from ex7) (fun fq8 gf7 => ?_)
                    refine m_st (st2 := [.int (iI f7)]) rfl ?_
                    exact m_iret C dX12_copyRow_104 rfl (Nat.le_of_ble_eq_true rfl) (Nat.le_of_ble_eq_true rfl) ⟨f7, rfl, fq8, bn7, (CRA.bad (by omega) ⟨fn7.1 36 rfl, fn7.2 34 rfl, fn7.2 35 rfl⟩ (by omega))⟩
        · refine m_aload_n (j := 0) C dX12_copyRow_52 rfl ?_
          refine m_iconst C dX12_copyRow_53 ?_
          refine m_call (mc2 := 0) (ms2 := 0) (As := [.int (iI 1)]) (rest := []) C (B_bad (x := 1) hB (by show -2147483648 ≤ (1 : Int) ∧ (1 : Int) ≤ 2147483647; omega)) dX12_copyRow_54 kV_X12_154 rfl ck_13 rfl (Nat.le_of_ble_eq_true rfl) ⟨Nat.le_of_ble_eq_true rfl, Nat.le_of_ble_eq_true rfl⟩ ⟨Nat.le_of_ble_eq_true rfl, Nat.le_of_ble_eq_true rfl⟩ (fun rh10 vh10 ah10 h10 => ?_)
          obtain ⟨f8, rfl, fn8, bn8, ex8⟩ := h10
          refine hv2 (fp0.call fn8 rfl rfl) (show f8 = -1 from ex8) (fun fq9 gf8 => ?_)
          refine m_st (st2 := [.int (iI f8)]) rfl ?_
          exact m_iret C dX12_copyRow_57 rfl (Nat.le_of_ble_eq_true rfl) (Nat.le_of_ble_eq_true rfl) ⟨f8, rfl, fq9, bn8, (CRA.bad (by omega) ⟨fn8.1 36 rfl, fn8.2 34 rfl, fn8.2 35 rfl⟩ (by omega))⟩
    · refine m_st (st2 := [.int (iI 0)]) (by rw [h2e]) ?_
      refine m_if_ne (tgt := 34) C ⟨by decide, by decide⟩ dX12_copyRow_25 (by decide) (fun z => absurd z (by omega)) (fun _ => ?_)
      refine m_aload_n (j := 0) C dX12_copyRow_28 rfl ?_
      refine m_iconst C dX12_copyRow_29 ?_
      refine m_call (mc2 := 0) (ms2 := 0) (As := [.int (iI 2)]) (rest := []) C (B_bad (x := 2) hB (by show -2147483648 ≤ (2 : Int) ∧ (2 : Int) ≤ 2147483647; omega)) dX12_copyRow_30 kV_X12_154 rfl ck_13 rfl (Nat.le_of_ble_eq_true rfl) ⟨Nat.le_of_ble_eq_true rfl, Nat.le_of_ble_eq_true rfl⟩ ⟨Nat.le_of_ble_eq_true rfl, Nat.le_of_ble_eq_true rfl⟩ (fun rh11 vh11 ah11 h11 => ?_)
      obtain ⟨f9, rfl, fn9, bn9, ex9⟩ := h11
      refine hv2 (fp0.call fn9 rfl rfl) (show f9 = -1 from ex9) (fun fq10 gf9 => ?_)
      refine m_st (st2 := [.int (iI f9)]) rfl ?_
      exact m_iret C dX12_copyRow_33 rfl (Nat.le_of_ble_eq_true rfl) (Nat.le_of_ble_eq_true rfl) ⟨f9, rfl, fq10, bn9, (CRA.bad (by omega) ⟨fn9.1 36 rfl, fn9.2 34 rfl, fn9.2 35 rfl⟩ (by omega))⟩
  · refine m_st (st2 := [.int (iI 0)]) (by rw [h1e]) ?_
    refine m_if_eq (tgt := 28) C ⟨by decide, by decide⟩ dX12_copyRow_11 (by decide) (fun _ => ?_) (fun z => absurd z (by omega))
    refine m_aload_n (j := 0) C dX12_copyRow_28 rfl ?_
    refine m_iconst C dX12_copyRow_29 ?_
    refine m_call (mc2 := 0) (ms2 := 0) (As := [.int (iI 2)]) (rest := []) C (B_bad (x := 2) hB (by show -2147483648 ≤ (2 : Int) ∧ (2 : Int) ≤ 2147483647; omega)) dX12_copyRow_30 kV_X12_154 rfl ck_13 rfl (Nat.le_of_ble_eq_true rfl) ⟨Nat.le_of_ble_eq_true rfl, Nat.le_of_ble_eq_true rfl⟩ ⟨Nat.le_of_ble_eq_true rfl, Nat.le_of_ble_eq_true rfl⟩ (fun rh12 vh12 ah12 h12 => ?_)
    obtain ⟨f10, rfl, fn10, bn10, ex10⟩ := h12
    refine hv2 (fp0.call fn10 rfl rfl) (show f10 = -1 from ex10) (fun fq11 gf10 => ?_)
    refine m_st (st2 := [.int (iI f10)]) rfl ?_
    exact m_iret C dX12_copyRow_33 rfl (Nat.le_of_ble_eq_true rfl) (Nat.le_of_ble_eq_true rfl) ⟨f10, rfl, fq11, bn10, (CRA.bad (by omega) ⟨fn10.1 36 rfl, fn10.2 34 rfl, fn10.2 35 rfl⟩ (by omega))⟩
def CPA (v : Nat → Int) (a : Nat → Nat → Int) (v2 : Nat → Int) (a2 : Nat → Nat → Int) (q u n f : Int) : Prop := ∀ E, SHA v a E → ∃ E2, CPLX E q u n (v 42) f E2 (v2 42) ∧ SHA v2 a2 E2
def CL1 (v : Nat → Int) (a : Nat → Nat → Int) (v1 : Nat → Int) (a1 : Nat → Nat → Int) (q u k : Int) : Prop := ∀ E, SHA v a E → ∃ E1, cpn E q u k.toNat E1 ∧ SHA v1 a1 E1
def CL2 (v : Nat → Int) (a : Nat → Nat → Int) (v1 : Nat → Int) (a1 : Nat → Nat → Int) (q u k x y i : Int) : Prop := ∃ a3, CL1 v a v1 a3 q u k ∧ (∀ j, a3 34 j ≤ 200) ∧ (∀ j : Nat, a1 34 j = if j = y.toNat then a3 34 x.toNat else a3 34 j) ∧ 0 ≤ a3 34 x.toNat ∧ ∀ j : Nat, a1 35 j = if 200 * y ≤ ((j : Nat) : Int) ∧ ((j : Nat) : Int) < 200 * y + i then a3 35 (((j : Nat) : Int) - 200 * y + 200 * x).toNat else a3 35 j
section CPLS
variable {v v1 v2 v3 : Nat → Int} {a a1 a2 : Nat → Nat → Int} {E E2 : List (Option (List Int))} {q u n f k x y z i : Int} {m m2 : Nat}
theorem CL1.zero (hk : k = 0) (h : KSA v a v1 a1) : CL1 v a v1 a1 q u k := fun E hE => ⟨E, by rw [hk]; rfl, hE.cg h⟩
theorem CL1.fr (h : CL1 v a v1 a1 q u k) (hk : KSA v1 a1 v2 a2) : CL1 v a v2 a2 q u k := fun E hE => by
  obtain ⟨E1, e1, e2⟩ := h E hE
  exact ⟨E1, e1, e2.cg hk⟩
theorem CL1.go (h : CL1 v a v1 a1 q u k) (hb : ∀ j, a1 34 j ≤ 200) (hm : m = y.toNat) (hz : z = a1 34 x.toNat) (hx : 0 ≤ a1 34 x.toNat) : CL2 v a v1 (up2 a1 34 m z) q u k x y 0 := by
  refine ⟨a1, h, hb, fun j => ?_, hx, fun j => ?_⟩
  · subst hm
    by_cases c : j = y.toNat
    · rw [c, up2_s, if_pos rfl]
      exact hz
    · rw [up2_j c, if_neg c]
  · rw [if_neg (by omega), up2_k (by decide)]
theorem CL2.step (h : CL2 v a v1 a1 q u k x y i) (hx : 0 ≤ x ∧ 0 ≤ y) (hi : 0 ≤ i ∧ i < 200) (hm : m = (200 * y + i).toNat) (hm2 : m2 = (200 * x + i).toNat) : CL2 v a v1 (up2 a1 35 m (a1 35 m2)) q u k x y (i + 1) := by
  obtain ⟨a3, h1, hb, h2, h3, h4⟩ := h
  refine ⟨a3, h1, hb, fun j => by rw [up2_k (by decide)]; exact h2 j, h3, fun j => ?_⟩
  by_cases c : j = m
  · rw [c, up2_s, if_pos (by omega), h4 m2, if_neg (by omega), show ((m : Nat) : Int) - 200 * y + 200 * x = ((m2 : Nat) : Int) by omega, Int.toNat_natCast]
  · rw [up2_j c, h4 j]
    by_cases c2 : 200 * y ≤ ((j : Nat) : Int) ∧ ((j : Nat) : Int) < 200 * y + i
    · rw [if_pos c2, if_pos (by omega)]
    · rw [if_neg c2, if_neg (by omega)]
theorem CL2.fin (h : CL2 v a v1 a1 q u k x y i) (hk : 0 ≤ k) (hx : x = q + k) (hy : y = u + k) (h0 : (0 ≤ x ∧ x < v1 36) ∧ (0 ≤ y ∧ y < v1 36)) (hi : a1 34 x.toNat ≤ i ∧ i ≤ 200) (h36 : v2 36 = v1 36) : CL1 v a v2 a1 q u (k + 1) := fun E hE => by
  obtain ⟨a3, h1, hb, h2, h3, h4⟩ := h
  obtain ⟨E1, e1, e2⟩ := h1 E hE
  obtain ⟨xs, d1, d2, d3⟩ := e2.have_ h0.1.1 h0.1.2 h3
  obtain ⟨yy, d4, _⟩ := e2.on h0.2.1 h0.2.2
  have ex : a1 34 x.toNat = a3 34 x.toNat := by
    rw [h2 x.toNat]
    split
    · rfl
    · rfl
  have b := hb x.toNat
  refine ⟨E1.set y.toNat (some xs), ?_, e2.set hb h0.2 h36 (Or.inr ⟨xs, rfl, ?_, fun j z ez => ?_⟩) (fun j hj => ⟨?_, fun o ho => ?_⟩)⟩
  · rw [show (k + 1).toNat = k.toNat + 1 by omega]
    refine ⟨E1, e1, xs, yy, ?_, ?_, ?_⟩
    · rw [show q + ((k.toNat : Nat) : Int) = x by omega]
      exact d1
    · rw [show u + ((k.toNat : Nat) : Int) = y by omega]
      exact d4
    · rw [show u + ((k.toNat : Nat) : Int) = y by omega]
  · rw [h2, if_pos rfl]
    exact d2
  · have lt := gl3 ez
    rw [h4, if_pos (by omega), show (((200 * y.toNat + j : Nat) : Int) - 200 * y + 200 * x).toNat = 200 * x.toNat + j by omega, d3 j lt]
    exact gd0_at ez
  · rw [h2, if_neg hj]
  · rw [h4, if_neg (by omega)]
theorem CPA.bad0 (hn : n < 0 ∨ 10 < n) (hf : f = -1) (h42 : v2 42 = v 42) (hk : KSA v a v2 a2) : CPA v a v2 a2 q u n f := fun E hE => ⟨E, Or.inl ⟨hn, rfl, hf, h42⟩, hE.cg hk⟩
theorem CPA.stop (h : CL1 v a v1 a1 q u k) (hk : 0 ≤ k ∧ k < n) (hn : n ≤ 10) (hx : x = q + k) (hy : y = u + k) (hw : ¬ ((0 ≤ x ∧ x < v1 36) ∧ (0 ≤ y ∧ y < v1 36)) ∨ ((0 ≤ x ∧ x < v1 36) ∧ a1 34 x.toNat < 0)) (hf : f = -1) (h42 : v2 42 = k) (hs : KSA v1 a1 v2 a2) : CPA v a v2 a2 q u n f := fun E hE => by
  obtain ⟨E1, e1, e2⟩ := h E hE
  refine ⟨E1, Or.inr ⟨⟨by omega, hn⟩, Or.inr ⟨k.toNat, by omega, e1, fun ⟨E3, xs, yy, c1, c2, _⟩ => ?_, hf, by omega⟩⟩, e2.cg hs⟩
  rw [show q + ((k.toNat : Nat) : Int) = x by omega] at c1
  rw [show u + ((k.toNat : Nat) : Int) = y by omega] at c2
  rcases hw with c | ⟨c, c3⟩
  · obtain ⟨r1, r2, _⟩ := rwl_lt c1
    obtain ⟨r3, r4, _⟩ := rwl_lt c2
    have e := e2.1
    exact c ⟨⟨r1, by omega⟩, r3, by omega⟩
  · exact e2.fault (Or.inr ⟨c, c3⟩) ⟨xs, c1⟩
theorem CPA.ok (h : CL1 v a v1 a1 q u k) (hk : k = n) (hn : 0 ≤ n ∧ n ≤ 10) (hf : f = n) (h42 : v2 42 = n) (hs : KSA v1 a1 v2 a2) : CPA v a v2 a2 q u n f := fun E hE => by
  obtain ⟨E1, e1, e2⟩ := h E hE
  rw [hk] at e1
  exact ⟨E1, Or.inr ⟨hn, Or.inl ⟨e1, hf, h42⟩⟩, e2.cg hs⟩
end CPLS
set_option maxHeartbeats 4000000 in
set_option maxRecDepth 100000 in
theorem N2_copyLines {l : Launch} {G : GT} {h0 : Nat} {ad ln : Nat → Nat} {v : Nat → Int} {a : Nat → Nat → Int}  {q u n1 : Int} (hB : BX v a) (hq : -2147483648 ≤ q ∧ q ≤ 2147483647) (hu : -2147483648 ≤ u ∧ u ≤ 2147483647) (hn1 : -2147483648 ≤ n1 ∧ n1 ≤ 2147483647) : Mm l G yX12_copyLines cX12_copyLines 10 (some .int) 1 [.int (iI q), .int (iI u), .int (iI n1)] h0 ad ln v a 0 0 (fun r v2 a2 => ∃ f : Int, r = some (.int (iI f)) ∧ fr [0, 1, 42] [34, 35] v a v2 a2 ∧ BX v2 a2 ∧ (CPA v a v2 a2 q u n1 f)) := by
  refine Mm.mk (by decide) (Nat.le_of_ble_eq_true rfl) ?_
  intro p e s m args below meth c A C
  refine hv2 (show 0 ≤ v 36 ∧ v 36 ≤ 200 from hB.1 36) (show fr [0, 1, 42] [34, 35] v a v a from fr.refl) (fun r36 fp0 => ?_)
  refine m_iload_n (j := 3) C dX12_copyLines_0 rfl ?_
  refine m_bipush (z := 10) C dX12_copyLines_1 (by decide) ?_
  refine m_icmp_le (tgt := 13) C ⟨by omega, by omega⟩ ⟨by decide, by decide⟩ dX12_copyLines_3 (by decide) (fun c1 => ?_) (fun c1 => ?_)
  · refine m_iload_n (j := 3) C dX12_copyLines_13 rfl ?_
    refine m_if_ge (tgt := 23) C ⟨by omega, by omega⟩ dX12_copyLines_14 (by decide) (fun c2 => ?_) (fun c2 => ?_)
    · refine m_aload_n (j := 0) C dX12_copyLines_23 rfl ?_
      refine m_iconst C dX12_copyLines_24 ?_
      refine m_put (k := 42) (z := 0) C dX12_copyLines_25 w6_101 (by decide) rfl rfl rfl ?_
      refine hv2 (show BX (va_up v 42 0) a from hB.put (k := 42) (z := 0) ⟨by decide, by decide⟩) (fp0.put (k := 42) (z := 0) rfl) (fun bq1 fq1 => ?_)
      refine m_iconst C dX12_copyLines_28 ?_
      refine m_istore (lv2 := [(4, .int (iI 0)), (0, .ref h0), (1, .int (iI q)), (2, .int (iI u)), (3, .int (iI n1))]) C dX12_copyLines_29 (by decide) rfl ?_
      have Lp1 : ∀ (nn : Nat) (k : Int) (vb1 : Nat → Int) (ab1 : Nat → Nat → Int), 11 - k < (nn : Int) → BX vb1 ab1 → fr [0, 1, 42] [34, 35] v a vb1 ab1 → (0 ≤ k ∧ k ≤ n1) → (vb1 42 = k) → (vb1 36 = v 36) → (CL1 v a vb1 ab1 q u k) → mw p l e (rmq 1 0 0) s m args below meth c G A 10 (MQ below (Qm G A (fun rq Lq Eq => ∃ (vq : Nat → Int) (aq : Nat → Nat → Int), mI G h0 ad ln vq aq Lq Eq ∧ (fun r v2 a2 => ∃ f : Int, r = some (.int (iI f)) ∧ fr [0, 1, 42] [34, 35] v a v2 a2 ∧ BX v2 a2 ∧ (CPA v a v2 a2 q u n1 f)) rq vq aq)) args s 0 0 A) h0 ad ln vb1 ab1 0 0 31 [(4, .int (iI k)), (0, .ref h0), (1, .int (iI q)), (2, .int (iI u)), (3, .int (iI n1))] [] := by
        intro nn
        induction nn with
        | zero =>
          intro k vb1 ab1 hm bxb1 fpb1 hk hc h36 hA
          exact absurd hm (by omega)
        | succ nn ih1 =>
          intro k vb1 ab1 hm bxb1 fpb1 hk hc h36 hA
          refine m_iload (j := 0) C dX12_copyLines_31 rfl ?_
          refine m_iload_n (j := 4) C dX12_copyLines_33 rfl ?_
          refine m_icmp_ge (tgt := 196) C ⟨by omega, by omega⟩ ⟨by omega, by omega⟩ dX12_copyLines_34 (by decide) (fun c3 => ?_) (fun c3 => ?_)
          · refine m_aload_n (j := 1) C dX12_copyLines_196 rfl ?_
            refine m_iload_n (j := 4) C dX12_copyLines_197 rfl ?_
            refine m_call (mc2 := 0) (ms2 := 0) (As := [.int (iI n1)]) (rest := []) C (B_fine (x := n1) bxb1 (by show -2147483648 ≤ n1 ∧ n1 ≤ 2147483647; omega)) dX12_copyLines_198 kV_X12_158 rfl ck_13 rfl (Nat.le_of_ble_eq_true rfl) ⟨Nat.le_of_ble_eq_true rfl, Nat.le_of_ble_eq_true rfl⟩ ⟨Nat.le_of_ble_eq_true rfl, Nat.le_of_ble_eq_true rfl⟩ (fun rh1 vh1 ah1 h1 => ?_)
            obtain ⟨f1, rfl, fn1, bn1, ex1⟩ := h1
            refine hv2 (fpb1.call fn1 rfl rfl) (show f1 = n1 from ex1) (fun fq2 gf1 => ?_)
            refine m_st (st2 := [.int (iI f1)]) rfl ?_
            refine hv2 (show (-2147483648) ≤ vh1 42 ∧ vh1 42 ≤ 2147483647 from bn1.1 42) (show vh1 42 = vb1 42 from fn1.1 42 rfl) (fun rv1 ve1 => ?_)
            exact m_iret C dX12_copyLines_201 rfl (Nat.le_of_ble_eq_true rfl) (Nat.le_of_ble_eq_true rfl) ⟨f1, rfl, fq2, bn1, (CPA.ok hA (by omega) ⟨by omega, by omega⟩ (by omega) (by omega) ⟨fn1.1 36 rfl, fn1.2 34 rfl, fn1.2 35 rfl⟩)⟩
          · refine m_iload_n (j := 2) C dX12_copyLines_37 rfl ?_
            refine m_i2l (w := lI q) C dX12_copyLines_38 (lI_of ⟨by omega, by omega⟩) ?_
            refine m_iload (j := 0) C dX12_copyLines_39 rfl ?_
            refine m_i2l (w := lI k) C dX12_copyLines_41 (lI_of ⟨by omega, by omega⟩) ?_
            refine m_ladd (w := lI (q + k)) C dX12_copyLines_42 (lI_add _ _) ?_
            refine m_lstore (lv2 := [(5, .long (lI (q + k))), (4, .int (iI k)), (0, .ref h0), (1, .int (iI q)), (2, .int (iI u)), (3, .int (iI n1))]) C dX12_copyLines_43 (by decide) rfl ?_
            refine m_iload_n (j := 4) C dX12_copyLines_45 rfl ?_
            refine m_i2l (w := lI u) C dX12_copyLines_46 (lI_of ⟨by omega, by omega⟩) ?_
            refine m_iload (j := 1) C dX12_copyLines_47 rfl ?_
            refine m_i2l (w := lI k) C dX12_copyLines_49 (lI_of ⟨by omega, by omega⟩) ?_
            refine m_ladd (w := lI (u + k)) C dX12_copyLines_50 (lI_add _ _) ?_
            refine m_lstore (lv2 := [(7, .long (lI (u + k))), (5, .long (lI (q + k))), (4, .int (iI k)), (0, .ref h0), (1, .int (iI q)), (2, .int (iI u)), (3, .int (iI n1))]) C dX12_copyLines_51 (by decide) rfl ?_
            refine m_lload (j := 1) C dX12_copyLines_53 rfl ?_
            refine m_lconst (w := lI 0) C dX12_copyLines_55 rfl ?_
            obtain ⟨lc1, hlc1, elc1⟩ := lcmp_c (x := (q + k)) (y := 0) ⟨by omega, by omega⟩ ⟨by omega, by omega⟩
            refine m_lcmp (w := iI lc1) C dX12_copyLines_56 elc1 ?_
            refine m_if_lt (tgt := 89) C ⟨by omega, by omega⟩ dX12_copyLines_57 (by decide) (fun c4 => ?_) (fun c4 => ?_)
            · refine m_aload_n (j := 3) C dX12_copyLines_89 rfl ?_
              refine m_iconst C dX12_copyLines_90 ?_
              refine m_call (mc2 := 0) (ms2 := 0) (As := [.int (iI 2)]) (rest := []) C (B_bad (x := 2) bxb1 (by show -2147483648 ≤ (2 : Int) ∧ (2 : Int) ≤ 2147483647; omega)) dX12_copyLines_91 kV_X12_154 rfl ck_13 rfl (Nat.le_of_ble_eq_true rfl) ⟨Nat.le_of_ble_eq_true rfl, Nat.le_of_ble_eq_true rfl⟩ ⟨Nat.le_of_ble_eq_true rfl, Nat.le_of_ble_eq_true rfl⟩ (fun rh2 vh2 ah2 h2 => ?_)
              obtain ⟨f2, rfl, fn2, bn2, ex2⟩ := h2
              refine hv2 (fpb1.call fn2 rfl rfl) (show f2 = -1 from ex2) (fun fq3 gf2 => ?_)
              refine m_st (st2 := [.int (iI f2)]) rfl ?_
              refine hv2 (show (-2147483648) ≤ vh2 42 ∧ vh2 42 ≤ 2147483647 from bn2.1 42) (show vh2 42 = vb1 42 from fn2.1 42 rfl) (fun rv2 ve2 => ?_)
              exact m_iret C dX12_copyLines_94 rfl (Nat.le_of_ble_eq_true rfl) (Nat.le_of_ble_eq_true rfl) ⟨f2, rfl, fq3, bn2, (CPA.stop hA ⟨by omega, by omega⟩ (by omega) rfl rfl (by omega) (by omega) (by omega) ⟨fn2.1 36 rfl, fn2.2 34 rfl, fn2.2 35 rfl⟩)⟩
            · refine m_lload (j := 1) C dX12_copyLines_60 rfl ?_
              refine m_aload_n (j := 3) C dX12_copyLines_62 rfl ?_
              refine hv2 (show 0 ≤ vb1 36 ∧ vb1 36 ≤ 200 from bxb1.1 36) (show vb1 36 = v 36 from fpb1.1 36 rfl) (fun rv3 ve3 => ?_)
              refine m_get (k := 36) C dX12_copyLines_63 w6_95 (by decide) rfl ?_
              refine m_st (st2 := [.int (iI (v 36)), .long (lI (q + k))]) (congrArg (fun z => Value.int (iI z) :: [.long (lI (q + k))]) (fpb1.1 36 rfl)) ?_
              refine m_i2l (w := lI (v 36)) C dX12_copyLines_66 (lI_of ⟨by omega, by omega⟩) ?_
              obtain ⟨lc2, hlc2, elc2⟩ := lcmp_c (x := (q + k)) (y := (v 36)) ⟨by omega, by omega⟩ ⟨by omega, by omega⟩
              refine m_lcmp (w := iI lc2) C dX12_copyLines_67 elc2 ?_
              refine m_if_ge (tgt := 89) C ⟨by omega, by omega⟩ dX12_copyLines_68 (by decide) (fun c5 => ?_) (fun c5 => ?_)
              · refine m_aload_n (j := 3) C dX12_copyLines_89 rfl ?_
                refine m_iconst C dX12_copyLines_90 ?_
                refine m_call (mc2 := 0) (ms2 := 0) (As := [.int (iI 2)]) (rest := []) C (B_bad (x := 2) bxb1 (by show -2147483648 ≤ (2 : Int) ∧ (2 : Int) ≤ 2147483647; omega)) dX12_copyLines_91 kV_X12_154 rfl ck_13 rfl (Nat.le_of_ble_eq_true rfl) ⟨Nat.le_of_ble_eq_true rfl, Nat.le_of_ble_eq_true rfl⟩ ⟨Nat.le_of_ble_eq_true rfl, Nat.le_of_ble_eq_true rfl⟩ (fun rh3 vh3 ah3 h3 => ?_)
                obtain ⟨f3, rfl, fn3, bn3, ex3⟩ := h3
                refine hv2 (fpb1.call fn3 rfl rfl) (show f3 = -1 from ex3) (fun fq4 gf3 => ?_)
                refine m_st (st2 := [.int (iI f3)]) rfl ?_
                refine hv2 (show (-2147483648) ≤ vh3 42 ∧ vh3 42 ≤ 2147483647 from bn3.1 42) (show vh3 42 = vb1 42 from fn3.1 42 rfl) (fun rv4 ve4 => ?_)
                exact m_iret C dX12_copyLines_94 rfl (Nat.le_of_ble_eq_true rfl) (Nat.le_of_ble_eq_true rfl) ⟨f3, rfl, fq4, bn3, (CPA.stop hA ⟨by omega, by omega⟩ (by omega) rfl rfl (by omega) (by omega) (by omega) ⟨fn3.1 36 rfl, fn3.2 34 rfl, fn3.2 35 rfl⟩)⟩
              · refine m_lload (j := 0) C dX12_copyLines_71 rfl ?_
                refine m_lconst (w := lI 0) C dX12_copyLines_73 rfl ?_
                obtain ⟨lc3, hlc3, elc3⟩ := lcmp_c (x := (u + k)) (y := 0) ⟨by omega, by omega⟩ ⟨by omega, by omega⟩
                refine m_lcmp (w := iI lc3) C dX12_copyLines_74 elc3 ?_
                refine m_if_lt (tgt := 89) C ⟨by omega, by omega⟩ dX12_copyLines_75 (by decide) (fun c6 => ?_) (fun c6 => ?_)
                · refine m_aload_n (j := 3) C dX12_copyLines_89 rfl ?_
                  refine m_iconst C dX12_copyLines_90 ?_
                  refine m_call (mc2 := 0) (ms2 := 0) (As := [.int (iI 2)]) (rest := []) C (B_bad (x := 2) bxb1 (by show -2147483648 ≤ (2 : Int) ∧ (2 : Int) ≤ 2147483647; omega)) dX12_copyLines_91 kV_X12_154 rfl ck_13 rfl (Nat.le_of_ble_eq_true rfl) ⟨Nat.le_of_ble_eq_true rfl, Nat.le_of_ble_eq_true rfl⟩ ⟨Nat.le_of_ble_eq_true rfl, Nat.le_of_ble_eq_true rfl⟩ (fun rh4 vh4 ah4 h4 => ?_)
                  obtain ⟨f4, rfl, fn4, bn4, ex4⟩ := h4
                  refine hv2 (fpb1.call fn4 rfl rfl) (show f4 = -1 from ex4) (fun fq5 gf4 => ?_)
                  refine m_st (st2 := [.int (iI f4)]) rfl ?_
                  refine hv2 (show (-2147483648) ≤ vh4 42 ∧ vh4 42 ≤ 2147483647 from bn4.1 42) (show vh4 42 = vb1 42 from fn4.1 42 rfl) (fun rv5 ve5 => ?_)
                  exact m_iret C dX12_copyLines_94 rfl (Nat.le_of_ble_eq_true rfl) (Nat.le_of_ble_eq_true rfl) ⟨f4, rfl, fq5, bn4, (CPA.stop hA ⟨by omega, by omega⟩ (by omega) rfl rfl (by omega) (by omega) (by omega) ⟨fn4.1 36 rfl, fn4.2 34 rfl, fn4.2 35 rfl⟩)⟩
                · refine m_lload (j := 0) C dX12_copyLines_78 rfl ?_
                  refine m_aload_n (j := 3) C dX12_copyLines_80 rfl ?_
                  refine m_get (k := 36) C dX12_copyLines_81 w6_95 (by decide) rfl ?_
                  refine m_st (st2 := [.int (iI (v 36)), .long (lI (u + k))]) (congrArg (fun z => Value.int (iI z) :: [.long (lI (u + k))]) (fpb1.1 36 rfl)) ?_
                  refine m_i2l (w := lI (v 36)) C dX12_copyLines_84 (lI_of ⟨by omega, by omega⟩) ?_
                  obtain ⟨lc4, hlc4, elc4⟩ := lcmp_c (x := (u + k)) (y := (v 36)) ⟨by omega, by omega⟩ ⟨by omega, by omega⟩
                  refine m_lcmp (w := iI lc4) C dX12_copyLines_85 elc4 ?_
                  refine m_if_lt (tgt := 95) C ⟨by omega, by omega⟩ dX12_copyLines_86 (by decide) (fun c7 => ?_) (fun c7 => ?_)
                  · refine m_aload_n (j := 3) C dX12_copyLines_95 rfl ?_
                    refine m_geta (k := 34) C dX12_copyLines_96 w6_93 (by decide) rfl ?_
                    refine m_lload (j := 1) C dX12_copyLines_99 rfl ?_
                    refine m_l2i (w := iI (q + k)) C dX12_copyLines_101 (lI_i _) ?_
                    refine m_ald (k := 34) C dX12_copyLines_102 rfl rfl (by decide) (by omega) (by show _ < ((_ : Nat) : Int); simp only [mlen]; omega) (by decide) ?_
                    have ra1 : (-1) ≤ ab1 34 (q + k).toNat ∧ ab1 34 (q + k).toNat ≤ 200 := bxb1.2 34 ((q + k).toNat)
                    refine m_if_ge (tgt := 112) C (r32_c (lo := (-1)) (hi := 200) ra1.1 ra1.2 (by decide) (by decide)) dX12_copyLines_103 (by decide) (fun c8 => ?_) (fun c8 => ?_)
                    · refine m_aload_n (j := 3) C dX12_copyLines_112 rfl ?_
                      refine m_geta (k := 34) C dX12_copyLines_113 w6_93 (by decide) rfl ?_
                      refine m_lload (j := 0) C dX12_copyLines_116 rfl ?_
                      refine m_l2i (w := iI (u + k)) C dX12_copyLines_118 (lI_i _) ?_
                      refine m_aload_n (j := 3) C dX12_copyLines_119 rfl ?_
                      refine m_geta (k := 34) C dX12_copyLines_120 w6_93 (by decide) rfl ?_
                      refine m_lload (j := 1) C dX12_copyLines_123 rfl ?_
                      refine m_l2i (w := iI (q + k)) C dX12_copyLines_125 (lI_i _) ?_
                      refine m_ald (k := 34) C dX12_copyLines_126 rfl rfl (by decide) (by omega) (by show _ < ((_ : Nat) : Int); simp only [mlen]; omega) (by decide) ?_
                      refine m_ast (k := 34) C dX12_copyLines_127 rfl rfl (by decide) (by omega) (by show _ < ((_ : Nat) : Int); simp only [mlen]; omega) (by decide) ?_
                      refine hv2 (show BX vb1 (up2 ab1 34 (u + k).toNat (ab1 34 (q + k).toNat)) from bxb1.set (k := 34) (i := (u + k).toNat) (z := ab1 34 (q + k).toNat) (show (-1) ≤ (ab1 34 (q + k).toNat) ∧ (ab1 34 (q + k).toNat) ≤ 200 by omega)) (fpb1.set (k := 34) (i := (u + k).toNat) (z := ab1 34 (q + k).toNat) rfl) (fun bq2 fq6 => ?_)
                      refine m_iconst C dX12_copyLines_128 ?_
                      refine m_istore (lv2 := [(9, .int (iI 0)), (7, .long (lI (u + k))), (5, .long (lI (q + k))), (4, .int (iI k)), (0, .ref h0), (1, .int (iI q)), (2, .int (iI u)), (3, .int (iI n1))]) C dX12_copyLines_129 (by decide) rfl ?_
                      have Lp2 : ∀ (nn : Nat) (i1 : Int) (vb2 : Nat → Int) (ab2 : Nat → Nat → Int), 201 - i1 < (nn : Int) → BX vb2 ab2 → fr [0, 1, 42] [34, 35] v a vb2 ab2 → (0 ≤ i1 ∧ i1 ≤ 200) → (vb2 42 = k) → (vb2 36 = v 36) → (CL2 v a vb2 ab2 q u k (q + k) (u + k) i1) → mw p l e (rmq 1 0 0) s m args below meth c G A 10 (MQ below (Qm G A (fun rq Lq Eq => ∃ (vq : Nat → Int) (aq : Nat → Nat → Int), mI G h0 ad ln vq aq Lq Eq ∧ (fun r v2 a2 => ∃ f : Int, r = some (.int (iI f)) ∧ fr [0, 1, 42] [34, 35] v a v2 a2 ∧ BX v2 a2 ∧ (CPA v a v2 a2 q u n1 f)) rq vq aq)) args s 0 0 A) h0 ad ln vb2 ab2 0 0 131 [(9, .int (iI i1)), (7, .long (lI (u + k))), (5, .long (lI (q + k))), (4, .int (iI k)), (0, .ref h0), (1, .int (iI q)), (2, .int (iI u)), (3, .int (iI n1))] [] := by
                        intro nn
                        induction nn with
                        | zero =>
                          intro i1 vb2 ab2 hm bxb2 fpb2 hi hc2 h36b hD
                          exact absurd hm (by omega)
                        | succ nn ih2 =>
                          intro i1 vb2 ab2 hm bxb2 fpb2 hi hc2 h36b hD
                          refine m_iload (j := 0) C dX12_copyLines_131 rfl ?_
                          refine m_aload_n (j := 4) C dX12_copyLines_133 rfl ?_
                          refine m_geta (k := 34) C dX12_copyLines_134 w6_93 (by decide) rfl ?_
                          refine m_lload (j := 2) C dX12_copyLines_137 rfl ?_
                          refine m_l2i (w := iI (q + k)) C dX12_copyLines_139 (lI_i _) ?_
                          refine m_ald (k := 34) C dX12_copyLines_140 rfl rfl (by decide) (by omega) (by show _ < ((_ : Nat) : Int); simp only [mlen]; omega) (by decide) ?_
                          have ra2 : (-1) ≤ ab2 34 (q + k).toNat ∧ ab2 34 (q + k).toNat ≤ 200 := bxb2.2 34 ((q + k).toNat)
                          refine m_icmp_ge (tgt := 180) C (r32_c (lo := 0) (hi := 200) hi.1 hi.2 (by decide) (by decide)) (r32_c (lo := (-1)) (hi := 200) ra2.1 ra2.2 (by decide) (by decide)) dX12_copyLines_141 (by decide) (fun c9 => ?_) (fun c9 => ?_)
                          · refine m_aload_n (j := 4) C dX12_copyLines_180 rfl ?_
                            refine m_dup C dX12_copyLines_181 rfl ?_
                            have rv6 : (-2147483648) ≤ vb2 42 ∧ vb2 42 ≤ 2147483647 := bxb2.1 42
                            refine m_get (k := 42) C dX12_copyLines_182 w6_101 (by decide) rfl ?_
                            refine m_iconst C dX12_copyLines_185 ?_
                            refine m_iadd C dX12_copyLines_186 ?_
                            refine m_put (k := 42) (z := (vb2 42) + 1) C dX12_copyLines_187 w6_101 (by decide) rfl rfl rfl ?_
                            refine hv2 (show BX (va_up vb2 42 ((vb2 42) + 1)) ab2 from bxb2.put (k := 42) (z := (vb2 42) + 1) (show (-2147483648) ≤ ((vb2 42) + 1) ∧ ((vb2 42) + 1) ≤ 2147483647 by omega)) (fpb2.put (k := 42) (z := (vb2 42) + 1) rfl) (fun bq3 fq7 => ?_)
                            refine m_iinc (z := k) (j := 3) (lv2 := [(4, .int (iI (k + 1))), (9, .int (iI i1)), (7, .long (lI (u + k))), (5, .long (lI (q + k))), (0, .ref h0), (1, .int (iI q)), (2, .int (iI u)), (3, .int (iI n1))]) C dX12_copyLines_190 rfl (by decide) rfl ?_
                            refine m_goto (tgt := 31) C dX12_copyLines_193 (by decide) ?_
                            refine hv2 (show 0 ≤ vb2 36 ∧ vb2 36 ≤ 200 from bq3.1 36) (show vb2 36 = v 36 from fpb2.1 36 rfl) (fun rv7 ve6 => ?_)
                            refine m_lv (lv2 := [(4, .int (iI (k + 1))), (0, .ref h0), (1, .int (iI q)), (2, .int (iI u)), (3, .int (iI n1))]) [0, 4, 5, 6, 7] rfl ?_
                            exact ih1  (k + 1) _ _ (by omega) bq3 fq7 (by omega) (by show ((vb2 42) + 1) = (k + 1); omega) (by show (vb2 36) = v 36; omega) (CL2.fin hD (by omega) rfl rfl ⟨⟨by omega, by omega⟩, by omega, by omega⟩ ⟨by omega, by omega⟩ (va_up_ne _ _ (by decide)))
                          · refine m_aload_n (j := 4) C dX12_copyLines_144 rfl ?_
                            refine m_geta (k := 35) C dX12_copyLines_145 w6_94 (by decide) rfl ?_
                            refine m_sipush (z := 200) C dX12_copyLines_148 (by decide) ?_
                            refine m_lload (j := 1) C dX12_copyLines_151 rfl ?_
                            refine m_l2i (w := iI (u + k)) C dX12_copyLines_153 (lI_i _) ?_
                            refine m_imul C dX12_copyLines_154 ?_
                            refine m_iload (j := 0) C dX12_copyLines_155 rfl ?_
                            refine m_iadd C dX12_copyLines_157 ?_
                            refine m_aload_n (j := 4) C dX12_copyLines_158 rfl ?_
                            refine m_geta (k := 35) C dX12_copyLines_159 w6_94 (by decide) rfl ?_
                            refine m_sipush (z := 200) C dX12_copyLines_162 (by decide) ?_
                            refine m_lload (j := 2) C dX12_copyLines_165 rfl ?_
                            refine m_l2i (w := iI (q + k)) C dX12_copyLines_167 (lI_i _) ?_
                            refine m_imul C dX12_copyLines_168 ?_
                            refine m_iload (j := 0) C dX12_copyLines_169 rfl ?_
                            refine m_iadd C dX12_copyLines_171 ?_
                            refine m_ald (k := 35) C dX12_copyLines_172 rfl rfl (by decide) (by omega) (by show _ < ((_ : Nat) : Int); simp only [mlen]; omega) (by decide) ?_
                            have ra3 : (-2147483648) ≤ ab2 35 ((200 * (q + k)) + i1).toNat ∧ ab2 35 ((200 * (q + k)) + i1).toNat ≤ 2147483647 := bxb2.2 35 (((200 * (q + k)) + i1).toNat)
                            refine m_ast (k := 35) C dX12_copyLines_173 rfl rfl (by decide) (by omega) (by show _ < ((_ : Nat) : Int); simp only [mlen]; omega) (by decide) ?_
                            refine hv2 (show BX vb2 (up2 ab2 35 ((200 * (u + k)) + i1).toNat (ab2 35 ((200 * (q + k)) + i1).toNat)) from bxb2.set (k := 35) (i := ((200 * (u + k)) + i1).toNat) (z := ab2 35 ((200 * (q + k)) + i1).toNat) (show (-2147483648) ≤ (ab2 35 ((200 * (q + k)) + i1).toNat) ∧ (ab2 35 ((200 * (q + k)) + i1).toNat) ≤ 2147483647 by omega)) (fpb2.set (k := 35) (i := ((200 * (u + k)) + i1).toNat) (z := ab2 35 ((200 * (q + k)) + i1).toNat) rfl) (fun bq4 fq8 => ?_)
                            refine m_iinc (z := i1) (j := 0) (lv2 := [(9, .int (iI (i1 + 1))), (7, .long (lI (u + k))), (5, .long (lI (q + k))), (4, .int (iI k)), (0, .ref h0), (1, .int (iI q)), (2, .int (iI u)), (3, .int (iI n1))]) C dX12_copyLines_174 rfl (by decide) rfl ?_
                            refine m_goto (tgt := 131) C dX12_copyLines_177 (by decide) ?_
                            refine hv3 (show (-2147483648) ≤ vb2 42 ∧ vb2 42 ≤ 2147483647 from bq4.1 42) (show 0 ≤ vb2 36 ∧ vb2 36 ≤ 200 from bq4.1 36) (show vb2 36 = v 36 from fpb2.1 36 rfl) (fun rv8 rv9 ve7 => ?_)
                            refine m_lv (lv2 := [(9, .int (iI (i1 + 1))), (7, .long (lI (u + k))), (5, .long (lI (q + k))), (4, .int (iI k)), (0, .ref h0), (1, .int (iI q)), (2, .int (iI u)), (3, .int (iI n1))]) [0, 1, 2, 3, 4, 5, 6, 7] rfl ?_
                            exact ih2  (i1 + 1) _ _ (by omega) bq4 fq8 (by omega) (by show (vb2 42) = k; omega) (by show (vb2 36) = v 36; omega) (CL2.step hD ⟨by omega, by omega⟩ ⟨by omega, by omega⟩ rfl rfl)
                      have rv10 : (-2147483648) ≤ vb1 42 ∧ vb1 42 ≤ 2147483647 := bq2.1 42
                      refine m_lv (lv2 := [(9, .int (iI 0)), (7, .long (lI (u + k))), (5, .long (lI (q + k))), (4, .int (iI k)), (0, .ref h0), (1, .int (iI q)), (2, .int (iI u)), (3, .int (iI n1))]) [0, 1, 2, 3, 4, 5, 6, 7] rfl ?_
                      exact Lp2 202 0 _ _ (by omega) bq2 fq6 (by omega) (by show (vb1 42) = k; omega) (by show (vb1 36) = v 36; omega) (CL1.go hA (fun j => (bxb1.2 34 j).2) rfl rfl (by omega))
                    · refine m_aload_n (j := 3) C dX12_copyLines_106 rfl ?_
                      refine m_iconst C dX12_copyLines_107 ?_
                      refine m_call (mc2 := 0) (ms2 := 0) (As := [.int (iI 1)]) (rest := []) C (B_bad (x := 1) bxb1 (by show -2147483648 ≤ (1 : Int) ∧ (1 : Int) ≤ 2147483647; omega)) dX12_copyLines_108 kV_X12_154 rfl ck_13 rfl (Nat.le_of_ble_eq_true rfl) ⟨Nat.le_of_ble_eq_true rfl, Nat.le_of_ble_eq_true rfl⟩ ⟨Nat.le_of_ble_eq_true rfl, Nat.le_of_ble_eq_true rfl⟩ (fun rh5 vh5 ah5 h5 => ?_)
                      obtain ⟨f5, rfl, fn5, bn5, ex5⟩ := h5
                      refine hv2 (fpb1.call fn5 rfl rfl) (show f5 = -1 from ex5) (fun fq9 gf5 => ?_)
                      refine m_st (st2 := [.int (iI f5)]) rfl ?_
                      refine hv2 (show (-2147483648) ≤ vh5 42 ∧ vh5 42 ≤ 2147483647 from bn5.1 42) (show vh5 42 = vb1 42 from fn5.1 42 rfl) (fun rv11 ve8 => ?_)
                      exact m_iret C dX12_copyLines_111 rfl (Nat.le_of_ble_eq_true rfl) (Nat.le_of_ble_eq_true rfl) ⟨f5, rfl, fq9, bn5, (CPA.stop hA ⟨by omega, by omega⟩ (by omega) rfl rfl (by omega) (by omega) (by omega) ⟨fn5.1 36 rfl, fn5.2 34 rfl, fn5.2 35 rfl⟩)⟩
                  · refine m_aload_n (j := 3) C dX12_copyLines_89 rfl ?_
                    refine m_iconst C dX12_copyLines_90 ?_
                    refine m_call (mc2 := 0) (ms2 := 0) (As := [.int (iI 2)]) (rest := []) C (B_bad (x := 2) bxb1 (by show -2147483648 ≤ (2 : Int) ∧ (2 : Int) ≤ 2147483647; omega)) dX12_copyLines_91 kV_X12_154 rfl ck_13 rfl (Nat.le_of_ble_eq_true rfl) ⟨Nat.le_of_ble_eq_true rfl, Nat.le_of_ble_eq_true rfl⟩ ⟨Nat.le_of_ble_eq_true rfl, Nat.le_of_ble_eq_true rfl⟩ (fun rh6 vh6 ah6 h6 => ?_)
                    obtain ⟨f6, rfl, fn6, bn6, ex6⟩ := h6
                    refine hv2 (fpb1.call fn6 rfl rfl) (show f6 = -1 from ex6) (fun fq10 gf6 => ?_)
                    refine m_st (st2 := [.int (iI f6)]) rfl ?_
                    refine hv2 (show (-2147483648) ≤ vh6 42 ∧ vh6 42 ≤ 2147483647 from bn6.1 42) (show vh6 42 = vb1 42 from fn6.1 42 rfl) (fun rv12 ve9 => ?_)
                    exact m_iret C dX12_copyLines_94 rfl (Nat.le_of_ble_eq_true rfl) (Nat.le_of_ble_eq_true rfl) ⟨f6, rfl, fq10, bn6, (CPA.stop hA ⟨by omega, by omega⟩ (by omega) rfl rfl (by omega) (by omega) (by omega) ⟨fn6.1 36 rfl, fn6.2 34 rfl, fn6.2 35 rfl⟩)⟩
      have rv13 : 0 ≤ v 36 ∧ v 36 ≤ 200 := bq1.1 36
      refine m_lv (lv2 := [(4, .int (iI 0)), (0, .ref h0), (1, .int (iI q)), (2, .int (iI u)), (3, .int (iI n1))]) [0, 1, 2, 3, 4] rfl ?_
      exact Lp1 12 0 _ _ (by omega) bq1 fq1 (by omega) (by show 0 = 0; omega) (by show (v 36) = v 36; omega) (CL1.zero rfl ⟨va_up_ne _ _ (by decide), rfl, rfl⟩)
    · refine m_aload_n (j := 0) C dX12_copyLines_17 rfl ?_
      refine m_iconst C dX12_copyLines_18 ?_
      refine m_call (mc2 := 0) (ms2 := 0) (As := [.int (iI 5)]) (rest := []) C (B_bad (x := 5) hB (by show -2147483648 ≤ (5 : Int) ∧ (5 : Int) ≤ 2147483647; omega)) dX12_copyLines_19 kV_X12_154 rfl ck_13 rfl (Nat.le_of_ble_eq_true rfl) ⟨Nat.le_of_ble_eq_true rfl, Nat.le_of_ble_eq_true rfl⟩ ⟨Nat.le_of_ble_eq_true rfl, Nat.le_of_ble_eq_true rfl⟩ (fun rh7 vh7 ah7 h7 => ?_)
      obtain ⟨f7, rfl, fn7, bn7, ex7⟩ := h7
      refine hv2 (fp0.call fn7 rfl rfl) (show f7 = -1 from ex7) (fun fq11 gf7 => ?_)
      refine m_st (st2 := [.int (iI f7)]) rfl ?_
      refine hv2 (show (-2147483648) ≤ vh7 42 ∧ vh7 42 ≤ 2147483647 from bn7.1 42) (show vh7 42 = v 42 from fn7.1 42 rfl) (fun rv14 ve10 => ?_)
      exact m_iret C dX12_copyLines_22 rfl (Nat.le_of_ble_eq_true rfl) (Nat.le_of_ble_eq_true rfl) ⟨f7, rfl, fq11, bn7, (CPA.bad0 (by omega) (by omega) (by omega) ⟨fn7.1 36 rfl, fn7.2 34 rfl, fn7.2 35 rfl⟩)⟩
  · refine m_aload_n (j := 0) C dX12_copyLines_6 rfl ?_
    refine m_bipush (z := 6) C dX12_copyLines_7 (by decide) ?_
    refine m_call (mc2 := 0) (ms2 := 0) (As := [.int (iI 6)]) (rest := []) C (B_bad (x := 6) hB (by show -2147483648 ≤ (6 : Int) ∧ (6 : Int) ≤ 2147483647; omega)) dX12_copyLines_9 kV_X12_154 rfl ck_13 rfl (Nat.le_of_ble_eq_true rfl) ⟨Nat.le_of_ble_eq_true rfl, Nat.le_of_ble_eq_true rfl⟩ ⟨Nat.le_of_ble_eq_true rfl, Nat.le_of_ble_eq_true rfl⟩ (fun rh8 vh8 ah8 h8 => ?_)
    obtain ⟨f8, rfl, fn8, bn8, ex8⟩ := h8
    refine hv2 (fp0.call fn8 rfl rfl) (show f8 = -1 from ex8) (fun fq12 gf8 => ?_)
    refine m_st (st2 := [.int (iI f8)]) rfl ?_
    refine hv2 (show (-2147483648) ≤ vh8 42 ∧ vh8 42 ≤ 2147483647 from bn8.1 42) (show vh8 42 = v 42 from fn8.1 42 rfl) (fun rv15 ve11 => ?_)
    exact m_iret C dX12_copyLines_12 rfl (Nat.le_of_ble_eq_true rfl) (Nat.le_of_ble_eq_true rfl) ⟨f8, rfl, fq12, bn8, (CPA.bad0 (by omega) (by omega) (by omega) ⟨fn8.1 36 rfl, fn8.2 34 rfl, fn8.2 35 rfl⟩)⟩
set_option maxHeartbeats 4000000 in
set_option maxRecDepth 100000 in
theorem N2_copied {l : Launch} {G : GT} {h0 : Nat} {ad ln : Nat → Nat} {v : Nat → Int} {a : Nat → Nat → Int}  (hB : BX v a)  : Mm l G yX12_copied cX12_copied 1 (some .int) 0 [] h0 ad ln v a 0 0 (fun r v2 a2 => ∃ f : Int, r = some (.int (iI f)) ∧ fr [] [] v a v2 a2 ∧ BX v2 a2 ∧ (f = v 42)) := by
  refine Mm.mk (by decide) (Nat.le_of_ble_eq_true rfl) ?_
  intro p e s m args below meth c A C
  have fp0 : fr [] [] v a v a := fr.refl
  refine m_aload_n (j := 0) C dX12_copied_0 rfl ?_
  have rv1 : (-2147483648) ≤ v 42 ∧ v 42 ≤ 2147483647 := hB.1 42
  refine m_get (k := 42) C dX12_copied_1 w6_101 (by decide) rfl ?_
  exact m_iret C dX12_copied_4 rfl (Nat.le_of_ble_eq_true rfl) (Nat.le_of_ble_eq_true rfl) ⟨(v 42), rfl, fp0, hB, rfl⟩
def bcs (s : Int32) : List Int → Int32
  | [] => s
  | x :: xs => bcs (s + bcn (iI x)) xs
def emb (E : List (Option (List Int))) (q wd : Int) : Nat → Int32 → Prop
  | 0, s => s = 0
  | k + 1, s => ∃ s0, emb E q wd k s0 ∧ ((rwe E (q + ((k : Nat) : Int)) = some none ∧ s = s0) ∨ ∃ xs, rwe E (q + ((k : Nat) : Int)) = some (some xs) ∧ ((xs.length : Nat) : Int) ≤ wd ∧ s = bcs s0 xs)
def EMS (E : List (Option (List Int))) (q wd : Int) (k : Nat) (s : Int32) (f : Int) : Prop := (rwe E (q + ((k : Nat) : Int)) = none ∧ f = -1) ∨ ∃ xs, rwe E (q + ((k : Nat) : Int)) = some (some xs) ∧ wd < ((xs.length : Nat) : Int) ∧ iI f = s
def EMBX (E : List (Option (List Int))) (q n wd : Int) (c : Int32) (f : Int) (c2 : Int32) : Prop := ((n < 0 ∨ 200 < n) ∧ f = -1 ∧ c2 = c) ∨ ((0 ≤ n ∧ n ≤ 200) ∧ ((emb E q wd n.toNat (iI f) ∧ c2 = c + iI n) ∨ ∃ (k : Nat) (s : Int32), ((k : Nat) : Int) < n ∧ emb E q wd k s ∧ EMS E q wd k s f ∧ c2 = c + iI (((k : Nat) : Int) + 1)))
def EMA (v : Nat → Int) (a : Nat → Nat → Int) (v2 : Nat → Int) (q n f : Int) : Prop := ∀ E, SHA v a E → EMBX E q n (v 31) (iI (v 43)) f (iI (v2 43))
def EM1 (v : Nat → Int) (a : Nat → Nat → Int) (q k s : Int) : Prop := ∀ E, SHA v a E → emb E q (v 31) k.toNat (iI s)
def EM2 (v : Nat → Int) (a : Nat → Nat → Int) (q k i s : Int) : Prop := ∃ s0, EM1 v a q k s0 ∧ iI s = bcs (iI s0) (mpr i.toNat (fun j => a 35 (200 * (q + k) + ((j : Nat) : Int)).toNat))
section EMBS
variable {v v1 v2 : Nat → Int} {a : Nat → Nat → Int} {E : List (Option (List Int))} {q n f f1 f2 wd k i z x y s1 s2 : Int} {c c1 c2 s t : Int32} {xs : List Int}
theorem bcs_snoc : ∀ (xs : List Int) (s : Int32) (x : Int), bcs s (xs ++ [x]) = bcs s xs + bcn (iI x) := by
  intro xs
  induction xs with
  | nil => intro s x; rfl
  | cons y xs ih => intro s x; exact ih (s + bcn (iI y)) x
theorem bcs_add : ∀ (xs : List Int) (s : Int32), bcs s xs = s + bcs 0 xs := by
  intro xs
  induction xs with
  | nil => intro s; exact (Int32.add_zero s).symm
  | cons y xs ih =>
    intro s
    show bcs (s + bcn (iI y)) xs = s + bcs (0 + bcn (iI y)) xs
    rw [ih (s + bcn (iI y)), ih (0 + bcn (iI y)), Int32.zero_add, Int32.add_assoc]
theorem emb.uni : ∀ (k : Nat) (s t : Int32), emb E q wd k s → emb E q wd k t → s = t := by
  intro k
  induction k with
  | zero => intro s t h h2; exact h.trans h2.symm
  | succ k ih =>
    intro s t h h2
    obtain ⟨s0, a1, a2⟩ := h
    obtain ⟨t0, b1, b2⟩ := h2
    have e := ih s0 t0 a1 b1
    rcases a2 with ⟨e1, e2⟩ | ⟨xs, e1, _, e2⟩ <;> rcases b2 with ⟨d1, d2⟩ | ⟨ys, d1, _, d2⟩
    · rw [e2, d2, e]
    · rw [e1] at d1; cases d1
    · rw [e1] at d1; cases d1
    · rw [e1] at d1; cases d1
      rw [e2, d2, e]
theorem emb.less {k m : Nat} (hm : k < m) : ∀ s, emb E q wd m s → rwe E (q + ((k : Nat) : Int)) = some none ∨ ∃ xs, rwe E (q + ((k : Nat) : Int)) = some (some xs) ∧ ((xs.length : Nat) : Int) ≤ wd := by
  induction m with
  | zero => omega
  | succ m ih =>
    intro s h
    obtain ⟨s0, a1, a2⟩ := h
    by_cases c0 : k = m
    · subst c0
      rcases a2 with ⟨e1, _⟩ | ⟨xs, e1, e2, _⟩
      · exact Or.inl e1
      · exact Or.inr ⟨xs, e1, e2⟩
    · exact ih (by omega) s0 a1
theorem emb.stop {k m : Nat} (h1 : EMS E q wd k s f) (h2 : emb E q wd m t) (hm : k < m) : False := by
  rcases h1 with ⟨e, _⟩ | ⟨xs, e, e2, _⟩ <;> rcases emb.less hm t h2 with d | ⟨ys, d, d2⟩
  · rw [e] at d; cases d
  · rw [e] at d; cases d
  · rw [e] at d; cases d
  · rw [e] at d; cases d
    omega
theorem EMBX.uni (h : EMBX E q n wd c f1 c1) (h2 : EMBX E q n wd c f2 c2) : iI f1 = iI f2 ∧ c1 = c2 := by
  rcases h with ⟨e0, e1, e2⟩ | ⟨e0, ⟨e1, e2⟩ | ⟨k, s, e1, e2, e3, e4⟩⟩ <;> rcases h2 with ⟨d0, d1, d2⟩ | ⟨d0, ⟨d1, d2⟩ | ⟨m, t, d1, d2, d3, d4⟩⟩
  · exact ⟨by rw [e1, d1], e2.trans d2.symm⟩
  · omega
  · omega
  · omega
  · exact ⟨emb.uni _ _ _ e1 d1, e2.trans d2.symm⟩
  · exact (emb.stop d3 e1 (by omega)).elim
  · omega
  · exact (emb.stop e3 d1 (by omega)).elim
  · by_cases c0 : k = m
    · subst c0
      have es := emb.uni k s t e2 d2
      refine ⟨?_, e4.trans d4.symm⟩
      rcases e3 with ⟨g1, g2⟩ | ⟨xs, g1, _, g2⟩ <;> rcases d3 with ⟨b1, b2⟩ | ⟨ys, b1, _, b2⟩
      · rw [g2, b2]
      · rw [g1] at b1; cases b1
      · rw [g1] at b1; cases b1
      · rw [g2, b2, es]
    · by_cases c3 : k < m
      · exact (emb.stop e3 d2 c3).elim
      · exact (emb.stop d3 e2 (by omega)).elim
theorem EM1.zero (hk : k = 0) (hs : s1 = 0) : EM1 v a q k s1 := fun E hE => by
  rw [hk, hs]
  rfl
theorem EM1.go (h : EM1 v a q k s1) (hi : i = 0) : EM2 v a q k i s1 := ⟨s1, h, by rw [hi]; rfl⟩
theorem EM2.step (h : EM2 v a q k i s1) (hi : 0 ≤ i) (hx : x = a 35 (200 * (q + k) + i).toNat) (hz : bcn (iI x) = iI z) (hy : iI (s1 + z) = iI y) : EM2 v a q k (i + 1) y := by
  obtain ⟨s0, g1, g2⟩ := h
  refine ⟨s0, g1, ?_⟩
  rw [show (i + 1).toNat = i.toNat + 1 by omega]
  have e : mpr (i.toNat + 1) (fun j => a 35 (200 * (q + k) + ((j : Nat) : Int)).toNat) = mpr i.toNat (fun j => a 35 (200 * (q + k) + ((j : Nat) : Int)).toNat) ++ [a 35 (200 * (q + k) + ((i.toNat : Nat) : Int)).toNat] := by
    unfold mpr
    rw [List.range_succ, List.map_append]
    rfl
  have ea : iI (s1 + z) = iI s1 + iI z := Int32.ofInt_add s1 z
  rw [e, bcs_snoc, ← g2, ← hy, ea, show ((i.toNat : Nat) : Int) = i by omega, ← hx, hz]
theorem EM2.fin (h : EM2 v a q k i s1) (hk : 0 ≤ k) (h0 : 0 ≤ q + k ∧ q + k < v 36) (hw : a 34 (q + k).toNat ≤ v 31) (hi : (i = 0 ∧ a 34 (q + k).toNat ≤ 0) ∨ i = a 34 (q + k).toNat) : EM1 v a q (k + 1) s1 := fun E hE => by
  obtain ⟨s0, g1, g2⟩ := h
  rw [show (k + 1).toNat = k.toNat + 1 by omega]
  refine ⟨iI s0, g1 E hE, ?_⟩
  rw [show q + ((k.toNat : Nat) : Int) = q + k by omega]
  by_cases c0 : a 34 (q + k).toNat < 0
  · refine Or.inl ⟨hE.lack h0.1 h0.2 c0, ?_⟩
    rw [g2, show i.toNat = 0 by omega]
    rfl
  · obtain ⟨xs, e1, e2, e3⟩ := hE.have_ h0.1 h0.2 (by omega)
    refine Or.inr ⟨xs, e1, by omega, ?_⟩
    rw [g2]
    congr 1
    refine List.ext_getElem? (fun j => ?_)
    by_cases cj : j < xs.length
    · have lt : j < (mpr i.toNat (fun j => a 35 (200 * (q + k) + ((j : Nat) : Int)).toNat)).length := by rw [mpr_len]; omega
      rw [gd0_lt cj]
      have g := List.getElem?_eq_getElem lt
      rw [g]
      obtain ⟨_, m2⟩ := mpr_at g
      rw [m2, ← e3 j cj, show (200 * (q + k) + ((j : Nat) : Int)).toNat = 200 * (q + k).toNat + j by omega]
    · have l1 : (mpr i.toNat (fun j => a 35 (200 * (q + k) + ((j : Nat) : Int)).toNat)).length ≤ j := by
        rw [mpr_len]
        omega
      rw [List.getElem?_eq_none l1, List.getElem?_eq_none (show xs.length ≤ j by omega)]
theorem EMA.bad (hn : n < 0 ∨ 200 < n) (hf : f = -1) (h43 : v2 43 = v 43) : EMA v a v2 q n f := fun E hE => Or.inl ⟨hn, hf, by rw [h43]⟩
theorem EMA.ok (h : EM1 v a q k s1) (hk : k = n) (hn : 0 ≤ n ∧ n ≤ 200) (hf : f = s1) (hc : iI (v2 43) = iI (v 43) + iI k) : EMA v a v2 q n f := fun E hE => by
  have g := h E hE
  rw [hk, ← hf] at g
  rw [hk] at hc
  exact Or.inr ⟨hn, Or.inl ⟨g, hc⟩⟩
theorem EMA.stop (h : EM1 v a q k s1) (hk : 0 ≤ k ∧ k < n) (hn : n ≤ 200) (hc : iI (v2 43) = iI (v 43) + iI (k + 1)) (hx : (¬ (0 ≤ q + k ∧ q + k < v 36) ∧ f = -1) ∨ ((0 ≤ q + k ∧ q + k < v 36) ∧ v 31 < a 34 (q + k).toNat ∧ f = s1)) (h31 : 1 ≤ v 31) : EMA v a v2 q n f := fun E hE => by
  refine Or.inr ⟨⟨by omega, hn⟩, Or.inr ⟨k.toNat, iI s1, by omega, h E hE, ?_, by rw [hc, show ((k.toNat : Nat) : Int) = k by omega]⟩⟩
  unfold EMS
  rw [show q + ((k.toNat : Nat) : Int) = q + k by omega]
  rcases hx with ⟨e1, e2⟩ | ⟨e1, e2, e3⟩
  · exact Or.inl ⟨hE.off e1, e2⟩
  · obtain ⟨xs, d1, d2, _⟩ := hE.have_ e1.1 e1.2 (by omega)
    exact Or.inr ⟨xs, d1, by omega, by rw [e3]⟩
theorem cnt_s {c0 w0 w1 k z : Int} (h : iI w0 = iI c0 + iI k) (e : iI (w0 + 1) = iI z) (h2 : w1 = z) : iI w1 = iI c0 + iI (k + 1) := by
  refine hv2 (show iI (w0 + 1) = iI w0 + iI 1 from Int32.ofInt_add w0 1) (show iI (k + 1) = iI k + iI 1 from Int32.ofInt_add k 1) (fun e1 e2 => ?_)
  rw [h2, ← e, e1, h, e2, Int32.add_assoc]
theorem cnt_0 {c0 k : Int} (hk : k = 0) : iI c0 = iI c0 + iI k := by
  rw [hk]
  exact (Int32.add_zero _).symm
end EMBS
set_option maxHeartbeats 4000000 in
set_option maxRecDepth 100000 in
theorem N2_emboss {l : Launch} {G : GT} {h0 : Nat} {ad ln : Nat → Nat} {v : Nat → Int} {a : Nat → Nat → Int}  {q n1 : Int} (hB : BX v a) (hq : -2147483648 ≤ q ∧ q ≤ 2147483647) (hn1 : -2147483648 ≤ n1 ∧ n1 ≤ 2147483647) : Mm l G yX12_emboss cX12_emboss 9 (some .int) 1 [.int (iI q), .int (iI n1)] h0 ad ln v a 0 0 (fun r v2 a2 => ∃ f : Int, r = some (.int (iI f)) ∧ fr [0, 1, 43] [] v a v2 a2 ∧ BX v2 a2 ∧ (EMA v a v2 q n1 f)) := by
  refine Mm.mk (by decide) (Nat.le_of_ble_eq_true rfl) ?_
  intro p e s m args below meth c A C
  refine hv2 (show 0 ≤ v 36 ∧ v 36 ≤ 200 from hB.1 36) (show fr [0, 1, 43] [] v a v a from fr.refl) (fun r36 fp0 => ?_)
  refine m_iload_n (j := 2) C dX12_emboss_0 rfl ?_
  refine m_sipush (z := 200) C dX12_emboss_1 (by decide) ?_
  refine m_icmp_le (tgt := 14) C ⟨by omega, by omega⟩ ⟨by decide, by decide⟩ dX12_emboss_4 (by decide) (fun c1 => ?_) (fun c1 => ?_)
  · refine m_iload_n (j := 2) C dX12_emboss_14 rfl ?_
    refine m_if_ge (tgt := 24) C ⟨by omega, by omega⟩ dX12_emboss_15 (by decide) (fun c2 => ?_) (fun c2 => ?_)
    · refine m_iconst C dX12_emboss_24 ?_
      refine m_istore_n (lv2 := [(3, .int (iI 0)), (0, .ref h0), (1, .int (iI q)), (2, .int (iI n1))]) C dX12_emboss_25 (by decide) rfl ?_
      refine m_iconst C dX12_emboss_26 ?_
      refine m_istore (lv2 := [(4, .int (iI 0)), (3, .int (iI 0)), (0, .ref h0), (1, .int (iI q)), (2, .int (iI n1))]) C dX12_emboss_27 (by decide) rfl ?_
      have Lp1 : ∀ (nn : Nat) (s1 k : Int) (vb1 : Nat → Int) (ab1 : Nat → Nat → Int), 201 - k < (nn : Int) → BX vb1 ab1 → fr [0, 1, 43] [] v a vb1 ab1 → (-2147483648 ≤ s1 ∧ s1 ≤ 2147483647) → (0 ≤ k ∧ k ≤ n1) → (iI (vb1 43) = iI (v 43) + iI k) → (EM1 v a q k s1) → mw p l e (rmq 1 0 0) s m args below meth c G A 9 (MQ below (Qm G A (fun rq Lq Eq => ∃ (vq : Nat → Int) (aq : Nat → Nat → Int), mI G h0 ad ln vq aq Lq Eq ∧ (fun r v2 a2 => ∃ f : Int, r = some (.int (iI f)) ∧ fr [0, 1, 43] [] v a v2 a2 ∧ BX v2 a2 ∧ (EMA v a v2 q n1 f)) rq vq aq)) args s 0 0 A) h0 ad ln vb1 ab1 0 0 29 [(4, .int (iI k)), (3, .int (iI s1)), (0, .ref h0), (1, .int (iI q)), (2, .int (iI n1))] [] := by
        intro nn
        induction nn with
        | zero =>
          intro s1 k vb1 ab1 hm bxb1 fpb1 hs hk h43 hE
          exact absurd hm (by omega)
        | succ nn ih1 =>
          intro s1 k vb1 ab1 hm bxb1 fpb1 hs hk h43 hE
          refine m_iload (j := 0) C dX12_emboss_29 rfl ?_
          refine m_iload_n (j := 4) C dX12_emboss_31 rfl ?_
          refine m_icmp_ge (tgt := 142) C ⟨by omega, by omega⟩ ⟨by omega, by omega⟩ dX12_emboss_32 (by decide) (fun c3 => ?_) (fun c3 => ?_)
          · refine m_aload_n (j := 2) C dX12_emboss_142 rfl ?_
            refine m_iload_n (j := 1) C dX12_emboss_143 rfl ?_
            refine m_call (mc2 := 0) (ms2 := 0) (As := [.int (iI s1)]) (rest := []) C (B_fine (x := s1) bxb1 (by show -2147483648 ≤ s1 ∧ s1 ≤ 2147483647; omega)) dX12_emboss_144 kV_X12_158 rfl ck_13 rfl (Nat.le_of_ble_eq_true rfl) ⟨Nat.le_of_ble_eq_true rfl, Nat.le_of_ble_eq_true rfl⟩ ⟨Nat.le_of_ble_eq_true rfl, Nat.le_of_ble_eq_true rfl⟩ (fun rh1 vh1 ah1 h1 => ?_)
            obtain ⟨f1, rfl, fn1, bn1, ex1⟩ := h1
            refine hv2 (fpb1.call fn1 rfl rfl) (show f1 = s1 from ex1) (fun fq1 gf1 => ?_)
            refine m_st (st2 := [.int (iI f1)]) rfl ?_
            refine hv2 (show (-2147483648) ≤ vh1 43 ∧ vh1 43 ≤ 2147483647 from bn1.1 43) (show vh1 43 = vb1 43 from fn1.1 43 rfl) (fun rv1 ve1 => ?_)
            exact m_iret C dX12_emboss_147 rfl (Nat.le_of_ble_eq_true rfl) (Nat.le_of_ble_eq_true rfl) ⟨f1, rfl, fq1, bn1, (EMA.ok hE (by omega) ⟨by omega, by omega⟩ (by omega) (by rw [fn1.1 43 rfl]; exact h43))⟩
          · refine m_iload_n (j := 3) C dX12_emboss_35 rfl ?_
            refine m_i2l (w := lI q) C dX12_emboss_36 (lI_of ⟨by omega, by omega⟩) ?_
            refine m_iload (j := 0) C dX12_emboss_37 rfl ?_
            refine m_i2l (w := lI k) C dX12_emboss_39 (lI_of ⟨by omega, by omega⟩) ?_
            refine m_ladd (w := lI (q + k)) C dX12_emboss_40 (lI_add _ _) ?_
            refine m_lstore (lv2 := [(5, .long (lI (q + k))), (4, .int (iI k)), (3, .int (iI s1)), (0, .ref h0), (1, .int (iI q)), (2, .int (iI n1))]) C dX12_emboss_41 (by decide) rfl ?_
            refine m_aload_n (j := 3) C dX12_emboss_43 rfl ?_
            refine m_dup C dX12_emboss_44 rfl ?_
            have rv2 : (-2147483648) ≤ vb1 43 ∧ vb1 43 ≤ 2147483647 := bxb1.1 43
            refine m_get (k := 43) C dX12_emboss_45 w6_102 (by decide) rfl ?_
            refine m_iconst C dX12_emboss_48 ?_
            refine m_iadd C dX12_emboss_49 ?_
            obtain ⟨zz1, hzz1, ezz1⟩ := iI_of (iI ((vb1 43) + 1))
            refine m_st (st2 := [.int (iI zz1), .ref h0]) (by rw [ezz1]) ?_
            refine m_put (k := 43) (z := zz1) C dX12_emboss_50 w6_102 (by decide) rfl rfl rfl ?_
            refine hv2 (show BX (va_up vb1 43 zz1) ab1 from bxb1.put (k := 43) (z := zz1) (show (-2147483648) ≤ zz1 ∧ zz1 ≤ 2147483647 by omega)) (fpb1.put (k := 43) (z := zz1) rfl) (fun bq1 fq2 => ?_)
            refine m_lload (j := 0) C dX12_emboss_53 rfl ?_
            refine m_lconst (w := lI 0) C dX12_emboss_55 rfl ?_
            obtain ⟨lc1, hlc1, elc1⟩ := lcmp_c (x := (q + k)) (y := 0) ⟨by omega, by omega⟩ ⟨by omega, by omega⟩
            refine m_lcmp (w := iI lc1) C dX12_emboss_56 elc1 ?_
            refine m_if_lt (tgt := 71) C ⟨by omega, by omega⟩ dX12_emboss_57 (by decide) (fun c4 => ?_) (fun c4 => ?_)
            · refine m_aload_n (j := 3) C dX12_emboss_71 rfl ?_
              refine m_iconst C dX12_emboss_72 ?_
              refine m_call (mc2 := 0) (ms2 := 0) (As := [.int (iI 2)]) (rest := []) C (B_bad (x := 2) bq1 (by show -2147483648 ≤ (2 : Int) ∧ (2 : Int) ≤ 2147483647; omega)) dX12_emboss_73 kV_X12_154 rfl ck_13 rfl (Nat.le_of_ble_eq_true rfl) ⟨Nat.le_of_ble_eq_true rfl, Nat.le_of_ble_eq_true rfl⟩ ⟨Nat.le_of_ble_eq_true rfl, Nat.le_of_ble_eq_true rfl⟩ (fun rh2 vh2 ah2 h2 => ?_)
              obtain ⟨f2, rfl, fn2, bn2, ex2⟩ := h2
              refine hv2 (fq2.call fn2 rfl rfl) (show f2 = -1 from ex2) (fun fq3 gf2 => ?_)
              refine m_st (st2 := [.int (iI f2)]) rfl ?_
              refine hv2 (show (-2147483648) ≤ vh2 43 ∧ vh2 43 ≤ 2147483647 from bn2.1 43) (show vh2 43 = zz1 from fn2.1 43 rfl) (fun rv3 ve2 => ?_)
              exact m_iret C dX12_emboss_76 rfl (Nat.le_of_ble_eq_true rfl) (Nat.le_of_ble_eq_true rfl) ⟨f2, rfl, fq3, bn2, (EMA.stop hE ⟨by omega, by omega⟩ (by omega) (cnt_s h43 ezz1 ((fn2.1 43 rfl).trans (va_up_self _ _ _))) (by omega) (hB.1 31).1)⟩
            · refine m_lload (j := 0) C dX12_emboss_60 rfl ?_
              refine m_aload_n (j := 3) C dX12_emboss_62 rfl ?_
              refine hv2 (show 0 ≤ vb1 36 ∧ vb1 36 ≤ 200 from bq1.1 36) (show vb1 36 = v 36 from fpb1.1 36 rfl) (fun rv4 ve3 => ?_)
              refine m_get (k := 36) C dX12_emboss_63 w6_95 (by decide) rfl ?_
              refine m_st (st2 := [.int (iI (v 36)), .long (lI (q + k))]) (congrArg (fun z => Value.int (iI z) :: [.long (lI (q + k))]) (fq2.1 36 rfl)) ?_
              refine m_i2l (w := lI (v 36)) C dX12_emboss_66 (lI_of ⟨by omega, by omega⟩) ?_
              obtain ⟨lc2, hlc2, elc2⟩ := lcmp_c (x := (q + k)) (y := (v 36)) ⟨by omega, by omega⟩ ⟨by omega, by omega⟩
              refine m_lcmp (w := iI lc2) C dX12_emboss_67 elc2 ?_
              refine m_if_lt (tgt := 77) C ⟨by omega, by omega⟩ dX12_emboss_68 (by decide) (fun c5 => ?_) (fun c5 => ?_)
              · refine m_aload_n (j := 3) C dX12_emboss_77 rfl ?_
                refine m_geta (k := 34) C dX12_emboss_78 w6_93 (by decide) rfl ?_
                refine m_lload (j := 0) C dX12_emboss_81 rfl ?_
                refine m_l2i (w := iI (q + k)) C dX12_emboss_83 (lI_i _) ?_
                refine m_ald (k := 34) C dX12_emboss_84 rfl rfl (by decide) (by omega) (by show _ < ((_ : Nat) : Int); simp only [mlen]; omega) (by decide) ?_
                refine hv2 (show (-1) ≤ ab1 34 (q + k).toNat ∧ ab1 34 (q + k).toNat ≤ 200 from bq1.2 34 ((q + k).toNat)) (show ab1 34 ((q + k).toNat) = a 34 ((q + k).toNat) from congrFun (fpb1.2 34 rfl) ((q + k).toNat)) (fun ra1 ae1 => ?_)
                refine m_st (st2 := [.int (iI (a 34 (q + k).toNat))]) (congrArg (fun z => Value.int (iI z) :: []) (congrFun (fq2.2 34 rfl) ((q + k).toNat))) ?_
                refine m_istore (lv2 := [(7, .int (iI (a 34 (q + k).toNat))), (5, .long (lI (q + k))), (4, .int (iI k)), (3, .int (iI s1)), (0, .ref h0), (1, .int (iI q)), (2, .int (iI n1))]) C dX12_emboss_85 (by decide) rfl ?_
                refine m_iload (j := 0) C dX12_emboss_87 rfl ?_
                refine m_aload_n (j := 4) C dX12_emboss_89 rfl ?_
                refine hv2 (show 1 ≤ vb1 31 ∧ vb1 31 ≤ 100 from bq1.1 31) (show vb1 31 = v 31 from fpb1.1 31 rfl) (fun rv5 ve4 => ?_)
                refine m_get (k := 31) C dX12_emboss_90 w6_90 (by decide) rfl ?_
                refine m_st (st2 := [.int (iI (v 31)), .int (iI (a 34 (q + k).toNat))]) (congrArg (fun z => Value.int (iI z) :: [.int (iI (a 34 (q + k).toNat))]) (fq2.1 31 rfl)) ?_
                refine m_icmp_le (tgt := 99) C ⟨by omega, by omega⟩ (r32_c (lo := 1) (hi := 100) (Int.le_trans rv5.1 (Int.le_of_eq ve4)) (Int.le_trans (Int.le_of_eq ve4.symm) rv5.2) (by decide) (by decide)) dX12_emboss_93 (by decide) (fun c6 => ?_) (fun c6 => ?_)
                · refine m_iconst C dX12_emboss_99 ?_
                  refine m_istore (lv2 := [(8, .int (iI 0)), (7, .int (iI (a 34 (q + k).toNat))), (5, .long (lI (q + k))), (4, .int (iI k)), (3, .int (iI s1)), (0, .ref h0), (1, .int (iI q)), (2, .int (iI n1))]) C dX12_emboss_100 (by decide) rfl ?_
                  have Lp2 : ∀ (nn : Nat) (s2 i1 : Int) (vb2 : Nat → Int) (ab2 : Nat → Nat → Int), 201 - i1 < (nn : Int) → BX vb2 ab2 → fr [0, 1, 43] [] v a vb2 ab2 → (-2147483648 ≤ s2 ∧ s2 ≤ 2147483647) → (0 ≤ i1 ∧ i1 ≤ 200 ∧ (i1 = 0 ∨ i1 ≤ a 34 (q + k).toNat)) → (iI (vb2 43) = iI (v 43) + iI (k + 1)) → (EM2 v a q k i1 s2) → mw p l e (rmq 1 0 0) s m args below meth c G A 9 (MQ below (Qm G A (fun rq Lq Eq => ∃ (vq : Nat → Int) (aq : Nat → Nat → Int), mI G h0 ad ln vq aq Lq Eq ∧ (fun r v2 a2 => ∃ f : Int, r = some (.int (iI f)) ∧ fr [0, 1, 43] [] v a v2 a2 ∧ BX v2 a2 ∧ (EMA v a v2 q n1 f)) rq vq aq)) args s 0 0 A) h0 ad ln vb2 ab2 0 0 102 [(8, .int (iI i1)), (3, .int (iI s2)), (7, .int (iI (a 34 (q + k).toNat))), (5, .long (lI (q + k))), (4, .int (iI k)), (0, .ref h0), (1, .int (iI q)), (2, .int (iI n1))] [] := by
                    intro nn
                    induction nn with
                    | zero =>
                      intro s2 i1 vb2 ab2 hm bxb2 fpb2 hs2 hi h43b hD
                      exact absurd hm (by omega)
                    | succ nn ih2 =>
                      intro s2 i1 vb2 ab2 hm bxb2 fpb2 hs2 hi h43b hD
                      refine m_iload (j := 0) C dX12_emboss_102 rfl ?_
                      refine m_iload (j := 2) C dX12_emboss_104 rfl ?_
                      refine m_icmp_ge (tgt := 136) C (r32_c (lo := 0) (hi := 200) hi.1 hi.2.1 (by decide) (by decide)) ⟨by omega, by omega⟩ dX12_emboss_106 (by decide) (fun c7 => ?_) (fun c7 => ?_)
                      · refine m_iinc (z := k) (j := 4) (lv2 := [(4, .int (iI (k + 1))), (8, .int (iI i1)), (3, .int (iI s2)), (7, .int (iI (a 34 (q + k).toNat))), (5, .long (lI (q + k))), (0, .ref h0), (1, .int (iI q)), (2, .int (iI n1))]) C dX12_emboss_136 rfl (by decide) rfl ?_
                        refine m_goto (tgt := 29) C dX12_emboss_139 (by decide) ?_
                        have rv6 : (-2147483648) ≤ vb2 43 ∧ vb2 43 ≤ 2147483647 := bxb2.1 43
                        refine m_lv (lv2 := [(4, .int (iI (k + 1))), (3, .int (iI s2)), (0, .ref h0), (1, .int (iI q)), (2, .int (iI n1))]) [0, 2, 5, 6, 7] rfl ?_
                        exact ih1  s2 (k + 1) _ _ (by omega) bxb2 fpb2 (by omega) (by omega) h43b (EM2.fin hD (by omega) ⟨by omega, by omega⟩ (by omega) (by omega))
                      · refine m_iload_n (j := 1) C dX12_emboss_109 rfl ?_
                        refine m_aload_n (j := 5) C dX12_emboss_110 rfl ?_
                        refine m_geta (k := 35) C dX12_emboss_111 w6_94 (by decide) rfl ?_
                        refine m_sipush (z := 200) C dX12_emboss_114 (by decide) ?_
                        refine m_lload (j := 3) C dX12_emboss_117 rfl ?_
                        refine m_l2i (w := iI (q + k)) C dX12_emboss_119 (lI_i _) ?_
                        refine m_imul C dX12_emboss_120 ?_
                        refine m_iload (j := 0) C dX12_emboss_121 rfl ?_
                        refine m_iadd C dX12_emboss_123 ?_
                        refine m_ald (k := 35) C dX12_emboss_124 rfl rfl (by decide) (by omega) (by show _ < ((_ : Nat) : Int); simp only [mlen]; omega) (by decide) ?_
                        refine hv2 (show (-2147483648) ≤ ab2 35 ((200 * (q + k)) + i1).toNat ∧ ab2 35 ((200 * (q + k)) + i1).toNat ≤ 2147483647 from bxb2.2 35 (((200 * (q + k)) + i1).toNat)) (show ab2 35 (((200 * (q + k)) + i1).toNat) = a 35 (((200 * (q + k)) + i1).toNat) from congrFun (fpb2.2 35 rfl) (((200 * (q + k)) + i1).toNat)) (fun ra2 ae2 => ?_)
                        refine m_st (st2 := [.int (iI (a 35 ((200 * (q + k)) + i1).toNat)), .int (iI s2)]) (congrArg (fun z => Value.int (iI z) :: [.int (iI s2)]) (congrFun (fpb2.2 35 rfl) (((200 * (q + k)) + i1).toNat))) ?_
                        refine m_callS (As := [.int (iI (a 35 ((200 * (q + k)) + i1).toNat))]) (rest := [.int (iI s2)]) C (fun L E => s_bitCount (iI (a 35 ((200 * (q + k)) + i1).toNat))) dX12_emboss_125 kS_X12_309 rfl rfl (Nat.le_of_ble_eq_true rfl) ⟨Nat.le_of_ble_eq_true rfl, Nat.le_of_ble_eq_true rfl⟩ ⟨Nat.le_of_ble_eq_true rfl, Nat.le_of_ble_eq_true rfl⟩ ?_
                        obtain ⟨zz2, hzz2, ezz2⟩ := iI_of (bcn (iI (a 35 ((200 * (q + k)) + i1).toNat)))
                        · refine m_st (st2 := [.int (iI zz2), .int (iI s2)]) (by rw [ezz2]) ?_
                          refine m_iadd C dX12_emboss_128 ?_
                          obtain ⟨zz3, hzz3, ezz3⟩ := iI_of (iI (s2 + zz2))
                          refine m_st (st2 := [.int (iI zz3)]) (by rw [ezz3]) ?_
                          refine m_istore_n (lv2 := [(3, .int (iI zz3)), (8, .int (iI i1)), (7, .int (iI (a 34 (q + k).toNat))), (5, .long (lI (q + k))), (4, .int (iI k)), (0, .ref h0), (1, .int (iI q)), (2, .int (iI n1))]) C dX12_emboss_129 (by decide) rfl ?_
                          refine m_iinc (z := i1) (j := 1) (lv2 := [(8, .int (iI (i1 + 1))), (3, .int (iI zz3)), (7, .int (iI (a 34 (q + k).toNat))), (5, .long (lI (q + k))), (4, .int (iI k)), (0, .ref h0), (1, .int (iI q)), (2, .int (iI n1))]) C dX12_emboss_130 rfl (by decide) rfl ?_
                          refine m_goto (tgt := 102) C dX12_emboss_133 (by decide) ?_
                          have rv7 : (-2147483648) ≤ vb2 43 ∧ vb2 43 ≤ 2147483647 := bxb2.1 43
                          refine m_lv (lv2 := [(8, .int (iI (i1 + 1))), (3, .int (iI zz3)), (7, .int (iI (a 34 (q + k).toNat))), (5, .long (lI (q + k))), (4, .int (iI k)), (0, .ref h0), (1, .int (iI q)), (2, .int (iI n1))]) [0, 1, 2, 3, 4, 5, 6, 7] rfl ?_
                          exact ih2  zz3 (i1 + 1) _ _ (by omega) bxb2 fpb2 (by omega) (by omega) h43b (EM2.step hD (by omega) rfl ezz2 ezz3)
                  refine m_lv (lv2 := [(8, .int (iI 0)), (3, .int (iI s1)), (7, .int (iI (a 34 (q + k).toNat))), (5, .long (lI (q + k))), (4, .int (iI k)), (0, .ref h0), (1, .int (iI q)), (2, .int (iI n1))]) [0, 4, 1, 2, 3, 5, 6, 7] rfl ?_
                  exact Lp2 202 s1 0 _ _ (by omega) bq1 fq2 (by omega) (by omega) (cnt_s h43 ezz1 (va_up_self _ _ _)) (EM1.go hE rfl)
                · refine m_goto (tgt := 142) C dX12_emboss_96 (by decide) ?_
                  refine m_aload_n (j := 4) C dX12_emboss_142 rfl ?_
                  refine m_iload_n (j := 3) C dX12_emboss_143 rfl ?_
                  refine m_call (mc2 := 0) (ms2 := 0) (As := [.int (iI s1)]) (rest := []) C (B_fine (x := s1) bq1 (by show -2147483648 ≤ s1 ∧ s1 ≤ 2147483647; omega)) dX12_emboss_144 kV_X12_158 rfl ck_13 rfl (Nat.le_of_ble_eq_true rfl) ⟨Nat.le_of_ble_eq_true rfl, Nat.le_of_ble_eq_true rfl⟩ ⟨Nat.le_of_ble_eq_true rfl, Nat.le_of_ble_eq_true rfl⟩ (fun rh4 vh4 ah4 h4 => ?_)
                  obtain ⟨f3, rfl, fn3, bn3, ex3⟩ := h4
                  refine hv2 (fq2.call fn3 rfl rfl) (show f3 = s1 from ex3) (fun fq4 gf3 => ?_)
                  refine m_st (st2 := [.int (iI f3)]) rfl ?_
                  refine hv2 (show (-2147483648) ≤ vh4 43 ∧ vh4 43 ≤ 2147483647 from bn3.1 43) (show vh4 43 = zz1 from fn3.1 43 rfl) (fun rv8 ve5 => ?_)
                  exact m_iret C dX12_emboss_147 rfl (Nat.le_of_ble_eq_true rfl) (Nat.le_of_ble_eq_true rfl) ⟨f3, rfl, fq4, bn3, (EMA.stop hE ⟨by omega, by omega⟩ (by omega) (cnt_s h43 ezz1 ((fn3.1 43 rfl).trans (va_up_self _ _ _))) (by omega) (hB.1 31).1)⟩
              · refine m_aload_n (j := 3) C dX12_emboss_71 rfl ?_
                refine m_iconst C dX12_emboss_72 ?_
                refine m_call (mc2 := 0) (ms2 := 0) (As := [.int (iI 2)]) (rest := []) C (B_bad (x := 2) bq1 (by show -2147483648 ≤ (2 : Int) ∧ (2 : Int) ≤ 2147483647; omega)) dX12_emboss_73 kV_X12_154 rfl ck_13 rfl (Nat.le_of_ble_eq_true rfl) ⟨Nat.le_of_ble_eq_true rfl, Nat.le_of_ble_eq_true rfl⟩ ⟨Nat.le_of_ble_eq_true rfl, Nat.le_of_ble_eq_true rfl⟩ (fun rh5 vh5 ah5 h5 => ?_)
                obtain ⟨f4, rfl, fn4, bn4, ex4⟩ := h5
                refine hv2 (fq2.call fn4 rfl rfl) (show f4 = -1 from ex4) (fun fq5 gf4 => ?_)
                refine m_st (st2 := [.int (iI f4)]) rfl ?_
                refine hv2 (show (-2147483648) ≤ vh5 43 ∧ vh5 43 ≤ 2147483647 from bn4.1 43) (show vh5 43 = zz1 from fn4.1 43 rfl) (fun rv9 ve6 => ?_)
                exact m_iret C dX12_emboss_76 rfl (Nat.le_of_ble_eq_true rfl) (Nat.le_of_ble_eq_true rfl) ⟨f4, rfl, fq5, bn4, (EMA.stop hE ⟨by omega, by omega⟩ (by omega) (cnt_s h43 ezz1 ((fn4.1 43 rfl).trans (va_up_self _ _ _))) (by omega) (hB.1 31).1)⟩
      have rv10 : (-2147483648) ≤ v 43 ∧ v 43 ≤ 2147483647 := hB.1 43
      refine m_lv (lv2 := [(4, .int (iI 0)), (3, .int (iI 0)), (0, .ref h0), (1, .int (iI q)), (2, .int (iI n1))]) [0, 1, 2, 3, 4] rfl ?_
      exact Lp1 202 0 0 _ _ (by omega) hB fp0 (by omega) (by omega) (cnt_0 rfl) (EM1.zero rfl rfl)
    · refine m_aload_n (j := 0) C dX12_emboss_18 rfl ?_
      refine m_iconst C dX12_emboss_19 ?_
      refine m_call (mc2 := 0) (ms2 := 0) (As := [.int (iI 5)]) (rest := []) C (B_bad (x := 5) hB (by show -2147483648 ≤ (5 : Int) ∧ (5 : Int) ≤ 2147483647; omega)) dX12_emboss_20 kV_X12_154 rfl ck_13 rfl (Nat.le_of_ble_eq_true rfl) ⟨Nat.le_of_ble_eq_true rfl, Nat.le_of_ble_eq_true rfl⟩ ⟨Nat.le_of_ble_eq_true rfl, Nat.le_of_ble_eq_true rfl⟩ (fun rh6 vh6 ah6 h6 => ?_)
      obtain ⟨f5, rfl, fn5, bn5, ex5⟩ := h6
      refine hv2 (fp0.call fn5 rfl rfl) (show f5 = -1 from ex5) (fun fq6 gf5 => ?_)
      refine m_st (st2 := [.int (iI f5)]) rfl ?_
      refine hv2 (show (-2147483648) ≤ vh6 43 ∧ vh6 43 ≤ 2147483647 from bn5.1 43) (show vh6 43 = v 43 from fn5.1 43 rfl) (fun rv11 ve7 => ?_)
      exact m_iret C dX12_emboss_23 rfl (Nat.le_of_ble_eq_true rfl) (Nat.le_of_ble_eq_true rfl) ⟨f5, rfl, fq6, bn5, (EMA.bad (by omega) (by omega) (fn5.1 43 rfl))⟩
  · refine m_aload_n (j := 0) C dX12_emboss_7 rfl ?_
    refine m_bipush (z := 6) C dX12_emboss_8 (by decide) ?_
    refine m_call (mc2 := 0) (ms2 := 0) (As := [.int (iI 6)]) (rest := []) C (B_bad (x := 6) hB (by show -2147483648 ≤ (6 : Int) ∧ (6 : Int) ≤ 2147483647; omega)) dX12_emboss_10 kV_X12_154 rfl ck_13 rfl (Nat.le_of_ble_eq_true rfl) ⟨Nat.le_of_ble_eq_true rfl, Nat.le_of_ble_eq_true rfl⟩ ⟨Nat.le_of_ble_eq_true rfl, Nat.le_of_ble_eq_true rfl⟩ (fun rh7 vh7 ah7 h7 => ?_)
    obtain ⟨f6, rfl, fn6, bn6, ex6⟩ := h7
    refine hv2 (fp0.call fn6 rfl rfl) (show f6 = -1 from ex6) (fun fq7 gf6 => ?_)
    refine m_st (st2 := [.int (iI f6)]) rfl ?_
    refine hv2 (show (-2147483648) ≤ vh7 43 ∧ vh7 43 ≤ 2147483647 from bn6.1 43) (show vh7 43 = v 43 from fn6.1 43 rfl) (fun rv12 ve8 => ?_)
    exact m_iret C dX12_emboss_13 rfl (Nat.le_of_ble_eq_true rfl) (Nat.le_of_ble_eq_true rfl) ⟨f6, rfl, fq7, bn6, (EMA.bad (by omega) (by omega) (fn6.1 43 rfl))⟩
end
section
def KMQ (W : Nat) (Z K : List (List Int)) (m : Int) : Prop := K = Z.take W ∧ ((m = 1 ∧ W < Z.length) ∨ (m = 0 ∧ Z.length ≤ W))
section GSEM
variable {a a1 : Nat → Nat → Int} {l0 l1 : List Int} {C : Nat → Int} {F : Int32} {n p g h d x y m1 m2 : Int} {f f2 : Option Int → List (List Int)} {l : List (Option Int)} {o : Option Int} {X Y Z K K2 : List (List Int)} {w u : List Int} {k W : Nat} {P : Prop}
theorem KMQ.init : KMQ W [] [] 0 := ⟨by rw [List.take_nil], Or.inr ⟨rfl, Nat.zero_le _⟩⟩
theorem KMQ.len (hk : KMQ W Z K x) (hx : x ≠ 1) : K = Z ∧ K.length ≤ W := by
  obtain ⟨e, q⟩ := hk
  rcases q with ⟨q1, q2⟩ | ⟨q1, q2⟩
  · exact absurd q1 hx
  · have e2 : K = Z := by rw [e, List.take_of_length_le q2]
    exact ⟨e2, by rw [e2]; exact q2⟩
theorem KMQ.push (hk : KMQ W Z K x) (hx : x ≠ 1) (hl : K.length < W) : KMQ W (Z ++ [w]) (K ++ [w]) 0 := by
  obtain ⟨e, _⟩ := hk.len hx
  subst e
  have q : (K ++ [w]).length ≤ W := by
    rw [List.length_append]
    show K.length + 1 ≤ W
    omega
  exact ⟨by rw [List.take_of_length_le q], Or.inr ⟨rfl, q⟩⟩
theorem KMQ.full (hk : KMQ W Z K x) (hx : x ≠ 1) (hl : K.length = W) : KMQ W (Z ++ [w]) K 1 := by
  obtain ⟨e, _⟩ := hk.len hx
  subst e
  refine ⟨by rw [List.take_append_of_le_length (by omega), List.take_of_length_le (by omega)], Or.inl ⟨rfl, ?_⟩⟩
  rw [List.length_append]
  show W < K.length + 1
  omega
theorem KMQ.uni (h1 : KMQ W Z K m1) (h2 : KMQ W Z K2 m2) : K = K2 ∧ m1 = m2 := by
  refine ⟨h1.1.trans h2.1.symm, ?_⟩
  rcases h1.2 with ⟨q1, q2⟩ | ⟨q1, q2⟩ <;> rcases h2.2 with ⟨q3, q4⟩ | ⟨q3, q4⟩ <;> omega
end GSEM
end
section
def KLQ (v : Nat → Int) (a : Nat → Nat → Int) (K : List (List Int)) : Prop := v 60 = ((K.length : Nat) : Int) ∧ ∀ (k : Nat) (w : List Int), K[k]? = some w → a 59 k = ((w.length : Nat) : Int) ∧ w.length ≤ 808 ∧ ∀ (j : Nat) (x : Int), w[j]? = some x → a 58 (808 * k + j) = x
def KPS (v : Nat → Int) (a : Nat → Nat → Int) (Z : List (List Int)) : Prop := ∃ K, KMQ (v 64).toNat Z K (v 61) ∧ KLQ v a K
section GGOS
variable {v v1 v2 v3 v4 : Nat → Int} {a a0 a1 a2 a3 a4 : Nat → Nat → Int} {l0 l1 : List Int} {C : Nat → Int} {x y k g h f pt r d z i j nx cp : Int} {V A : List Nat} {Z K : List (List Int)} {w u : List Int}
theorem KPS.cg (hk : KPS v a Z) (e60 : v1 60 = v 60) (e61 : v1 61 = v 61) (e64 : v1 64 = v 64) (e58 : a1 58 = a 58) (e59 : a1 59 = a 59) : KPS v1 a1 Z := by
  obtain ⟨K, k1, k2, k3⟩ := hk
  exact ⟨K, by rw [e61, e64]; exact k1, e60.trans k2, fun k w e => by rw [e58, e59]; exact k3 k w e⟩
end GGOS
end
section
def hs (H : Heap) : Nat := (H.toList.map (fun c => c.slots.size)).sum
def mu (H : Heap) : Nat := 16 * H.size + hs H
theorem sbn_hs {s t : State} {locs : List Loc} {k n : Nat} (h : s.sameButNew t locs k n) : hs t.heap = hs s.heap + ((t.heap.toList.drop s.heap.size).map (·.slots.size)).sum := by
  obtain ⟨-, h2, -, -, -, h6⟩ := h
  have e : (t.heap.toList.take s.heap.size).map (fun c => c.slots.size) = s.heap.toList.map (fun c => c.slots.size) := by
    apply List.ext_getElem?
    intro i
    rw [List.getElem?_map, List.getElem?_map]
    by_cases hi : i < s.heap.size
    · rw [List.getElem?_take_of_lt hi]
      obtain ⟨c2, g1, -, g3, -⟩ := h6 i s.heap[i] (Array.getElem?_eq_getElem hi)
      rw [Array.getElem?_toList, Array.getElem?_toList, g1, Array.getElem?_eq_getElem hi]
      exact congrArg some g3
    · rw [List.getElem?_eq_none (by rw [List.length_take, Array.length_toList]; omega), List.getElem?_eq_none (by rw [Array.length_toList]; omega)]
  unfold hs
  rw [← e, ← List.sum_append, ← List.map_append, List.take_append_drop]
section MUS
variable {p : Program} {l : Launch} {e : Env} {R : Room} {s : State} {m : MethodId} {args : Array Value} {below : List Frame} {meth : Method} {c : Code} {T : State} {locs : List Loc} {kc ks : Nat}
theorem stand_mu (X : Stand p l e R s m args below meth c T locs kc ks) : mu T.heap ≤ mu s.heap + (16 * kc + ks) := by
  have h := X.same
  refine hv3 (show hs T.heap = hs s.heap + ((T.heap.toList.drop s.heap.size).map (·.slots.size)).sum from sbn_hs (t := T.setVm s.vm) h) (show T.heap.size ≤ s.heap.size + kc from h.2.2.1) (show ((T.heap.toList.drop s.heap.size).map (·.slots.size)).sum ≤ ks from h.2.2.2.2.1) (fun h1 h2 h3 => ?_)
  unfold mu
  rw [h1]
  omega
theorem stand_narrow (X : Stand p l e R s m args below meth c T locs kc ks) {u : Nat} (hu : mu T.heap ≤ mu s.heap + u) : ∃ kc2 ks2 : Nat, 16 * kc2 + ks2 ≤ u ∧ Stand p l e R s m args below meth c T locs kc2 ks2 := by
  have h := X.same
  refine hv2 (show hs T.heap = hs s.heap + ((T.heap.toList.drop s.heap.size).map (·.slots.size)).sum from sbn_hs (t := T.setVm s.vm) h) (show s.heap.size ≤ T.heap.size from h.2.1) (fun h1 h2 => ?_)
  refine ⟨T.heap.size - s.heap.size, ((T.heap.toList.drop s.heap.size).map (·.slots.size)).sum, ?_, { X with same := ⟨h.1, h.2.1, ?_, h.2.2.2.1, Nat.le_refl _, h.2.2.2.2.2⟩ }⟩
  · unfold mu at hu; omega
  · show T.heap.size ≤ s.heap.size + (T.heap.size - s.heap.size); omega
end MUS
abbrev PU : Type := Option Value → List Nat → (Nat → va_E) → Nat → Prop
def Qu (G : GT) (A : Nat → Prop) (Post : PU) : Array Value → State → Outcome → State → Prop := fun _ st oc t => (∃ (v : Option Value) (L2 : List Nat) (E2 : Nat → va_E) (u : Nat), oc = .returned v ∧ Post v L2 E2 u ∧ mu t.heap ≤ mu st.heap + u ∧ va_P G.1 vwCl (va_pl L2 E2) t.heap ∧ va_D A (va_pl L2 E2)) ∧ va_F A st t
abbrev rmu (d r : Nat) : Room := { frames := d, cells := r / 16, slots := r, locals := 64 * d }
def Mir (mi : Nat) (U : State) : Prop := va_Mi "[Ljava/lang/Object;" mi U ∧ va_Dc U
theorem Mir.warm {mi : Nat} {s U : State} (h : Mir mi s) (hW : s.WarmedH U.vm) : Mir mi U := ⟨va_Mi.moved hW.alike h.1, va_Dc.moved hW.alike h.2⟩
def Pcu (G : GT) (mi : Nat) (L : List Nat) (E : Nat → va_E) (sz : Nat) (U : State) : Prop := Pcq G L E sz U ∧ Mir mi U
def Mu (l : Launch) (G : GT) (mi : Nat) (y : MethodName) (cc : ByteArray) (n : Nat) (ret : Option FieldType) (d : Nat) (av : List Value) (L : List Nat) (E : Nat → va_E) (r : Nat) (Post : PU) : Prop :=
  ∀ sz : Nat, Met l y (.code y cc n ret :: lw_g) (rmu d r) (va_Pc av (Pcu G mi L E sz)) (Qu G (va_A (va_pl L E) sz) Post) (r / 16) r (va_A (va_pl L E) sz)

def wu (p : Program) (l : Launch) (e : Env) (d0 r0 : Nat) (s : State) (m : MethodId) (args : Array Value) (below : List Frame) (meth : Method) (c : Code) (G : GT) (A : Nat → Prop) (nL : Nat) (Q : State → Prop) (L : List Nat) (E : Nat → va_E) (u pc : Nat) (lv : List (Nat × Value)) (st : List Value) : Prop := ∀ kc ks : Nat, 16 * kc + ks ≤ u → wq p l e (rmu d0 r0) s m args below meth c G A nL Q L E kc ks pc lv st
theorem Pcu.blind {G : GT} {mi : Nat} {L : List Nat} {E : Nat → va_E} {sz : Nat} {av : List Value} : FrameBlind (va_Pc av (Pcu G mi L E sz)) := by
  intro a U g mk q
  have h1 := Pcq.blind (G := G) (L := L) (E := E) (sz := sz) (av := av) a U g mk ⟨q.1, q.2.1⟩
  exact ⟨h1.1, h1.2, va_Mi.moved (u := U) (U := U.calling g mk a) (Vm.Alike.refl U.vm) q.2.2.1, va_Dc.moved (u := U) (U := U.calling g mk a) (Vm.Alike.refl U.vm) q.2.2.2⟩
section UQ
variable {p : Program} {l : Launch} {e : Env} {d0 r0 : Nat} {s : State} {m : MethodId} {args : Array Value} {below : List Frame} {meth : Method} {c : Code} {cc : ByteArray} {y : MethodName} {ret : Option FieldType} {G : GT} {A : Nat → Prop} {nL mi : Nat} {Q : State → Prop} {L : List Nat} {E : Nat → va_E} {u pc : Nat} {lv : List (Nat × Value)} {st : List Value} {Post : PU}
theorem Mu.mk {n d r : Nat} {av : List Value} (hy : plainName y.cls = true) (hn : (lg_sl av).length ≤ n) (body : ∀ (p : Program) (e : Env) (s : State) (m : MethodId) (args : Array Value) (below : List Frame) (meth : Method) (c : Code) (A : Nat → Prop), Cq p s m args meth c cc y ret G A n → Mir mi s → wu p l e d r s m args below meth c G A n (MQ below (Qu G A Post) args s (r / 16) r A) L E 0 0 (lv_args 0 av) []) : Mu l G mi y cc n ret d av L E r Post := by
  intro sz
  refine Met.ofW (cc := cc) (maxL := n) (ret := ret) hy rfl ?_
  intro p e s m args below meth c s₁ B hml hv
  obtain ⟨rfl, ⟨hsz, hP, hK, hD0, hZ, hN⟩, hM⟩ := hv
  subst hsz
  refine hv2 (atoms_spec (ws := .code y cc n ret :: lw_g) B.pre) (lv_entry av (n := n) hn) (fun hts hl => ?_)
  rw [lg_entry_eq]
  have hown := findClass_of_methodNamed B.named
  exact body p e s m _ below meth c _ ⟨B.exec, B.bytes, hml, hown, fun w hw => hts w (List.mem_cons_of_mem _ hw), hK, fun q h => Or.inr h, hZ, B.returns, B.notSynchronized, (name_of_methodNamed B.named B.method).1, hN⟩ hM 0 0 (Nat.le_refl _) s.heap [] _ hP hD0.self va_S.rf hl
theorem u_after (C : Cq p s m args meth c cc y ret G A nL) {r2 kc ks : Nat} {a2 : Array Value} {st0 rest : List Value} {P2 : PU} {H : Heap} {locs : List Loc} {ls : Array Slot} (hu : 16 * kc + ks ≤ u) (hD : va_D A (va_pl L E)) (hS : va_S A s.heap H locs) (hl : lv_has ls nL lv) (hr : va_Run p l e (rmu d0 r0) s m args below meth c H locs kc ks (r2 / 16) r2 (F0 m pc ls st0) rest (Qu G (va_A (va_pl L E) H.size) P2 a2) (va_A (va_pl L E) H.size)) (kk : ∀ (v : Option Value) (L2 : List Nat) (E2 : Nat → va_E) (u2 : Nat), P2 v L2 E2 u2 → wu p l e d0 r0 s m args below meth c G A nL Q L2 E2 (u + u2) (pc + 3) lv (v.toList ++ rest)) : W p l e (rmu d0 r0) s m args below meth c H locs kc ks Q (F0 m pc ls st0) := by
  have hF := pl_free hD hS C.2.2.2.2.2.2.1
  intro T hT X
  obtain ⟨v, st₀, t, T', Lc, h0, X', hL, e1, e2, ⟨⟨v', L', E', u2, hv, hp, hm, hP', hD'⟩, hz, hk⟩, stp⟩ := hr T hT X
  cases hv
  have hmu := stand_mu X
  rw [hT] at hmu
  rw [h0] at hz hk hm
  obtain ⟨kc2, ks2, hn, X''⟩ := stand_narrow X' (u := u + u2) (by rw [e1]; omega)
  have hS1 : va_S A s.heap T'.heap (locs ++ Lc) := ⟨Nat.le_trans hS.1 (by rw [e1]; exact hz), fun q h1 h2 => by rw [e1, hk q (Nat.lt_of_lt_of_le h1 hS.1) (fun z => h2 (hF q z))]; exact hS.2.1 q h1 h2, fun q hq => by
      rcases List.mem_append.mp hq with h | h
      · exact hS.2.2 q h
      · exact hF _ (hL q h)⟩
  obtain ⟨t2, a1, b1⟩ := kk v L' E' u2 hp kc2 ks2 hn T'.heap (locs ++ Lc) ls (by rw [e1]; exact hP') (hD'.weaken (fun _ q _ h => hF q.1 h)) hS1 hl T' rfl X''
  exact ⟨t2, stp t2 a1, b1⟩
theorem u_room {kc ks u r2 r0 : Nat} (h : 16 * kc + ks ≤ u) (hr : u + r2 ≤ r0) : kc + r2 / 16 ≤ r0 / 16 ∧ ks + r2 ≤ r0 := ⟨by omega, by omega⟩
theorem u_callV (C : Cq p s m args meth c cc y ret G A nL) (hM : Mir mi s) {y2 : MethodName} {cc2 : ByteArray} {n2 d2 r2 idx k2 : Nat} {P2 : PU} {As rest : List Value} {b ci N : Nat} {ret2 : Option FieldType} {T : u_T} {ty : Nat → FieldType} {f : Nat → Value} (M : Mu l G mi y2 cc2 n2 ret2 d2 (.ref b :: As) L E r2 P2) (d : decode cc pc = .ok (.invokevirtual idx, 3)) (hw : Wv y.cls idx y2 cc2 n2 ret2 k2) (hk : As.length = k2) (hb : b ∈ L) (hE : E b = ob ci N f) (ck : Ck ci y2.cls T N ty) (hst : st = As.reverse ++ .ref b :: rest) (hcat : (rest.map fun v => v.category).sum ≤ 8) (hR : d2 + 1 ≤ d0 ∧ 8 + (n2 + 11) + 64 * d2 ≤ 64 * d0) (hf : u + r2 ≤ r0) (kk : ∀ (v : Option Value) (L2 : List Nat) (E2 : Nat → va_E) (u2 : Nat), P2 v L2 E2 u2 → wu p l e d0 r0 s m args below meth c G A nL Q L2 E2 (u + u2) (pc + 3) lv (v.toList ++ rest)) : wu p l e d0 r0 s m args below meth c G A nL Q L E u pc lv st := by
  intro kc ks hu H locs ls hP hD hS hl
  subst hst
  obtain ⟨q0, hq⟩ := pl_at (E := E) hb
  obtain ⟨⟨w1, w2, w3, w4⟩, w5, w6⟩ := hw
  have hts := C.2.2.2.2.1
  exact u_after C hu hD hS hl (va_runV (As := As) (rest := rest) (Ts := lw_g) ⟨C.1, C.2.1, C.2.2.1, C.2.2.2.1, hts⟩ (M H.size) ⟨callB_of k2 hts (lw_goodIn w3) rfl rfl rfl (hts _ w2) (hts _ w1) w4 hR, hts _ w5, hts _ w6⟩ ⟨Pcu.blind, va_recv C.2.2.2.2.2.1 hP (ci := ci) (q0 := q0) ck.1 (by rw [hq, hE]; rfl), fun U hU hW => ⟨rfl, ⟨by rw [hU], by rw [hU]; exact hP, va_K.moved hW.alike C.2.2.2.2.2.1, hD.weaken (fun _ _ _ _ => trivial), C.2.2.2.2.2.2.2.1.pass hS (pl_free hD hS C.2.2.2.2.2.2.1) hW.alike hU, C.2.2.2.2.2.2.2.2.2.2.2.warm hW⟩, hM.warm hW⟩⟩ rfl hk hl.1 rfl (lv_room hcat) d (u_room hu hf)) kk
theorem u_callI (C : Cq p s m args meth c cc y ret G A nL) (hM : Mir mi s) {y2 : MethodName} {cc2 : ByteArray} {n2 d2 r2 idx k2 : Nat} {P2 : PU} {As rest : List Value} {b : Nat} (M : Mu l G mi y2 cc2 n2 none d2 (.ref b :: As) L E r2 P2) (d : decode cc pc = .ok (.invokespecial idx, 3)) (hw : Wi y.cls idx y2 cc2 n2 k2) (hk : As.length = k2) (hst : st = As.reverse ++ .ref b :: rest) (hcat : (rest.map fun v => v.category).sum ≤ 8) (hR : d2 + 1 ≤ d0 ∧ 8 + (n2 + 11) + 64 * d2 ≤ 64 * d0) (hf : u + r2 ≤ r0) (kk : ∀ (v : Option Value) (L2 : List Nat) (E2 : Nat → va_E) (u2 : Nat), P2 v L2 E2 u2 → wu p l e d0 r0 s m args below meth c G A nL Q L2 E2 (u + u2) (pc + 3) lv (v.toList ++ rest)) : wu p l e d0 r0 s m args below meth c G A nL Q L E u pc lv st := by
  intro kc ks hu H locs ls hP hD hS hl
  subst hst
  obtain ⟨⟨w1, w2, w3, w4⟩, w5, w6⟩ := hw
  have hts := C.2.2.2.2.1
  exact u_after C hu hD hS hl (va_runI (As := As) (rest := rest) (Ts := lw_g) ⟨C.1, C.2.1, C.2.2.1, C.2.2.2.1, hts⟩ (M H.size) ⟨callB_of k2 hts (lw_goodIn w3) rfl rfl rfl (hts _ w2) (hts _ w1) w4 hR, w5, hts _ w6⟩ ⟨Pcu.blind, fun U hU hW => ⟨rfl, ⟨by rw [hU], by rw [hU]; exact hP, va_K.moved hW.alike C.2.2.2.2.2.1, hD.weaken (fun _ _ _ _ => trivial), C.2.2.2.2.2.2.2.1.pass hS (pl_free hD hS C.2.2.2.2.2.2.1) hW.alike hU, C.2.2.2.2.2.2.2.2.2.2.2.warm hW⟩, hM.warm hW⟩⟩ rfl hk hl.1 rfl (lv_room hcat) d (u_room hu hf)) kk
theorem u_callS (C : Cq p s m args meth c cc y ret G A nL) (hM : Mir mi s) {y2 : MethodName} {cc2 : ByteArray} {n2 d2 r2 idx k2 : Nat} {P2 : PU} {As rest : List Value} {ret2 : Option FieldType} (M : Mu l G mi y2 cc2 n2 ret2 d2 As L E r2 P2) (d : decode cc pc = .ok (.invokestatic idx, 3)) (hw : Ws y.cls idx y2 cc2 n2 ret2 k2) (hk : As.length = k2) (hst : st = As.reverse ++ rest) (hcat : (rest.map fun v => v.category).sum ≤ 8) (hR : d2 + 1 ≤ d0 ∧ 8 + (n2 + 11) + 64 * d2 ≤ 64 * d0) (hf : u + r2 ≤ r0) (kk : ∀ (v : Option Value) (L2 : List Nat) (E2 : Nat → va_E) (u2 : Nat), P2 v L2 E2 u2 → wu p l e d0 r0 s m args below meth c G A nL Q L2 E2 (u + u2) (pc + 3) lv (v.toList ++ rest)) : wu p l e d0 r0 s m args below meth c G A nL Q L E u pc lv st := by
  intro kc ks hu H locs ls hP hD hS hl
  subst hst
  obtain ⟨⟨w1, w2, w3, w4⟩, w5⟩ := hw
  have hts := C.2.2.2.2.1
  exact u_after C hu hD hS hl (va_runS (As := As) (rest := rest) (Ts := lw_g) ⟨C.1, C.2.1, C.2.2.1, C.2.2.2.1, hts⟩ (M H.size) ⟨callB_of k2 hts (lw_goodIn w3) rfl rfl rfl (hts _ w2) (hts _ w1) w4 hR, hts _ w5⟩ ⟨Pcu.blind, fun U hU hW => ⟨rfl, ⟨by rw [hU], by rw [hU]; exact hP, va_K.moved hW.alike C.2.2.2.2.2.1, hD.weaken (fun _ _ _ _ => trivial), C.2.2.2.2.2.2.2.1.pass hS (pl_free hD hS C.2.2.2.2.2.2.1) hW.alike hU, C.2.2.2.2.2.2.2.2.2.2.2.warm hW⟩, hM.warm hW⟩⟩ rfl hk hl.1 rfl (lv_room hcat) d (u_room hu hf)) kk
theorem u_callIN (C : Cq p s m args meth c cc y ret G A nL) (hM : Mir mi s) {y2 : MethodName} {cc2 : ByteArray} {n2 d2 r2 idx k2 : Nat} {P2 : PU} {As rest : List Value} {b : Nat} {host : String} (M : Mu l G mi y2 cc2 n2 none d2 (.ref b :: As) L E r2 P2) (d : decode cc pc = .ok (.invokespecial idx, 3)) (hw : Wn y.cls idx y2 host cc2 n2 k2) (hk : As.length = k2) (hst : st = As.reverse ++ .ref b :: rest) (hcat : (rest.map fun v => v.category).sum ≤ 8) (hR : d2 + 1 ≤ d0 ∧ 8 + (n2 + 11) + 64 * d2 ≤ 64 * d0) (hf : u + r2 ≤ r0) (kk : ∀ (v : Option Value) (L2 : List Nat) (E2 : Nat → va_E) (u2 : Nat), P2 v L2 E2 u2 → wu p l e d0 r0 s m args below meth c G A nL Q L2 E2 (u + u2) (pc + 3) lv (v.toList ++ rest)) : wu p l e d0 r0 s m args below meth c G A nL Q L E u pc lv st := by
  intro kc ks hu H locs ls hP hD hS hl
  subst hst
  obtain ⟨⟨w1, w2, w3, w4⟩, w5, w6⟩ := hw
  have hts := C.2.2.2.2.1
  exact u_after C hu hD hS hl (va_runIN (As := As) (rest := rest) (Ts := lw_g) ⟨C.1, C.2.1, C.2.2.1, C.2.2.2.1, hts⟩ (M H.size) ⟨va_cnB k2 hts (lw_goodIn w3) rfl rfl rfl (C.2.2.2.2.2.2.2.2.2.2.2.1 _ _ _ _ w1) (hts _ w2) w4 hR, w5, hts _ w6⟩ ⟨Pcu.blind, fun U hU hW => ⟨rfl, ⟨by rw [hU], by rw [hU]; exact hP, va_K.moved hW.alike C.2.2.2.2.2.1, hD.weaken (fun _ _ _ _ => trivial), C.2.2.2.2.2.2.2.1.pass hS (pl_free hD hS C.2.2.2.2.2.2.1) hW.alike hU, C.2.2.2.2.2.2.2.2.2.2.2.warm hW⟩, hM.warm hW⟩⟩ rfl hk hl.1 rfl (lv_room hcat) d (u_room hu hf)) kk
theorem u_wid {kc ks u r0 : Nat} (h : 16 * kc + ks ≤ u) (hr : u ≤ r0) : kc ≤ r0 / 16 ∧ ks ≤ r0 := ⟨by omega, by omega⟩
theorem u_iret (C : Cq p s m args meth c cc y ret G A nL) {v : Int32} (d : decode cc pc = .ok (.ireturn, 1)) (hr : ret = some .int) (hur : u ≤ r0) (hp : Post (some (.int v)) L E u) : wu p l e d0 r0 s m args below meth c G A nL (MQ below (Qu G A Post) args s (r0 / 16) r0 A) L E u pc lv [.int v] := by
  intro kc ks hu H locs ls hP hD hS hl T hT X
  have hmu := stand_mu X
  rw [hT] at hmu
  refine W.widen (u_wid hu hur).1 (u_wid hu hur).2 ?_ T hT X
  exact W.iret C.1 C.2.1 (C.2.2.2.2.2.2.2.2.1.trans hr) (fun t ht hW => ⟨⟨_, L, E, u, rfl, hp, by rw [ht]; omega, by rw [ht]; exact hP, hD⟩, hS.F ht⟩) hS.2.2 d C.2.2.2.2.2.2.2.2.2.1
theorem u_zret (C : Cq p s m args meth c cc y ret G A nL) {v : Int32} (d : decode cc pc = .ok (.ireturn, 1)) (hr : ret = some .boolean) (hn : narrow .boolean (.int v) = .int v) (hur : u ≤ r0) (hp : Post (some (.int v)) L E u) : wu p l e d0 r0 s m args below meth c G A nL (MQ below (Qu G A Post) args s (r0 / 16) r0 A) L E u pc lv [.int v] := by
  intro kc ks hu H locs ls hP hD hS hl T hT X
  have hmu := stand_mu X
  rw [hT] at hmu
  refine W.widen (u_wid hu hur).1 (u_wid hu hur).2 ?_ T hT X
  exact W.zret C.1 C.2.1 (C.2.2.2.2.2.2.2.2.1.trans hr) hn (fun t ht hW => ⟨⟨_, L, E, u, rfl, hp, by rw [ht]; omega, by rw [ht]; exact hP, hD⟩, hS.F ht⟩) hS.2.2 d C.2.2.2.2.2.2.2.2.2.1
theorem u_vret (C : Cq p s m args meth c cc y ret G A nL) (d : decode cc pc = .ok (.return_, 1)) (hr : ret = none) (hur : u ≤ r0) (hp : Post none L E u) : wu p l e d0 r0 s m args below meth c G A nL (MQ below (Qu G A Post) args s (r0 / 16) r0 A) L E u pc lv [] := by
  intro kc ks hu H locs ls hP hD hS hl T hT X
  have hmu := stand_mu X
  rw [hT] at hmu
  refine W.widen (u_wid hu hur).1 (u_wid hu hur).2 ?_ T hT X
  exact W.vret C.1 C.2.1 (C.2.2.2.2.2.2.2.2.1.trans hr) (fun t ht hW => ⟨⟨_, L, E, u, rfl, hp, by rw [ht]; omega, by rw [ht]; exact hP, hD⟩, hS.F ht⟩) hS.2.2 d C.2.2.2.2.2.2.2.2.2.1
theorem u_aret (C : Cq p s m args meth c cc y ret G A nL) {v : Value} {rt : FieldType} (d : decode cc pc = .ok (.areturn, 1)) (hr : ret = some rt) (hrt : (∃ n, rt = .object n) ∨ ∃ t, rt = .array t) (hv : v = .null ∨ ∃ a, v = .ref a) (hur : u ≤ r0) (hp : Post (some v) L E u) : wu p l e d0 r0 s m args below meth c G A nL (MQ below (Qu G A Post) args s (r0 / 16) r0 A) L E u pc lv [v] := by
  intro kc ks hu H locs ls hP hD hS hl T hT X
  have hmu := stand_mu X
  rw [hT] at hmu
  refine W.widen (u_wid hu hur).1 (u_wid hu hur).2 ?_ T hT X
  exact W.aret C.1 C.2.1 (C.2.2.2.2.2.2.2.2.1.trans hr) hrt hv (fun t ht hW => ⟨⟨_, L, E, u, rfl, hp, by rw [ht]; omega, by rw [ht]; exact hP, hD⟩, hS.F ht⟩) hS.2.2 d C.2.2.2.2.2.2.2.2.2.1
end UQ
end
section
def bt (t : Nat) : Nat := if t < 100 then (if t = 28 then 18 else if t = 69 then 67 else t) else if t < 130 then 100 else if t < 1000 then t else 1000 + t % 5
def kd (T : Nat) : Nat := match T with
  | 1 => 12
  | 2 => 2
  | 3 => 2
  | 4 => 2
  | 5 => 2
  | 6 => 2
  | 7 => 2
  | 8 => 2
  | 9 => 2
  | 10 => 2
  | 11 => 2
  | 12 => 2
  | 13 => 11
  | 14 => 9
  | 15 => 7
  | 16 => 4
  | 17 => 5
  | 18 => 8
  | 19 => 3
  | 20 => 6
  | 21 => 1
  | 22 => 0
  | 23 => 0
  | 24 => 0
  | 25 => 0
  | 26 => 0
  | 52 => 21
  | 56 => 21
  | 59 => 21
  | 67 => 22
  | 68 => 23
  | 100 => 10
  | 200 => 0
  | 201 => 1
  | 202 => 2
  | 203 => 3
  | 204 => 4
  | 205 => 5
  | 206 => 6
  | 207 => 7
  | 208 => 8
  | 209 => 9
  | 210 => 10
  | 211 => 11
  | 212 => 12
  | 213 => 22
  | 1000 => 24
  | 1001 => 24
  | 1002 => 24
  | 1003 => 24
  | 1004 => 24
  | _ => 20
def nf (ci : Nat) : Nat := match ci with
  | 0 => 3
  | 1 => 4
  | 2 => 3
  | 3 => 3
  | 4 => 8
  | 5 => 11
  | 6 => 4
  | 7 => 12
  | 8 => 3
  | 9 => 8
  | 10 => 8
  | 11 => 2
  | _ => 19
def rf (ci k : Nat) : Bool := (match ci with
  | 0 => [1]
  | 1 => [1, 2]
  | 2 => [1]
  | 3 => [0]
  | 4 => [0, 1, 2, 3, 4, 5, 6]
  | 5 => [0, 1, 2, 3, 4, 7, 8]
  | 6 => [1, 2]
  | 7 => [0, 1, 2, 3, 6, 8]
  | 8 => [0]
  | 9 => [3, 4, 6]
  | 10 => [2, 3, 4, 5, 6]
  | 11 => [0, 1]
  | _ => [0, 1, 2, 3, 4, 5, 6, 7, 8, 9, 10] : List Nat).contains k
def ofv (ci : Nat) (i : Nat → Int) (r : Nat → Option Nat) : Nat → Value := fun k => if rf ci k = true then va_rf (r k) else .int (iI (i k))
def enc (G : GT) (cl ln : Nat → Nat) (iv : Nat → Nat → Int) (rv : Nat → Nat → Option Nat) (a : Nat) : va_E := if kd (bt (cl a)) < 13 then ob (kd (bt (cl a))) (nf (kd (bt (cl a)))) (ofv (kd (bt (cl a))) (iv a) (rv a)) else if kd (bt (cl a)) = 20 then aI G (ln a) (fun j => iI (iv a j)) else if kd (bt (cl a)) = 21 then aZ G (ln a) (fun j => iI (iv a j)) else if kd (bt (cl a)) = 22 then aL G (ln a) (rv a) else if kd (bt (cl a)) = 23 then aR G (ln a) (rv a) else aO G (ln a) (rv a)
def ty (L : List Nat) (cl : Nat → Nat) (a T : Nat) : Prop := a ∈ L ∧ bt (cl a) = T
def upr (rv : Nat → Nat → Option Nat) (a k : Nat) (x : Option Nat) : Nat → Nat → Option Nat := fun b j => if b = a then (if j = k then x else rv b j) else rv b j
def up0 {α : Type} (f : Nat → Nat → α) (q : Nat) (x : α) : Nat → Nat → α := fun b j => if b = q then x else f b j
theorem upr_s {rv : Nat → Nat → Option Nat} {a k : Nat} {x : Option Nat} : upr rv a k x a k = x := by unfold upr; rw [if_pos rfl, if_pos rfl]
theorem upr_a {rv : Nat → Nat → Option Nat} {a k b : Nat} {x : Option Nat} (h : b ≠ a) : upr rv a k x b = rv b := by funext j; unfold upr; rw [if_neg h]
theorem upr_j {rv : Nat → Nat → Option Nat} {a k b j : Nat} {x : Option Nat} (h : j ≠ k) : upr rv a k x b j = rv b j := by unfold upr; simp [h]
theorem upi_a {iv : Nat → Nat → Int} {a k b : Nat} {x : Int} (h : b ≠ a) : up2 iv a k x b = iv b := by funext j; exact up2_k h
theorem up0_s {α : Type} {f : Nat → Nat → α} {q : Nat} {x : α} {j : Nat} : up0 f q x q j = x := by unfold up0; rw [if_pos rfl]
theorem up0_a {α : Type} {f : Nat → Nat → α} {q b : Nat} {x : α} (h : b ≠ q) : up0 f q x b = f b := by funext j; unfold up0; rw [if_neg h]
theorem ofv_i {ci k : Nat} {i : Nat → Int} {r : Nat → Option Nat} (h : rf ci k = false) : ofv ci i r k = .int (iI (i k)) := by unfold ofv; rw [h]; rfl
theorem ofv_r {ci k : Nat} {i : Nat → Int} {r : Nat → Option Nat} (h : rf ci k = true) : ofv ci i r k = va_rf (r k) := by unfold ofv; rw [h]; rfl
section ENC
variable {G : GT} {cl ln : Nat → Nat} {iv : Nat → Nat → Int} {rv : Nat → Nat → Option Nat} {a T ci N : Nat} {L : List Nat}
theorem enc_ob (ha : ty L cl a T) (hT : kd T = ci) (hN : nf ci = N) (h13 : ci < 13) : enc G cl ln iv rv a = ob ci N (ofv ci (iv a) (rv a)) := by unfold enc; rw [ha.2, hT, if_pos h13, hN]
theorem enc_I (ha : ty L cl a T) (hT : kd T = 20) : enc G cl ln iv rv a = aI G (ln a) (fun j => iI (iv a j)) := by unfold enc; rw [ha.2, hT]; rfl
theorem enc_Z (ha : ty L cl a T) (hT : kd T = 21) : enc G cl ln iv rv a = aZ G (ln a) (fun j => iI (iv a j)) := by unfold enc; rw [ha.2, hT]; rfl
theorem enc_L (ha : ty L cl a T) (hT : kd T = 22) : enc G cl ln iv rv a = aL G (ln a) (rv a) := by unfold enc; rw [ha.2, hT]; rfl
theorem enc_R (ha : ty L cl a T) (hT : kd T = 23) : enc G cl ln iv rv a = aR G (ln a) (rv a) := by unfold enc; rw [ha.2, hT]; rfl
theorem enc_O (ha : ty L cl a T) (hT : kd T = 24) : enc G cl ln iv rv a = aO G (ln a) (rv a) := by unfold enc; rw [ha.2, hT]; rfl
theorem enc_ext {cl2 ln2 : Nat → Nat} {iv2 : Nat → Nat → Int} {rv2 : Nat → Nat → Option Nat} (h1 : kd (bt (cl2 a)) = kd (bt (cl a))) (h2 : ln2 a = ln a) (h3 : iv2 a = iv a) (h4 : rv2 a = rv a) : enc G cl2 ln2 iv2 rv2 a = enc G cl ln iv rv a := by unfold enc; rw [h1, h2, h3, h4]
theorem enc_up {cl2 ln2 : Nat → Nat} {iv2 : Nat → Nat → Int} {rv2 : Nat → Nat → Option Nat} {x : va_E} (h : ∀ b, b ≠ a → cl2 b = cl b ∧ ln2 b = ln b ∧ iv2 b = iv b ∧ rv2 b = rv b) (hx : enc G cl2 ln2 iv2 rv2 a = x) : va_up (enc G cl ln iv rv) a x = enc G cl2 ln2 iv2 rv2 := by
  funext b
  by_cases e : b = a
  · subst e; rw [va_up_self, hx]
  · rw [va_up_ne _ _ e]
    obtain ⟨q1, q2, q3, q4⟩ := h b e
    exact (enc_ext (by rw [q1]) q2 q3 q4).symm
theorem enc_put {k : Nat} {z : Int} (ha : ty L cl a T) (hT : kd T = ci) (hN : nf ci = N) (h13 : ci < 13) (hr : rf ci k = false) : va_up (enc G cl ln iv rv) a (ob ci N (va_up (ofv ci (iv a) (rv a)) k (.int (iI z)))) = enc G cl ln (up2 iv a k z) rv := by
  refine enc_up (fun b hb => ⟨rfl, rfl, upi_a hb, rfl⟩) ?_
  rw [enc_ob ha hT hN h13]
  congr 1
  funext j
  by_cases e : j = k
  · subst e; rw [va_up_self, ofv_i hr, up2_s]
  · rw [va_up_ne _ _ e]; unfold ofv; rw [up2_j e]
theorem enc_putr {k : Nat} {x : Option Nat} (ha : ty L cl a T) (hT : kd T = ci) (hN : nf ci = N) (h13 : ci < 13) (hr : rf ci k = true) : va_up (enc G cl ln iv rv) a (ob ci N (va_up (ofv ci (iv a) (rv a)) k (va_rf x))) = enc G cl ln iv (upr rv a k x) := by
  refine enc_up (fun b hb => ⟨rfl, rfl, rfl, upr_a hb⟩) ?_
  rw [enc_ob ha hT hN h13]
  congr 1
  funext j
  by_cases e : j = k
  · subst e; rw [va_up_self, ofv_r hr, upr_s]
  · rw [va_up_ne _ _ e]; unfold ofv; rw [upr_j e]
theorem enc_ast {k : Nat} {z : Int} (ha : ty L cl a T) (hT : kd T = 20) : va_up (enc G cl ln iv rv) a (aI G (ln a) (fun j => if j = k then iI z else iI (iv a j))) = enc G cl ln (up2 iv a k z) rv := by
  refine enc_up (fun b hb => ⟨rfl, rfl, upi_a hb, rfl⟩) ?_
  rw [enc_I ha hT]
  congr 1
  funext j
  by_cases e : j = k
  · subst e; rw [if_pos rfl, up2_s]
  · rw [if_neg e, up2_j e]
theorem enc_zst {k : Nat} {z : Int} (ha : ty L cl a T) (hT : kd T = 21) : va_up (enc G cl ln iv rv) a (aZ G (ln a) (fun j => if j = k then iI z else iI (iv a j))) = enc G cl ln (up2 iv a k z) rv := by
  refine enc_up (fun b hb => ⟨rfl, rfl, upi_a hb, rfl⟩) ?_
  rw [enc_Z ha hT]
  congr 1
  funext j
  by_cases e : j = k
  · subst e; rw [if_pos rfl, up2_s]
  · rw [if_neg e, up2_j e]
theorem upr_up {k : Nat} {x : Option Nat} : upr rv a k x a = va_up (rv a) k x := by
  funext j
  by_cases e : j = k
  · subst e; rw [upr_s, va_up_self]
  · rw [upr_j e, va_up_ne _ _ e]
theorem enc_rst {k : Nat} {x : Option Nat} {mk : (Nat → Option Nat) → va_E} (hm : ∀ r2 : Nat → Nat → Option Nat, enc G cl ln iv r2 a = mk (r2 a)) : va_up (enc G cl ln iv rv) a (mk (va_up (rv a) k x)) = enc G cl ln iv (upr rv a k x) := by
  refine enc_up (fun b hb => ⟨rfl, rfl, rfl, upr_a hb⟩) ?_
  rw [hm, upr_up]
end ENC
theorem ob_ext {ci N : Nat} {f g : Nat → Value} (h : ∀ j, j < N → f j = g j) : ob ci N f = ob ci N g := by
  unfold ob
  congr 2
  exact List.map_congr_left (fun j hj => h j (List.mem_range.mp hj))
abbrev PF : Type := (Nat → Nat) → (Nat → Nat → Option Nat) → Nat
def cw (p : Program) (l : Launch) (e : Env) (d0 r0 : Nat) (s : State) (m : MethodId) (args : Array Value) (below : List Frame) (meth : Method) (c : Code) (G : GT) (A : Nat → Prop) (nL : Nat) (Q : State → Prop) (Pf : PF) (ph : Nat) (L : List Nat) (cl ln : Nat → Nat) (iv : Nat → Nat → Int) (rv : Nat → Nat → Option Nat) (K pc : Nat) (lv : List (Nat × Value)) (st : List Value) : Prop := ∀ u : Nat, u + ph ≤ Pf ln rv + K → wu p l e d0 r0 s m args below meth c G A nL Q L (enc G cl ln iv rv) u pc lv st
abbrev PC : Type := Option Value → List Nat → (Nat → Nat) → (Nat → Nat) → (Nat → Nat → Int) → (Nat → Nat → Option Nat) → Prop
def Qp (G : GT) (Pf : PF) (ph c0 : Nat) (Post : PC) : PU := fun v L2 E2 u => ∃ (cl2 ln2 : Nat → Nat) (iv2 : Nat → Nat → Int) (rv2 : Nat → Nat → Option Nat), E2 = enc G cl2 ln2 iv2 rv2 ∧ u + ph ≤ Pf ln2 rv2 + c0 ∧ Post v L2 cl2 ln2 iv2 rv2
def Mc (l : Launch) (G : GT) (mi : Nat) (Pf : PF) (pm : Nat) (y : MethodName) (cc : ByteArray) (n : Nat) (ret : Option FieldType) (d : Nat) (av : List Value) (L : List Nat) (cl ln : Nat → Nat) (iv : Nat → Nat → Int) (rv : Nat → Nat → Option Nat) (c0 : Nat) (Post : PC) : Prop := Mu l G mi y cc n ret d av L (enc G cl ln iv rv) (pm + c0 - Pf ln rv) (Qp G Pf (Pf ln rv) c0 Post)
section CQ
variable {p : Program} {l : Launch} {e : Env} {d0 r0 : Nat} {s : State} {m : MethodId} {args : Array Value} {below : List Frame} {meth : Method} {c : Code} {cc : ByteArray} {y : MethodName} {ret : Option FieldType} {G : GT} {A : Nat → Prop} {nL mi : Nat} {Q : State → Prop} {Pf : PF} {ph : Nat} {L : List Nat} {cl ln : Nat → Nat} {iv : Nat → Nat → Int} {rv : Nat → Nat → Option Nat} {K pc : Nat} {lv : List (Nat × Value)} {st : List Value}
theorem c_iconst (C : Cq p s m args meth c cc y ret G A nL) {n : Int} (d : decode cc pc = .ok (.iconst n, 1))  (k : cw p l e d0 r0 s m args below meth c G A nL Q Pf ph L cl ln iv rv K (pc + 1) lv (.int (iI n) :: st)) : cw p l e d0 r0 s m args below meth c G A nL Q Pf ph L cl ln iv rv K pc lv st := fun uu huu kc ks hkk => q_iconst C d rfl (k uu huu kc ks hkk)
theorem c_bipush (C : Cq p s m args meth c cc y ret G A nL) {n z : Int} (d : decode cc pc = .ok (.bipush n, 2)) (hz : (Int8.ofInt n).toInt32 = iI z) (k : cw p l e d0 r0 s m args below meth c G A nL Q Pf ph L cl ln iv rv K (pc + 2) lv (.int (iI z) :: st)) : cw p l e d0 r0 s m args below meth c G A nL Q Pf ph L cl ln iv rv K pc lv st := fun uu huu kc ks hkk => q_bipush C d hz (k uu huu kc ks hkk)
theorem c_sipush (C : Cq p s m args meth c cc y ret G A nL) {n z : Int} (d : decode cc pc = .ok (.sipush n, 3)) (hz : (Int16.ofInt n).toInt32 = iI z) (k : cw p l e d0 r0 s m args below meth c G A nL Q Pf ph L cl ln iv rv K (pc + 3) lv (.int (iI z) :: st)) : cw p l e d0 r0 s m args below meth c G A nL Q Pf ph L cl ln iv rv K pc lv st := fun uu huu kc ks hkk => q_sipush C d hz (k uu huu kc ks hkk)
theorem c_ldc (C : Cq p s m args meth c cc y ret G A nL) {idx : Nat} {x : Int32} {z : Int} (d : decode cc pc = .ok (.ldc idx, 2)) (hc : Cond.constant y.cls idx x ∈ lw_g) (hz : x = iI z) (k : cw p l e d0 r0 s m args below meth c G A nL Q Pf ph L cl ln iv rv K (pc + 2) lv (.int (iI z) :: st)) : cw p l e d0 r0 s m args below meth c G A nL Q Pf ph L cl ln iv rv K pc lv st := fun uu huu kc ks hkk => q_ldc C d hc (hz ▸ k uu huu kc ks hkk)
theorem c_iload_n (C : Cq p s m args meth c cc y ret G A nL) {i : Fin 4} {j : Nat} {x : Int32} (d : decode cc pc = .ok (.iload_n i, 1)) (hj : lv[j]? = some ((i : Nat), .int x)) (k : cw p l e d0 r0 s m args below meth c G A nL Q Pf ph L cl ln iv rv K (pc + 1) lv (.int x :: st)) : cw p l e d0 r0 s m args below meth c G A nL Q Pf ph L cl ln iv rv K pc lv st := fun uu huu kc ks hkk => q_iload_n C d hj (k uu huu kc ks hkk)
theorem c_iload (C : Cq p s m args meth c cc y ret G A nL) {i j : Nat} {x : Int32} (d : decode cc pc = .ok (.iload i, 2)) (hj : lv[j]? = some (i, .int x)) (k : cw p l e d0 r0 s m args below meth c G A nL Q Pf ph L cl ln iv rv K (pc + 2) lv (.int x :: st)) : cw p l e d0 r0 s m args below meth c G A nL Q Pf ph L cl ln iv rv K pc lv st := fun uu huu kc ks hkk => q_iload C d hj (k uu huu kc ks hkk)
theorem c_aload_n (C : Cq p s m args meth c cc y ret G A nL) {i : Fin 4} {j : Nat} {x : Nat} (d : decode cc pc = .ok (.aload_n i, 1)) (hj : lv[j]? = some ((i : Nat), .ref x)) (k : cw p l e d0 r0 s m args below meth c G A nL Q Pf ph L cl ln iv rv K (pc + 1) lv (.ref x :: st)) : cw p l e d0 r0 s m args below meth c G A nL Q Pf ph L cl ln iv rv K pc lv st := fun uu huu kc ks hkk => q_aload_n C d hj (k uu huu kc ks hkk)
theorem c_aload (C : Cq p s m args meth c cc y ret G A nL) {i j : Nat} {x : Nat} (d : decode cc pc = .ok (.aload i, 2)) (hj : lv[j]? = some (i, .ref x)) (k : cw p l e d0 r0 s m args below meth c G A nL Q Pf ph L cl ln iv rv K (pc + 2) lv (.ref x :: st)) : cw p l e d0 r0 s m args below meth c G A nL Q Pf ph L cl ln iv rv K pc lv st := fun uu huu kc ks hkk => q_aload C d hj (k uu huu kc ks hkk)
theorem c_istore_n (C : Cq p s m args meth c cc y ret G A nL) {i : Fin 4} {x : Int32} {lv2 : List (Nat × Value)} (d : decode cc pc = .ok (.istore_n i, 1)) (hn : (i : Nat) < nL) (hl : ((i : Nat), Value.int x) :: lv.filter (fun q => !(q.1 == (i : Nat)) && !(q.1 + 1 == (i : Nat) && q.2.category == 2)) = lv2) (k : cw p l e d0 r0 s m args below meth c G A nL Q Pf ph L cl ln iv rv K (pc + 1) lv2 st) : cw p l e d0 r0 s m args below meth c G A nL Q Pf ph L cl ln iv rv K pc lv (Value.int x :: st) := fun uu huu kc ks hkk => q_istore_n C d hn hl (k uu huu kc ks hkk)
theorem c_istore (C : Cq p s m args meth c cc y ret G A nL) {i : Nat} {x : Int32} {lv2 : List (Nat × Value)} (d : decode cc pc = .ok (.istore i, 2)) (hn : i < nL) (hl : (i, Value.int x) :: lv.filter (fun q => !(q.1 == i) && !(q.1 + 1 == i && q.2.category == 2)) = lv2) (k : cw p l e d0 r0 s m args below meth c G A nL Q Pf ph L cl ln iv rv K (pc + 2) lv2 st) : cw p l e d0 r0 s m args below meth c G A nL Q Pf ph L cl ln iv rv K pc lv (Value.int x :: st) := fun uu huu kc ks hkk => q_istore C d hn hl (k uu huu kc ks hkk)
theorem c_astore_n (C : Cq p s m args meth c cc y ret G A nL) {i : Fin 4} {x : Nat} {lv2 : List (Nat × Value)} (d : decode cc pc = .ok (.astore_n i, 1)) (hn : (i : Nat) < nL) (hl : ((i : Nat), Value.ref x) :: lv.filter (fun q => !(q.1 == (i : Nat)) && !(q.1 + 1 == (i : Nat) && q.2.category == 2)) = lv2) (k : cw p l e d0 r0 s m args below meth c G A nL Q Pf ph L cl ln iv rv K (pc + 1) lv2 st) : cw p l e d0 r0 s m args below meth c G A nL Q Pf ph L cl ln iv rv K pc lv (Value.ref x :: st) := fun uu huu kc ks hkk => q_astore_n C d hn hl (k uu huu kc ks hkk)
theorem c_astore (C : Cq p s m args meth c cc y ret G A nL) {i : Nat} {x : Nat} {lv2 : List (Nat × Value)} (d : decode cc pc = .ok (.astore i, 2)) (hn : i < nL) (hl : (i, Value.ref x) :: lv.filter (fun q => !(q.1 == i) && !(q.1 + 1 == i && q.2.category == 2)) = lv2) (k : cw p l e d0 r0 s m args below meth c G A nL Q Pf ph L cl ln iv rv K (pc + 2) lv2 st) : cw p l e d0 r0 s m args below meth c G A nL Q Pf ph L cl ln iv rv K pc lv (Value.ref x :: st) := fun uu huu kc ks hkk => q_astore C d hn hl (k uu huu kc ks hkk)
theorem c_iinc (C : Cq p s m args meth c cc y ret G A nL) {i j : Nat} {n z : Int} {lv2 : List (Nat × Value)} (d : decode cc pc = .ok (.iinc i n, 3)) (hj : lv[j]? = some (i, .int (iI z))) (hn : i < nL) (hl : (i, Value.int (iI (z + n))) :: lv.filter (fun q => !(q.1 == i) && !(q.1 + 1 == i && q.2.category == 2)) = lv2) (k : cw p l e d0 r0 s m args below meth c G A nL Q Pf ph L cl ln iv rv K (pc + 3) lv2 st) : cw p l e d0 r0 s m args below meth c G A nL Q Pf ph L cl ln iv rv K pc lv st := fun uu huu kc ks hkk => q_iinc C d hj (Int32.ofInt_add z n).symm hn hl (k uu huu kc ks hkk)
theorem c_iadd (C : Cq p s m args meth c cc y ret G A nL) {x z : Int} (d : decode cc pc = .ok (.iadd, 1))  (k : cw p l e d0 r0 s m args below meth c G A nL Q Pf ph L cl ln iv rv K (pc + 1) lv (.int (iI (x + z)) :: st)) : cw p l e d0 r0 s m args below meth c G A nL Q Pf ph L cl ln iv rv K pc lv (.int (iI z) :: .int (iI x) :: st) := fun uu huu kc ks hkk => q_iadd C d (Int32.ofInt_add x z).symm (k uu huu kc ks hkk)
theorem c_isub (C : Cq p s m args meth c cc y ret G A nL) {x z : Int} (d : decode cc pc = .ok (.isub, 1))  (k : cw p l e d0 r0 s m args below meth c G A nL Q Pf ph L cl ln iv rv K (pc + 1) lv (.int (iI (x - z)) :: st)) : cw p l e d0 r0 s m args below meth c G A nL Q Pf ph L cl ln iv rv K pc lv (.int (iI z) :: .int (iI x) :: st) := fun uu huu kc ks hkk => q_isub C d (Int32.ofInt_sub x z).symm (k uu huu kc ks hkk)
theorem c_imul (C : Cq p s m args meth c cc y ret G A nL) {x z : Int} (d : decode cc pc = .ok (.imul, 1))  (k : cw p l e d0 r0 s m args below meth c G A nL Q Pf ph L cl ln iv rv K (pc + 1) lv (.int (iI (x * z)) :: st)) : cw p l e d0 r0 s m args below meth c G A nL Q Pf ph L cl ln iv rv K pc lv (.int (iI z) :: .int (iI x) :: st) := fun uu huu kc ks hkk => q_imul C d (Int32.ofInt_mul x z).symm (k uu huu kc ks hkk)
theorem c_iand (C : Cq p s m args meth c cc y ret G A nL) {x y2 w : Int32} (d : decode cc pc = .ok (.iand, 1)) (hv : x &&& y2 = w) (k : cw p l e d0 r0 s m args below meth c G A nL Q Pf ph L cl ln iv rv K (pc + 1) lv (.int w :: st)) : cw p l e d0 r0 s m args below meth c G A nL Q Pf ph L cl ln iv rv K pc lv (.int y2 :: .int x :: st) := fun uu huu kc ks hkk => q_iand C d hv (k uu huu kc ks hkk)
theorem c_ior (C : Cq p s m args meth c cc y ret G A nL) {x y2 w : Int32} (d : decode cc pc = .ok (.ior, 1)) (hv : x ||| y2 = w) (k : cw p l e d0 r0 s m args below meth c G A nL Q Pf ph L cl ln iv rv K (pc + 1) lv (.int w :: st)) : cw p l e d0 r0 s m args below meth c G A nL Q Pf ph L cl ln iv rv K pc lv (.int y2 :: .int x :: st) := fun uu huu kc ks hkk => q_ior C d hv (k uu huu kc ks hkk)
theorem c_ixor (C : Cq p s m args meth c cc y ret G A nL) {x y2 w : Int32} (d : decode cc pc = .ok (.ixor, 1)) (hv : x ^^^ y2 = w) (k : cw p l e d0 r0 s m args below meth c G A nL Q Pf ph L cl ln iv rv K (pc + 1) lv (.int w :: st)) : cw p l e d0 r0 s m args below meth c G A nL Q Pf ph L cl ln iv rv K pc lv (.int y2 :: .int x :: st) := fun uu huu kc ks hkk => q_ixor C d hv (k uu huu kc ks hkk)
theorem c_ishl (C : Cq p s m args meth c cc y ret G A nL) {x y2 w : Int32} (d : decode cc pc = .ok (.ishl, 1)) (hv : x <<< (y2 &&& 31) = w) (k : cw p l e d0 r0 s m args below meth c G A nL Q Pf ph L cl ln iv rv K (pc + 1) lv (.int w :: st)) : cw p l e d0 r0 s m args below meth c G A nL Q Pf ph L cl ln iv rv K pc lv (.int y2 :: .int x :: st) := fun uu huu kc ks hkk => q_ishl C d hv (k uu huu kc ks hkk)
theorem c_ishr (C : Cq p s m args meth c cc y ret G A nL) {x y2 w : Int32} (d : decode cc pc = .ok (.ishr, 1)) (hv : x >>> (y2 &&& 31) = w) (k : cw p l e d0 r0 s m args below meth c G A nL Q Pf ph L cl ln iv rv K (pc + 1) lv (.int w :: st)) : cw p l e d0 r0 s m args below meth c G A nL Q Pf ph L cl ln iv rv K pc lv (.int y2 :: .int x :: st) := fun uu huu kc ks hkk => q_ishr C d hv (k uu huu kc ks hkk)
theorem c_iushr (C : Cq p s m args meth c cc y ret G A nL) {x y2 w : Int32} (d : decode cc pc = .ok (.iushr, 1)) (hv : (x.toUInt32 >>> (y2.toUInt32 &&& Int32.toUInt32 31)).toInt32 = w) (k : cw p l e d0 r0 s m args below meth c G A nL Q Pf ph L cl ln iv rv K (pc + 1) lv (.int w :: st)) : cw p l e d0 r0 s m args below meth c G A nL Q Pf ph L cl ln iv rv K pc lv (.int y2 :: .int x :: st) := fun uu huu kc ks hkk => q_iushr C d hv (k uu huu kc ks hkk)
theorem c_idiv (C : Cq p s m args meth c cc y ret G A nL) {x y2 w : Int32} (d : decode cc pc = .ok (.idiv, 1)) (hne : ¬ y2 = 0) (hv : x / y2 = w) (k : cw p l e d0 r0 s m args below meth c G A nL Q Pf ph L cl ln iv rv K (pc + 1) lv (.int w :: st)) : cw p l e d0 r0 s m args below meth c G A nL Q Pf ph L cl ln iv rv K pc lv (.int y2 :: .int x :: st) := fun uu huu kc ks hkk => q_idiv C d hne hv (k uu huu kc ks hkk)
theorem c_ineg (C : Cq p s m args meth c cc y ret G A nL) {z : Int} (d : decode cc pc = .ok (.ineg, 1))  (k : cw p l e d0 r0 s m args below meth c G A nL Q Pf ph L cl ln iv rv K (pc + 1) lv (.int (iI (-z)) :: st)) : cw p l e d0 r0 s m args below meth c G A nL Q Pf ph L cl ln iv rv K pc lv (.int (iI z) :: st) := fun uu huu kc ks hkk => q_ineg C d (Int32.ofInt_neg z).symm (k uu huu kc ks hkk)
theorem c_dup (C : Cq p s m args meth c cc y ret G A nL) {u : Value} (d : decode cc pc = .ok (.dup, 1)) (hu : u.category = 1) (k : cw p l e d0 r0 s m args below meth c G A nL Q Pf ph L cl ln iv rv K (pc + 1) lv (u :: u :: st)) : cw p l e d0 r0 s m args below meth c G A nL Q Pf ph L cl ln iv rv K pc lv (u :: st) := fun uu huu kc ks hkk => q_dup C d hu (k uu huu kc ks hkk)
theorem c_pop (C : Cq p s m args meth c cc y ret G A nL) {u : Value} (d : decode cc pc = .ok (.pop, 1)) (hu : u.category = 1) (k : cw p l e d0 r0 s m args below meth c G A nL Q Pf ph L cl ln iv rv K (pc + 1) lv st) : cw p l e d0 r0 s m args below meth c G A nL Q Pf ph L cl ln iv rv K pc lv (u :: st) := fun uu huu kc ks hkk => q_pop C d hu (k uu huu kc ks hkk)
theorem c_dup2 (C : Cq p s m args meth c cc y ret G A nL) {u w : Value} (d : decode cc pc = .ok (.dup2, 1)) (hu : u.category = 1) (hw : w.category = 1) (k : cw p l e d0 r0 s m args below meth c G A nL Q Pf ph L cl ln iv rv K (pc + 1) lv (u :: w :: u :: w :: st)) : cw p l e d0 r0 s m args below meth c G A nL Q Pf ph L cl ln iv rv K pc lv (u :: w :: st) := fun uu huu kc ks hkk => q_dup2 C d hu hw (k uu huu kc ks hkk)
theorem c_goto (C : Cq p s m args meth c cc y ret G A nL) {off : Int} {tgt : Nat} (d : decode cc pc = .ok (.goto off, 3)) (ht : (pc : Int) + off = (tgt : Int)) (k : cw p l e d0 r0 s m args below meth c G A nL Q Pf ph L cl ln iv rv K tgt lv st) : cw p l e d0 r0 s m args below meth c G A nL Q Pf ph L cl ln iv rv K pc lv st := fun uu huu kc ks hkk => q_goto C d ht (k uu huu kc ks hkk)
theorem c_icmp_eq (C : Cq p s m args meth c cc y ret G A nL) {x z off : Int} {tgt : Nat} (hx : R32 x) (hz : R32 z) (d : decode cc pc = .ok (.if_icmp .eq off, 3)) (ht : (pc : Int) + off = (tgt : Int)) (kt : x = z → cw p l e d0 r0 s m args below meth c G A nL Q Pf ph L cl ln iv rv K tgt lv st) (kf : ¬ x = z → cw p l e d0 r0 s m args below meth c G A nL Q Pf ph L cl ln iv rv K (pc + 3) lv st) : cw p l e d0 r0 s m args below meth c G A nL Q Pf ph L cl ln iv rv K pc lv (.int (iI z) :: .int (iI x) :: st) := fun uu huu kc ks hkk => q_icmp_eq C d ht (fun q => kt ((iI_eq hx hz).mp q) uu huu kc ks hkk) (fun q => kf (fun r => q ((iI_eq hx hz).mpr r)) uu huu kc ks hkk)
theorem c_if_eq (C : Cq p s m args meth c cc y ret G A nL) {x off : Int} {tgt : Nat} (hx : R32 x) (d : decode cc pc = .ok (.ifCond .eq off, 3)) (ht : (pc : Int) + off = (tgt : Int)) (kt : x = 0 → cw p l e d0 r0 s m args below meth c G A nL Q Pf ph L cl ln iv rv K tgt lv st) (kf : ¬ x = 0 → cw p l e d0 r0 s m args below meth c G A nL Q Pf ph L cl ln iv rv K (pc + 3) lv st) : cw p l e d0 r0 s m args below meth c G A nL Q Pf ph L cl ln iv rv K pc lv (.int (iI x) :: st) := fun uu huu kc ks hkk => q_if_eq C d ht (fun q => kt ((iI_eq hx R32_0).mp q) uu huu kc ks hkk) (fun q => kf (fun r => q ((iI_eq hx R32_0).mpr r)) uu huu kc ks hkk)
theorem c_icmp_ne (C : Cq p s m args meth c cc y ret G A nL) {x z off : Int} {tgt : Nat} (hx : R32 x) (hz : R32 z) (d : decode cc pc = .ok (.if_icmp .ne off, 3)) (ht : (pc : Int) + off = (tgt : Int)) (kt : ¬ x = z → cw p l e d0 r0 s m args below meth c G A nL Q Pf ph L cl ln iv rv K tgt lv st) (kf : x = z → cw p l e d0 r0 s m args below meth c G A nL Q Pf ph L cl ln iv rv K (pc + 3) lv st) : cw p l e d0 r0 s m args below meth c G A nL Q Pf ph L cl ln iv rv K pc lv (.int (iI z) :: .int (iI x) :: st) := fun uu huu kc ks hkk => q_icmp_ne C d ht (fun q => kt (fun r => q ((iI_eq hx hz).mpr r)) uu huu kc ks hkk) (fun q => kf ((iI_eq hx hz).mp q) uu huu kc ks hkk)
theorem c_if_ne (C : Cq p s m args meth c cc y ret G A nL) {x off : Int} {tgt : Nat} (hx : R32 x) (d : decode cc pc = .ok (.ifCond .ne off, 3)) (ht : (pc : Int) + off = (tgt : Int)) (kt : ¬ x = 0 → cw p l e d0 r0 s m args below meth c G A nL Q Pf ph L cl ln iv rv K tgt lv st) (kf : x = 0 → cw p l e d0 r0 s m args below meth c G A nL Q Pf ph L cl ln iv rv K (pc + 3) lv st) : cw p l e d0 r0 s m args below meth c G A nL Q Pf ph L cl ln iv rv K pc lv (.int (iI x) :: st) := fun uu huu kc ks hkk => q_if_ne C d ht (fun q => kt (fun r => q ((iI_eq hx R32_0).mpr r)) uu huu kc ks hkk) (fun q => kf ((iI_eq hx R32_0).mp q) uu huu kc ks hkk)
theorem c_icmp_lt (C : Cq p s m args meth c cc y ret G A nL) {x z off : Int} {tgt : Nat} (hx : R32 x) (hz : R32 z) (d : decode cc pc = .ok (.if_icmp .lt off, 3)) (ht : (pc : Int) + off = (tgt : Int)) (kt : x < z → cw p l e d0 r0 s m args below meth c G A nL Q Pf ph L cl ln iv rv K tgt lv st) (kf : ¬ x < z → cw p l e d0 r0 s m args below meth c G A nL Q Pf ph L cl ln iv rv K (pc + 3) lv st) : cw p l e d0 r0 s m args below meth c G A nL Q Pf ph L cl ln iv rv K pc lv (.int (iI z) :: .int (iI x) :: st) := fun uu huu kc ks hkk => q_icmp_lt C d ht (fun q => kt ((iI_lt hx hz).mp q) uu huu kc ks hkk) (fun q => kf (fun r => q ((iI_lt hx hz).mpr r)) uu huu kc ks hkk)
theorem c_if_lt (C : Cq p s m args meth c cc y ret G A nL) {x off : Int} {tgt : Nat} (hx : R32 x) (d : decode cc pc = .ok (.ifCond .lt off, 3)) (ht : (pc : Int) + off = (tgt : Int)) (kt : x < 0 → cw p l e d0 r0 s m args below meth c G A nL Q Pf ph L cl ln iv rv K tgt lv st) (kf : ¬ x < 0 → cw p l e d0 r0 s m args below meth c G A nL Q Pf ph L cl ln iv rv K (pc + 3) lv st) : cw p l e d0 r0 s m args below meth c G A nL Q Pf ph L cl ln iv rv K pc lv (.int (iI x) :: st) := fun uu huu kc ks hkk => q_if_lt C d ht (fun q => kt ((iI_lt hx R32_0).mp q) uu huu kc ks hkk) (fun q => kf (fun r => q ((iI_lt hx R32_0).mpr r)) uu huu kc ks hkk)
theorem c_icmp_ge (C : Cq p s m args meth c cc y ret G A nL) {x z off : Int} {tgt : Nat} (hx : R32 x) (hz : R32 z) (d : decode cc pc = .ok (.if_icmp .ge off, 3)) (ht : (pc : Int) + off = (tgt : Int)) (kt : z ≤ x → cw p l e d0 r0 s m args below meth c G A nL Q Pf ph L cl ln iv rv K tgt lv st) (kf : ¬ z ≤ x → cw p l e d0 r0 s m args below meth c G A nL Q Pf ph L cl ln iv rv K (pc + 3) lv st) : cw p l e d0 r0 s m args below meth c G A nL Q Pf ph L cl ln iv rv K pc lv (.int (iI z) :: .int (iI x) :: st) := fun uu huu kc ks hkk => q_icmp_ge C d ht (fun q => kt ((iI_le hz hx).mp q) uu huu kc ks hkk) (fun q => kf (fun r => q ((iI_le hz hx).mpr r)) uu huu kc ks hkk)
theorem c_if_ge (C : Cq p s m args meth c cc y ret G A nL) {x off : Int} {tgt : Nat} (hx : R32 x) (d : decode cc pc = .ok (.ifCond .ge off, 3)) (ht : (pc : Int) + off = (tgt : Int)) (kt : 0 ≤ x → cw p l e d0 r0 s m args below meth c G A nL Q Pf ph L cl ln iv rv K tgt lv st) (kf : ¬ 0 ≤ x → cw p l e d0 r0 s m args below meth c G A nL Q Pf ph L cl ln iv rv K (pc + 3) lv st) : cw p l e d0 r0 s m args below meth c G A nL Q Pf ph L cl ln iv rv K pc lv (.int (iI x) :: st) := fun uu huu kc ks hkk => q_if_ge C d ht (fun q => kt ((iI_le R32_0 hx).mp q) uu huu kc ks hkk) (fun q => kf (fun r => q ((iI_le R32_0 hx).mpr r)) uu huu kc ks hkk)
theorem c_icmp_gt (C : Cq p s m args meth c cc y ret G A nL) {x z off : Int} {tgt : Nat} (hx : R32 x) (hz : R32 z) (d : decode cc pc = .ok (.if_icmp .gt off, 3)) (ht : (pc : Int) + off = (tgt : Int)) (kt : z < x → cw p l e d0 r0 s m args below meth c G A nL Q Pf ph L cl ln iv rv K tgt lv st) (kf : ¬ z < x → cw p l e d0 r0 s m args below meth c G A nL Q Pf ph L cl ln iv rv K (pc + 3) lv st) : cw p l e d0 r0 s m args below meth c G A nL Q Pf ph L cl ln iv rv K pc lv (.int (iI z) :: .int (iI x) :: st) := fun uu huu kc ks hkk => q_icmp_gt C d ht (fun q => kt ((iI_lt hz hx).mp q) uu huu kc ks hkk) (fun q => kf (fun r => q ((iI_lt hz hx).mpr r)) uu huu kc ks hkk)
theorem c_if_gt (C : Cq p s m args meth c cc y ret G A nL) {x off : Int} {tgt : Nat} (hx : R32 x) (d : decode cc pc = .ok (.ifCond .gt off, 3)) (ht : (pc : Int) + off = (tgt : Int)) (kt : 0 < x → cw p l e d0 r0 s m args below meth c G A nL Q Pf ph L cl ln iv rv K tgt lv st) (kf : ¬ 0 < x → cw p l e d0 r0 s m args below meth c G A nL Q Pf ph L cl ln iv rv K (pc + 3) lv st) : cw p l e d0 r0 s m args below meth c G A nL Q Pf ph L cl ln iv rv K pc lv (.int (iI x) :: st) := fun uu huu kc ks hkk => q_if_gt C d ht (fun q => kt ((iI_lt R32_0 hx).mp q) uu huu kc ks hkk) (fun q => kf (fun r => q ((iI_lt R32_0 hx).mpr r)) uu huu kc ks hkk)
theorem c_icmp_le (C : Cq p s m args meth c cc y ret G A nL) {x z off : Int} {tgt : Nat} (hx : R32 x) (hz : R32 z) (d : decode cc pc = .ok (.if_icmp .le off, 3)) (ht : (pc : Int) + off = (tgt : Int)) (kt : x ≤ z → cw p l e d0 r0 s m args below meth c G A nL Q Pf ph L cl ln iv rv K tgt lv st) (kf : ¬ x ≤ z → cw p l e d0 r0 s m args below meth c G A nL Q Pf ph L cl ln iv rv K (pc + 3) lv st) : cw p l e d0 r0 s m args below meth c G A nL Q Pf ph L cl ln iv rv K pc lv (.int (iI z) :: .int (iI x) :: st) := fun uu huu kc ks hkk => q_icmp_le C d ht (fun q => kt ((iI_le hx hz).mp q) uu huu kc ks hkk) (fun q => kf (fun r => q ((iI_le hx hz).mpr r)) uu huu kc ks hkk)
theorem c_if_le (C : Cq p s m args meth c cc y ret G A nL) {x off : Int} {tgt : Nat} (hx : R32 x) (d : decode cc pc = .ok (.ifCond .le off, 3)) (ht : (pc : Int) + off = (tgt : Int)) (kt : x ≤ 0 → cw p l e d0 r0 s m args below meth c G A nL Q Pf ph L cl ln iv rv K tgt lv st) (kf : ¬ x ≤ 0 → cw p l e d0 r0 s m args below meth c G A nL Q Pf ph L cl ln iv rv K (pc + 3) lv st) : cw p l e d0 r0 s m args below meth c G A nL Q Pf ph L cl ln iv rv K pc lv (.int (iI x) :: st) := fun uu huu kc ks hkk => q_if_le C d ht (fun q => kt ((iI_le hx R32_0).mp q) uu huu kc ks hkk) (fun q => kf (fun r => q ((iI_le hx R32_0).mpr r)) uu huu kc ks hkk)
theorem c_st {st2 : List Value} (h : st = st2) (k : cw p l e d0 r0 s m args below meth c G A nL Q Pf ph L cl ln iv rv K pc lv st2) : cw p l e d0 r0 s m args below meth c G A nL Q Pf ph L cl ln iv rv K pc lv st := by subst h; exact k
theorem c_lv {lv2 : List (Nat × Value)} (ps : List Nat) (hl : lv_pick lv ps = lv2) (k : cw p l e d0 r0 s m args below meth c G A nL Q Pf ph L cl ln iv rv K pc lv2 st) : cw p l e d0 r0 s m args below meth c G A nL Q Pf ph L cl ln iv rv K pc lv st := fun u hu kc ks hk H locs ls hP hD hS hv => k u hu kc ks hk H locs ls hP hD hS (lv_sub hv ps hl)
theorem c_K {K2 : Nat} (h : K ≤ K2) (k : cw p l e d0 r0 s m args below meth c G A nL Q Pf ph L cl ln iv rv K2 pc lv st) : cw p l e d0 r0 s m args below meth c G A nL Q Pf ph L cl ln iv rv K pc lv st := fun u hu => k u (by omega)
theorem c_g0 (C : Cq p s m args meth c cc y ret G A nL) (k : (∀ b ∈ L, b ≠ g0 G) → cw p l e d0 r0 s m args below meth c G A nL Q Pf ph L cl ln iv rv K pc lv st) : cw p l e d0 r0 s m args below meth c G A nL Q Pf ph L cl ln iv rv K pc lv st := by
  intro u hu kc ks hk H locs ls hP hD hS hl
  refine k ?_ u hu kc ks hk H locs ls hP hD hS hl
  intro b hb e
  obtain ⟨q0, hq⟩ := pl_at (E := enc G cl ln iv rv) hb
  obtain ⟨_, _, _, _, _, _, _, hn⟩ := C.2.2.2.2.2.2.2.1.2
  exact hn (e ▸ hD.2 q0 _ hq)
theorem c_null (C : Cq p s m args meth c cc y ret G A nL) (d : decode cc pc = .ok (.aconst_null, 1)) (k : cw p l e d0 r0 s m args below meth c G A nL Q Pf ph L cl ln iv rv K (pc + 1) lv (.null :: st)) : cw p l e d0 r0 s m args below meth c G A nL Q Pf ph L cl ln iv rv K pc lv st := fun u hu kc ks hk => q_null C d (k u hu kc ks hk)
theorem c_aloadr_n (C : Cq p s m args meth c cc y ret G A nL) {i : Fin 4} {j : Nat} {r : Option Nat} (d : decode cc pc = .ok (.aload_n i, 1)) (hj : lv[j]? = some ((i : Nat), va_rf r)) (k : cw p l e d0 r0 s m args below meth c G A nL Q Pf ph L cl ln iv rv K (pc + 1) lv (va_rf r :: st)) : cw p l e d0 r0 s m args below meth c G A nL Q Pf ph L cl ln iv rv K pc lv st := by
  cases r with
  | none => exact fun u hu kc ks hk => q_aload_nN C d hj (k u hu kc ks hk)
  | some x => exact fun u hu kc ks hk => q_aload_n C d hj (k u hu kc ks hk)
theorem c_aloadr (C : Cq p s m args meth c cc y ret G A nL) {i j : Nat} {r : Option Nat} (d : decode cc pc = .ok (.aload i, 2)) (hj : lv[j]? = some (i, va_rf r)) (k : cw p l e d0 r0 s m args below meth c G A nL Q Pf ph L cl ln iv rv K (pc + 2) lv (va_rf r :: st)) : cw p l e d0 r0 s m args below meth c G A nL Q Pf ph L cl ln iv rv K pc lv st := by
  cases r with
  | none => exact fun u hu kc ks hk => q_aloadN C d hj (k u hu kc ks hk)
  | some x => exact fun u hu kc ks hk => q_aload C d hj (k u hu kc ks hk)
theorem c_astorer_n (C : Cq p s m args meth c cc y ret G A nL) {i : Fin 4} {r : Option Nat} {lv2 : List (Nat × Value)} (d : decode cc pc = .ok (.astore_n i, 1)) (hn : (i : Nat) < nL) (hl : ((i : Nat), va_rf r) :: lv.filter (fun q => !(q.1 == (i : Nat)) && !(q.1 + 1 == (i : Nat) && q.2.category == 2)) = lv2) (k : cw p l e d0 r0 s m args below meth c G A nL Q Pf ph L cl ln iv rv K (pc + 1) lv2 st) : cw p l e d0 r0 s m args below meth c G A nL Q Pf ph L cl ln iv rv K pc lv (va_rf r :: st) := by
  cases r with
  | none => exact fun u hu kc ks hk => q_astore_nN C d hn hl (k u hu kc ks hk)
  | some x => exact fun u hu kc ks hk => q_astore_n C d hn hl (k u hu kc ks hk)
theorem c_astorer (C : Cq p s m args meth c cc y ret G A nL) {i : Nat} {r : Option Nat} {lv2 : List (Nat × Value)} (d : decode cc pc = .ok (.astore i, 2)) (hn : i < nL) (hl : (i, va_rf r) :: lv.filter (fun q => !(q.1 == i) && !(q.1 + 1 == i && q.2.category == 2)) = lv2) (k : cw p l e d0 r0 s m args below meth c G A nL Q Pf ph L cl ln iv rv K (pc + 2) lv2 st) : cw p l e d0 r0 s m args below meth c G A nL Q Pf ph L cl ln iv rv K pc lv (va_rf r :: st) := by
  cases r with
  | none => exact fun u hu kc ks hk => q_astoreN C d hn hl (k u hu kc ks hk)
  | some x => exact fun u hu kc ks hk => q_astore C d hn hl (k u hu kc ks hk)
theorem c_get (C : Cq p s m args meth c cc y ret G A nL) {a k idx ci N T : Nat} {Cn : String} {TT : u_T} {tyy : Nat → FieldType} (ck : Ck ci Cn TT N tyy) (d : decode cc pc = .ok (.getfield idx, 3)) (lk : Cond.fieldLink y.cls idx (TT k).1 (TT k).2.1 (TT k).2.2.1 ∈ lw_g) (hk : k < N) (ha : ty L cl a T) (hT : kd T = ci) (hN : nf ci = N) (h13 : ci < 13) (hr : rf ci k = false) (kk : cw p l e d0 r0 s m args below meth c G A nL Q Pf ph L cl ln iv rv K (pc + 3) lv (.int (iI (iv a k)) :: st)) : cw p l e d0 r0 s m args below meth c G A nL Q Pf ph L cl ln iv rv K pc lv (.ref a :: st) := fun u hu kc ks hh => q_get (k := k) C ck d lk hk ha.1 (enc_ob ha hT hN h13) (ofv_i hr) (kk u hu kc ks hh)
theorem c_getr (C : Cq p s m args meth c cc y ret G A nL) {a k idx ci N T : Nat} {Cn : String} {TT : u_T} {tyy : Nat → FieldType} {x : Option Nat} (ck : Ck ci Cn TT N tyy) (d : decode cc pc = .ok (.getfield idx, 3)) (lk : Cond.fieldLink y.cls idx (TT k).1 (TT k).2.1 (TT k).2.2.1 ∈ lw_g) (hk : k < N) (ha : ty L cl a T) (hT : kd T = ci) (hN : nf ci = N) (h13 : ci < 13) (hr : rf ci k = true) (hx : rv a k = x) (kk : cw p l e d0 r0 s m args below meth c G A nL Q Pf ph L cl ln iv rv K (pc + 3) lv (va_rf x :: st)) : cw p l e d0 r0 s m args below meth c G A nL Q Pf ph L cl ln iv rv K pc lv (.ref a :: st) := fun u hu kc ks hh => q_get (k := k) C ck d lk hk ha.1 (enc_ob ha hT hN h13) (by rw [ofv_r hr, hx]) (kk u hu kc ks hh)
theorem c_put (C : Cq p s m args meth c cc y ret G A nL) {a k idx ci N T : Nat} {Cn : String} {TT : u_T} {tyy : Nat → FieldType} {z : Int} (ck : Ck ci Cn TT N tyy) (d : decode cc pc = .ok (.putfield idx, 3)) (lk : Cond.fieldLink y.cls idx (TT k).1 (TT k).2.1 (TT k).2.2.1 ∈ lw_g) (hk : k < N) (hfin : (TT k).2.2.2 = false) (ha : ty L cl a T) (hT : kd T = ci) (hN : nf ci = N) (h13 : ci < 13) (hr : rf ci k = false) (hn : narrow (tyy k) (.int (iI z)) = .int (iI z)) (hfit : fits (tyy k) (.int (iI z)) = true) (kk : ∀ iv2, iv2 = up2 iv a k z → cw p l e d0 r0 s m args below meth c G A nL Q Pf ph L cl ln iv2 rv K (pc + 3) lv st) : cw p l e d0 r0 s m args below meth c G A nL Q Pf ph L cl ln iv rv K pc lv (.int (iI z) :: .ref a :: st) := fun u hu kc ks hh => q_put (k := k) C ck d lk hk hfin ha.1 (enc_ob ha hT hN h13) hn hfit (by rw [enc_put ha hT hN h13 hr]; exact kk _ rfl u hu kc ks hh)
theorem c_putF (C : Cq p s m args meth c cc y ret G A nL) {a k idx ci N T : Nat} {Cn : String} {TT : u_T} {tyy : Nat → FieldType} {z : Int} (ck : Ck ci Cn TT N tyy) (d : decode cc pc = .ok (.putfield idx, 3)) (lk : Cond.fieldLink y.cls idx (TT k).1 (TT k).2.1 (TT k).2.2.1 ∈ lw_g) (hk : k < N) (hfin : (TT k).2.2.2 = true) (hi : y.name = "<init>") (hd : (TT k).1 = y.cls) (ha : ty L cl a T) (hT : kd T = ci) (hN : nf ci = N) (h13 : ci < 13) (hr : rf ci k = false) (hn : narrow (tyy k) (.int (iI z)) = .int (iI z)) (hfit : fits (tyy k) (.int (iI z)) = true) (kk : ∀ iv2, iv2 = up2 iv a k z → cw p l e d0 r0 s m args below meth c G A nL Q Pf ph L cl ln iv2 rv K (pc + 3) lv st) : cw p l e d0 r0 s m args below meth c G A nL Q Pf ph L cl ln iv rv K pc lv (.int (iI z) :: .ref a :: st) := fun u hu kc ks hh => q_putF (k := k) C ck d lk hk hfin hi hd ha.1 (enc_ob ha hT hN h13) hn hfit (by rw [enc_put ha hT hN h13 hr]; exact kk _ rfl u hu kc ks hh)
theorem c_putrF (C : Cq p s m args meth c cc y ret G A nL) {a k idx ci N T : Nat} {Cn : String} {TT : u_T} {tyy : Nat → FieldType} {x : Option Nat} (ck : Ck ci Cn TT N tyy) (d : decode cc pc = .ok (.putfield idx, 3)) (lk : Cond.fieldLink y.cls idx (TT k).1 (TT k).2.1 (TT k).2.2.1 ∈ lw_g) (hk : k < N) (hfin : (TT k).2.2.2 = true) (hi : y.name = "<init>") (hd : (TT k).1 = y.cls) (ha : ty L cl a T) (hT : kd T = ci) (hN : nf ci = N) (h13 : ci < 13) (hr : rf ci k = true) (hn : narrow (tyy k) (va_rf x) = va_rf x) (hfit : fits (tyy k) (va_rf x) = true) (kk : ∀ rv2, rv2 = upr rv a k x → ∃ K2 : Nat, Pf ln rv + K ≤ Pf ln rv2 + K2 ∧ cw p l e d0 r0 s m args below meth c G A nL Q Pf ph L cl ln iv rv2 K2 (pc + 3) lv st) : cw p l e d0 r0 s m args below meth c G A nL Q Pf ph L cl ln iv rv K pc lv (va_rf x :: .ref a :: st) := fun u hu kc ks hh => q_putF (k := k) C ck d lk hk hfin hi hd ha.1 (enc_ob ha hT hN h13) hn hfit (by rw [enc_putr ha hT hN h13 hr]; obtain ⟨K2, h1, h2⟩ := kk _ rfl; exact h2 u (by omega) kc ks hh)
theorem c_putr (C : Cq p s m args meth c cc y ret G A nL) {a k idx ci N T : Nat} {Cn : String} {TT : u_T} {tyy : Nat → FieldType} {x : Option Nat} (ck : Ck ci Cn TT N tyy) (d : decode cc pc = .ok (.putfield idx, 3)) (lk : Cond.fieldLink y.cls idx (TT k).1 (TT k).2.1 (TT k).2.2.1 ∈ lw_g) (hk : k < N) (hfin : (TT k).2.2.2 = false) (ha : ty L cl a T) (hT : kd T = ci) (hN : nf ci = N) (h13 : ci < 13) (hr : rf ci k = true) (hn : narrow (tyy k) (va_rf x) = va_rf x) (hfit : fits (tyy k) (va_rf x) = true) (kk : ∀ rv2, rv2 = upr rv a k x → ∃ K2 : Nat, Pf ln rv + K ≤ Pf ln rv2 + K2 ∧ cw p l e d0 r0 s m args below meth c G A nL Q Pf ph L cl ln iv rv2 K2 (pc + 3) lv st) : cw p l e d0 r0 s m args below meth c G A nL Q Pf ph L cl ln iv rv K pc lv (va_rf x :: .ref a :: st) := fun u hu kc ks hh => q_put (k := k) C ck d lk hk hfin ha.1 (enc_ob ha hT hN h13) hn hfit (by rw [enc_putr ha hT hN h13 hr]; obtain ⟨K2, h1, h2⟩ := kk _ rfl; exact h2 u (by omega) kc ks hh)
theorem c_iald (C : Cq p s m args meth c cc y ret G A nL) {a T : Nat} {z : Int} (d : decode cc pc = .ok (.iaload, 1)) (ha : ty L cl a T) (hT : kd T = 20) (h1 : 0 ≤ z) (h2 : z < (ln a : Nat)) (hm : ln a ≤ 1000000) (kk : cw p l e d0 r0 s m args below meth c G A nL Q Pf ph L cl ln iv rv K (pc + 1) lv (.int (iI (iv a z.toNat)) :: st)) : cw p l e d0 r0 s m args below meth c G A nL Q Pf ph L cl ln iv rv K pc lv (.int (iI z) :: .ref a :: st) := fun u hu kc ks hh => q_iald C d ha.1 (enc_I ha hT) (iI_in ⟨by omega, by omega⟩ h1 h2) (by rw [iI_cl ⟨by omega, by omega⟩]) (kk u hu kc ks hh)
theorem c_zald (C : Cq p s m args meth c cc y ret G A nL) {a T : Nat} {z : Int} (d : decode cc pc = .ok (.baload, 1)) (ha : ty L cl a T) (hT : kd T = 21) (h1 : 0 ≤ z) (h2 : z < (ln a : Nat)) (hm : ln a ≤ 1000000) (kk : cw p l e d0 r0 s m args below meth c G A nL Q Pf ph L cl ln iv rv K (pc + 1) lv (.int (iI (iv a z.toNat)) :: st)) : cw p l e d0 r0 s m args below meth c G A nL Q Pf ph L cl ln iv rv K pc lv (.int (iI z) :: .ref a :: st) := fun u hu kc ks hh => q_zald C d ha.1 (enc_Z ha hT) (iI_in ⟨by omega, by omega⟩ h1 h2) (by rw [iI_cl ⟨by omega, by omega⟩]) (kk u hu kc ks hh)
theorem c_iast (C : Cq p s m args meth c cc y ret G A nL) {a T : Nat} {z x : Int} (d : decode cc pc = .ok (.iastore, 1)) (ha : ty L cl a T) (hT : kd T = 20) (h1 : 0 ≤ z) (h2 : z < (ln a : Nat)) (hm : ln a ≤ 1000000) (kk : ∀ iv2, iv2 = up2 iv a z.toNat x → cw p l e d0 r0 s m args below meth c G A nL Q Pf ph L cl ln iv2 rv K (pc + 1) lv st) : cw p l e d0 r0 s m args below meth c G A nL Q Pf ph L cl ln iv rv K pc lv (.int (iI x) :: .int (iI z) :: .ref a :: st) := by
  intro u hu kc ks hh
  refine q_iast C d ha.1 (enc_I ha hT) (iI_in ⟨by omega, by omega⟩ h1 h2) ?_
  rw [iI_cl ⟨by omega, by omega⟩]
  have e : upd (fun j => iI (iv a j)) z.toNat (iI x) = fun j => if j = z.toNat then iI x else iI (iv a j) := by funext j; unfold upd; rfl
  rw [e, enc_ast ha hT]
  exact kk _ rfl u hu kc ks hh
theorem c_zast (C : Cq p s m args meth c cc y ret G A nL) {a T : Nat} {z x : Int} (d : decode cc pc = .ok (.bastore, 1)) (ha : ty L cl a T) (hT : kd T = 21) (h1 : 0 ≤ z) (h2 : z < (ln a : Nat)) (hm : ln a ≤ 1000000) (hx : x = 0 ∨ x = 1) (kk : ∀ iv2, iv2 = up2 iv a z.toNat x → cw p l e d0 r0 s m args below meth c G A nL Q Pf ph L cl ln iv2 rv K (pc + 1) lv st) : cw p l e d0 r0 s m args below meth c G A nL Q Pf ph L cl ln iv rv K pc lv (.int (iI x) :: .int (iI z) :: .ref a :: st) := by
  intro u hu kc ks hh
  refine q_zast2 C d ha.1 (enc_Z ha hT) (iI_in ⟨by omega, by omega⟩ h1 h2) ?_
  rw [iI_cl ⟨by omega, by omega⟩, nar_b hx]
  have e : upd (fun j => iI (iv a j)) z.toNat (iI x) = fun j => if j = z.toNat then iI x else iI (iv a j) := by funext j; unfold upd; rfl
  rw [e, enc_zst ha hT]
  exact kk _ rfl u hu kc ks hh
theorem c_alenI (C : Cq p s m args meth c cc y ret G A nL) {a T : Nat} (d : decode cc pc = .ok (.arraylength, 1)) (ha : ty L cl a T) (hT : kd T = 20) (kk : cw p l e d0 r0 s m args below meth c G A nL Q Pf ph L cl ln iv rv K (pc + 1) lv (.int (iI ((ln a : Nat) : Int)) :: st)) : cw p l e d0 r0 s m args below meth c G A nL Q Pf ph L cl ln iv rv K pc lv (.ref a :: st) := fun u hu kc ks hh => q_alenI C d ha.1 (enc_I ha hT) Int32.ofInt_eq_ofNat.symm (kk u hu kc ks hh)
theorem c_alenO (C : Cq p s m args meth c cc y ret G A nL) {a T : Nat} (d : decode cc pc = .ok (.arraylength, 1)) (ha : ty L cl a T) (hT : kd T = 24) (kk : cw p l e d0 r0 s m args below meth c G A nL Q Pf ph L cl ln iv rv K (pc + 1) lv (.int (iI ((ln a : Nat) : Int)) :: st)) : cw p l e d0 r0 s m args below meth c G A nL Q Pf ph L cl ln iv rv K pc lv (.ref a :: st) := fun u hu kc ks hh => q_alenO C d ha.1 (enc_O ha hT) Int32.ofInt_eq_ofNat.symm (kk u hu kc ks hh)
theorem c_aaldL (C : Cq p s m args meth c cc y ret G A nL) {a T : Nat} {z : Int} {x : Option Nat} (d : decode cc pc = .ok (.aaload, 1)) (ha : ty L cl a T) (hT : kd T = 22) (h1 : 0 ≤ z) (h2 : z < (ln a : Nat)) (hm : ln a ≤ 1000000) (hx : rv a z.toNat = x) (kk : cw p l e d0 r0 s m args below meth c G A nL Q Pf ph L cl ln iv rv K (pc + 1) lv (va_rf x :: st)) : cw p l e d0 r0 s m args below meth c G A nL Q Pf ph L cl ln iv rv K pc lv (.int (iI z) :: .ref a :: st) := fun u hu kc ks hh => q_aaldL C d ha.1 (enc_L ha hT) (iI_in ⟨by omega, by omega⟩ h1 h2) (by rw [iI_cl ⟨by omega, by omega⟩, hx]) (kk u hu kc ks hh)
theorem c_aaldR (C : Cq p s m args meth c cc y ret G A nL) {a T : Nat} {z : Int} {x : Option Nat} (d : decode cc pc = .ok (.aaload, 1)) (ha : ty L cl a T) (hT : kd T = 23) (h1 : 0 ≤ z) (h2 : z < (ln a : Nat)) (hm : ln a ≤ 1000000) (hx : rv a z.toNat = x) (kk : cw p l e d0 r0 s m args below meth c G A nL Q Pf ph L cl ln iv rv K (pc + 1) lv (va_rf x :: st)) : cw p l e d0 r0 s m args below meth c G A nL Q Pf ph L cl ln iv rv K pc lv (.int (iI z) :: .ref a :: st) := fun u hu kc ks hh => q_aaldR C d ha.1 (enc_R ha hT) (iI_in ⟨by omega, by omega⟩ h1 h2) (by rw [iI_cl ⟨by omega, by omega⟩, hx]) (kk u hu kc ks hh)
theorem c_aaldO (C : Cq p s m args meth c cc y ret G A nL) {a T : Nat} {z : Int} {x : Option Nat} (d : decode cc pc = .ok (.aaload, 1)) (ha : ty L cl a T) (hT : kd T = 24) (h1 : 0 ≤ z) (h2 : z < (ln a : Nat)) (hm : ln a ≤ 1000000) (hx : rv a z.toNat = x) (kk : cw p l e d0 r0 s m args below meth c G A nL Q Pf ph L cl ln iv rv K (pc + 1) lv (va_rf x :: st)) : cw p l e d0 r0 s m args below meth c G A nL Q Pf ph L cl ln iv rv K pc lv (.int (iI z) :: .ref a :: st) := fun u hu kc ks hh => q_aaldO C d ha.1 (enc_O ha hT) (iI_in ⟨by omega, by omega⟩ h1 h2) (by rw [iI_cl ⟨by omega, by omega⟩, hx]) (kk u hu kc ks hh)
end CQ
section CQ2
variable {p : Program} {l : Launch} {e : Env} {s : State} {m : MethodId} {args : Array Value} {below : List Frame} {meth : Method} {c : Code} {cc : ByteArray} {y : MethodName} {ret : Option FieldType} {G : GT} {A : Nat → Prop} {nL mi : Nat} {Q : State → Prop} {L : List Nat} {E : Nat → va_E} {R : Room} {kc ks pc : Nat} {lv : List (Nat × Value)} {st : List Value}
theorem q_aastN (C : Cq p s m args meth c cc y ret G A nL) {a n t0 : Nat} {Cn : String} {cA : ClassId} {f : Nat → Option Nat} {i : Int32} (d : decode cc pc = .ok (.aastore, 1)) (ha : a ∈ L) (ht : (gT G)[t0]? = some (cA, .object Cn)) (hE : E a = .inl (cA, n, .inr (.inr (.inr (.inr f))))) (hin : vp_in i n) (kk : wq p l e R s m args below meth c G A nL Q L (va_up E a (.inl (cA, n, .inr (.inr (.inr (.inr (va_up f i.toNatClampNeg none))))))) kc ks (pc + 1) lv st) : wq p l e R s m args below meth c G A nL Q L E kc ks pc lv (.null :: .int i :: .ref a :: st) := by
  intro H locs ls hP hD hS hl
  obtain ⟨q0, hq⟩ := pl_at (E := E) ha
  refine va_astqN C.1 C.2.1 C.2.2.2.2.2.1 hP hD hS q0 t0 (by rw [hq, hE]) ht hin d (fun H1 locs1 hP1 hD1 hS1 => ?_)
  rw [pl_set hD ha hq] at hP1 hD1
  exact kk H1 locs1 ls hP1 hD1 hS1 hl
theorem q_aastC (C : Cq p s m args meth c cc y ret G A nL) {a b n t0 ci N : Nat} {cA : ClassId} {Cn : String} {TT : u_T} {tyy : Nat → FieldType} {f : Nat → Option Nat} {g : Nat → Value} {i : Int32} (ck : Ck ci Cn TT N tyy) (d : decode cc pc = .ok (.aastore, 1)) (ha : a ∈ L) (ht : (gT G)[t0]? = some (cA, .object Cn)) (hE : E a = .inl (cA, n, .inr (.inr (.inr (.inr f))))) (hb : b ∈ L) (hEb : E b = ob ci N g) (hin : vp_in i n) (kk : wq p l e R s m args below meth c G A nL Q L (va_up E a (.inl (cA, n, .inr (.inr (.inr (.inr (va_up f i.toNatClampNeg (some b)))))))) kc ks (pc + 1) lv st) : wq p l e R s m args below meth c G A nL Q L E kc ks pc lv (.ref b :: .int i :: .ref a :: st) := by
  intro H locs ls hP hD hS hl
  obtain ⟨q0, hq⟩ := pl_at (E := E) ha
  obtain ⟨q1, hq1⟩ := pl_at (E := E) hb
  refine va_astq C.1 C.2.1 C.2.2.2.2.2.1 hP hD hS q0 t0 q1 ci (r := (Cn, TT, N)) (by rw [hq, hE]) ht (by rw [hq1, hEb]; rfl) ck.1 hin d (fun H1 locs1 hP1 hD1 hS1 => ?_)
  rw [pl_set hD ha hq] at hP1 hD1
  exact kk H1 locs1 ls hP1 hD1 hS1 hl
end CQ2
section CQ3
variable {p : Program} {l : Launch} {e : Env} {d0 r0 : Nat} {s : State} {m : MethodId} {args : Array Value} {below : List Frame} {meth : Method} {c : Code} {cc : ByteArray} {y : MethodName} {ret : Option FieldType} {G : GT} {A : Nat → Prop} {nL mi : Nat} {Q : State → Prop} {Pf : PF} {ph : Nat} {L : List Nat} {cl ln : Nat → Nat} {iv : Nat → Nat → Int} {rv : Nat → Nat → Option Nat} {K pc : Nat} {lv : List (Nat × Value)} {st : List Value}
theorem c_aastL (C : Cq p s m args meth c cc y ret G A nL) {a b T T2 ci N : Nat} {z : Int} {TT : u_T} {tyy : Nat → FieldType} (ck : Ck ci RX2 TT N tyy) (d : decode cc pc = .ok (.aastore, 1)) (ha : ty L cl a T) (hT : kd T = 22) (hb : ty L cl b T2) (hT2 : kd T2 = ci) (hN : nf ci = N) (h13 : ci < 13) (h1 : 0 ≤ z) (h2 : z < (ln a : Nat)) (hm : ln a ≤ 1000000) (kk : ∀ rv2, rv2 = upr rv a z.toNat (some b) → ∃ K2 : Nat, Pf ln rv + K ≤ Pf ln rv2 + K2 ∧ cw p l e d0 r0 s m args below meth c G A nL Q Pf ph L cl ln iv rv2 K2 (pc + 1) lv st) : cw p l e d0 r0 s m args below meth c G A nL Q Pf ph L cl ln iv rv K pc lv (.ref b :: .int (iI z) :: .ref a :: st) := by
  intro u hu kc ks hh
  refine q_aastC (t0 := 2) (cA := G.2.2.2.1) C ck d ha.1 rfl (enc_L ha hT) hb.1 (enc_ob hb hT2 hN h13) (iI_in ⟨by omega, by omega⟩ h1 h2) ?_
  rw [iI_cl ⟨by omega, by omega⟩]
  obtain ⟨K2, g1, g2⟩ := kk _ rfl
  refine hv2 (enc_rst (G := G) (cl := cl) (ln := ln) (iv := iv) (rv := rv) (k := z.toNat) (x := some b) (mk := fun f => aL G (ln a) f) (fun r2 => enc_L (rv := r2) ha hT)) (show aL G (ln a) (va_up (rv a) z.toNat (some b)) = Sum.inl (G.2.2.2.1, ln a, .inr (.inr (.inr (.inr (va_up (rv a) z.toNat (some b)))))) from rfl) (fun e e2 => ?_)
  rw [← e2, e]
  exact g2 u (by omega) kc ks hh
theorem c_aastR (C : Cq p s m args meth c cc y ret G A nL) {a b T T2 ci N : Nat} {z : Int} {TT : u_T} {tyy : Nat → FieldType} (ck : Ck ci RX5 TT N tyy) (d : decode cc pc = .ok (.aastore, 1)) (ha : ty L cl a T) (hT : kd T = 23) (hb : ty L cl b T2) (hT2 : kd T2 = ci) (hN : nf ci = N) (h13 : ci < 13) (h1 : 0 ≤ z) (h2 : z < (ln a : Nat)) (hm : ln a ≤ 1000000) (kk : ∀ rv2, rv2 = upr rv a z.toNat (some b) → ∃ K2 : Nat, Pf ln rv + K ≤ Pf ln rv2 + K2 ∧ cw p l e d0 r0 s m args below meth c G A nL Q Pf ph L cl ln iv rv2 K2 (pc + 1) lv st) : cw p l e d0 r0 s m args below meth c G A nL Q Pf ph L cl ln iv rv K pc lv (.ref b :: .int (iI z) :: .ref a :: st) := by
  intro u hu kc ks hh
  refine q_aastC (t0 := 3) (cA := G.2.2.2.2.1) C ck d ha.1 rfl (enc_R ha hT) hb.1 (enc_ob hb hT2 hN h13) (iI_in ⟨by omega, by omega⟩ h1 h2) ?_
  rw [iI_cl ⟨by omega, by omega⟩]
  obtain ⟨K2, g1, g2⟩ := kk _ rfl
  refine hv2 (enc_rst (G := G) (cl := cl) (ln := ln) (iv := iv) (rv := rv) (k := z.toNat) (x := some b) (mk := fun f => aR G (ln a) f) (fun r2 => enc_R (rv := r2) ha hT)) (show aR G (ln a) (va_up (rv a) z.toNat (some b)) = Sum.inl (G.2.2.2.2.1, ln a, .inr (.inr (.inr (.inr (va_up (rv a) z.toNat (some b)))))) from rfl) (fun e e2 => ?_)
  rw [← e2, e]
  exact g2 u (by omega) kc ks hh
theorem c_aastNR (C : Cq p s m args meth c cc y ret G A nL) {a T : Nat} {z : Int} (d : decode cc pc = .ok (.aastore, 1)) (ha : ty L cl a T) (hT : kd T = 23) (h1 : 0 ≤ z) (h2 : z < (ln a : Nat)) (hm : ln a ≤ 1000000) (kk : ∀ rv2, rv2 = upr rv a z.toNat none → ∃ K2 : Nat, Pf ln rv + K ≤ Pf ln rv2 + K2 ∧ cw p l e d0 r0 s m args below meth c G A nL Q Pf ph L cl ln iv rv2 K2 (pc + 1) lv st) : cw p l e d0 r0 s m args below meth c G A nL Q Pf ph L cl ln iv rv K pc lv (.null :: .int (iI z) :: .ref a :: st) := by
  intro u hu kc ks hh
  refine q_aastN (t0 := 3) (cA := G.2.2.2.2.1) (Cn := RX5) C d ha.1 rfl (enc_R ha hT) (iI_in ⟨by omega, by omega⟩ h1 h2) ?_
  rw [iI_cl ⟨by omega, by omega⟩]
  obtain ⟨K2, g1, g2⟩ := kk _ rfl
  refine hv2 (enc_rst (G := G) (cl := cl) (ln := ln) (iv := iv) (rv := rv) (k := z.toNat) (x := none) (mk := fun f => aR G (ln a) f) (fun r2 => enc_R (rv := r2) ha hT)) (show aR G (ln a) (va_up (rv a) z.toNat none) = Sum.inl (G.2.2.2.2.1, ln a, .inr (.inr (.inr (.inr (va_up (rv a) z.toNat none))))) from rfl) (fun e e2 => ?_)
  rw [← e2, e]
  exact g2 u (by omega) kc ks hh
theorem c_aastO (C : Cq p s m args meth c cc y ret G A nL) {a b T T2 ci N : Nat} {z : Int} {Cn : String} {TT : u_T} {tyy : Nat → FieldType} (ck : Ck ci Cn TT N tyy) (hc : Cond.castable Cn "java/lang/Object" ∈ lw_tbl) (d : decode cc pc = .ok (.aastore, 1)) (ha : ty L cl a T) (hT : kd T = 24) (hb : ty L cl b T2) (hT2 : kd T2 = ci) (hN : nf ci = N) (h13 : ci < 13) (h1 : 0 ≤ z) (h2 : z < (ln a : Nat)) (hm : ln a ≤ 1000000) (kk : ∀ rv2, rv2 = upr rv a z.toNat (some b) → ∃ K2 : Nat, Pf ln rv + K ≤ Pf ln rv2 + K2 ∧ cw p l e d0 r0 s m args below meth c G A nL Q Pf ph L cl ln iv rv2 K2 (pc + 1) lv st) : cw p l e d0 r0 s m args below meth c G A nL Q Pf ph L cl ln iv rv K pc lv (.ref b :: .int (iI z) :: .ref a :: st) := by
  intro u hu kc ks hh
  refine q_aastO C ck d hc ha.1 (enc_O ha hT) hb.1 (enc_ob hb hT2 hN h13) (iI_in ⟨by omega, by omega⟩ h1 h2) ?_
  rw [iI_cl ⟨by omega, by omega⟩]
  obtain ⟨K2, g1, g2⟩ := kk _ rfl
  rw [enc_rst (G := G) (cl := cl) (ln := ln) (iv := iv) (rv := rv) (k := z.toNat) (x := some b) (mk := fun f => aO G (ln a) f) (fun r2 => enc_O (rv := r2) ha hT)]
  exact g2 u (by omega) kc ks hh
theorem c_aastNO (C : Cq p s m args meth c cc y ret G A nL) {a T : Nat} {z : Int} (d : decode cc pc = .ok (.aastore, 1)) (ha : ty L cl a T) (hT : kd T = 24) (h1 : 0 ≤ z) (h2 : z < (ln a : Nat)) (hm : ln a ≤ 1000000) (kk : ∀ rv2, rv2 = upr rv a z.toNat none → ∃ K2 : Nat, Pf ln rv + K ≤ Pf ln rv2 + K2 ∧ cw p l e d0 r0 s m args below meth c G A nL Q Pf ph L cl ln iv rv2 K2 (pc + 1) lv st) : cw p l e d0 r0 s m args below meth c G A nL Q Pf ph L cl ln iv rv K pc lv (.null :: .int (iI z) :: .ref a :: st) := by
  intro u hu kc ks hh
  refine q_aastN (t0 := 4) (cA := G.2.2.2.2.2.1) (Cn := "java/lang/Object") C d ha.1 rfl (enc_O ha hT) (iI_in ⟨by omega, by omega⟩ h1 h2) ?_
  rw [iI_cl ⟨by omega, by omega⟩]
  obtain ⟨K2, g1, g2⟩ := kk _ rfl
  refine hv2 (enc_rst (G := G) (cl := cl) (ln := ln) (iv := iv) (rv := rv) (k := z.toNat) (x := none) (mk := fun f => aO G (ln a) f) (fun r2 => enc_O (rv := r2) ha hT)) (show aO G (ln a) (va_up (rv a) z.toNat none) = Sum.inl (G.2.2.2.2.2.1, ln a, .inr (.inr (.inr (.inr (va_up (rv a) z.toNat none))))) from rfl) (fun e e2 => ?_)
  rw [← e2, e]
  exact g2 u (by omega) kc ks hh
theorem c_cast (C : Cq p s m args meth c cc y ret G A nL) {a T ci N idx : Nat} {Cn nm : String} {TT : u_T} {tyy : Nat → FieldType} (ck : Ck ci Cn TT N tyy) (d : decode cc pc = .ok (.checkcast idx, 3)) (lk : Cond.classLink y.cls idx nm ∈ lw_g) (hc : Cond.castable Cn nm ∈ lw_tbl) (ha : ty L cl a T) (hT : kd T = ci) (hN : nf ci = N) (h13 : ci < 13) (kk : cw p l e d0 r0 s m args below meth c G A nL Q Pf ph L cl ln iv rv K (pc + 3) lv (.ref a :: st)) : cw p l e d0 r0 s m args below meth c G A nL Q Pf ph L cl ln iv rv K pc lv (.ref a :: st) := by
  intro u hu kc ks hh H locs ls hP hD hS hl
  obtain ⟨q0, hq⟩ := pl_at (E := enc G cl ln iv rv) ha.1
  exact va_castY C.1 C.2.1 C.2.2.2.1 (C.2.2.2.2.1 _ lk) (C.2.2.2.2.2.2.2.2.2.2.2.2.1 _ _ hc) (va_recv C.2.2.2.2.2.1 hP (ci := ci) (q0 := q0) ck.1 (by rw [hq, enc_ob ha hT hN h13]; rfl)) d (kk u hu kc ks hh H locs ls hP hD hS hl)
theorem c_tabIn (C : Cq p s m args meth c cc y ret G A nL) {dflt lo hi z off : Int} {offs : Array Int} {len tgt : Nat} (hz : R32 z) (d : decode cc pc = .ok (.tableswitch dflt lo hi offs, len)) (h1 : ¬ z < lo) (h2 : ¬ hi < z) (ho : offs[(z - lo).toNat]? = some off) (ht : (pc : Int) + off = (tgt : Int)) (k : cw p l e d0 r0 s m args below meth c G A nL Q Pf ph L cl ln iv rv K tgt lv st) : cw p l e d0 r0 s m args below meth c G A nL Q Pf ph L cl ln iv rv K pc lv (.int (iI z) :: st) := fun uu huu kc ks hkk H locs ls hP hD hS hl => lv_tableIn C.1 C.2.1 d (by rw [iI_int hz]; exact h1) (by rw [iI_int hz]; exact h2) (by rw [iI_int hz]; exact ho) ht (k uu huu kc ks hkk H locs ls hP hD hS hl)
theorem c_tabOut (C : Cq p s m args meth c cc y ret G A nL) {dflt lo hi z : Int} {offs : Array Int} {len tgt : Nat} (hz : R32 z) (d : decode cc pc = .ok (.tableswitch dflt lo hi offs, len)) (h1 : z < lo ∨ hi < z) (ht : (pc : Int) + dflt = (tgt : Int)) (k : cw p l e d0 r0 s m args below meth c G A nL Q Pf ph L cl ln iv rv K tgt lv st) : cw p l e d0 r0 s m args below meth c G A nL Q Pf ph L cl ln iv rv K pc lv (.int (iI z) :: st) := fun uu huu kc ks hkk H locs ls hP hD hS hl => lv_tableOut C.1 C.2.1 d (by rw [iI_int hz]; exact h1) ht (k uu huu kc ks hkk H locs ls hP hD hS hl)
theorem c_dup_x1 (C : Cq p s m args meth c cc y ret G A nL) {v w : Value} (d : decode cc pc = .ok (.dup_x1, 1)) (hv : v.category = 1) (hw : w.category = 1) (k : cw p l e d0 r0 s m args below meth c G A nL Q Pf ph L cl ln iv rv K (pc + 1) lv (v :: w :: v :: st)) : cw p l e d0 r0 s m args below meth c G A nL Q Pf ph L cl ln iv rv K pc lv (v :: w :: st) := fun u hu kc ks hk => q_dup_x1 C d hv hw (k u hu kc ks hk)
theorem c_acmp_eq (C : Cq p s m args meth c cc y ret G A nL) {rx ry : Option Nat} {off : Int} {tgt : Nat} (d : decode cc pc = .ok (.if_acmp .eq off, 3)) (ht : (pc : Int) + off = (tgt : Int)) (kt : rx = ry → cw p l e d0 r0 s m args below meth c G A nL Q Pf ph L cl ln iv rv K tgt lv st) (kf : ¬ rx = ry → cw p l e d0 r0 s m args below meth c G A nL Q Pf ph L cl ln iv rv K (pc + 3) lv st) : cw p l e d0 r0 s m args below meth c G A nL Q Pf ph L cl ln iv rv K pc lv (va_rf ry :: va_rf rx :: st) := fun u hu kc ks hk => q_acmp_eq C d ht (fun h => kt h u hu kc ks hk) (fun h => kf h u hu kc ks hk)
theorem c_acmp_ne (C : Cq p s m args meth c cc y ret G A nL) {rx ry : Option Nat} {off : Int} {tgt : Nat} (d : decode cc pc = .ok (.if_acmp .ne off, 3)) (ht : (pc : Int) + off = (tgt : Int)) (kt : ¬ rx = ry → cw p l e d0 r0 s m args below meth c G A nL Q Pf ph L cl ln iv rv K tgt lv st) (kf : rx = ry → cw p l e d0 r0 s m args below meth c G A nL Q Pf ph L cl ln iv rv K (pc + 3) lv st) : cw p l e d0 r0 s m args below meth c G A nL Q Pf ph L cl ln iv rv K pc lv (va_rf ry :: va_rf rx :: st) := fun u hu kc ks hk => q_acmp_ne C d ht (fun h => kt h u hu kc ks hk) (fun h => kf h u hu kc ks hk)
theorem c_ifnull (C : Cq p s m args meth c cc y ret G A nL) {r : Option Nat} {off : Int} {tgt : Nat} (d : decode cc pc = .ok (.ifnull off, 3)) (ht : (pc : Int) + off = (tgt : Int)) (kt : r = none → cw p l e d0 r0 s m args below meth c G A nL Q Pf ph L cl ln iv rv K tgt lv st) (kf : ∀ b, r = some b → cw p l e d0 r0 s m args below meth c G A nL Q Pf ph L cl ln iv rv K (pc + 3) lv st) : cw p l e d0 r0 s m args below meth c G A nL Q Pf ph L cl ln iv rv K pc lv (va_rf r :: st) := by
  cases r with
  | none => exact fun u hu kc ks hk => q_ifnullN C d ht (kt rfl u hu kc ks hk)
  | some x => exact fun u hu kc ks hk => q_ifnull C d (kf x rfl u hu kc ks hk)
theorem c_ifnonnull (C : Cq p s m args meth c cc y ret G A nL) {r : Option Nat} {off : Int} {tgt : Nat} (d : decode cc pc = .ok (.ifnonnull off, 3)) (ht : (pc : Int) + off = (tgt : Int)) (kt : ∀ b, r = some b → cw p l e d0 r0 s m args below meth c G A nL Q Pf ph L cl ln iv rv K tgt lv st) (kf : r = none → cw p l e d0 r0 s m args below meth c G A nL Q Pf ph L cl ln iv rv K (pc + 3) lv st) : cw p l e d0 r0 s m args below meth c G A nL Q Pf ph L cl ln iv rv K pc lv (va_rf r :: st) := by
  cases r with
  | none => exact fun u hu kc ks hk => q_ifnonnullN C d (kf rfl u hu kc ks hk)
  | some x => exact fun u hu kc ks hk => q_ifnonnull C d ht (kt x rfl u hu kc ks hk)
theorem c_gets (C : Cq p s m args meth c cc y ret G A nL) {idx : Nat} (d : decode cc pc = .ok (.getstatic idx, 3)) (lk : Cond.fieldLink y.cls idx "java/util/ArrayList" "DEFAULTCAPACITY_EMPTY_ELEMENTDATA" "[Ljava/lang/Object;" ∈ lw_g) (k : cw p l e d0 r0 s m args below meth c G A nL Q Pf ph L cl ln iv rv K (pc + 3) lv (.ref (g0 G) :: st)) : cw p l e d0 r0 s m args below meth c G A nL Q Pf ph L cl ln iv rv K pc lv st := fun u hu kc ks hk => q_gets C d lk (k u hu kc ks hk)
theorem c_tlen (C : Cq p s m args meth c cc y ret G A nL) (d : decode cc pc = .ok (.arraylength, 1)) (k : cw p l e d0 r0 s m args below meth c G A nL Q Pf ph L cl ln iv rv K (pc + 1) lv (.int (iI 0) :: st)) : cw p l e d0 r0 s m args below meth c G A nL Q Pf ph L cl ln iv rv K pc lv (.ref (g0 G) :: st) := fun u hu kc ks hk => q_tlen C d (k u hu kc ks hk)
theorem c_mmax (C : Cq p s m args meth c cc y ret G A nL) {idx : Nat} {x y2 w : Int32} (d : decode cc pc = .ok (.invokestatic idx, 3)) (lk : Cond.methodLink y.cls idx Lib.Math.max.name ∈ lw_g) (h1 : Cond.static Lib.Math.max.name ∈ lw_g) (h2 : Cond.initialized "java/lang/Math" ∈ lw_g) (h3 : Cond.code Lib.Math.max.name Lib.Math.max.code 2 (some .int) ∈ lw_g) (hd : 1 ≤ d0) (hro : Pf ln rv + K ≤ r0 + ph) (hst : (st.map fun v => v.category).sum ≤ 8) (hv : (if x < y2 then y2 else x) = w) (kk : cw p l e d0 r0 s m args below meth c G A nL Q Pf ph L cl ln iv rv K (pc + 3) lv (.int w :: st)) : cw p l e d0 r0 s m args below meth c G A nL Q Pf ph L cl ln iv rv K pc lv (.int y2 :: .int x :: st) := fun u hu kc ks hk => q_mmax C d lk h1 h2 h3 ⟨hd, by show 21 ≤ 64 * d0; omega⟩ (u_wid hk (by omega)) hst hv (kk u hu kc ks hk)
theorem c_mmin (C : Cq p s m args meth c cc y ret G A nL) {idx : Nat} {x y2 w : Int32} (d : decode cc pc = .ok (.invokestatic idx, 3)) (lk : Cond.methodLink y.cls idx Lib.Math.min.name ∈ lw_g) (h1 : Cond.static Lib.Math.min.name ∈ lw_g) (h2 : Cond.initialized "java/lang/Math" ∈ lw_g) (h3 : Cond.code Lib.Math.min.name Lib.Math.min.code 2 (some .int) ∈ lw_g) (hd : 1 ≤ d0) (hro : Pf ln rv + K ≤ r0 + ph) (hst : (st.map fun v => v.category).sum ≤ 8) (hv : (if y2 < x then y2 else x) = w) (kk : cw p l e d0 r0 s m args below meth c G A nL Q Pf ph L cl ln iv rv K (pc + 3) lv (.int w :: st)) : cw p l e d0 r0 s m args below meth c G A nL Q Pf ph L cl ln iv rv K pc lv (.int y2 :: .int x :: st) := fun u hu kc ks hk => q_mmin C d lk h1 h2 h3 ⟨hd, by show 21 ≤ 64 * d0; omega⟩ (u_wid hk (by omega)) hst hv (kk u hu kc ks hk)
theorem c_callS0 (C : Cq p s m args meth c cc y ret G A nL) {y2 : MethodName} {cc2 : ByteArray} {n2 d2 idx k2 : Nat} {ret2 : Option FieldType} {r2 : Value} {As rest : List Value} (M : ∀ (L : List Nat) (E : Nat → va_E), Mq l G y2 cc2 n2 ret2 d2 As L E 0 0 (fun r L2 E2 => r = some r2 ∧ L2 = L ∧ E2 = E)) (d : decode cc pc = .ok (.invokestatic idx, 3)) (hw : Ws y.cls idx y2 cc2 n2 ret2 k2) (hk : As.length = k2) (hst : st = As.reverse ++ rest) (hcat : (rest.map fun v => v.category).sum ≤ 8) (hR : d2 + 1 ≤ d0 ∧ 8 + (n2 + 11) + 64 * d2 ≤ 64 * d0) (hro : Pf ln rv + K ≤ r0 + ph) (kk : cw p l e d0 r0 s m args below meth c G A nL Q Pf ph L cl ln iv rv K (pc + 3) lv (r2 :: rest)) : cw p l e d0 r0 s m args below meth c G A nL Q Pf ph L cl ln iv rv K pc lv st := fun u hu kc ks hh => q_callS C (M L _) d hw hk hst hcat hR (u_wid hh (by omega)) (fun r L2 E2 ⟨h1, h2, h3⟩ => by subst h1; subst h2; subst h3; exact kk u hu kc ks hh)
theorem c_callSN0 (C : Cq p s m args meth c cc y ret G A nL) {y2 : MethodName} {host : String} {cc2 : ByteArray} {n2 d2 idx k2 : Nat} {ret2 : Option FieldType} {r2 : Value} {As rest : List Value} (M : ∀ (L : List Nat) (E : Nat → va_E), Mq l G y2 cc2 n2 ret2 d2 As L E 0 0 (fun r L2 E2 => r = some r2 ∧ L2 = L ∧ E2 = E)) (d : decode cc pc = .ok (.invokestatic idx, 3)) (hw : Wns y.cls idx y2 host cc2 n2 ret2 k2) (hk : As.length = k2) (hst : st = As.reverse ++ rest) (hcat : (rest.map fun v => v.category).sum ≤ 8) (hR : d2 + 1 ≤ d0 ∧ 8 + (n2 + 11) + 64 * d2 ≤ 64 * d0) (hro : Pf ln rv + K ≤ r0 + ph) (kk : cw p l e d0 r0 s m args below meth c G A nL Q Pf ph L cl ln iv rv K (pc + 3) lv (r2 :: rest)) : cw p l e d0 r0 s m args below meth c G A nL Q Pf ph L cl ln iv rv K pc lv st := fun u hu kc ks hh => q_callSN C (M L _) d hw hk hst hcat hR (u_wid hh (by omega)) (fun r L2 E2 ⟨h1, h2, h3⟩ => by subst h1; subst h2; subst h3; exact kk u hu kc ks hh)
theorem c_objInit (C : Cq p s m args meth c cc y ret G A nL) {idx a : Nat} (d : decode cc pc = .ok (.invokespecial idx, 3)) (lk : Cond.methodLink y.cls idx Lib.objectInit ∈ lw_g) (hi : Cond.instanceMethod Lib.objectInit ∈ lw_g) (hc : Cond.code Lib.objectInit ⟨#[0xb1]⟩ 1 none ∈ lw_g) (hd : 1 ≤ d0) (hst : (st.map fun v => v.category).sum ≤ 8) (kk : cw p l e d0 r0 s m args below meth c G A nL Q Pf ph L cl ln iv rv K (pc + 3) lv st) : cw p l e d0 r0 s m args below meth c G A nL Q Pf ph L cl ln iv rv K pc lv (.ref a :: st) := fun u hu kc ks hk => q_objInit C d lk hi hc ⟨hd, by show 20 ≤ 64 * d0; omega⟩ hst (kk u hu kc ks hk)
theorem c_new (C : Cq p s m args meth c cc y ret G A nL) {ci N idx : Nat} {Cn : String} {TT : u_T} {tyy : Nat → FieldType} (ck : Ck ci Cn TT N tyy) (hv : ∀ j, j < N → defaultValue (tyy j) = ofv ci (fun _ => 0) (fun _ => none) j) (hT : kd (200 + ci) = ci ∧ bt (200 + ci) = 200 + ci) (hN : nf ci = N) (h13 : ci < 13) (d : decode cc pc = .ok (.new idx, 3)) (lk : Cond.classLink y.cls idx Cn ∈ lw_g) (hi : Cond.instantiable Cn N ∈ lw_g) (hn : Cond.initialized Cn ∈ lw_g) (hro : Pf ln rv + K + (16 + N) ≤ r0 + ph) (kk : ∀ (q : Nat) (cl2 ln2 : Nat → Nat) (iv2 : Nat → Nat → Int) (rv2 : Nat → Nat → Option Nat), q ∉ L → cl2 = va_up cl q (200 + ci) → ln2 = ln → iv2 = up0 iv q 0 → rv2 = up0 rv q none → ∃ K2 : Nat, Pf ln rv + K + (16 + N) ≤ Pf ln2 rv2 + K2 ∧ cw p l e d0 r0 s m args below meth c G A nL Q Pf ph (L ++ [q]) cl2 ln2 iv2 rv2 K2 (pc + 3) lv (.ref q :: st)) : cw p l e d0 r0 s m args below meth c G A nL Q Pf ph L cl ln iv rv K pc lv st := by
  intro u hu kc ks hh
  refine q_new C ck d lk hi hn ⟨by show kc + 1 ≤ r0 / 16; omega, by show ks + N ≤ r0; omega⟩ (fun q hq => ?_)
  obtain ⟨K2, g1, g2⟩ := kk q _ _ _ _ hq rfl rfl rfl rfl
  have e : va_up (enc G cl ln iv rv) q (ob ci N (fun j => defaultValue (tyy j))) = enc G (va_up cl q (200 + ci)) ln (up0 iv q 0) (up0 rv q none) := by
    refine enc_up (fun b hb => ⟨va_up_ne _ _ hb, rfl, up0_a hb, up0_a hb⟩) ?_
    have h2 : ty (L ++ [q]) (va_up cl q (200 + ci)) q (200 + ci) := ⟨List.mem_append_right _ List.mem_cons_self, by rw [va_up_self]; exact hT.2⟩
    rw [enc_ob h2 hT.1 hN h13]
    refine ob_ext (fun j hj => ?_)
    rw [hv j hj]
    unfold ofv
    rw [up0_s, up0_s]
  rw [e]
  exact g2 (u + (16 + N)) (by omega) _ _ (by omega)
theorem c_newaI (C : Cq p s m args meth c cc y ret G A nL) {z : Int} {N : Nat} (t : Nat)  (d : decode cc pc = .ok (.newarray .int, 2)) (lk : Cond.arrayClass .int ∈ lw_g) (hT : kd (bt t) = 20) (hz : z = (N : Int)) (hb : N ≤ 100000) (hro : Pf ln rv + K + (16 + N) ≤ r0 + ph) (kk : ∀ (q : Nat) (cl2 ln2 : Nat → Nat) (iv2 : Nat → Nat → Int) (rv2 : Nat → Nat → Option Nat), q ∉ L → cl2 = va_up cl q t → ln2 = va_up ln q N → iv2 = up0 iv q 0 → rv2 = up0 rv q none → ∃ K2 : Nat, Pf ln rv + K + (16 + N) ≤ Pf ln2 rv2 + K2 ∧ cw p l e d0 r0 s m args below meth c G A nL Q Pf ph (L ++ [q]) cl2 ln2 iv2 rv2 K2 (pc + 2) lv (.ref q :: st)) : cw p l e d0 r0 s m args below meth c G A nL Q Pf ph L cl ln iv rv K pc lv (.int (iI z) :: st) := by
  intro u hu kc ks hh
  subst hz
  have hr : R32 (N : Int) := ⟨by omega, by omega⟩
  refine q_newaI (N := N) C d lk (by rw [show (0 : Int32) = iI 0 from rfl, iI_lt hr R32_0]; omega) (by rw [iI_cl hr]; omega) hb ⟨by show kc + 1 ≤ r0 / 16; omega, by show ks + N ≤ r0; omega⟩ (fun q hq => ?_)
  obtain ⟨K2, g1, g2⟩ := kk q _ _ _ _ hq rfl rfl rfl rfl
  have e : va_up (enc G cl ln iv rv) q (aI G N (fun _ => 0)) = enc G (va_up cl q t) (va_up ln q N) (up0 iv q 0) (up0 rv q none) := by
    refine enc_up (fun b hb => ⟨va_up_ne _ _ hb, va_up_ne _ _ hb, up0_a hb, up0_a hb⟩) ?_
    have h2 : ty (L ++ [q]) (va_up cl q t) q (bt t) := ⟨List.mem_append_right _ List.mem_cons_self, by rw [va_up_self]⟩
    rw [enc_I h2 hT, va_up_self]
    congr 1
    funext j
    rw [up0_s]; rfl
  rw [e]
  exact g2 (u + (16 + N)) (by omega) _ _ (by omega)
theorem c_newaZ (C : Cq p s m args meth c cc y ret G A nL) {z : Int} {N : Nat} (t : Nat)  (d : decode cc pc = .ok (.newarray .boolean, 2)) (lk : Cond.arrayClass .boolean ∈ lw_g) (hT : kd (bt t) = 21) (hz : z = (N : Int)) (hb : N ≤ 100000) (hro : Pf ln rv + K + (16 + N) ≤ r0 + ph) (kk : ∀ (q : Nat) (cl2 ln2 : Nat → Nat) (iv2 : Nat → Nat → Int) (rv2 : Nat → Nat → Option Nat), q ∉ L → cl2 = va_up cl q t → ln2 = va_up ln q N → iv2 = up0 iv q 0 → rv2 = up0 rv q none → ∃ K2 : Nat, Pf ln rv + K + (16 + N) ≤ Pf ln2 rv2 + K2 ∧ cw p l e d0 r0 s m args below meth c G A nL Q Pf ph (L ++ [q]) cl2 ln2 iv2 rv2 K2 (pc + 2) lv (.ref q :: st)) : cw p l e d0 r0 s m args below meth c G A nL Q Pf ph L cl ln iv rv K pc lv (.int (iI z) :: st) := by
  intro u hu kc ks hh
  subst hz
  have hr : R32 (N : Int) := ⟨by omega, by omega⟩
  refine q_newaZ (N := N) C d lk (by rw [show (0 : Int32) = iI 0 from rfl, iI_lt hr R32_0]; omega) (by rw [iI_cl hr]; omega) hb ⟨by show kc + 1 ≤ r0 / 16; omega, by show ks + N ≤ r0; omega⟩ (fun q hq => ?_)
  obtain ⟨K2, g1, g2⟩ := kk q _ _ _ _ hq rfl rfl rfl rfl
  have e : va_up (enc G cl ln iv rv) q (aZ G N (fun _ => 0)) = enc G (va_up cl q t) (va_up ln q N) (up0 iv q 0) (up0 rv q none) := by
    refine enc_up (fun b hb => ⟨va_up_ne _ _ hb, va_up_ne _ _ hb, up0_a hb, up0_a hb⟩) ?_
    have h2 : ty (L ++ [q]) (va_up cl q t) q (bt t) := ⟨List.mem_append_right _ List.mem_cons_self, by rw [va_up_self]⟩
    rw [enc_Z h2 hT, va_up_self]
    congr 1
    funext j
    rw [up0_s]; rfl
  rw [e]
  exact g2 (u + (16 + N)) (by omega) _ _ (by omega)
theorem c_newaL (C : Cq p s m args meth c cc y ret G A nL) {z : Int} {N : Nat} (t : Nat) {idx : Nat} (d : decode cc pc = .ok (.anewarray idx, 3)) (lk : Cond.classLink y.cls idx RX2 ∈ lw_g) (lo : Cond.arrayOver (.object RX2) ∈ lw_tbl) (hT : kd (bt t) = 22) (hz : z = (N : Int)) (hb : N ≤ 100000) (hro : Pf ln rv + K + (16 + N) ≤ r0 + ph) (kk : ∀ (q : Nat) (cl2 ln2 : Nat → Nat) (iv2 : Nat → Nat → Int) (rv2 : Nat → Nat → Option Nat), q ∉ L → cl2 = va_up cl q t → ln2 = va_up ln q N → iv2 = up0 iv q 0 → rv2 = up0 rv q none → ∃ K2 : Nat, Pf ln rv + K + (16 + N) ≤ Pf ln2 rv2 + K2 ∧ cw p l e d0 r0 s m args below meth c G A nL Q Pf ph (L ++ [q]) cl2 ln2 iv2 rv2 K2 (pc + 3) lv (.ref q :: st)) : cw p l e d0 r0 s m args below meth c G A nL Q Pf ph L cl ln iv rv K pc lv (.int (iI z) :: st) := by
  intro u hu kc ks hh
  subst hz
  have hr : R32 (N : Int) := ⟨by omega, by omega⟩
  refine q_newqL (N := N) C d lk lo (by rw [show (0 : Int32) = iI 0 from rfl, iI_lt hr R32_0]; omega) (by rw [iI_cl hr]; omega) hb ⟨by show kc + 1 ≤ r0 / 16; omega, by show ks + N ≤ r0; omega⟩ (fun q hq => ?_)
  obtain ⟨K2, g1, g2⟩ := kk q _ _ _ _ hq rfl rfl rfl rfl
  have e : va_up (enc G cl ln iv rv) q (aL G N (fun _ => none)) = enc G (va_up cl q t) (va_up ln q N) (up0 iv q 0) (up0 rv q none) := by
    refine enc_up (fun b hb => ⟨va_up_ne _ _ hb, va_up_ne _ _ hb, up0_a hb, up0_a hb⟩) ?_
    have h2 : ty (L ++ [q]) (va_up cl q t) q (bt t) := ⟨List.mem_append_right _ List.mem_cons_self, by rw [va_up_self]⟩
    rw [enc_L h2 hT, va_up_self]
    congr 1
    funext j
    rw [up0_s]
  rw [e]
  exact g2 (u + (16 + N)) (by omega) _ _ (by omega)
theorem c_newaR (C : Cq p s m args meth c cc y ret G A nL) {z : Int} {N : Nat} (t : Nat) {idx : Nat} (d : decode cc pc = .ok (.anewarray idx, 3)) (lk : Cond.classLink y.cls idx RX5 ∈ lw_g) (lo : Cond.arrayOver (.object RX5) ∈ lw_tbl) (hT : kd (bt t) = 23) (hz : z = (N : Int)) (hb : N ≤ 100000) (hro : Pf ln rv + K + (16 + N) ≤ r0 + ph) (kk : ∀ (q : Nat) (cl2 ln2 : Nat → Nat) (iv2 : Nat → Nat → Int) (rv2 : Nat → Nat → Option Nat), q ∉ L → cl2 = va_up cl q t → ln2 = va_up ln q N → iv2 = up0 iv q 0 → rv2 = up0 rv q none → ∃ K2 : Nat, Pf ln rv + K + (16 + N) ≤ Pf ln2 rv2 + K2 ∧ cw p l e d0 r0 s m args below meth c G A nL Q Pf ph (L ++ [q]) cl2 ln2 iv2 rv2 K2 (pc + 3) lv (.ref q :: st)) : cw p l e d0 r0 s m args below meth c G A nL Q Pf ph L cl ln iv rv K pc lv (.int (iI z) :: st) := by
  intro u hu kc ks hh
  subst hz
  have hr : R32 (N : Int) := ⟨by omega, by omega⟩
  refine q_newqR (N := N) C d lk lo (by rw [show (0 : Int32) = iI 0 from rfl, iI_lt hr R32_0]; omega) (by rw [iI_cl hr]; omega) hb ⟨by show kc + 1 ≤ r0 / 16; omega, by show ks + N ≤ r0; omega⟩ (fun q hq => ?_)
  obtain ⟨K2, g1, g2⟩ := kk q _ _ _ _ hq rfl rfl rfl rfl
  have e : va_up (enc G cl ln iv rv) q (aR G N (fun _ => none)) = enc G (va_up cl q t) (va_up ln q N) (up0 iv q 0) (up0 rv q none) := by
    refine enc_up (fun b hb => ⟨va_up_ne _ _ hb, va_up_ne _ _ hb, up0_a hb, up0_a hb⟩) ?_
    have h2 : ty (L ++ [q]) (va_up cl q t) q (bt t) := ⟨List.mem_append_right _ List.mem_cons_self, by rw [va_up_self]⟩
    rw [enc_R h2 hT, va_up_self]
    congr 1
    funext j
    rw [up0_s]
  rw [e]
  exact g2 (u + (16 + N)) (by omega) _ _ (by omega)
theorem c_newaO (C : Cq p s m args meth c cc y ret G A nL) {z : Int} {N : Nat} (t : Nat) {idx : Nat} (d : decode cc pc = .ok (.anewarray idx, 3)) (lk : Cond.classLink y.cls idx "java/lang/Object" ∈ lw_g) (lo : Cond.arrayOver (.object "java/lang/Object") ∈ lw_tbl) (hT : kd (bt t) = 24) (hz : z = (N : Int)) (hb : N ≤ 100000) (hro : Pf ln rv + K + (16 + N) ≤ r0 + ph) (kk : ∀ (q : Nat) (cl2 ln2 : Nat → Nat) (iv2 : Nat → Nat → Int) (rv2 : Nat → Nat → Option Nat), q ∉ L → cl2 = va_up cl q t → ln2 = va_up ln q N → iv2 = up0 iv q 0 → rv2 = up0 rv q none → ∃ K2 : Nat, Pf ln rv + K + (16 + N) ≤ Pf ln2 rv2 + K2 ∧ cw p l e d0 r0 s m args below meth c G A nL Q Pf ph (L ++ [q]) cl2 ln2 iv2 rv2 K2 (pc + 3) lv (.ref q :: st)) : cw p l e d0 r0 s m args below meth c G A nL Q Pf ph L cl ln iv rv K pc lv (.int (iI z) :: st) := by
  intro u hu kc ks hh
  subst hz
  have hr : R32 (N : Int) := ⟨by omega, by omega⟩
  refine q_newqO (N := N) C d lk lo (by rw [show (0 : Int32) = iI 0 from rfl, iI_lt hr R32_0]; omega) (by rw [iI_cl hr]; omega) hb ⟨by show kc + 1 ≤ r0 / 16; omega, by show ks + N ≤ r0; omega⟩ (fun q hq => ?_)
  obtain ⟨K2, g1, g2⟩ := kk q _ _ _ _ hq rfl rfl rfl rfl
  have e : va_up (enc G cl ln iv rv) q (aO G N (fun _ => none)) = enc G (va_up cl q t) (va_up ln q N) (up0 iv q 0) (up0 rv q none) := by
    refine enc_up (fun b hb => ⟨va_up_ne _ _ hb, va_up_ne _ _ hb, up0_a hb, up0_a hb⟩) ?_
    have h2 : ty (L ++ [q]) (va_up cl q t) q (bt t) := ⟨List.mem_append_right _ List.mem_cons_self, by rw [va_up_self]⟩
    rw [enc_O h2 hT, va_up_self]
    congr 1
    funext j
    rw [up0_s]
  rw [e]
  exact g2 (u + (16 + N)) (by omega) _ _ (by omega)
theorem c_callV (C : Cq p s m args meth c cc y ret G A nL) (hM : Mir mi s) {y2 : MethodName} {cc2 : ByteArray} {n2 d2 c2 pm2 idx k2 : Nat} {P2 : PC} {As rest : List Value} {Pf2 : PF} {b ci N T : Nat} {ret2 : Option FieldType} {TT : u_T} {tyy : Nat → FieldType} (M : Mc l G mi Pf2 pm2 y2 cc2 n2 ret2 d2 (.ref b :: As) L cl ln iv rv c2 P2) (d : decode cc pc = .ok (.invokevirtual idx, 3)) (hw : Wv y.cls idx y2 cc2 n2 ret2 k2) (hk : As.length = k2) (hb : ty L cl b T) (hT : kd T = ci) (hN : nf ci = N) (h13 : ci < 13) (ck : Ck ci y2.cls TT N tyy) (hst : st = As.reverse ++ .ref b :: rest) (hcat : (rest.map fun v => v.category).sum ≤ 8) (hR : d2 + 1 ≤ d0 ∧ 8 + (n2 + 11) + 64 * d2 ≤ 64 * d0) (hro : Pf ln rv + K + (pm2 + c2 - Pf2 ln rv) ≤ r0 + ph) (kk : ∀ (v : Option Value) (L2 : List Nat) (cl2 ln2 : Nat → Nat) (iv2 : Nat → Nat → Int) (rv2 : Nat → Nat → Option Nat), P2 v L2 cl2 ln2 iv2 rv2 → ∃ K2 : Nat, (∀ u2 : Nat, u2 + Pf2 ln rv ≤ Pf2 ln2 rv2 + c2 → u2 + Pf ln rv + K ≤ Pf ln2 rv2 + K2) ∧ cw p l e d0 r0 s m args below meth c G A nL Q Pf ph L2 cl2 ln2 iv2 rv2 K2 (pc + 3) lv (v.toList ++ rest)) : cw p l e d0 r0 s m args below meth c G A nL Q Pf ph L cl ln iv rv K pc lv st := fun u hu kc ks hh => u_callV C hM M d hw hk hb.1 (enc_ob hb hT hN h13) ck hst hcat hR (by omega) (fun v L2 E2 u2 ⟨cl2, ln2, iv2, rv2, h1, h2, h3⟩ => by subst h1; obtain ⟨K2, g1, g2⟩ := kk v L2 cl2 ln2 iv2 rv2 h3; have g3 := g1 u2 h2; exact g2 (u + u2) (by omega)) kc ks hh
theorem c_callI (C : Cq p s m args meth c cc y ret G A nL) (hM : Mir mi s) {y2 : MethodName} {cc2 : ByteArray} {n2 d2 c2 pm2 idx k2 : Nat} {P2 : PC} {As rest : List Value} {Pf2 : PF} {b : Nat} (M : Mc l G mi Pf2 pm2 y2 cc2 n2 none d2 (.ref b :: As) L cl ln iv rv c2 P2) (d : decode cc pc = .ok (.invokespecial idx, 3)) (hw : Wi y.cls idx y2 cc2 n2 k2) (hk : As.length = k2) (hst : st = As.reverse ++ .ref b :: rest) (hcat : (rest.map fun v => v.category).sum ≤ 8) (hR : d2 + 1 ≤ d0 ∧ 8 + (n2 + 11) + 64 * d2 ≤ 64 * d0) (hro : Pf ln rv + K + (pm2 + c2 - Pf2 ln rv) ≤ r0 + ph) (kk : ∀ (v : Option Value) (L2 : List Nat) (cl2 ln2 : Nat → Nat) (iv2 : Nat → Nat → Int) (rv2 : Nat → Nat → Option Nat), P2 v L2 cl2 ln2 iv2 rv2 → ∃ K2 : Nat, (∀ u2 : Nat, u2 + Pf2 ln rv ≤ Pf2 ln2 rv2 + c2 → u2 + Pf ln rv + K ≤ Pf ln2 rv2 + K2) ∧ cw p l e d0 r0 s m args below meth c G A nL Q Pf ph L2 cl2 ln2 iv2 rv2 K2 (pc + 3) lv (v.toList ++ rest)) : cw p l e d0 r0 s m args below meth c G A nL Q Pf ph L cl ln iv rv K pc lv st := fun u hu kc ks hh => u_callI C hM M d hw hk hst hcat hR (by omega) (fun v L2 E2 u2 ⟨cl2, ln2, iv2, rv2, h1, h2, h3⟩ => by subst h1; obtain ⟨K2, g1, g2⟩ := kk v L2 cl2 ln2 iv2 rv2 h3; have g3 := g1 u2 h2; exact g2 (u + u2) (by omega)) kc ks hh
theorem c_callIN (C : Cq p s m args meth c cc y ret G A nL) (hM : Mir mi s) {y2 : MethodName} {cc2 : ByteArray} {n2 d2 c2 pm2 idx k2 : Nat} {P2 : PC} {As rest : List Value} {Pf2 : PF} {b : Nat} {host : String} (M : Mc l G mi Pf2 pm2 y2 cc2 n2 none d2 (.ref b :: As) L cl ln iv rv c2 P2) (d : decode cc pc = .ok (.invokespecial idx, 3)) (hw : Wn y.cls idx y2 host cc2 n2 k2) (hk : As.length = k2) (hst : st = As.reverse ++ .ref b :: rest) (hcat : (rest.map fun v => v.category).sum ≤ 8) (hR : d2 + 1 ≤ d0 ∧ 8 + (n2 + 11) + 64 * d2 ≤ 64 * d0) (hro : Pf ln rv + K + (pm2 + c2 - Pf2 ln rv) ≤ r0 + ph) (kk : ∀ (v : Option Value) (L2 : List Nat) (cl2 ln2 : Nat → Nat) (iv2 : Nat → Nat → Int) (rv2 : Nat → Nat → Option Nat), P2 v L2 cl2 ln2 iv2 rv2 → ∃ K2 : Nat, (∀ u2 : Nat, u2 + Pf2 ln rv ≤ Pf2 ln2 rv2 + c2 → u2 + Pf ln rv + K ≤ Pf ln2 rv2 + K2) ∧ cw p l e d0 r0 s m args below meth c G A nL Q Pf ph L2 cl2 ln2 iv2 rv2 K2 (pc + 3) lv (v.toList ++ rest)) : cw p l e d0 r0 s m args below meth c G A nL Q Pf ph L cl ln iv rv K pc lv st := fun u hu kc ks hh => u_callIN C hM M d hw hk hst hcat hR (by omega) (fun v L2 E2 u2 ⟨cl2, ln2, iv2, rv2, h1, h2, h3⟩ => by subst h1; obtain ⟨K2, g1, g2⟩ := kk v L2 cl2 ln2 iv2 rv2 h3; have g3 := g1 u2 h2; exact g2 (u + u2) (by omega)) kc ks hh
theorem c_callS (C : Cq p s m args meth c cc y ret G A nL) (hM : Mir mi s) {y2 : MethodName} {cc2 : ByteArray} {n2 d2 c2 pm2 idx k2 : Nat} {P2 : PC} {As rest : List Value} {Pf2 : PF} {ret2 : Option FieldType} (M : Mc l G mi Pf2 pm2 y2 cc2 n2 ret2 d2 As L cl ln iv rv c2 P2) (d : decode cc pc = .ok (.invokestatic idx, 3)) (hw : Ws y.cls idx y2 cc2 n2 ret2 k2) (hk : As.length = k2) (hst : st = As.reverse ++ rest) (hcat : (rest.map fun v => v.category).sum ≤ 8) (hR : d2 + 1 ≤ d0 ∧ 8 + (n2 + 11) + 64 * d2 ≤ 64 * d0) (hro : Pf ln rv + K + (pm2 + c2 - Pf2 ln rv) ≤ r0 + ph) (kk : ∀ (v : Option Value) (L2 : List Nat) (cl2 ln2 : Nat → Nat) (iv2 : Nat → Nat → Int) (rv2 : Nat → Nat → Option Nat), P2 v L2 cl2 ln2 iv2 rv2 → ∃ K2 : Nat, (∀ u2 : Nat, u2 + Pf2 ln rv ≤ Pf2 ln2 rv2 + c2 → u2 + Pf ln rv + K ≤ Pf ln2 rv2 + K2) ∧ cw p l e d0 r0 s m args below meth c G A nL Q Pf ph L2 cl2 ln2 iv2 rv2 K2 (pc + 3) lv (v.toList ++ rest)) : cw p l e d0 r0 s m args below meth c G A nL Q Pf ph L cl ln iv rv K pc lv st := fun u hu kc ks hh => u_callS C hM M d hw hk hst hcat hR (by omega) (fun v L2 E2 u2 ⟨cl2, ln2, iv2, rv2, h1, h2, h3⟩ => by subst h1; obtain ⟨K2, g1, g2⟩ := kk v L2 cl2 ln2 iv2 rv2 h3; have g3 := g1 u2 h2; exact g2 (u + u2) (by omega)) kc ks hh
theorem c_iret (C : Cq p s m args meth c cc y ret G A nL) {Post : PC} {c0 : Nat} {z : Int} (d : decode cc pc = .ok (.ireturn, 1)) (hr : ret = some .int) (hKc : K ≤ c0) (hro : Pf ln rv + K ≤ r0 + ph) (hp : Post (some (.int (iI z))) L cl ln iv rv) : cw p l e d0 r0 s m args below meth c G A nL (MQ below (Qu G A (Qp G Pf ph c0 Post)) args s (r0 / 16) r0 A) Pf ph L cl ln iv rv K pc lv [.int (iI z)] := fun u hu kc ks hh => u_iret C d hr (by omega) ⟨cl, ln, iv, rv, rfl, by omega, hp⟩ kc ks hh
theorem c_zret (C : Cq p s m args meth c cc y ret G A nL) {Post : PC} {c0 : Nat} {z : Int} (d : decode cc pc = .ok (.ireturn, 1)) (hr : ret = some .boolean) (hz : z = 0 ∨ z = 1) (hKc : K ≤ c0) (hro : Pf ln rv + K ≤ r0 + ph) (hp : Post (some (.int (iI z))) L cl ln iv rv) : cw p l e d0 r0 s m args below meth c G A nL (MQ below (Qu G A (Qp G Pf ph c0 Post)) args s (r0 / 16) r0 A) Pf ph L cl ln iv rv K pc lv [.int (iI z)] := fun u hu kc ks hh => u_zret C d hr (by rcases hz with rfl | rfl <;> decide) (by omega) ⟨cl, ln, iv, rv, rfl, by omega, hp⟩ kc ks hh
theorem c_vret (C : Cq p s m args meth c cc y ret G A nL) {Post : PC} {c0 : Nat} (d : decode cc pc = .ok (.return_, 1)) (hr : ret = none) (hKc : K ≤ c0) (hro : Pf ln rv + K ≤ r0 + ph) (hp : Post none L cl ln iv rv) : cw p l e d0 r0 s m args below meth c G A nL (MQ below (Qu G A (Qp G Pf ph c0 Post)) args s (r0 / 16) r0 A) Pf ph L cl ln iv rv K pc lv [] := fun u hu kc ks hh => u_vret C d hr (by omega) ⟨cl, ln, iv, rv, rfl, by omega, hp⟩ kc ks hh
theorem c_aret (C : Cq p s m args meth c cc y ret G A nL) {Post : PC} {c0 : Nat} {x : Option Nat} {rt : FieldType} (d : decode cc pc = .ok (.areturn, 1)) (hr : ret = some rt) (hrt : (∃ n, rt = .object n) ∨ ∃ t, rt = .array t) (hKc : K ≤ c0) (hro : Pf ln rv + K ≤ r0 + ph) (hp : Post (some (va_rf x)) L cl ln iv rv) : cw p l e d0 r0 s m args below meth c G A nL (MQ below (Qu G A (Qp G Pf ph c0 Post)) args s (r0 / 16) r0 A) Pf ph L cl ln iv rv K pc lv [va_rf x] := fun u hu kc ks hh => u_aret C d hr hrt (by cases x with | none => exact Or.inl rfl | some w => exact Or.inr ⟨w, rfl⟩) (by omega) ⟨cl, ln, iv, rv, rfl, by omega, hp⟩ kc ks hh
theorem Mc.mk {n d c0 pm : Nat} {av : List Value} {Post : PC} (hy : plainName y.cls = true) (hn : (lg_sl av).length ≤ n) (body : ∀ (p : Program) (e : Env) (s : State) (m : MethodId) (args : Array Value) (below : List Frame) (meth : Method) (c : Code) (A : Nat → Prop), Cq p s m args meth c cc y ret G A n → Mir mi s → cw p l e d (pm + c0 - Pf ln rv) s m args below meth c G A n (MQ below (Qu G A (Qp G Pf (Pf ln rv) c0 Post)) args s ((pm + c0 - Pf ln rv) / 16) (pm + c0 - Pf ln rv) A) Pf (Pf ln rv) L cl ln iv rv 0 0 (lv_args 0 av) []) : Mc l G mi Pf pm y cc n ret d av L cl ln iv rv c0 Post := Mu.mk hy hn (fun p e s m args below meth c A C hM => body p e s m args below meth c A C hM 0 (by omega))
theorem c_copyi (C : Cq p s m args meth c cc y ret G A nL) {a b T T2 idx : Nat} {sp dp n : Int} (d : decode cc pc = .ok (.invokestatic idx, 3)) (lk : Cond.methodLink y.cls idx arraycopyName ∈ lw_g) (hn : Cond.native arraycopyName ∈ lw_g) (hs : Cond.static arraycopyName ∈ lw_g) (hi : Cond.initialized "java/lang/System" ∈ lw_g) (ha : ty L cl a T) (hT : kd T = 20) (hb : ty L cl b T2) (hT2 : kd T2 = 20) (h1 : 0 ≤ sp) (h2 : 0 ≤ dp) (h3 : 0 ≤ n) (h4 : sp + n ≤ (ln a : Nat)) (h5 : dp + n ≤ (ln b : Nat)) (hla : ln a ≤ 1000000) (hlb : ln b ≤ 1000000) (hd : 1 ≤ d0) (hst : (st.map fun v => v.category).sum ≤ 8) (kk : ∀ iv2, iv2 = (fun w j => if w = b then (if dp.toNat ≤ j ∧ j < dp.toNat + n.toNat then iv a (sp.toNat + (j - dp.toNat)) else iv b j) else iv w j) → cw p l e d0 r0 s m args below meth c G A nL Q Pf ph L cl ln iv2 rv K (pc + 3) lv st) : cw p l e d0 r0 s m args below meth c G A nL Q Pf ph L cl ln iv rv K pc lv (.int (iI n) :: .int (iI dp) :: .ref b :: .int (iI sp) :: .ref a :: st) := by
  intro u hu kc ks hh
  have r1 : R32 sp := ⟨by omega, by omega⟩
  have r2 : R32 dp := ⟨by omega, by omega⟩
  have r3 : R32 n := ⟨by omega, by omega⟩
  refine q_copyi C d lk hn hs hi ha.1 (enc_I ha hT) hb.1 (enc_I hb hT2) (by rw [show (0 : Int32) = iI 0 from rfl, iI_lt r1 R32_0]; omega) (by rw [show (0 : Int32) = iI 0 from rfl, iI_lt r2 R32_0]; omega) (by rw [show (0 : Int32) = iI 0 from rfl, iI_lt r3 R32_0]; omega) (by rw [iI_cl r1, iI_cl r3]; omega) (by rw [iI_cl r2, iI_cl r3]; omega) ⟨hd, by show 64 ≤ 64 * d0; omega⟩ hst ?_
  rw [iI_cl r1, iI_cl r2, iI_cl r3]
  have e : va_up (enc G cl ln iv rv) b (aI G (ln b) (va_cpy (fun j => iI (iv a j)) (fun j => iI (iv b j)) sp.toNat dp.toNat n.toNat)) = enc G cl ln (fun w j => if w = b then (if dp.toNat ≤ j ∧ j < dp.toNat + n.toNat then iv a (sp.toNat + (j - dp.toNat)) else iv b j) else iv w j) rv := by
    refine enc_up (fun w hw => ⟨rfl, rfl, by funext j; rw [if_neg hw], rfl⟩) ?_
    rw [enc_I hb hT2]
    congr 1
    funext j
    rw [if_pos rfl]
    unfold va_cpy
    split <;> rfl
  rw [e]
  exact kk _ rfl u hu kc ks hh
end CQ3
end
section
def ilo (T k : Nat) : Int := match T with
  | 1 => (match k with | 11 => 1 | 12 => 1 | _ => (-2147483648))
  | 2 => (match k with | 0 => 3000 | 2 => 0 | _ => (-2147483648))
  | 3 => (match k with | 0 => 500 | 2 => 0 | _ => (-2147483648))
  | 4 => (match k with | 0 => 4000 | 2 => 0 | _ => (-2147483648))
  | 5 => (match k with | 0 => 200 | 2 => 0 | _ => (-2147483648))
  | 6 => (match k with | 0 => 6003 | 2 => 0 | _ => (-2147483648))
  | 7 => (match k with | 0 => 6003 | 2 => 0 | _ => (-2147483648))
  | 8 => (match k with | 0 => 40200 | 2 => 0 | _ => (-2147483648))
  | 9 => (match k with | 0 => 40200 | 2 => 0 | _ => (-2147483648))
  | 10 => (match k with | 0 => 4001 | 2 => 0 | _ => (-2147483648))
  | 11 => (match k with | 0 => 40000 | 2 => 0 | _ => (-2147483648))
  | 12 => (match k with | 0 => 200 | 2 => 0 | _ => (-2147483648))
  | 14 => (match k with | 1 => 0 | 2 => 0 | 5 => 0 | 7 => 0 | _ => (-2147483648))
  | 15 => (match k with | 4 => 0 | 5 => 0 | 7 => 0 | 10 => 0 | 11 => 0 | _ => (-2147483648))
  | 17 => (match k with | 5 => 0 | 6 => 0 | 9 => 0 | _ => (-2147483648))
  | 18 => (match k with | 1 => 0 | _ => (-2147483648))
  | 19 => (match k with | 1 => 0 | 2 => 0 | _ => (-2147483648))
  | 20 => (match k with | 3 => 0 | _ => (-2147483648))
  | 21 => (match k with | 3 => 0 | _ => (-2147483648))
  | 22 => (match k with | 2 => 0 | _ => (-2147483648))
  | 23 => (match k with | 2 => 0 | _ => (-2147483648))
  | 24 => (match k with | 2 => 0 | _ => (-2147483648))
  | 25 => (match k with | 2 => 0 | _ => (-2147483648))
  | 26 => (match k with | 2 => 0 | _ => (-2147483648))
  | 52 => 0
  | 56 => 0
  | 58 => 0
  | 59 => 0
  | 100 => (match k with | 7 => 0 | _ => (-2147483648))
  | _ => (-2147483648)
def ihi (T k : Nat) : Int := match T with
  | 1 => (match k with | 11 => 100 | 12 => 50 | _ => 2147483647)
  | 2 => (match k with | 0 => 3000 | 2 => 3000 | _ => 2147483647)
  | 3 => (match k with | 0 => 500 | 2 => 500 | _ => 2147483647)
  | 4 => (match k with | 0 => 4000 | 2 => 4000 | _ => 2147483647)
  | 5 => (match k with | 0 => 200 | 2 => 200 | _ => 2147483647)
  | 6 => (match k with | 0 => 6003 | 2 => 6003 | _ => 2147483647)
  | 7 => (match k with | 0 => 6003 | 2 => 6003 | _ => 2147483647)
  | 8 => (match k with | 0 => 40200 | 2 => 40200 | _ => 2147483647)
  | 9 => (match k with | 0 => 40200 | 2 => 40200 | _ => 2147483647)
  | 10 => (match k with | 0 => 4001 | 2 => 4001 | _ => 2147483647)
  | 11 => (match k with | 0 => 40000 | 2 => 40000 | _ => 2147483647)
  | 12 => (match k with | 0 => 200 | 2 => 200 | _ => 2147483647)
  | 14 => (match k with | 1 => 1 | 2 => 1 | 5 => 126 | 7 => 6 | _ => 2147483647)
  | 15 => (match k with | 4 => 500 | 5 => 1 | 7 => 100000 | 10 => 500 | 11 => 500 | _ => 2147483647)
  | 17 => (match k with | 5 => 50 | 6 => 1 | 9 => 100 | _ => 2147483647)
  | 18 => (match k with | 1 => 200 | _ => 2147483647)
  | 19 => (match k with | 1 => 200 | 2 => 1 | _ => 2147483647)
  | 20 => (match k with | 3 => 5 | _ => 2147483647)
  | 21 => (match k with | 3 => 5 | _ => 2147483647)
  | 22 => (match k with | 2 => 30 | _ => 2147483647)
  | 23 => (match k with | 2 => 512 | _ => 2147483647)
  | 24 => (match k with | 2 => 6003 | _ => 2147483647)
  | 25 => (match k with | 2 => 6003 | _ => 2147483647)
  | 26 => (match k with | 2 => 200 | _ => 2147483647)
  | 52 => 1
  | 56 => 1
  | 58 => 125
  | 59 => 1
  | 100 => (match k with | 7 => 1 | _ => 2147483647)
  | _ => 2147483647
def tgt (T k : Nat) : Nat := match T with
  | 1 => (match k with | 0 => 2 | 1 => 3 | 2 => 4 | 3 => 5 | 4 => 13 | 5 => 14 | 6 => 15 | 7 => 16 | 8 => 17 | 9 => 18 | 10 => 18 | _ => 0)
  | 2 => (match k with | 1 => 32 | _ => 0)
  | 3 => (match k with | 1 => 33 | _ => 0)
  | 4 => (match k with | 1 => 34 | _ => 0)
  | 5 => (match k with | 1 => 35 | _ => 0)
  | 6 => (match k with | 1 => 36 | _ => 0)
  | 7 => (match k with | 1 => 37 | _ => 0)
  | 8 => (match k with | 1 => 38 | _ => 0)
  | 9 => (match k with | 1 => 39 | _ => 0)
  | 10 => (match k with | 1 => 40 | _ => 0)
  | 11 => (match k with | 1 => 41 | _ => 0)
  | 12 => (match k with | 1 => 42 | _ => 0)
  | 13 => (match k with | 0 => 22 | 1 => 23 | _ => 0)
  | 14 => (match k with | 3 => 56 | 4 => 57 | 6 => 58 | _ => 0)
  | 15 => (match k with | 0 => 50 | 1 => 51 | 2 => 52 | 3 => 53 | 6 => 54 | 8 => 55 | _ => 0)
  | 16 => (match k with | 0 => 24 | 1 => 25 | 2 => 6 | 3 => 7 | 4 => 8 | 5 => 9 | 6 => 10 | _ => 0)
  | 17 => (match k with | 0 => 59 | 1 => 60 | 2 => 61 | 3 => 62 | 4 => 11 | 7 => 16 | 8 => 63 | _ => 0)
  | 18 => (match k with | 0 => 67 | _ => 0)
  | 19 => (match k with | 0 => 64 | _ => 0)
  | 20 => (match k with | 1 => 65 | 2 => 66 | _ => 0)
  | 21 => (match k with | 1 => 100 | 2 => 20 | _ => 0)
  | 22 => (match k with | 1 => 1000 | _ => 0)
  | 23 => (match k with | 1 => 1001 | _ => 0)
  | 24 => (match k with | 1 => 1002 | _ => 0)
  | 25 => (match k with | 1 => 1003 | _ => 0)
  | 26 => (match k with | 1 => 1004 | _ => 0)
  | 67 => 19
  | 68 => 20
  | 100 => (match k with | 2 => 100 | 3 => 100 | 4 => 26 | 5 => 12 | 6 => 68 | _ => 0)
  | 1000 => 100
  | 1001 => 21
  | 1002 => 20
  | 1003 => 20
  | 1004 => 20
  | _ => 0
def nul (T k : Nat) : Bool := match T with
  | 1 => !([0, 1, 2, 3, 4, 5, 6, 7, 8, 9, 10] : List Nat).contains k
  | 2 => !([1] : List Nat).contains k
  | 3 => !([1] : List Nat).contains k
  | 4 => !([1] : List Nat).contains k
  | 5 => !([1] : List Nat).contains k
  | 6 => !([1] : List Nat).contains k
  | 7 => !([1] : List Nat).contains k
  | 8 => !([1] : List Nat).contains k
  | 9 => !([1] : List Nat).contains k
  | 10 => !([1] : List Nat).contains k
  | 11 => !([1] : List Nat).contains k
  | 12 => !([1] : List Nat).contains k
  | 13 => !([0, 1] : List Nat).contains k
  | 14 => !([3, 4, 6] : List Nat).contains k
  | 15 => !([0, 1, 2, 3, 6, 8] : List Nat).contains k
  | 16 => !([0, 1, 2, 3, 4, 5, 6] : List Nat).contains k
  | 17 => !([0, 1, 2, 3, 4, 7, 8] : List Nat).contains k
  | 18 => !([0] : List Nat).contains k
  | 19 => !([0] : List Nat).contains k
  | 20 => !([1, 2] : List Nat).contains k
  | 21 => !([1] : List Nat).contains k
  | 22 => !([1] : List Nat).contains k
  | 23 => !([1] : List Nat).contains k
  | 24 => !([1] : List Nat).contains k
  | 25 => !([1] : List Nat).contains k
  | 26 => !([1] : List Nat).contains k
  | 100 => !([4, 5, 6] : List Nat).contains k
  | _ => true
def llo (T : Nat) : Nat := match T with
  | 32 => 16
  | 33 => 16
  | 34 => 16
  | 35 => 16
  | 36 => 16
  | 37 => 16
  | 38 => 16
  | 39 => 16
  | 40 => 16
  | 41 => 16
  | 42 => 16
  | 50 => 500
  | 51 => 500
  | 52 => 500
  | 53 => 500
  | 54 => 200
  | 55 => 5
  | 56 => 126
  | 57 => 126
  | 58 => 6
  | 59 => 404
  | 60 => 101
  | 61 => 101
  | 62 => 50
  | 63 => 100
  | 64 => 200
  | 65 => 0
  | 66 => 1
  | 67 => 200
  | 68 => 4
  | 1000 => 10
  | 1001 => 10
  | 1002 => 10
  | 1003 => 10
  | 1004 => 10
  | _ => 0
def lhi (T : Nat) : Nat := match T with
  | 32 => 6000
  | 33 => 1000
  | 34 => 8000
  | 35 => 400
  | 36 => 12006
  | 37 => 12006
  | 38 => 80400
  | 39 => 80400
  | 40 => 8002
  | 41 => 80000
  | 42 => 400
  | 50 => 500
  | 51 => 500
  | 52 => 500
  | 53 => 500
  | 54 => 200
  | 55 => 5
  | 56 => 126
  | 57 => 126
  | 58 => 6
  | 59 => 404
  | 60 => 101
  | 61 => 101
  | 62 => 50
  | 63 => 100
  | 64 => 200
  | 65 => 8
  | 66 => 4
  | 67 => 200
  | 68 => 4
  | 1000 => 60
  | 1001 => 1200
  | 1002 => 9100
  | 1003 => 9100
  | 1004 => 400
  | _ => 0
def raw (T : Nat) : Bool := decide (200 ≤ T) && decide (T < 1000)
def lst (T : Nat) : Bool := decide (22 ≤ T) && decide (T ≤ 26)
def szd (T : Nat) : Bool := (decide (2 ≤ T) && decide (T ≤ 12)) || lst T
def arr (T : Nat) : Bool := (decide (30 ≤ T) && decide (T < 100)) || decide (1000 ≤ T)
def uq (t : Nat) : Bool := ([1, 2, 3, 4, 5, 6, 7, 8, 9, 10, 11, 13, 14, 15, 16, 17, 18, 28, 22, 23, 24, 25, 67, 69] : List Nat).contains t
def pot (T : Nat) : Bool := ([2, 3, 4, 5, 6, 7, 8, 9, 10, 11, 24, 25, 67] : List Nat).contains T
theorem lst_szd {T : Nat} (h : lst T = true) : szd T = true := by unfold szd; rw [h]; simp
theorem bt_list {a r : Nat} (h : r < 5) : bt (1000 + 5 * a + r) = 1000 + r := by unfold bt; rw [if_neg (by omega), if_neg (by omega), if_neg (by omega)]; omega
theorem tgt_list {T : Nat} (h : lst T = true) : tgt T 1 = 1000 + (T - 22) := by
  unfold lst at h
  simp only [Bool.and_eq_true, decide_eq_true_eq] at h
  have : T = 22 ∨ T = 23 ∨ T = 24 ∨ T = 25 ∨ T = 26 := by omega
  rcases this with rfl | rfl | rfl | rfl | rfl <;> rfl
def rkx (cl : Nat → Nat) (a k b : Nat) : Prop := (bt (cl a) = 100 → k < 4 → cl b < cl a) ∧ (lst (bt (cl a)) = true → k = 1 → cl b = 1000 + 5 * a + (bt (cl a) - 22))
def rok (L : List Nat) (cl : Nat → Nat) (g a k : Nat) (r : Option Nat) : Prop := raw (bt (cl a)) = false → (r = none → nul (bt (cl a)) k = true) ∧ ∀ b, r = some b → (b ∈ L ∧ bt (cl b) = tgt (bt (cl a)) k ∧ rkx cl a k b) ∨ (b = g ∧ lst (bt (cl a)) = true ∧ k = 1)
def WT (g : Nat) (sk : Nat → Nat) (L : List Nat) (cl ln : Nat → Nat) (iv : Nat → Nat → Int) (rv : Nat → Nat → Option Nat) : Prop :=
  (∀ a ∈ L, ∀ k, ilo (bt (cl a)) k ≤ iv a k ∧ iv a k ≤ ihi (bt (cl a)) k) ∧
  (∀ a ∈ L, ∀ k, rok L cl g a k (rv a k)) ∧
  (∀ a ∈ L, arr (bt (cl a)) = true → llo (bt (cl a)) ≤ ln a ∧ ln a ≤ lhi (bt (cl a))) ∧
  (∀ a ∈ L, szd (bt (cl a)) = true → ∀ b, rv a 1 = some b → (b = g ∧ iv a 2 = 0) ∨ (b ∈ L ∧ iv a 2 ≤ ((ln b : Nat) : Int))) ∧
  (∀ a ∈ L, lst (bt (cl a)) = true → ∀ b, rv a 1 = some b → ∀ i : Nat, (i : Int) < iv a 2 → rv b i ≠ none) ∧
  (∀ a ∈ L, uq (cl a) = true → a = sk (cl a)) ∧ g ∉ L
def SKL (sk : Nat → Nat) (L : List Nat) (cl : Nat → Nat) : Prop := ∀ t, uq t = true → sk t ∈ L ∧ cl (sk t) = t
section WTS
variable {g : Nat} {sk : Nat → Nat} {L : List Nat} {cl ln : Nat → Nat} {iv : Nat → Nat → Int} {rv : Nat → Nat → Option Nat} {a b T k : Nat} {z : Int}
theorem WT.int (h : WT g sk L cl ln iv rv) (ha : ty L cl a T) (k : Nat) : ilo T k ≤ iv a k ∧ iv a k ≤ ihi T k := by have q := h.1 a ha.1 k; rw [ha.2] at q; exact q
theorem bx_lo {x v lo : Int} (e : x = v) (h : lo ≤ v) : lo ≤ x := e ▸ h
theorem bx_hi {x v hi : Int} (e : x = v) (h : v ≤ hi) : x ≤ hi := e ▸ h
theorem opt_n {o : Option Nat} {P : Prop} {Q : Nat → Prop} (h : (o = none ∧ P) ∨ ∃ b, o = some b ∧ Q b) : ∃ o2, o = o2 ∧ ∀ b, o2 = some b → Q b := ⟨o, rfl, fun b e => by
  rcases h with ⟨e1, _⟩ | ⟨b2, e1, q⟩
  · rw [e1] at e
    cases e
  · rw [e1] at e
    cases e
    exact q⟩
theorem WT.opt (h : WT g sk L cl ln iv rv) (ha : ty L cl a T) (k : Nat) (hr : raw T = false) (hl : (lst T && k == 1) = false) : (rv a k = none ∧ nul T k = true) ∨ ∃ b, rv a k = some b ∧ ty L cl b (tgt T k) := by
  have q := h.2.1 a ha.1 k (by rw [ha.2]; exact hr)
  rw [ha.2] at q
  cases e : rv a k with
  | none => exact Or.inl ⟨rfl, q.1 e⟩
  | some b =>
    rcases q.2 b e with w | w
    · exact Or.inr ⟨b, rfl, w.1, w.2.1⟩
    · rw [w.2.1, w.2.2] at hl; cases hl
theorem WT.ref (h : WT g sk L cl ln iv rv) (ha : ty L cl a T) (k : Nat) (hr : raw T = false) (hl : (lst T && k == 1) = false) (hn : nul T k = false) : ∃ b, rv a k = some b ∧ ty L cl b (tgt T k) := by
  rcases h.opt ha k hr hl with w | w
  · rw [hn] at w; cases w.2
  · exact w
theorem WT.rank (h : WT g sk L cl ln iv rv) (ha : ty L cl a 100) (hk : k < 4) (hb : rv a k = some b) : cl b < cl a := by
  rcases (h.2.1 a ha.1 k (by rw [ha.2]; rfl)).2 b hb with w | w
  · exact w.2.2.1 ha.2 hk
  · rw [ha.2] at w; cases w.2.1
theorem WT.len (h : WT g sk L cl ln iv rv) (ha : ty L cl a T) (hA : arr T = true) : llo T ≤ ln a ∧ ln a ≤ lhi T := by have q := h.2.2.1 a ha.1 (by rw [ha.2]; exact hA); rw [ha.2] at q; exact q
theorem WT.isz (h : WT g sk L cl ln iv rv) (ha : ty L cl a T) (hs : szd T = true) (hl : lst T = false) (hb : rv a 1 = some b) : iv a 2 ≤ ((ln b : Nat) : Int) := by
  rcases h.2.2.2.1 a ha.1 (by rw [ha.2]; exact hs) b hb with w | w
  · rcases (h.2.1 a ha.1 1 (by rw [ha.2]; unfold szd at hs; rw [hl] at hs; unfold raw; simp at hs ⊢; omega)).2 b hb with q | q
    · exact absurd q.1 (by rw [w.1]; exact h.2.2.2.2.2.2)
    · rw [ha.2, hl] at q; cases q.2.1
  · exact w.2
theorem ne_ty {T2 : Nat} (ha : ty L cl a T) (hb : ty L cl b T2) (h : T ≠ T2) : a ≠ b := fun e => h (by rw [← ha.2, ← hb.2, e])
theorem WT.puti {iv2 : Nat → Nat → Int} (h : WT g sk L cl ln iv rv) (he : iv2 = up2 iv a k z) (ha : ty L cl a T) (hz : ilo T k ≤ z ∧ z ≤ ihi T k) (hx : (szd T && k == 2) = false) : WT g sk L cl ln iv2 rv := by
  subst he
  obtain ⟨h1, h2, h3, h4, h5, h6⟩ := h
  have key : ∀ w, szd (bt (cl w)) = true → up2 iv a k z w 2 = iv w 2 := by
    intro w hw
    by_cases e : w = a
    · subst e
      rw [ha.2] at hw
      rw [hw] at hx
      refine up2_j (fun q => ?_)
      subst q; cases hx
    · exact up2_k e
  refine ⟨fun w hw j => ?_, h2, h3, fun w hw hs => ?_, fun w hw hs => ?_, h6⟩
  · by_cases e : w = a
    · subst e
      by_cases ej : j = k
      · subst ej; rw [up2_s, ha.2]; exact hz
      · rw [up2_j ej]; exact h1 w hw j
    · rw [up2_k e]; exact h1 w hw j
  · rw [key w hs]; exact h4 w hw hs
  · rw [key w (lst_szd hs)]; exact h5 w hw hs
theorem WT.putsz {iv2 : Nat → Nat → Int} (h : WT g sk L cl ln iv rv) (he : iv2 = up2 iv a 2 z) (ha : ty L cl a T) (hz : ilo T 2 ≤ z ∧ z ≤ ihi T 2) (hs : ∀ b, rv a 1 = some b → (b = g ∧ z = 0) ∨ (b ∈ L ∧ z ≤ ((ln b : Nat) : Int))) (hn : lst T = true → ∀ b, rv a 1 = some b → ∀ i : Nat, (i : Int) < z → rv b i ≠ none) : WT g sk L cl ln iv2 rv := by
  subst he
  obtain ⟨h1, h2, h3, h4, h5, h6⟩ := h
  refine ⟨fun w hw j => ?_, h2, h3, fun w hw hq => ?_, fun w hw hq => ?_, h6⟩
  · by_cases e : w = a
    · subst e
      by_cases ej : j = 2
      · subst ej; rw [up2_s, ha.2]; exact hz
      · rw [up2_j ej]; exact h1 w hw j
    · rw [up2_k e]; exact h1 w hw j
  · by_cases e : w = a
    · subst e; rw [up2_s]; exact hs
    · rw [up2_k e]; exact h4 w hw hq
  · by_cases e : w = a
    · subst e; rw [up2_s]; rw [ha.2] at hq; exact hn hq
    · rw [up2_k e]; exact h5 w hw hq
theorem WT.isz_put {iv2 : Nat → Nat → Int} (h : WT g sk L cl ln iv rv) (he : iv2 = up2 iv a 2 z) (ha : ty L cl a T) (hz : ilo T 2 ≤ z ∧ z ≤ ihi T 2) (hl : lst T = false) (hr : raw T = false) (hb : rv a 1 = some b) (hs : z ≤ ((ln b : Nat) : Int)) : WT g sk L cl ln iv2 rv := by
  refine h.putsz he ha hz (fun b2 hb2 => ?_) (fun q => by rw [hl] at q; cases q)
  rw [hb] at hb2; cases hb2
  rcases (h.2.1 a ha.1 1 (by rw [ha.2]; exact hr)).2 b hb with q | q
  · exact Or.inr ⟨q.1, hs⟩
  · rw [ha.2, hl] at q; cases q.2.1
theorem WT.putr {rv2 : Nat → Nat → Option Nat} {x : Option Nat} (h : WT g sk L cl ln iv rv) (he : rv2 = upr rv a k x) (ha : ty L cl a T) (hr : rok L cl g a k x) (hx : (szd T && k == 1) = false) (hT : T < 1000) : WT g sk L cl ln iv rv2 := by
  subst he
  obtain ⟨h1, h2, h3, h4, h5, h6⟩ := h
  have key : ∀ w, szd (bt (cl w)) = true → upr rv a k x w 1 = rv w 1 := by
    intro w hw
    by_cases e : w = a
    · subst e
      rw [ha.2] at hw
      rw [hw] at hx
      refine upr_j (fun q => ?_)
      subst q; cases hx
    · rw [upr_a e]
  refine ⟨h1, fun w hw j => ?_, h3, fun w hw hs => ?_, fun w hw hs b hb i hi => ?_, h6⟩
  · by_cases e : w = a
    · subst e
      by_cases ej : j = k
      · subst ej; rw [upr_s]; exact hr
      · rw [upr_j ej]; exact h2 w hw j
    · rw [upr_a e]; exact h2 w hw j
  · rw [key w hs]; exact h4 w hw hs
  · rw [key w (lst_szd hs)] at hb
    have hba : b ≠ a := by
      intro e
      subst e
      rcases (h2 w hw 1 (by unfold raw; unfold lst at hs; simp at hs ⊢; omega)).2 b hb with q | q
      · rw [ha.2, tgt_list hs] at q; omega
      · exact h6.2 (q.1 ▸ ha.1)
    rw [upr_a hba]
    exact h5 w hw hs b hb i hi
end WTS
def XT (L : List Nat) (cl ln : Nat → Nat) (L2 : List Nat) (cl2 ln2 : Nat → Nat) : Prop := ∀ a ∈ L, a ∈ L2 ∧ cl2 a = cl a ∧ ln2 a = ln a
def fT (ls : List Nat) (L : List Nat) (cl : Nat → Nat) (iv : Nat → Nat → Int) (rv : Nat → Nat → Option Nat) (iv2 : Nat → Nat → Int) (rv2 : Nat → Nat → Option Nat) : Prop := ∀ b ∈ L, ls.contains (bt (cl b)) = false → iv2 b = iv b ∧ rv2 b = rv b
section XTS
variable {ls : List Nat} {g : Nat} {sk : Nat → Nat} {L L2 L3 : List Nat} {cl ln cl2 ln2 cl3 ln3 : Nat → Nat} {iv iv2 iv3 : Nat → Nat → Int} {rv rv2 rv3 : Nat → Nat → Option Nat} {a b T k : Nat} {z : Int}
theorem XT.refl : XT L cl ln L cl ln := fun _ h => ⟨h, rfl, rfl⟩
theorem XT.trans (h1 : XT L cl ln L2 cl2 ln2) (h2 : XT L2 cl2 ln2 L3 cl3 ln3) : XT L cl ln L3 cl3 ln3 := fun a h => ⟨(h2 a (h1 a h).1).1, (h2 a (h1 a h).1).2.1.trans (h1 a h).2.1, (h2 a (h1 a h).1).2.2.trans (h1 a h).2.2⟩
theorem XT.ty (h : XT L cl ln L2 cl2 ln2) (ha : ty L cl a T) : ty L2 cl2 a T := ⟨(h a ha.1).1, by rw [(h a ha.1).2.1]; exact ha.2⟩
theorem XT.skl (h : XT L cl ln L2 cl2 ln2) (hs : SKL sk L cl) : SKL sk L2 cl2 := fun t ht => ⟨(h _ (hs t ht).1).1, ((h _ (hs t ht).1).2.1).trans (hs t ht).2⟩
theorem fT.refl : fT ls L cl iv rv iv rv := fun _ _ _ => ⟨rfl, rfl⟩
theorem fT.puti (h : fT ls L cl iv rv iv2 rv2) (hX : XT L cl ln L2 cl2 ln2) (he : iv3 = up2 iv2 a k z) (ha : ty L2 cl2 a T) (hc : ls.contains T = true) : fT ls L cl iv rv iv3 rv2 := by
  intro b hb hq
  refine ⟨?_, (h b hb hq).2⟩
  rw [he, upi_a (fun e => ?_)]
  · exact (h b hb hq).1
  · subst e; rw [← (hX b hb).2.1, ha.2, hc] at hq; cases hq
theorem fT.putr {x : Option Nat} (h : fT ls L cl iv rv iv2 rv2) (hX : XT L cl ln L2 cl2 ln2) (he : rv3 = upr rv2 a k x) (ha : ty L2 cl2 a T) (hc : ls.contains T = true) : fT ls L cl iv rv iv2 rv3 := by
  intro b hb hq
  refine ⟨(h b hb hq).1, ?_⟩
  rw [he, upr_a (fun e => ?_)]
  · exact (h b hb hq).2
  · subst e; rw [← (hX b hb).2.1, ha.2, hc] at hq; cases hq
theorem fT.call {ls2 : List Nat} (h : fT ls L cl iv rv iv2 rv2) (hX : XT L cl ln L2 cl2 ln2) (h2 : fT ls2 L2 cl2 iv2 rv2 iv3 rv3) (hs : ls2.all (fun j => ls.contains j) = true) : fT ls L cl iv rv iv3 rv3 := by
  intro b hb hq
  have q2 := h2 b (hX b hb).1 (by rw [(hX b hb).2.1]; exact con_sub hs hq)
  exact ⟨q2.1.trans (h b hb hq).1, q2.2.trans (h b hb hq).2⟩
theorem fT.i (h : fT ls L cl iv rv iv2 rv2) (ha : ty L cl a T) (hc : ls.contains T = false) (k : Nat) : iv2 a k = iv a k := congrFun (h a ha.1 (by rw [ha.2]; exact hc)).1 k
theorem fT.r (h : fT ls L cl iv rv iv2 rv2) (ha : ty L cl a T) (hc : ls.contains T = false) (k : Nat) : rv2 a k = rv a k := congrFun (h a ha.1 (by rw [ha.2]; exact hc)).2 k
end XTS
def cap (g : Nat) (ln : Nat → Nat) (rv : Nat → Nat → Option Nat) (a : Nat) : Nat := match rv a 1 with
  | some b => if b = g then 0 else ln b
  | none => 0
def nn (f : Nat → Option Nat) : Nat → Nat
  | 0 => 0
  | n + 1 => nn f n + (if (f n).isSome = true then 1 else 0)
def Phi (g : Nat) (sk : Nat → Nat) : PF := fun ln rv => 3 * (cap g ln rv (sk 2) + cap g ln rv (sk 3) + cap g ln rv (sk 4) + cap g ln rv (sk 5) + cap g ln rv (sk 6) + cap g ln rv (sk 7) + cap g ln rv (sk 8) + cap g ln rv (sk 9) + cap g ln rv (sk 10) + cap g ln rv (sk 11)) + 8 * (cap g ln rv (sk 24) + cap g ln rv (sk 25)) + 240 * (nn (rv (sk 67)) 200 + nn (rv (sk 69)) 200)
abbrev PHM : Nat := 1110000
theorem nn_le (f : Nat → Option Nat) : ∀ n, nn f n ≤ n := by
  intro n
  induction n with
  | zero => exact Nat.le_refl _
  | succ n ih => unfold nn; split <;> omega
theorem cap_le {g : Nat} {sk : Nat → Nat} {L : List Nat} {cl ln : Nat → Nat} {iv : Nat → Nat → Int} {rv : Nat → Nat → Option Nat} {t m : Nat} (h : WT g sk L cl ln iv rv) (hS : SKL sk L cl) (hu : uq t = true) (hb : bt t = t) (hr : raw t = false) (ha : arr (tgt t 1) = true) (hl : lhi (tgt t 1) = m) : cap g ln rv (sk t) ≤ m := by
  obtain ⟨q1, q2⟩ := hS t hu
  unfold cap
  split
  · rename_i b e
    split
    · exact Nat.zero_le _
    · rename_i hg
      have w := (h.2.1 _ q1 1 (by rw [q2, hb]; exact hr)).2 b e
      rw [q2, hb] at w
      rcases w with w | w
      · have l2 := (h.len (T := tgt t 1) ⟨w.1, w.2.1⟩ ha).2
        rw [hl] at l2; exact l2
      · exact absurd w.1 hg
  · exact Nat.zero_le _
theorem Phi.le {g : Nat} {sk : Nat → Nat} {L : List Nat} {cl ln : Nat → Nat} {iv : Nat → Nat → Int} {rv : Nat → Nat → Option Nat} (h : WT g sk L cl ln iv rv) (hS : SKL sk L cl) : Phi g sk ln rv ≤ PHM := by
  refine hv14 (cap_le (t := 2) (m := 6000) h hS rfl rfl rfl rfl rfl) (cap_le (t := 3) (m := 1000) h hS rfl rfl rfl rfl rfl) (cap_le (t := 4) (m := 8000) h hS rfl rfl rfl rfl rfl) (cap_le (t := 5) (m := 400) h hS rfl rfl rfl rfl rfl) (cap_le (t := 6) (m := 12006) h hS rfl rfl rfl rfl rfl) (cap_le (t := 7) (m := 12006) h hS rfl rfl rfl rfl rfl) (cap_le (t := 8) (m := 80400) h hS rfl rfl rfl rfl rfl) (cap_le (t := 9) (m := 80400) h hS rfl rfl rfl rfl rfl) (cap_le (t := 10) (m := 8002) h hS rfl rfl rfl rfl rfl) (cap_le (t := 11) (m := 80000) h hS rfl rfl rfl rfl rfl) (cap_le (t := 24) (m := 9100) h hS rfl rfl rfl rfl rfl) (cap_le (t := 25) (m := 9100) h hS rfl rfl rfl rfl rfl) (nn_le (rv (sk 67)) 200) (nn_le (rv (sk 69)) 200) (fun c2 c3 c4 c5 c6 c7 c8 c9 c10 c11 c24 c25 n1 n2 => ?_)
  unfold Phi
  show _ ≤ 1110000
  omega
theorem Phi.congr {g : Nat} {sk : Nat → Nat} {ln ln2 : Nat → Nat} {rv rv2 : Nat → Nat → Option Nat} (h : ∀ t, uq t = true → pot (bt t) = true → rv2 (sk t) = rv (sk t)) (hl : ∀ t b, uq t = true → pot (bt t) = true → szd t = true → rv (sk t) 1 = some b → b ≠ g → ln2 b = ln b) : Phi g sk ln2 rv2 = Phi g sk ln rv := by
  have hc : ∀ t, uq t = true → pot (bt t) = true → szd t = true → cap g ln2 rv2 (sk t) = cap g ln rv (sk t) := by
    intro t ht hp hs
    unfold cap
    rw [h t ht hp]
    split
    · rename_i b e
      split
      · rfl
      · rename_i hg; exact hl t b ht hp hs e hg
    · rfl
  unfold Phi
  rw [hc 2 rfl rfl rfl, hc 3 rfl rfl rfl, hc 4 rfl rfl rfl, hc 5 rfl rfl rfl, hc 6 rfl rfl rfl, hc 7 rfl rfl rfl, hc 8 rfl rfl rfl, hc 9 rfl rfl rfl, hc 10 rfl rfl rfl, hc 11 rfl rfl rfl, hc 24 rfl rfl rfl, hc 25 rfl rfl rfl, h 67 rfl rfl, h 69 rfl rfl]
theorem Phi.putr {g : Nat} {sk : Nat → Nat} {L : List Nat} {cl ln : Nat → Nat} {rv rv2 : Nat → Nat → Option Nat} {a k T : Nat} {x : Option Nat} (hS : SKL sk L cl) (he : rv2 = upr rv a k x) (ha : ty L cl a T) (hp : pot T = false) : Phi g sk ln rv2 = Phi g sk ln rv := by
  refine Phi.congr (fun t ht hq => ?_) (fun _ _ _ _ _ _ _ => rfl)
  rw [he, upr_a (fun e => ?_)]
  rw [← ha.2, ← e, (hS t ht).2, hq] at hp; cases hp
end
