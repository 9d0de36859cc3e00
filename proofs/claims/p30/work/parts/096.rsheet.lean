section
def LSA (v : Nat → Int) (a : Nat → Nat → Int) (v2 : Nat → Int) (a2 : Nat → Nat → Int) (l f : Int) : Prop := ∀ E, SHA v a E → ∃ E2, LOSX E l f E2 ∧ SHA v2 a2 E2
def CTA (v : Nat → Int) (a : Nat → Nat → Int) (v2 : Nat → Int) (a2 : Nat → Nat → Int) (l n f : Int) : Prop := ∀ E, SHA v a E → ∃ E2, CUTX E l n f E2 ∧ SHA v2 a2 E2
def CT1 (a : Nat → Nat → Int) (a1 : Nat → Nat → Int) (l k : Int) : Prop := a1 34 = a 34 ∧ ∀ j : Nat, a1 35 j = if 200 * l + a 34 l.toNat ≤ ((j : Nat) : Int) ∧ ((j : Nat) : Int) < 200 * l + k then 0 else a 35 j
def CRA (v : Nat → Int) (a : Nat → Nat → Int) (v2 : Nat → Int) (a2 : Nat → Nat → Int) (q w u x n f : Int) : Prop := ∀ E, SHA v a E → ∃ E2, CPRX E q w u x n f E2 ∧ SHA v2 a2 E2
def CR1 (a : Nat → Nat → Int) (a1 : Nat → Nat → Int) (p t n g k : Int) : Prop := a1 34 = a 34 ∧ ∀ j : Nat, a1 35 j = if (g = 0 ∧ t ≤ ((j : Nat) : Int) ∧ ((j : Nat) : Int) < t + k) ∨ (g ≠ 0 ∧ t + (n - k) ≤ ((j : Nat) : Int) ∧ ((j : Nat) : Int) < t + n) then a 35 (((j : Nat) : Int) - t + p).toNat else a 35 j
def KSA (v : Nat → Int) (a : Nat → Nat → Int) (v2 : Nat → Int) (a2 : Nat → Nat → Int) : Prop := v2 36 = v 36 ∧ a2 34 = a 34 ∧ a2 35 = a 35
section RSHT
variable {v v1 v2 : Nat → Int} {a a1 a2 a3 : Nat → Nat → Int} {E E2 : List (Option (List Int))} {l i n q u w x f k z p t g : Int} {m m2 : Nat} {y : Option (List Int)} {xs ys : List Int}
theorem SHA.cg (h : SHA v a E) (hk : KSA v a v2 a2) : SHA v2 a2 E := by
  obtain ⟨k1, k2, k3⟩ := hk
  refine ⟨k1.trans h.1, fun l x e => ?_⟩
  unfold RWA
  rw [k2, k3]
  exact h.2 l x e
theorem SHA.set (h : SHA v a E) (hb : ∀ j, a 34 j ≤ 200) (h0 : 0 ≤ l ∧ l < v 36) (h36 : v2 36 = v 36) (hr : RWA a2 l.toNat y) (ho : ∀ j : Nat, j ≠ l.toNat → a2 34 j = a 34 j ∧ ∀ o : Nat, o < 200 → a2 35 (200 * j + o) = a 35 (200 * j + o)) : SHA v2 a2 (E.set l.toNat y) := by
  obtain ⟨h1, h2⟩ := h
  refine ⟨by rw [List.length_set]; omega, fun j x e => ?_⟩
  rw [List.getElem?_set] at e
  by_cases c : l.toNat = j
  · rw [if_pos c] at e
    split at e
    · cases e
      rw [← c]
      exact hr
    · cases e
  · rw [if_neg c] at e
    obtain ⟨o1, o2⟩ := ho j (fun e2 => c e2.symm)
    rcases h2 j x e with ⟨d1, d2⟩ | ⟨xs, d1, d2, d3⟩
    · exact Or.inl ⟨d1, by omega⟩
    · refine Or.inr ⟨xs, d1, by omega, fun o z ez => ?_⟩
      refine hv2 (gl3 ez) (hb j) (fun lt b => ?_)
      rw [o2 o (by omega)]
      exact d3 o z ez
theorem SHA.fault (h : SHA v a E) (hl : ¬ (0 ≤ l ∧ l < v 36) ∨ ((0 ≤ l ∧ l < v 36) ∧ a 34 l.toNat < 0)) : ¬ ∃ xs, rwe E l = some (some xs) := fun e => by
  obtain ⟨xs, e⟩ := e
  rcases hl with c | ⟨c1, c2⟩
  · rw [h.off c] at e
    cases e
  · rw [h.lack c1.1 c1.2 c2] at e
    cases e
theorem LSA.bad (hl : ¬ (0 ≤ l ∧ l < v 36)) (hf : f = -1) (hk : KSA v a v2 a2) : LSA v a v2 a2 l f := fun E h => ⟨E, Or.inr ⟨h.off hl, rfl, hf⟩, h.cg hk⟩
theorem LSA.ok (hb : ∀ j, a 34 j ≤ 200) (h0 : 0 ≤ l ∧ l < v 36) (hf : f = 1) (h36 : v2 36 = v 36) (h34 : a2 34 = up2 a 34 l.toNat (-1) 34) (h35 : a2 35 = up2 a 34 l.toNat (-1) 35) : LSA v a v2 a2 l f := fun E h => by
  obtain ⟨y, y1, _⟩ := h.on h0.1 h0.2
  refine ⟨_, Or.inl ⟨⟨y, y1⟩, rfl, hf⟩, h.set hb h0 h36 (Or.inl ⟨rfl, ?_⟩) (fun j hj => ⟨?_, fun o _ => ?_⟩)⟩
  · rw [h34, up2_s]
    decide
  · rw [h34, up2_j hj]
  · rw [h35, up2_k (by decide)]
theorem CT1.zero (hk : k = a 34 l.toNat) : CT1 a a l k := ⟨rfl, fun j => by rw [if_neg (by omega)]⟩
theorem CT1.step (h : CT1 a a1 l k) (hk : a 34 l.toNat ≤ k ∧ 0 ≤ 200 * l + k) (hm : m = (200 * l + k).toNat) : CT1 a (up2 a1 35 m 0) l (k + 1) := by
  obtain ⟨h1, h2⟩ := h
  refine ⟨by rw [← h1]; funext j; exact up2_k (by decide), fun j => ?_⟩
  by_cases c : j = m
  · rw [c, up2_s, if_pos (by omega)]
  · rw [up2_j c, h2 j]
    by_cases c2 : 200 * l + a 34 l.toNat ≤ ((j : Nat) : Int) ∧ ((j : Nat) : Int) < 200 * l + k
    · rw [if_pos c2, if_pos (by omega)]
    · rw [if_neg c2, if_neg (by omega)]
theorem CTA.bad (hl : (n < 0 ∨ 200 < n) ∨ (¬ (0 ≤ l ∧ l < v 36) ∨ ((0 ≤ l ∧ l < v 36) ∧ a 34 l.toNat < 0))) (hf : f = -1) (hk : KSA v a v2 a2) : CTA v a v2 a2 l n f := fun E h => by
  refine ⟨E, Or.inr ⟨fun ⟨c, xs, e⟩ => ?_, rfl, hf⟩, h.cg hk⟩
  rcases hl with c2 | c2
  · omega
  · exact h.fault c2 ⟨xs, e⟩
theorem CTA.ok (hb : ∀ j, a 34 j ≤ 200) (h0 : 0 ≤ l ∧ l < v 36) (hn : 0 ≤ n ∧ n ≤ 200) (hp : 0 ≤ a 34 l.toNat) (hc : CT1 a a1 l k) (hk : (k = a 34 l.toNat ∨ k ≤ n) ∧ n ≤ k) (hf : f = n) (h36 : v2 36 = v 36) (h34 : a2 34 = up2 a1 34 l.toNat n 34) (h35 : a2 35 = up2 a1 34 l.toNat n 35) : CTA v a v2 a2 l n f := fun E h => by
  obtain ⟨xs, e1, e2, e3⟩ := h.have_ h0.1 h0.2 hp
  obtain ⟨c1, c2⟩ := hc
  have b := hb l.toNat
  refine ⟨_, Or.inl ⟨hn, xs, e1, rfl, hf⟩, h.set hb h0 h36 (Or.inr ⟨_, rfl, ?_, fun j y ey => ?_⟩) (fun j hj => ⟨?_, fun o ho => ?_⟩)⟩
  · rw [h34, up2_s, mpr_len]
    omega
  · obtain ⟨m1, m2⟩ := mpr_at ey
    rw [h35, up2_k (by decide), c2, m2]
    by_cases c : j < xs.length
    · rw [if_neg (by omega)]
      exact e3 j c
    · rw [if_pos (by omega), gd0_out (by omega)]
  · rw [h34, up2_j hj, c1]
  · rw [h35, up2_k (by decide), c2, if_neg (by omega)]
theorem CR1.zero (hk : k = 0) (h34 : a1 34 = a 34 ∧ a1 35 = a 35) : CR1 a a1 p t n g k := ⟨h34.1, fun j => by rw [if_neg (by omega), h34.2]⟩
theorem CR1.step (h : CR1 a a1 p t n g k) (hg : (g = 0 ∧ z = k) ∨ (g = 1 ∧ z = n - 1 - k)) (hk : 0 ≤ k ∧ k < n) (hp : 0 ≤ p ∧ 0 ≤ t) (ho : (g = 1 ∧ p < t) ∨ (g = 0 ∧ (t ≤ p ∨ t + n ≤ p ∨ p + n ≤ t))) (hm : m = (t + z).toNat) (hm2 : m2 = (p + z).toNat) : CR1 a (up2 a1 35 m (a1 35 m2)) p t n g (k + 1) := by
  obtain ⟨h1, h2⟩ := h
  refine ⟨by rw [← h1]; funext j; exact up2_k (by decide), fun j => ?_⟩
  by_cases c : j = m
  · rw [c, up2_s, if_pos (by omega), h2 m2, if_neg (by omega), show ((m : Nat) : Int) - t + p = ((m2 : Nat) : Int) by omega, Int.toNat_natCast]
  · rw [up2_j c, h2 j]
    by_cases c2 : (g = 0 ∧ t ≤ ((j : Nat) : Int) ∧ ((j : Nat) : Int) < t + k) ∨ (g ≠ 0 ∧ t + (n - k) ≤ ((j : Nat) : Int) ∧ ((j : Nat) : Int) < t + n)
    · rw [if_pos c2, if_pos (by omega)]
    · rw [if_neg c2, if_neg (by omega)]
theorem CRA.bad (hf : f = -1) (hk : KSA v a v2 a2) (hn : ¬ (((0 ≤ q ∧ q < v 36) ∧ 0 ≤ a 34 q.toNat) ∧ ((0 ≤ u ∧ u < v 36) ∧ 0 ≤ a 34 u.toNat) ∧ 0 ≤ n ∧ 0 ≤ w ∧ 0 ≤ x ∧ w + n ≤ a 34 q.toNat ∧ x + n ≤ a 34 u.toNat)) : CRA v a v2 a2 q w u x n f := fun E h => by
  refine ⟨E, Or.inr ⟨fun ⟨xs, ys, e1, e2, e3, e4, e5, e6, e7⟩ => hn ?_, rfl, hf⟩, h.cg hk⟩
  have k : ∀ l zs, rwe E l = some (some zs) → (0 ≤ l ∧ l < v 36) ∧ a 34 l.toNat = ((zs.length : Nat) : Int) := fun l zs e => by
    obtain ⟨r1, r2, r3⟩ := rwl_lt e
    refine ⟨⟨r1, by have q := h.1; omega⟩, ?_⟩
    rcases h.2 _ _ r3 with ⟨d, _⟩ | ⟨ws, d1, d2, _⟩
    · cases d
    · cases d1
      exact d2
  obtain ⟨a1, a2⟩ := k q xs e1
  obtain ⟨b1, b2⟩ := k u ys e2
  exact ⟨⟨a1, by omega⟩, ⟨b1, by omega⟩, e3, e4, e5, by omega, by omega⟩
theorem CRA.ok (hb : ∀ j, a 34 j ≤ 200) (hq : (0 ≤ q ∧ q < v 36) ∧ 0 ≤ a 34 q.toNat) (hu : (0 ≤ u ∧ u < v 36) ∧ 0 ≤ a 34 u.toNat) (hn : 0 ≤ n) (hw : 0 ≤ w) (hx : 0 ≤ x) (h1 : w + n ≤ a 34 q.toNat) (h2 : x + n ≤ a 34 u.toNat) (hc : CR1 a a1 (200 * q + w) (200 * u + x) n g k) (hk : k = n) (hf : f = n) (h36 : v2 36 = v 36) (h34 : a2 34 = a1 34) (h35 : a2 35 = a1 35) : CRA v a v2 a2 q w u x n f := fun E h => by
  obtain ⟨xs, e1, e2, e3⟩ := h.have_ hq.1.1 hq.1.2 hq.2
  obtain ⟨ys, d1, d2, d3⟩ := h.have_ hu.1.1 hu.1.2 hu.2
  obtain ⟨c1, c2⟩ := hc
  refine hv2 (hb u.toNat) (hb q.toNat) (fun b b3 => ?_)
  refine ⟨_, Or.inl ⟨xs, ys, ⟨e1, d1, hn, hw, hx, by omega, by omega⟩, rfl, hf⟩, h.set hb hu.1 h36 (Or.inr ⟨_, rfl, ?_, fun j y ey => ?_⟩) (fun j hj => ⟨?_, fun o ho => ?_⟩)⟩
  · unfold cpx
    rw [h34, c1, mpr_len]
    exact d2
  · unfold cpx at ey
    obtain ⟨m1, m2⟩ := mpr_at ey
    rw [h35, c2, m2]
    by_cases c : x.toNat ≤ j ∧ j < x.toNat + n.toNat
    · rw [if_pos (by omega), if_pos c, ← e3 _ (by omega)]
      congr 1
      omega
    · rw [if_neg (by omega), if_neg c]
      exact d3 j m1
  · rw [h34, c1]
  · rw [h35, c2, if_neg (by omega)]
end RSHT
set_option maxHeartbeats 4000000 in
set_option maxRecDepth 100000 in
theorem N2_lose {l : Launch} {G : GT} {h0 : Nat} {ad ln : Nat → Nat} {v : Nat → Int} {a : Nat → Nat → Int}  {l0 : Int} (hB : BX v a) (hl0 : -2147483648 ≤ l0 ∧ l0 ≤ 2147483647) : Mm l G yX12_lose cX12_lose 2 (some .int) 2 [.int (iI l0)] h0 ad ln v a 0 0 (fun r v2 a2 => ∃ f : Int, r = some (.int (iI f)) ∧ fr [0, 1] [34] v a v2 a2 ∧ BX v2 a2 ∧ (LSA v a v2 a2 l0 f)) := by
  refine Mm.mk (by decide) (Nat.le_of_ble_eq_true rfl) ?_
  intro p e s m args below meth c A C
  have fp0 : fr [0, 1] [34] v a v a := fr.refl
  refine m_iload_n (j := 1) C dX12_lose_0 rfl ?_
  refine m_iconst C dX12_lose_1 ?_
  refine m_aload_n (j := 0) C dX12_lose_2 rfl ?_
  have rv1 : 0 ≤ v 36 ∧ v 36 ≤ 200 := hB.1 36
  refine m_get (k := 36) C dX12_lose_3 w6_95 (by decide) rfl ?_
  refine m_iconst C dX12_lose_6 ?_
  refine m_isub C dX12_lose_7 ?_
  refine m_callS (As := [.int (iI l0), .int (iI 0), .int (iI ((v 36) - 1))]) (rest := []) C (fun L E => s_isIn (iI l0) (iI 0) (iI ((v 36) - 1))) dX12_lose_8 kS_X12_174 rfl rfl (Nat.le_of_ble_eq_true rfl) ⟨Nat.le_of_ble_eq_true rfl, Nat.le_of_ble_eq_true rfl⟩ ⟨Nat.le_of_ble_eq_true rfl, Nat.le_of_ble_eq_true rfl⟩ ?_
  rcases inn_c (x := l0) (lo := 0) (hi := (v 36) - 1) ⟨by omega, by omega⟩ ⟨by decide, by decide⟩ ⟨by omega, by omega⟩ with ⟨h1a, h1b, h1e⟩ | ⟨h1a, h1e⟩
  · refine m_st (st2 := [.int (iI 1)]) (by rw [h1e]) ?_
    refine m_if_ne (tgt := 20) C ⟨by decide, by decide⟩ dX12_lose_11 (by decide) (fun _ => ?_) (fun z => absurd z (by omega))
    refine m_aload_n (j := 0) C dX12_lose_20 rfl ?_
    refine m_geta (k := 34) C dX12_lose_21 w6_93 (by decide) rfl ?_
    refine m_iload_n (j := 1) C dX12_lose_24 rfl ?_
    refine m_iconst C dX12_lose_25 ?_
    refine m_ast (k := 34) C dX12_lose_26 rfl rfl (by decide) (by omega) (by show _ < ((_ : Nat) : Int); simp only [mlen]; omega) (by decide) ?_
    refine hv2 (show BX v (up2 a 34 l0.toNat (-1)) from hB.set (k := 34) (i := l0.toNat) (z := (-1)) ⟨by decide, by decide⟩) (fp0.set (k := 34) (i := l0.toNat) (z := (-1)) rfl) (fun bq1 fq1 => ?_)
    refine m_aload_n (j := 0) C dX12_lose_27 rfl ?_
    refine m_iconst C dX12_lose_28 ?_
    refine m_call (mc2 := 0) (ms2 := 0) (As := [.int (iI 1)]) (rest := []) C (B_fine (x := 1) bq1 (by show -2147483648 ≤ (1 : Int) ∧ (1 : Int) ≤ 2147483647; omega)) dX12_lose_29 kV_X12_158 rfl ck_13 rfl (Nat.le_of_ble_eq_true rfl) ⟨Nat.le_of_ble_eq_true rfl, Nat.le_of_ble_eq_true rfl⟩ ⟨Nat.le_of_ble_eq_true rfl, Nat.le_of_ble_eq_true rfl⟩ (fun rh2 vh2 ah2 h2 => ?_)
    obtain ⟨f1, rfl, fn1, bn1, ex1⟩ := h2
    refine hv2 (fq1.call fn1 rfl rfl) (show f1 = (1 : Int) from ex1) (fun fq2 gf1 => ?_)
    refine m_st (st2 := [.int (iI f1)]) rfl ?_
    exact m_iret C dX12_lose_32 rfl (Nat.le_of_ble_eq_true rfl) (Nat.le_of_ble_eq_true rfl) ⟨f1, rfl, fq2, bn1, (LSA.ok (fun j => (hB.2 34 j).2) ⟨by omega, by omega⟩ (by omega) (fn1.1 36 rfl) (fn1.2 34 rfl) (fn1.2 35 rfl))⟩
  · refine m_st (st2 := [.int (iI 0)]) (by rw [h1e]) ?_
    refine m_if_ne (tgt := 20) C ⟨by decide, by decide⟩ dX12_lose_11 (by decide) (fun z => absurd z (by omega)) (fun _ => ?_)
    refine m_aload_n (j := 0) C dX12_lose_14 rfl ?_
    refine m_iconst C dX12_lose_15 ?_
    refine m_call (mc2 := 0) (ms2 := 0) (As := [.int (iI 2)]) (rest := []) C (B_bad (x := 2) hB (by show -2147483648 ≤ (2 : Int) ∧ (2 : Int) ≤ 2147483647; omega)) dX12_lose_16 kV_X12_154 rfl ck_13 rfl (Nat.le_of_ble_eq_true rfl) ⟨Nat.le_of_ble_eq_true rfl, Nat.le_of_ble_eq_true rfl⟩ ⟨Nat.le_of_ble_eq_true rfl, Nat.le_of_ble_eq_true rfl⟩ (fun rh3 vh3 ah3 h3 => ?_)
    obtain ⟨f2, rfl, fn2, bn2, ex2⟩ := h3
    refine hv2 (fp0.call fn2 rfl rfl) (show f2 = -1 from ex2) (fun fq3 gf2 => ?_)
    refine m_st (st2 := [.int (iI f2)]) rfl ?_
    exact m_iret C dX12_lose_19 rfl (Nat.le_of_ble_eq_true rfl) (Nat.le_of_ble_eq_true rfl) ⟨f2, rfl, fq3, bn2, (LSA.bad (by omega) (by omega) ⟨fn2.1 36 rfl, fn2.2 34 rfl, fn2.2 35 rfl⟩)⟩
set_option maxHeartbeats 4000000 in
set_option maxRecDepth 100000 in
theorem N2_cut {l : Launch} {G : GT} {h0 : Nat} {ad ln : Nat → Nat} {v : Nat → Int} {a : Nat → Nat → Int}  {l0 n1 : Int} (hB : BX v a) (hl0 : -2147483648 ≤ l0 ∧ l0 ≤ 2147483647) (hn1 : -2147483648 ≤ n1 ∧ n1 ≤ 2147483647) : Mm l G yX12_cut cX12_cut 4 (some .int) 2 [.int (iI l0), .int (iI n1)] h0 ad ln v a 0 0 (fun r v2 a2 => ∃ f : Int, r = some (.int (iI f)) ∧ fr [0, 1] [34, 35] v a v2 a2 ∧ BX v2 a2 ∧ (CTA v a v2 a2 l0 n1 f)) := by
  refine Mm.mk (by decide) (Nat.le_of_ble_eq_true rfl) ?_
  intro p e s m args below meth c A C
  refine hv2 (show 0 ≤ v 36 ∧ v 36 ≤ 200 from hB.1 36) (show fr [0, 1] [34, 35] v a v a from fr.refl) (fun r36 fp0 => ?_)
  refine m_iload_n (j := 2) C dX12_cut_0 rfl ?_
  refine m_sipush (z := 200) C dX12_cut_1 (by decide) ?_
  refine m_icmp_le (tgt := 14) C ⟨by omega, by omega⟩ ⟨by decide, by decide⟩ dX12_cut_4 (by decide) (fun c1 => ?_) (fun c1 => ?_)
  · refine m_iload_n (j := 2) C dX12_cut_14 rfl ?_
    refine m_if_ge (tgt := 24) C ⟨by omega, by omega⟩ dX12_cut_15 (by decide) (fun c2 => ?_) (fun c2 => ?_)
    · refine m_aload_n (j := 0) C dX12_cut_24 rfl ?_
      refine m_iload_n (j := 1) C dX12_cut_25 rfl ?_
      have rv1 : 0 ≤ v 36 ∧ v 36 ≤ 200 := hB.1 36
      refine m_call (mc2 := 0) (ms2 := 0) (As := [.int (iI l0)]) (rest := []) C (M_lineFault (l0 := l0) hB.rg ⟨by omega, by omega⟩ ⟨hB.1 36, hB.2 34⟩) dX12_cut_26 kV_X12_294 rfl ck_13 rfl (Nat.le_of_ble_eq_true rfl) ⟨Nat.le_of_ble_eq_true rfl, Nat.le_of_ble_eq_true rfl⟩ ⟨Nat.le_of_ble_eq_true rfl, Nat.le_of_ble_eq_true rfl⟩ (fun rh1 vh1 ah1 h1 => ?_)
      obtain ⟨f1, rfl, hf1, rfl, rfl⟩ := h1
      refine hv2 (show (f1 = 2 ∧ ¬ (0 ≤ l0 ∧ l0 < (v 36))) ∨ (f1 = 1 ∧ 0 ≤ l0 ∧ l0 < (v 36) ∧ a 34 l0.toNat < 0) ∨ (f1 = 0 ∧ 0 ≤ l0 ∧ l0 < (v 36) ∧ 0 ≤ a 34 l0.toNat) from hf1) (show (-1) ≤ a 34 l0.toNat ∧ a 34 l0.toNat ≤ 200 from hB.2 34 (l0.toNat)) (fun gf1 ra1 => ?_)
      refine m_st (st2 := [.int (iI f1)]) rfl ?_
      refine m_if_le (tgt := 42) C ⟨by omega, by omega⟩ dX12_cut_29 (by decide) (fun c3 => ?_) (fun c3 => ?_)
      · refine m_aload_n (j := 0) C dX12_cut_42 rfl ?_
        refine m_geta (k := 34) C dX12_cut_43 w6_93 (by decide) rfl ?_
        refine m_iload_n (j := 1) C dX12_cut_46 rfl ?_
        refine m_ald (k := 34) C dX12_cut_47 rfl rfl (by decide) (by omega) (by show _ < ((_ : Nat) : Int); simp only [mlen]; omega) (by decide) ?_
        refine m_istore_n (lv2 := [(3, .int (iI (a 34 l0.toNat))), (0, .ref h0), (1, .int (iI l0)), (2, .int (iI n1))]) C dX12_cut_48 (by decide) rfl ?_
        have Lp1 : ∀ (nn : Nat) (k : Int) (vb1 : Nat → Int) (ab1 : Nat → Nat → Int), 201 - k < (nn : Int) → BX vb1 ab1 → fr [0, 1] [34, 35] v a vb1 ab1 → (0 ≤ k ∧ (k ≤ n1 ∨ k ≤ 200)) → ((k = a 34 l0.toNat ∨ k ≤ n1) ∧ a 34 l0.toNat ≤ k) → (CT1 a ab1 l0 k) → mw p l e (rmq 2 0 0) s m args below meth c G A 4 (MQ below (Qm G A (fun rq Lq Eq => ∃ (vq : Nat → Int) (aq : Nat → Nat → Int), mI G h0 ad ln vq aq Lq Eq ∧ (fun r v2 a2 => ∃ f : Int, r = some (.int (iI f)) ∧ fr [0, 1] [34, 35] v a v2 a2 ∧ BX v2 a2 ∧ (CTA v a v2 a2 l0 n1 f)) rq vq aq)) args s 0 0 A) h0 ad ln vb1 ab1 0 0 49 [(3, .int (iI k)), (0, .ref h0), (1, .int (iI l0)), (2, .int (iI n1))] [] := by
          intro nn
          induction nn with
          | zero =>
            intro k vb1 ab1 hm bxb1 fpb1 hk hk2 hC
            exact absurd hm (by omega)
          | succ nn ih1 =>
            intro k vb1 ab1 hm bxb1 fpb1 hk hk2 hC
            refine m_iload_n (j := 0) C dX12_cut_49 rfl ?_
            refine m_iload_n (j := 3) C dX12_cut_50 rfl ?_
            refine m_icmp_ge (tgt := 73) C ⟨by omega, by omega⟩ ⟨by omega, by omega⟩ dX12_cut_51 (by decide) (fun c4 => ?_) (fun c4 => ?_)
            · refine m_aload_n (j := 1) C dX12_cut_73 rfl ?_
              refine m_geta (k := 34) C dX12_cut_74 w6_93 (by decide) rfl ?_
              refine m_iload_n (j := 2) C dX12_cut_77 rfl ?_
              refine m_iload_n (j := 3) C dX12_cut_78 rfl ?_
              refine m_ast (k := 34) C dX12_cut_79 rfl rfl (by decide) (by omega) (by show _ < ((_ : Nat) : Int); simp only [mlen]; omega) (by decide) ?_
              refine hv2 (show BX vb1 (up2 ab1 34 l0.toNat n1) from bxb1.set (k := 34) (i := l0.toNat) (z := n1) (show (-1) ≤ n1 ∧ n1 ≤ 200 by omega)) (fpb1.set (k := 34) (i := l0.toNat) (z := n1) rfl) (fun bq1 fq1 => ?_)
              refine m_aload_n (j := 1) C dX12_cut_80 rfl ?_
              refine m_iload_n (j := 3) C dX12_cut_81 rfl ?_
              refine m_call (mc2 := 0) (ms2 := 0) (As := [.int (iI n1)]) (rest := []) C (B_fine (x := n1) bq1 (by show -2147483648 ≤ n1 ∧ n1 ≤ 2147483647; omega)) dX12_cut_82 kV_X12_158 rfl ck_13 rfl (Nat.le_of_ble_eq_true rfl) ⟨Nat.le_of_ble_eq_true rfl, Nat.le_of_ble_eq_true rfl⟩ ⟨Nat.le_of_ble_eq_true rfl, Nat.le_of_ble_eq_true rfl⟩ (fun rh2 vh2 ah2 h2 => ?_)
              obtain ⟨f2, rfl, fn1, bn1, ex1⟩ := h2
              refine hv2 (fq1.call fn1 rfl rfl) (show f2 = n1 from ex1) (fun fq2 gf2 => ?_)
              refine m_st (st2 := [.int (iI f2)]) rfl ?_
              exact m_iret C dX12_cut_85 rfl (Nat.le_of_ble_eq_true rfl) (Nat.le_of_ble_eq_true rfl) ⟨f2, rfl, fq2, bn1, (CTA.ok (fun j => (hB.2 34 j).2) ⟨by omega, by omega⟩ ⟨by omega, by omega⟩ (by omega) hC (by omega) (by omega) (fq2.1 36 rfl) (fn1.2 34 rfl) (fn1.2 35 rfl))⟩
            · refine m_aload_n (j := 1) C dX12_cut_54 rfl ?_
              refine m_geta (k := 35) C dX12_cut_55 w6_94 (by decide) rfl ?_
              refine m_sipush (z := 200) C dX12_cut_58 (by decide) ?_
              refine m_iload_n (j := 2) C dX12_cut_61 rfl ?_
              refine m_imul C dX12_cut_62 ?_
              refine m_iload_n (j := 0) C dX12_cut_63 rfl ?_
              refine m_iadd C dX12_cut_64 ?_
              refine m_iconst C dX12_cut_65 ?_
              refine m_ast (k := 35) C dX12_cut_66 rfl rfl (by decide) (by omega) (by show _ < ((_ : Nat) : Int); simp only [mlen]; omega) (by decide) ?_
              refine hv2 (show BX vb1 (up2 ab1 35 ((200 * l0) + k).toNat 0) from bxb1.set (k := 35) (i := ((200 * l0) + k).toNat) (z := 0) ⟨by decide, by decide⟩) (fpb1.set (k := 35) (i := ((200 * l0) + k).toNat) (z := 0) rfl) (fun bq2 fq3 => ?_)
              refine m_iinc (z := k) (j := 0) (lv2 := [(3, .int (iI (k + 1))), (0, .ref h0), (1, .int (iI l0)), (2, .int (iI n1))]) C dX12_cut_67 rfl (by decide) rfl ?_
              refine m_goto (tgt := 49) C dX12_cut_70 (by decide) ?_
              refine m_lv (lv2 := [(3, .int (iI (k + 1))), (0, .ref h0), (1, .int (iI l0)), (2, .int (iI n1))]) [0, 1, 2, 3] rfl ?_
              exact ih1  (k + 1) _ _ (by omega) bq2 fq3 (by omega) (by omega) (CT1.step hC ⟨by omega, by omega⟩ rfl)
        refine m_lv (lv2 := [(3, .int (iI (a 34 l0.toNat))), (0, .ref h0), (1, .int (iI l0)), (2, .int (iI n1))]) [0, 1, 2, 3] rfl ?_
        exact Lp1 202 (a 34 l0.toNat) _ _ (by omega) hB fp0 (by omega) (by omega) (CT1.zero rfl)
      · refine m_aload_n (j := 0) C dX12_cut_32 rfl ?_
        refine m_aload_n (j := 0) C dX12_cut_33 rfl ?_
        refine m_iload_n (j := 1) C dX12_cut_34 rfl ?_
        refine m_call (mc2 := 0) (ms2 := 0) (As := [.int (iI l0)]) (rest := [.ref h0]) C (M_lineFault (l0 := l0) hB.rg ⟨by omega, by omega⟩ ⟨hB.1 36, hB.2 34⟩) dX12_cut_35 kV_X12_294 rfl ck_13 rfl (Nat.le_of_ble_eq_true rfl) ⟨Nat.le_of_ble_eq_true rfl, Nat.le_of_ble_eq_true rfl⟩ ⟨Nat.le_of_ble_eq_true rfl, Nat.le_of_ble_eq_true rfl⟩ (fun rh3 vh3 ah3 h3 => ?_)
        obtain ⟨f3, rfl, hf3, rfl, rfl⟩ := h3
        have gf3 : (f3 = 2 ∧ ¬ (0 ≤ l0 ∧ l0 < (v 36))) ∨ (f3 = 1 ∧ 0 ≤ l0 ∧ l0 < (v 36) ∧ a 34 l0.toNat < 0) ∨ (f3 = 0 ∧ 0 ≤ l0 ∧ l0 < (v 36) ∧ 0 ≤ a 34 l0.toNat) := hf3
        refine m_st (st2 := [.int (iI f3), .ref h0]) rfl ?_
        refine m_call (mc2 := 0) (ms2 := 0) (As := [.int (iI f3)]) (rest := []) C (B_bad (x := f3) hB (by show -2147483648 ≤ f3 ∧ f3 ≤ 2147483647; omega)) dX12_cut_38 kV_X12_154 rfl ck_13 rfl (Nat.le_of_ble_eq_true rfl) ⟨Nat.le_of_ble_eq_true rfl, Nat.le_of_ble_eq_true rfl⟩ ⟨Nat.le_of_ble_eq_true rfl, Nat.le_of_ble_eq_true rfl⟩ (fun rh4 vh4 ah4 h4 => ?_)
        obtain ⟨f4, rfl, fn2, bn2, ex2⟩ := h4
        refine hv2 (fp0.call fn2 rfl rfl) (show f4 = -1 from ex2) (fun fq4 gf4 => ?_)
        refine m_st (st2 := [.int (iI f4)]) rfl ?_
        exact m_iret C dX12_cut_41 rfl (Nat.le_of_ble_eq_true rfl) (Nat.le_of_ble_eq_true rfl) ⟨f4, rfl, fq4, bn2, (CTA.bad (by omega) (by omega) ⟨fn2.1 36 rfl, fn2.2 34 rfl, fn2.2 35 rfl⟩)⟩
    · refine m_aload_n (j := 0) C dX12_cut_18 rfl ?_
      refine m_iconst C dX12_cut_19 ?_
      refine m_call (mc2 := 0) (ms2 := 0) (As := [.int (iI 5)]) (rest := []) C (B_bad (x := 5) hB (by show -2147483648 ≤ (5 : Int) ∧ (5 : Int) ≤ 2147483647; omega)) dX12_cut_20 kV_X12_154 rfl ck_13 rfl (Nat.le_of_ble_eq_true rfl) ⟨Nat.le_of_ble_eq_true rfl, Nat.le_of_ble_eq_true rfl⟩ ⟨Nat.le_of_ble_eq_true rfl, Nat.le_of_ble_eq_true rfl⟩ (fun rh5 vh5 ah5 h5 => ?_)
      obtain ⟨f5, rfl, fn3, bn3, ex3⟩ := h5
      refine hv2 (fp0.call fn3 rfl rfl) (show f5 = -1 from ex3) (fun fq5 gf5 => ?_)
      refine m_st (st2 := [.int (iI f5)]) rfl ?_
      exact m_iret C dX12_cut_23 rfl (Nat.le_of_ble_eq_true rfl) (Nat.le_of_ble_eq_true rfl) ⟨f5, rfl, fq5, bn3, (CTA.bad (by omega) (by omega) ⟨fn3.1 36 rfl, fn3.2 34 rfl, fn3.2 35 rfl⟩)⟩
  · refine m_aload_n (j := 0) C dX12_cut_7 rfl ?_
    refine m_bipush (z := 6) C dX12_cut_8 (by decide) ?_
    refine m_call (mc2 := 0) (ms2 := 0) (As := [.int (iI 6)]) (rest := []) C (B_bad (x := 6) hB (by show -2147483648 ≤ (6 : Int) ∧ (6 : Int) ≤ 2147483647; omega)) dX12_cut_10 kV_X12_154 rfl ck_13 rfl (Nat.le_of_ble_eq_true rfl) ⟨Nat.le_of_ble_eq_true rfl, Nat.le_of_ble_eq_true rfl⟩ ⟨Nat.le_of_ble_eq_true rfl, Nat.le_of_ble_eq_true rfl⟩ (fun rh6 vh6 ah6 h6 => ?_)
    obtain ⟨f6, rfl, fn4, bn4, ex4⟩ := h6
    refine hv2 (fp0.call fn4 rfl rfl) (show f6 = -1 from ex4) (fun fq6 gf6 => ?_)
    refine m_st (st2 := [.int (iI f6)]) rfl ?_
    exact m_iret C dX12_cut_13 rfl (Nat.le_of_ble_eq_true rfl) (Nat.le_of_ble_eq_true rfl) ⟨f6, rfl, fq6, bn4, (CTA.bad (by omega) (by omega) ⟨fn4.1 36 rfl, fn4.2 34 rfl, fn4.2 35 rfl⟩)⟩
set_option maxHeartbeats 4000000 in
set_option maxRecDepth 100000 in
theorem N2_copyRow {l : Launch} {G : GT} {h0 : Nat} {ad ln : Nat → Nat} {v : Nat → Int} {a : Nat → Nat → Int}  {q w1 u x n1 : Int} (hB : BX v a) (hq : -2147483648 ≤ q ∧ q ≤ 2147483647) (hw1 : -2147483648 ≤ w1 ∧ w1 ≤ 2147483647) (hu : -2147483648 ≤ u ∧ u ≤ 2147483647) (hx : -2147483648 ≤ x ∧ x ≤ 2147483647) (hn1 : -2147483648 ≤ n1 ∧ n1 ≤ 2147483647) : Mm l G yX12_copyRow cX12_copyRow 11 (some .int) 1 [.int (iI q), .int (iI w1), .int (iI u), .int (iI x), .int (iI n1)] h0 ad ln v a 0 0 (fun r v2 a2 => ∃ f : Int, r = some (.int (iI f)) ∧ fr [0, 1] [35] v a v2 a2 ∧ BX v2 a2 ∧ (CRA v a v2 a2 q w1 u x n1 f)) := by
  refine Mm.mk (by decide) (Nat.le_of_ble_eq_true rfl) ?_
  intro p e s m args below meth c A C
  refine hv2 (show 0 ≤ v 36 ∧ v 36 ≤ 200 from hB.1 36) (show fr [0, 1] [35] v a v a from fr.refl) (fun r36 fp0 => ?_)
  refine m_iload_n (j := 1) C dX12_copyRow_0 rfl ?_
  refine m_iconst C dX12_copyRow_1 ?_
  refine m_aload_n (j := 0) C dX12_copyRow_2 rfl ?_
  have rv1 : 0 ≤ v 36 ∧ v 36 ≤ 200 := hB.1 36
  refine m_get (k := 36) C dX12_copyRow_3 w6_95 (by decide) rfl ?_
  refine m_iconst C dX12_copyRow_6 ?_
  refine m_isub C dX12_copyRow_7 ?_
  refine m_callS (As := [.int (iI q), .int (iI 0), .int (iI ((v 36) - 1))]) (rest := []) C (fun L E => s_isIn (iI q) (iI 0) (iI ((v 36) - 1))) dX12_copyRow_8 kS_X12_174 rfl rfl (Nat.le_of_ble_eq_true rfl) ⟨Nat.le_of_ble_eq_true rfl, Nat.le_of_ble_eq_true rfl⟩ ⟨Nat.le_of_ble_eq_true rfl, Nat.le_of_ble_eq_true rfl⟩ ?_
  rcases inn_c (x := q) (lo := 0) (hi := (v 36) - 1) ⟨by omega, by omega⟩ ⟨by decide, by decide⟩ ⟨by omega, by omega⟩ with ⟨h1a, h1b, h1e⟩ | ⟨h1a, h1e⟩
  · refine m_st (st2 := [.int (iI 1)]) (by rw [h1e]) ?_
    refine m_if_eq (tgt := 28) C ⟨by decide, by decide⟩ dX12_copyRow_11 (by decide) (fun z => absurd z (by omega)) (fun _ => ?_)
    refine m_iload_n (j := 3) C dX12_copyRow_14 rfl ?_
    refine m_iconst C dX12_copyRow_15 ?_
    refine m_aload_n (j := 0) C dX12_copyRow_16 rfl ?_
    refine m_get (k := 36) C dX12_copyRow_17 w6_95 (by decide) rfl ?_
    refine m_iconst C dX12_copyRow_20 ?_
    refine m_isub C dX12_copyRow_21 ?_
    refine m_callS (As := [.int (iI u), .int (iI 0), .int (iI ((v 36) - 1))]) (rest := []) C (fun L E => s_isIn (iI u) (iI 0) (iI ((v 36) - 1))) dX12_copyRow_22 kS_X12_174 rfl rfl (Nat.le_of_ble_eq_true rfl) ⟨Nat.le_of_ble_eq_true rfl, Nat.le_of_ble_eq_true rfl⟩ ⟨Nat.le_of_ble_eq_true rfl, Nat.le_of_ble_eq_true rfl⟩ ?_
    rcases inn_c (x := u) (lo := 0) (hi := (v 36) - 1) ⟨by omega, by omega⟩ ⟨by decide, by decide⟩ ⟨by omega, by omega⟩ with ⟨h2a, h2b, h2e⟩ | ⟨h2a, h2e⟩
    · refine m_st (st2 := [.int (iI 1)]) (by rw [h2e]) ?_
      refine m_if_ne (tgt := 34) C ⟨by decide, by decide⟩ dX12_copyRow_25 (by decide) (fun _ => ?_) (fun z => absurd z (by omega))
      refine m_aload_n (j := 0) C dX12_copyRow_34 rfl ?_
      refine m_geta (k := 34) C dX12_copyRow_35 w6_93 (by decide) rfl ?_
      refine m_iload_n (j := 1) C dX12_copyRow_38 rfl ?_
      refine m_ald (k := 34) C dX12_copyRow_39 rfl rfl (by decide) (by omega) (by show _ < ((_ : Nat) : Int); simp only [mlen]; omega) (by decide) ?_
      have ra1 : (-1) ≤ a 34 q.toNat ∧ a 34 q.toNat ≤ 200 := hB.2 34 (q.toNat)
      refine m_if_lt (tgt := 52) C (r32_c (lo := (-1)) (hi := 200) ra1.1 ra1.2 (by decide) (by decide)) dX12_copyRow_40 (by decide) (fun c1 => ?_) (fun c1 => ?_)
      · refine m_aload_n (j := 0) C dX12_copyRow_52 rfl ?_
        refine m_iconst C dX12_copyRow_53 ?_
        refine m_call (mc2 := 0) (ms2 := 0) (As := [.int (iI 1)]) (rest := []) C (B_bad (x := 1) hB (by show -2147483648 ≤ (1 : Int) ∧ (1 : Int) ≤ 2147483647; omega)) dX12_copyRow_54 kV_X12_154 rfl ck_13 rfl (Nat.le_of_ble_eq_true rfl) ⟨Nat.le_of_ble_eq_true rfl, Nat.le_of_ble_eq_true rfl⟩ ⟨Nat.le_of_ble_eq_true rfl, Nat.le_of_ble_eq_true rfl⟩ (fun rh3 vh3 ah3 h3 => ?_)
        obtain ⟨f1, rfl, fn1, bn1, ex1⟩ := h3
        refine hv2 (fp0.call fn1 rfl rfl) (show f1 = -1 from ex1) (fun fq1 gf1 => ?_)
        refine m_st (st2 := [.int (iI f1)]) rfl ?_
        exact m_iret C dX12_copyRow_57 rfl (Nat.le_of_ble_eq_true rfl) (Nat.le_of_ble_eq_true rfl) ⟨f1, rfl, fq1, bn1, (CRA.bad (by omega) ⟨fn1.1 36 rfl, fn1.2 34 rfl, fn1.2 35 rfl⟩ (by omega))⟩
      · refine m_aload_n (j := 0) C dX12_copyRow_43 rfl ?_
        refine m_geta (k := 34) C dX12_copyRow_44 w6_93 (by decide) rfl ?_
        refine m_iload_n (j := 3) C dX12_copyRow_47 rfl ?_
        refine m_ald (k := 34) C dX12_copyRow_48 rfl rfl (by decide) (by omega) (by show _ < ((_ : Nat) : Int); simp only [mlen]; omega) (by decide) ?_
        have ra2 : (-1) ≤ a 34 u.toNat ∧ a 34 u.toNat ≤ 200 := hB.2 34 (u.toNat)
        refine m_if_ge (tgt := 58) C (r32_c (lo := (-1)) (hi := 200) ra2.1 ra2.2 (by decide) (by decide)) dX12_copyRow_49 (by decide) (fun c2 => ?_) (fun c2 => ?_)
        · refine m_iload (j := 5) C dX12_copyRow_58 rfl ?_
          refine m_if_lt (tgt := 99) C ⟨by omega, by omega⟩ dX12_copyRow_60 (by decide) (fun c3 => ?_) (fun c3 => ?_)
          · refine m_aload_n (j := 0) C dX12_copyRow_99 rfl ?_
            refine m_iconst C dX12_copyRow_100 ?_
            refine m_call (mc2 := 0) (ms2 := 0) (As := [.int (iI 2)]) (rest := []) C (B_bad (x := 2) hB (by show -2147483648 ≤ (2 : Int) ∧ (2 : Int) ≤ 2147483647; omega)) dX12_copyRow_101 kV_X12_154 rfl ck_13 rfl (Nat.le_of_ble_eq_true rfl) ⟨Nat.le_of_ble_eq_true rfl, Nat.le_of_ble_eq_true rfl⟩ ⟨Nat.le_of_ble_eq_true rfl, Nat.le_of_ble_eq_true rfl⟩ (fun rh4 vh4 ah4 h4 => ?_)
            obtain ⟨f2, rfl, fn2, bn2, ex2⟩ := h4
            refine hv2 (fp0.call fn2 rfl rfl) (show f2 = -1 from ex2) (fun fq2 gf2 => ?_)
            refine m_st (st2 := [.int (iI f2)]) rfl ?_
            exact m_iret C dX12_copyRow_104 rfl (Nat.le_of_ble_eq_true rfl) (Nat.le_of_ble_eq_true rfl) ⟨f2, rfl, fq2, bn2, (CRA.bad (by omega) ⟨fn2.1 36 rfl, fn2.2 34 rfl, fn2.2 35 rfl⟩ (by omega))⟩
          · refine m_iload_n (j := 2) C dX12_copyRow_63 rfl ?_
            refine m_if_lt (tgt := 99) C ⟨by omega, by omega⟩ dX12_copyRow_64 (by decide) (fun c4 => ?_) (fun c4 => ?_)
            · refine m_aload_n (j := 0) C dX12_copyRow_99 rfl ?_
              refine m_iconst C dX12_copyRow_100 ?_
              refine m_call (mc2 := 0) (ms2 := 0) (As := [.int (iI 2)]) (rest := []) C (B_bad (x := 2) hB (by show -2147483648 ≤ (2 : Int) ∧ (2 : Int) ≤ 2147483647; omega)) dX12_copyRow_101 kV_X12_154 rfl ck_13 rfl (Nat.le_of_ble_eq_true rfl) ⟨Nat.le_of_ble_eq_true rfl, Nat.le_of_ble_eq_true rfl⟩ ⟨Nat.le_of_ble_eq_true rfl, Nat.le_of_ble_eq_true rfl⟩ (fun rh5 vh5 ah5 h5 => ?_)
              obtain ⟨f3, rfl, fn3, bn3, ex3⟩ := h5
              refine hv2 (fp0.call fn3 rfl rfl) (show f3 = -1 from ex3) (fun fq3 gf3 => ?_)
              refine m_st (st2 := [.int (iI f3)]) rfl ?_
              exact m_iret C dX12_copyRow_104 rfl (Nat.le_of_ble_eq_true rfl) (Nat.le_of_ble_eq_true rfl) ⟨f3, rfl, fq3, bn3, (CRA.bad (by omega) ⟨fn3.1 36 rfl, fn3.2 34 rfl, fn3.2 35 rfl⟩ (by omega))⟩
            · refine m_iload (j := 4) C dX12_copyRow_67 rfl ?_
              refine m_if_lt (tgt := 99) C ⟨by omega, by omega⟩ dX12_copyRow_69 (by decide) (fun c5 => ?_) (fun c5 => ?_)
              · refine m_aload_n (j := 0) C dX12_copyRow_99 rfl ?_
                refine m_iconst C dX12_copyRow_100 ?_
                refine m_call (mc2 := 0) (ms2 := 0) (As := [.int (iI 2)]) (rest := []) C (B_bad (x := 2) hB (by show -2147483648 ≤ (2 : Int) ∧ (2 : Int) ≤ 2147483647; omega)) dX12_copyRow_101 kV_X12_154 rfl ck_13 rfl (Nat.le_of_ble_eq_true rfl) ⟨Nat.le_of_ble_eq_true rfl, Nat.le_of_ble_eq_true rfl⟩ ⟨Nat.le_of_ble_eq_true rfl, Nat.le_of_ble_eq_true rfl⟩ (fun rh6 vh6 ah6 h6 => ?_)
                obtain ⟨f4, rfl, fn4, bn4, ex4⟩ := h6
                refine hv2 (fp0.call fn4 rfl rfl) (show f4 = -1 from ex4) (fun fq4 gf4 => ?_)
                refine m_st (st2 := [.int (iI f4)]) rfl ?_
                exact m_iret C dX12_copyRow_104 rfl (Nat.le_of_ble_eq_true rfl) (Nat.le_of_ble_eq_true rfl) ⟨f4, rfl, fq4, bn4, (CRA.bad (by omega) ⟨fn4.1 36 rfl, fn4.2 34 rfl, fn4.2 35 rfl⟩ (by omega))⟩
              · refine m_iload (j := 5) C dX12_copyRow_72 rfl ?_
                refine m_aload_n (j := 0) C dX12_copyRow_74 rfl ?_
                refine m_geta (k := 34) C dX12_copyRow_75 w6_93 (by decide) rfl ?_
                refine m_iload_n (j := 1) C dX12_copyRow_78 rfl ?_
                refine m_ald (k := 34) C dX12_copyRow_79 rfl rfl (by decide) (by omega) (by show _ < ((_ : Nat) : Int); simp only [mlen]; omega) (by decide) ?_
                refine m_iload_n (j := 2) C dX12_copyRow_80 rfl ?_
                refine m_isub C dX12_copyRow_81 ?_
                refine m_icmp_gt (tgt := 99) C ⟨by omega, by omega⟩ ⟨by omega, by omega⟩ dX12_copyRow_82 (by decide) (fun c6 => ?_) (fun c6 => ?_)
                · refine m_aload_n (j := 0) C dX12_copyRow_99 rfl ?_
                  refine m_iconst C dX12_copyRow_100 ?_
                  refine m_call (mc2 := 0) (ms2 := 0) (As := [.int (iI 2)]) (rest := []) C (B_bad (x := 2) hB (by show -2147483648 ≤ (2 : Int) ∧ (2 : Int) ≤ 2147483647; omega)) dX12_copyRow_101 kV_X12_154 rfl ck_13 rfl (Nat.le_of_ble_eq_true rfl) ⟨Nat.le_of_ble_eq_true rfl, Nat.le_of_ble_eq_true rfl⟩ ⟨Nat.le_of_ble_eq_true rfl, Nat.le_of_ble_eq_true rfl⟩ (fun rh7 vh7 ah7 h7 => ?_)
                  obtain ⟨f5, rfl, fn5, bn5, ex5⟩ := h7
                  refine hv2 (fp0.call fn5 rfl rfl) (show f5 = -1 from ex5) (fun fq5 gf5 => ?_)
                  refine m_st (st2 := [.int (iI f5)]) rfl ?_
                  exact m_iret C dX12_copyRow_104 rfl (Nat.le_of_ble_eq_true rfl) (Nat.le_of_ble_eq_true rfl) ⟨f5, rfl, fq5, bn5, (CRA.bad (by omega) ⟨fn5.1 36 rfl, fn5.2 34 rfl, fn5.2 35 rfl⟩ (by omega))⟩
                · refine m_iload (j := 5) C dX12_copyRow_85 rfl ?_
                  refine m_aload_n (j := 0) C dX12_copyRow_87 rfl ?_
                  refine m_geta (k := 34) C dX12_copyRow_88 w6_93 (by decide) rfl ?_
                  refine m_iload_n (j := 3) C dX12_copyRow_91 rfl ?_
                  refine m_ald (k := 34) C dX12_copyRow_92 rfl rfl (by decide) (by omega) (by show _ < ((_ : Nat) : Int); simp only [mlen]; omega) (by decide) ?_
                  refine m_iload (j := 4) C dX12_copyRow_93 rfl ?_
                  refine m_isub C dX12_copyRow_95 ?_
                  refine m_icmp_le (tgt := 105) C ⟨by omega, by omega⟩ ⟨by omega, by omega⟩ dX12_copyRow_96 (by decide) (fun c7 => ?_) (fun c7 => ?_)
                  · refine m_sipush (z := 200) C dX12_copyRow_105 (by decide) ?_
                    refine m_iload_n (j := 1) C dX12_copyRow_108 rfl ?_
                    refine m_imul C dX12_copyRow_109 ?_
                    refine m_iload_n (j := 2) C dX12_copyRow_110 rfl ?_
                    refine m_iadd C dX12_copyRow_111 ?_
                    refine m_istore (lv2 := [(6, .int (iI ((200 * q) + w1))), (0, .ref h0), (1, .int (iI q)), (2, .int (iI w1)), (3, .int (iI u)), (4, .int (iI x)), (5, .int (iI n1))]) C dX12_copyRow_112 (by decide) rfl ?_
                    refine m_sipush (z := 200) C dX12_copyRow_114 (by decide) ?_
                    refine m_iload_n (j := 4) C dX12_copyRow_117 rfl ?_
                    refine m_imul C dX12_copyRow_118 ?_
                    refine m_iload (j := 5) C dX12_copyRow_119 rfl ?_
                    refine m_iadd C dX12_copyRow_121 ?_
                    refine m_istore (lv2 := [(7, .int (iI ((200 * u) + x))), (6, .int (iI ((200 * q) + w1))), (0, .ref h0), (1, .int (iI q)), (2, .int (iI w1)), (3, .int (iI u)), (4, .int (iI x)), (5, .int (iI n1))]) C dX12_copyRow_122 (by decide) rfl ?_
                    refine m_iload_n (j := 3) C dX12_copyRow_124 rfl ?_
                    refine m_iload_n (j := 5) C dX12_copyRow_125 rfl ?_
                    have J1 : ∀ (g : Int) (vb1 : Nat → Int) (ab1 : Nat → Nat → Int), BX vb1 ab1 → fr [0, 1] [35] v a vb1 ab1 → (g = 0 ∨ g = 1) → ((g = 1 ∧ q = u ∧ w1 < x) ∨ (g = 0 ∧ (q ≠ u ∨ x ≤ w1))) → (ab1 34 = a 34 ∧ ab1 35 = a 35) → mw p l e (rmq 1 0 0) s m args below meth c G A 11 (MQ below (Qm G A (fun rq Lq Eq => ∃ (vq : Nat → Int) (aq : Nat → Nat → Int), mI G h0 ad ln vq aq Lq Eq ∧ (fun r v2 a2 => ∃ f : Int, r = some (.int (iI f)) ∧ fr [0, 1] [35] v a v2 a2 ∧ BX v2 a2 ∧ (CRA v a v2 a2 q w1 u x n1 f)) rq vq aq)) args s 0 0 A) h0 ad ln vb1 ab1 0 0 140 [(7, .int (iI ((200 * u) + x))), (6, .int (iI ((200 * q) + w1))), (0, .ref h0), (1, .int (iI q)), (2, .int (iI w1)), (3, .int (iI u)), (4, .int (iI x)), (5, .int (iI n1))] [.int (iI g)] := by
                      intro g vb1 ab1 bxb1 fpb1 hg hg2 hKK
                      refine m_istore (lv2 := [(8, .int (iI g)), (7, .int (iI ((200 * u) + x))), (6, .int (iI ((200 * q) + w1))), (0, .ref h0), (1, .int (iI q)), (2, .int (iI w1)), (3, .int (iI u)), (4, .int (iI x)), (5, .int (iI n1))]) C dX12_copyRow_140 (by decide) rfl ?_
                      refine m_iconst C dX12_copyRow_142 ?_
                      refine m_istore (lv2 := [(9, .int (iI 0)), (8, .int (iI g)), (7, .int (iI ((200 * u) + x))), (6, .int (iI ((200 * q) + w1))), (0, .ref h0), (1, .int (iI q)), (2, .int (iI w1)), (3, .int (iI u)), (4, .int (iI x)), (5, .int (iI n1))]) C dX12_copyRow_143 (by decide) rfl ?_
                      have Lp1 : ∀ (nn : Nat) (i1 : Int) (vb2 : Nat → Int) (ab2 : Nat → Nat → Int), 201 - i1 < (nn : Int) → BX vb2 ab2 → fr [0, 1] [35] v a vb2 ab2 → (0 ≤ i1 ∧ i1 ≤ n1) → ((g = 1 ∧ q = u ∧ w1 < x) ∨ (g = 0 ∧ (q ≠ u ∨ x ≤ w1))) → (CR1 a ab2 (200 * q + w1) (200 * u + x) n1 g i1) → mw p l e (rmq 1 0 0) s m args below meth c G A 11 (MQ below (Qm G A (fun rq Lq Eq => ∃ (vq : Nat → Int) (aq : Nat → Nat → Int), mI G h0 ad ln vq aq Lq Eq ∧ (fun r v2 a2 => ∃ f : Int, r = some (.int (iI f)) ∧ fr [0, 1] [35] v a v2 a2 ∧ BX v2 a2 ∧ (CRA v a v2 a2 q w1 u x n1 f)) rq vq aq)) args s 0 0 A) h0 ad ln vb2 ab2 0 0 145 [(9, .int (iI i1)), (8, .int (iI g)), (7, .int (iI ((200 * u) + x))), (6, .int (iI ((200 * q) + w1))), (0, .ref h0), (1, .int (iI q)), (2, .int (iI w1)), (3, .int (iI u)), (4, .int (iI x)), (5, .int (iI n1))] [] := by
                        intro nn
                        induction nn with
                        | zero =>
                          intro i1 vb2 ab2 hm bxb2 fpb2 hi hg3 hC
                          exact absurd hm (by omega)
                        | succ nn ih1 =>
                          intro i1 vb2 ab2 hm bxb2 fpb2 hi hg3 hC
                          refine m_iload (j := 0) C dX12_copyRow_145 rfl ?_
                          refine m_iload (j := 9) C dX12_copyRow_147 rfl ?_
                          refine m_icmp_ge (tgt := 197) C ⟨by omega, by omega⟩ ⟨by omega, by omega⟩ dX12_copyRow_149 (by decide) (fun c8 => ?_) (fun c8 => ?_)
                          · refine m_aload_n (j := 4) C dX12_copyRow_197 rfl ?_
                            refine m_iload (j := 9) C dX12_copyRow_198 rfl ?_
                            refine m_call (mc2 := 0) (ms2 := 0) (As := [.int (iI n1)]) (rest := []) C (B_fine (x := n1) bxb2 (by show -2147483648 ≤ n1 ∧ n1 ≤ 2147483647; omega)) dX12_copyRow_200 kV_X12_158 rfl ck_13 rfl (Nat.le_of_ble_eq_true rfl) ⟨Nat.le_of_ble_eq_true rfl, Nat.le_of_ble_eq_true rfl⟩ ⟨Nat.le_of_ble_eq_true rfl, Nat.le_of_ble_eq_true rfl⟩ (fun rh8 vh8 ah8 h8 => ?_)
                            obtain ⟨f6, rfl, fn6, bn6, ex6⟩ := h8
                            refine hv2 (fpb2.call fn6 rfl rfl) (show f6 = n1 from ex6) (fun fq6 gf6 => ?_)
                            refine m_st (st2 := [.int (iI f6)]) rfl ?_
                            exact m_iret C dX12_copyRow_203 rfl (Nat.le_of_ble_eq_true rfl) (Nat.le_of_ble_eq_true rfl) ⟨f6, rfl, fq6, bn6, (CRA.ok (fun j => (hB.2 34 j).2) ⟨⟨by omega, by omega⟩, by omega⟩ ⟨⟨by omega, by omega⟩, by omega⟩ (by omega) (by omega) (by omega) (by omega) (by omega) hC (by omega) (by omega) (fq6.1 36 rfl) (fn6.2 34 rfl) (fn6.2 35 rfl))⟩
                          · refine m_iload (j := 1) C dX12_copyRow_152 rfl ?_
                            have J2 : ∀ (k : Int) (vb3 : Nat → Int) (ab3 : Nat → Nat → Int), BX vb3 ab3 → fr [0, 1] [35] v a vb3 ab3 → (0 ≤ k ∧ k < n1) → ((g = 0 ∧ k = i1) ∨ (g = 1 ∧ k = n1 - 1 - i1)) → (CR1 a ab3 (200 * q + w1) (200 * u + x) n1 g i1) → mw p l e (rmq 1 0 0) s m args below meth c G A 11 (MQ below (Qm G A (fun rq Lq Eq => ∃ (vq : Nat → Int) (aq : Nat → Nat → Int), mI G h0 ad ln vq aq Lq Eq ∧ (fun r v2 a2 => ∃ f : Int, r = some (.int (iI f)) ∧ fr [0, 1] [35] v a v2 a2 ∧ BX v2 a2 ∧ (CRA v a v2 a2 q w1 u x n1 f)) rq vq aq)) args s 0 0 A) h0 ad ln vb3 ab3 0 0 169 [(9, .int (iI i1)), (8, .int (iI g)), (7, .int (iI ((200 * u) + x))), (6, .int (iI ((200 * q) + w1))), (0, .ref h0), (1, .int (iI q)), (2, .int (iI w1)), (3, .int (iI u)), (4, .int (iI x)), (5, .int (iI n1))] [.int (iI k)] := by
                              intro k vb3 ab3 bxb3 fpb3 hk hkg hC2
                              refine m_istore (lv2 := [(10, .int (iI k)), (9, .int (iI i1)), (8, .int (iI g)), (7, .int (iI ((200 * u) + x))), (6, .int (iI ((200 * q) + w1))), (0, .ref h0), (1, .int (iI q)), (2, .int (iI w1)), (3, .int (iI u)), (4, .int (iI x)), (5, .int (iI n1))]) C dX12_copyRow_169 (by decide) rfl ?_
                              refine m_aload_n (j := 5) C dX12_copyRow_171 rfl ?_
                              refine m_geta (k := 35) C dX12_copyRow_172 w6_94 (by decide) rfl ?_
                              refine m_iload (j := 3) C dX12_copyRow_175 rfl ?_
                              refine m_iload (j := 0) C dX12_copyRow_177 rfl ?_
                              refine m_iadd C dX12_copyRow_179 ?_
                              refine m_aload_n (j := 5) C dX12_copyRow_180 rfl ?_
                              refine m_geta (k := 35) C dX12_copyRow_181 w6_94 (by decide) rfl ?_
                              refine m_iload (j := 4) C dX12_copyRow_184 rfl ?_
                              refine m_iload (j := 0) C dX12_copyRow_186 rfl ?_
                              refine m_iadd C dX12_copyRow_188 ?_
                              refine m_ald (k := 35) C dX12_copyRow_189 rfl rfl (by decide) (by omega) (by show _ < ((_ : Nat) : Int); simp only [mlen]; omega) (by decide) ?_
                              have ra3 : (-2147483648) ≤ ab3 35 (((200 * q) + w1) + k).toNat ∧ ab3 35 (((200 * q) + w1) + k).toNat ≤ 2147483647 := bxb3.2 35 ((((200 * q) + w1) + k).toNat)
                              refine m_ast (k := 35) C dX12_copyRow_190 rfl rfl (by decide) (by omega) (by show _ < ((_ : Nat) : Int); simp only [mlen]; omega) (by decide) ?_
                              refine hv2 (show BX vb3 (up2 ab3 35 (((200 * u) + x) + k).toNat (ab3 35 (((200 * q) + w1) + k).toNat)) from bxb3.set (k := 35) (i := (((200 * u) + x) + k).toNat) (z := ab3 35 (((200 * q) + w1) + k).toNat) (show (-2147483648) ≤ (ab3 35 (((200 * q) + w1) + k).toNat) ∧ (ab3 35 (((200 * q) + w1) + k).toNat) ≤ 2147483647 by omega)) (fpb3.set (k := 35) (i := (((200 * u) + x) + k).toNat) (z := ab3 35 (((200 * q) + w1) + k).toNat) rfl) (fun bq1 fq7 => ?_)
                              refine m_iinc (z := i1) (j := 1) (lv2 := [(9, .int (iI (i1 + 1))), (10, .int (iI k)), (8, .int (iI g)), (7, .int (iI ((200 * u) + x))), (6, .int (iI ((200 * q) + w1))), (0, .ref h0), (1, .int (iI q)), (2, .int (iI w1)), (3, .int (iI u)), (4, .int (iI x)), (5, .int (iI n1))]) C dX12_copyRow_191 rfl (by decide) rfl ?_
                              refine m_goto (tgt := 145) C dX12_copyRow_194 (by decide) ?_
                              refine m_lv (lv2 := [(9, .int (iI (i1 + 1))), (8, .int (iI g)), (7, .int (iI ((200 * u) + x))), (6, .int (iI ((200 * q) + w1))), (0, .ref h0), (1, .int (iI q)), (2, .int (iI w1)), (3, .int (iI u)), (4, .int (iI x)), (5, .int (iI n1))]) [0, 2, 3, 4, 5, 6, 7, 8, 9, 10] rfl ?_
                              exact ih1  (i1 + 1) _ _ (by omega) bq1 fq7 (by omega) (by omega) (CR1.step hC2 (by omega) ⟨by omega, by omega⟩ ⟨by omega, by omega⟩ (by omega) rfl rfl)
                            refine m_if_eq (tgt := 167) C (r32_01 hg) dX12_copyRow_154 (by decide) (fun c9 => ?_) (fun c9 => ?_)
                            · clear hg
                              replace hg2 := (hg2.resolve_left (fun q => absurd (q.1.symm.trans c9) (by decide)))
                              refine m_iload (j := 0) C dX12_copyRow_167 rfl ?_
                              refine m_lv (lv2 := [(9, .int (iI i1)), (8, .int (iI g)), (7, .int (iI ((200 * u) + x))), (6, .int (iI ((200 * q) + w1))), (0, .ref h0), (1, .int (iI q)), (2, .int (iI w1)), (3, .int (iI u)), (4, .int (iI x)), (5, .int (iI n1))]) [0, 1, 2, 3, 4, 5, 6, 7, 8, 9] rfl ?_
                              exact J2  i1 _ _  bxb2 fpb2 (by omega) (by omega) hC
                            · replace hg := (hg.resolve_left c9)
                              replace hg2 := (hg2.resolve_right (fun q => c9 q.1))
                              refine m_iload (j := 9) C dX12_copyRow_157 rfl ?_
                              refine m_iconst C dX12_copyRow_159 ?_
                              refine m_isub C dX12_copyRow_160 ?_
                              refine m_iload (j := 0) C dX12_copyRow_161 rfl ?_
                              refine m_isub C dX12_copyRow_163 ?_
                              refine m_goto (tgt := 169) C dX12_copyRow_164 (by decide) ?_
                              refine m_lv (lv2 := [(9, .int (iI i1)), (8, .int (iI g)), (7, .int (iI ((200 * u) + x))), (6, .int (iI ((200 * q) + w1))), (0, .ref h0), (1, .int (iI q)), (2, .int (iI w1)), (3, .int (iI u)), (4, .int (iI x)), (5, .int (iI n1))]) [0, 1, 2, 3, 4, 5, 6, 7, 8, 9] rfl ?_
                              exact J2  ((n1 - 1) - i1) _ _  bxb2 fpb2 (by omega) (by omega) hC
                      refine m_lv (lv2 := [(9, .int (iI 0)), (8, .int (iI g)), (7, .int (iI ((200 * u) + x))), (6, .int (iI ((200 * q) + w1))), (0, .ref h0), (1, .int (iI q)), (2, .int (iI w1)), (3, .int (iI u)), (4, .int (iI x)), (5, .int (iI n1))]) [0, 1, 2, 3, 4, 5, 6, 7, 8, 9] rfl ?_
                      exact Lp1 202 0 _ _ (by omega) bxb1 fpb1 (by omega) (by omega) (CR1.zero rfl hKK)
                    refine m_icmp_ne (tgt := 139) C ⟨by omega, by omega⟩ ⟨by omega, by omega⟩ dX12_copyRow_126 (by decide) (fun c10 => ?_) (fun c10 => ?_)
                    · refine m_iconst C dX12_copyRow_139 ?_
                      refine m_lv (lv2 := [(7, .int (iI ((200 * u) + x))), (6, .int (iI ((200 * q) + w1))), (0, .ref h0), (1, .int (iI q)), (2, .int (iI w1)), (3, .int (iI u)), (4, .int (iI x)), (5, .int (iI n1))]) [0, 1, 2, 3, 4, 5, 6, 7] rfl ?_
                      exact J1  0 _ _  hB fp0 (by omega) (by omega) ⟨rfl, rfl⟩
                    · refine m_iload_n (j := 4) C dX12_copyRow_129 rfl ?_
                      refine m_iload (j := 6) C dX12_copyRow_130 rfl ?_
                      refine m_icmp_ge (tgt := 139) C ⟨by omega, by omega⟩ ⟨by omega, by omega⟩ dX12_copyRow_132 (by decide) (fun c11 => ?_) (fun c11 => ?_)
                      · refine m_iconst C dX12_copyRow_139 ?_
                        refine m_lv (lv2 := [(7, .int (iI ((200 * u) + x))), (6, .int (iI ((200 * q) + w1))), (0, .ref h0), (1, .int (iI q)), (2, .int (iI w1)), (3, .int (iI u)), (4, .int (iI x)), (5, .int (iI n1))]) [0, 1, 2, 3, 4, 5, 6, 7] rfl ?_
                        exact J1  0 _ _  hB fp0 (by omega) (by omega) ⟨rfl, rfl⟩
                      · refine m_iconst C dX12_copyRow_135 ?_
                        refine m_goto (tgt := 140) C dX12_copyRow_136 (by decide) ?_
                        refine m_lv (lv2 := [(7, .int (iI ((200 * u) + x))), (6, .int (iI ((200 * q) + w1))), (0, .ref h0), (1, .int (iI q)), (2, .int (iI w1)), (3, .int (iI u)), (4, .int (iI x)), (5, .int (iI n1))]) [0, 1, 2, 3, 4, 5, 6, 7] rfl ?_
                        exact J1  1 _ _  hB fp0 (by omega) (by omega) ⟨rfl, rfl⟩
                  · refine m_aload_n (j := 0) C dX12_copyRow_99 rfl ?_
                    refine m_iconst C dX12_copyRow_100 ?_
                    refine m_call (mc2 := 0) (ms2 := 0) (As := [.int (iI 2)]) (rest := []) C (B_bad (x := 2) hB (by show -2147483648 ≤ (2 : Int) ∧ (2 : Int) ≤ 2147483647; omega)) dX12_copyRow_101 kV_X12_154 rfl ck_13 rfl (Nat.le_of_ble_eq_true rfl) ⟨Nat.le_of_ble_eq_true rfl, Nat.le_of_ble_eq_true rfl⟩ ⟨Nat.le_of_ble_eq_true rfl, Nat.le_of_ble_eq_true rfl⟩ (fun rh9 vh9 ah9 h9 => ?_)
                    obtain ⟨f7, rfl, fn7, bn7, ex7⟩ := h9
                    refine hv2 (fp0.call fn7 rfl rfl) (show f7 = -1 from ex7) (fun fq8 gf7 => ?_)
                    refine m_st (st2 := [.int (iI f7)]) rfl ?_
                    exact m_iret C dX12_copyRow_104 rfl (Nat.le_of_ble_eq_true rfl) (Nat.le_of_ble_eq_true rfl) ⟨f7, rfl, fq8, bn7, (CRA.bad (by omega) ⟨fn7.1 36 rfl, fn7.2 34 rfl, fn7.2 35 rfl⟩ (by omega))⟩
        · refine m_aload_n (j := 0) C dX12_copyRow_52 rfl ?_
          refine m_iconst C dX12_copyRow_53 ?_
          refine m_call (mc2 := 0) (ms2 := 0) (As := [.int (iI 1)]) (rest := []) C (B_bad (x := 1) hB (by show -2147483648 ≤ (1 : Int) ∧ (1 : Int) ≤ 2147483647; omega)) dX12_copyRow_54 kV_X12_154 rfl ck_13 rfl (Nat.le_of_ble_eq_true rfl) ⟨Nat.le_of_ble_eq_true rfl, Nat.le_of_ble_eq_true rfl⟩ ⟨Nat.le_of_ble_eq_true rfl, Nat.le_of_ble_eq_true rfl⟩ (fun rh10 vh10 ah10 h10 => ?_)
          obtain ⟨f8, rfl, fn8, bn8, ex8⟩ := h10
          refine hv2 (fp0.call fn8 rfl rfl) (show f8 = -1 from ex8) (fun fq9 gf8 => ?_)
          refine m_st (st2 := [.int (iI f8)]) rfl ?_
          exact m_iret C dX12_copyRow_57 rfl (Nat.le_of_ble_eq_true rfl) (Nat.le_of_ble_eq_true rfl) ⟨f8, rfl, fq9, bn8, (CRA.bad (by omega) ⟨fn8.1 36 rfl, fn8.2 34 rfl, fn8.2 35 rfl⟩ (by omega))⟩
    · refine m_st (st2 := [.int (iI 0)]) (by rw [h2e]) ?_
      refine m_if_ne (tgt := 34) C ⟨by decide, by decide⟩ dX12_copyRow_25 (by decide) (fun z => absurd z (by omega)) (fun _ => ?_)
      refine m_aload_n (j := 0) C dX12_copyRow_28 rfl ?_
      refine m_iconst C dX12_copyRow_29 ?_
      refine m_call (mc2 := 0) (ms2 := 0) (As := [.int (iI 2)]) (rest := []) C (B_bad (x := 2) hB (by show -2147483648 ≤ (2 : Int) ∧ (2 : Int) ≤ 2147483647; omega)) dX12_copyRow_30 kV_X12_154 rfl ck_13 rfl (Nat.le_of_ble_eq_true rfl) ⟨Nat.le_of_ble_eq_true rfl, Nat.le_of_ble_eq_true rfl⟩ ⟨Nat.le_of_ble_eq_true rfl, Nat.le_of_ble_eq_true rfl⟩ (fun rh11 vh11 ah11 h11 => ?_)
      obtain ⟨f9, rfl, fn9, bn9, ex9⟩ := h11
      refine hv2 (fp0.call fn9 rfl rfl) (show f9 = -1 from ex9) (fun fq10 gf9 => ?_)
      refine m_st (st2 := [.int (iI f9)]) rfl ?_
      exact m_iret C dX12_copyRow_33 rfl (Nat.le_of_ble_eq_true rfl) (Nat.le_of_ble_eq_true rfl) ⟨f9, rfl, fq10, bn9, (CRA.bad (by omega) ⟨fn9.1 36 rfl, fn9.2 34 rfl, fn9.2 35 rfl⟩ (by omega))⟩
  · refine m_st (st2 := [.int (iI 0)]) (by rw [h1e]) ?_
    refine m_if_eq (tgt := 28) C ⟨by decide, by decide⟩ dX12_copyRow_11 (by decide) (fun _ => ?_) (fun z => absurd z (by omega))
    refine m_aload_n (j := 0) C dX12_copyRow_28 rfl ?_
    refine m_iconst C dX12_copyRow_29 ?_
    refine m_call (mc2 := 0) (ms2 := 0) (As := [.int (iI 2)]) (rest := []) C (B_bad (x := 2) hB (by show -2147483648 ≤ (2 : Int) ∧ (2 : Int) ≤ 2147483647; omega)) dX12_copyRow_30 kV_X12_154 rfl ck_13 rfl (Nat.le_of_ble_eq_true rfl) ⟨Nat.le_of_ble_eq_true rfl, Nat.le_of_ble_eq_true rfl⟩ ⟨Nat.le_of_ble_eq_true rfl, Nat.le_of_ble_eq_true rfl⟩ (fun rh12 vh12 ah12 h12 => ?_)
    obtain ⟨f10, rfl, fn10, bn10, ex10⟩ := h12
    refine hv2 (fp0.call fn10 rfl rfl) (show f10 = -1 from ex10) (fun fq11 gf10 => ?_)
    refine m_st (st2 := [.int (iI f10)]) rfl ?_
    exact m_iret C dX12_copyRow_33 rfl (Nat.le_of_ble_eq_true rfl) (Nat.le_of_ble_eq_true rfl) ⟨f10, rfl, fq11, bn10, (CRA.bad (by omega) ⟨fn10.1 36 rfl, fn10.2 34 rfl, fn10.2 35 rfl⟩ (by omega))⟩
def CPA (v : Nat → Int) (a : Nat → Nat → Int) (v2 : Nat → Int) (a2 : Nat → Nat → Int) (q u n f : Int) : Prop := ∀ E, SHA v a E → ∃ E2, CPLX E q u n (v 42) f E2 (v2 42) ∧ SHA v2 a2 E2
def CL1 (v : Nat → Int) (a : Nat → Nat → Int) (v1 : Nat → Int) (a1 : Nat → Nat → Int) (q u k : Int) : Prop := ∀ E, SHA v a E → ∃ E1, cpn E q u k.toNat E1 ∧ SHA v1 a1 E1
def CL2 (v : Nat → Int) (a : Nat → Nat → Int) (v1 : Nat → Int) (a1 : Nat → Nat → Int) (q u k x y i : Int) : Prop := ∃ a3, CL1 v a v1 a3 q u k ∧ (∀ j, a3 34 j ≤ 200) ∧ (∀ j : Nat, a1 34 j = if j = y.toNat then a3 34 x.toNat else a3 34 j) ∧ 0 ≤ a3 34 x.toNat ∧ ∀ j : Nat, a1 35 j = if 200 * y ≤ ((j : Nat) : Int) ∧ ((j : Nat) : Int) < 200 * y + i then a3 35 (((j : Nat) : Int) - 200 * y + 200 * x).toNat else a3 35 j
section CPLS
variable {v v1 v2 v3 : Nat → Int} {a a1 a2 : Nat → Nat → Int} {E E2 : List (Option (List Int))} {q u n f k x y z i : Int} {m m2 : Nat}
theorem CL1.zero (hk : k = 0) (h : KSA v a v1 a1) : CL1 v a v1 a1 q u k := fun E hE => ⟨E, by rw [hk]; rfl, hE.cg h⟩
theorem CL1.fr (h : CL1 v a v1 a1 q u k) (hk : KSA v1 a1 v2 a2) : CL1 v a v2 a2 q u k := fun E hE => by
  obtain ⟨E1, e1, e2⟩ := h E hE
  exact ⟨E1, e1, e2.cg hk⟩
theorem CL1.go (h : CL1 v a v1 a1 q u k) (hb : ∀ j, a1 34 j ≤ 200) (hm : m = y.toNat) (hz : z = a1 34 x.toNat) (hx : 0 ≤ a1 34 x.toNat) : CL2 v a v1 (up2 a1 34 m z) q u k x y 0 := by
  refine ⟨a1, h, hb, fun j => ?_, hx, fun j => ?_⟩
  · subst hm
    by_cases c : j = y.toNat
    · rw [c, up2_s, if_pos rfl]
      exact hz
    · rw [up2_j c, if_neg c]
  · rw [if_neg (by omega), up2_k (by decide)]
theorem CL2.step (h : CL2 v a v1 a1 q u k x y i) (hx : 0 ≤ x ∧ 0 ≤ y) (hi : 0 ≤ i ∧ i < 200) (hm : m = (200 * y + i).toNat) (hm2 : m2 = (200 * x + i).toNat) : CL2 v a v1 (up2 a1 35 m (a1 35 m2)) q u k x y (i + 1) := by
  obtain ⟨a3, h1, hb, h2, h3, h4⟩ := h
  refine ⟨a3, h1, hb, fun j => by rw [up2_k (by decide)]; exact h2 j, h3, fun j => ?_⟩
  by_cases c : j = m
  · rw [c, up2_s, if_pos (by omega), h4 m2, if_neg (by omega), show ((m : Nat) : Int) - 200 * y + 200 * x = ((m2 : Nat) : Int) by omega, Int.toNat_natCast]
  · rw [up2_j c, h4 j]
    by_cases c2 : 200 * y ≤ ((j : Nat) : Int) ∧ ((j : Nat) : Int) < 200 * y + i
    · rw [if_pos c2, if_pos (by omega)]
    · rw [if_neg c2, if_neg (by omega)]
theorem CL2.fin (h : CL2 v a v1 a1 q u k x y i) (hk : 0 ≤ k) (hx : x = q + k) (hy : y = u + k) (h0 : (0 ≤ x ∧ x < v1 36) ∧ (0 ≤ y ∧ y < v1 36)) (hi : a1 34 x.toNat ≤ i ∧ i ≤ 200) (h36 : v2 36 = v1 36) : CL1 v a v2 a1 q u (k + 1) := fun E hE => by
  obtain ⟨a3, h1, hb, h2, h3, h4⟩ := h
  obtain ⟨E1, e1, e2⟩ := h1 E hE
  obtain ⟨xs, d1, d2, d3⟩ := e2.have_ h0.1.1 h0.1.2 h3
  obtain ⟨yy, d4, _⟩ := e2.on h0.2.1 h0.2.2
  have ex : a1 34 x.toNat = a3 34 x.toNat := by
    rw [h2 x.toNat]
    split
    · rfl
    · rfl
  have b := hb x.toNat
  refine ⟨E1.set y.toNat (some xs), ?_, e2.set hb h0.2 h36 (Or.inr ⟨xs, rfl, ?_, fun j z ez => ?_⟩) (fun j hj => ⟨?_, fun o ho => ?_⟩)⟩
  · rw [show (k + 1).toNat = k.toNat + 1 by omega]
    refine ⟨E1, e1, xs, yy, ?_, ?_, ?_⟩
    · rw [show q + ((k.toNat : Nat) : Int) = x by omega]
      exact d1
    · rw [show u + ((k.toNat : Nat) : Int) = y by omega]
      exact d4
    · rw [show u + ((k.toNat : Nat) : Int) = y by omega]
  · rw [h2, if_pos rfl]
    exact d2
  · have lt := gl3 ez
    rw [h4, if_pos (by omega), show (((200 * y.toNat + j : Nat) : Int) - 200 * y + 200 * x).toNat = 200 * x.toNat + j by omega, d3 j lt]
    exact gd0_at ez
  · rw [h2, if_neg hj]
  · rw [h4, if_neg (by omega)]
theorem CPA.bad0 (hn : n < 0 ∨ 10 < n) (hf : f = -1) (h42 : v2 42 = v 42) (hk : KSA v a v2 a2) : CPA v a v2 a2 q u n f := fun E hE => ⟨E, Or.inl ⟨hn, rfl, hf, h42⟩, hE.cg hk⟩
theorem CPA.stop (h : CL1 v a v1 a1 q u k) (hk : 0 ≤ k ∧ k < n) (hn : n ≤ 10) (hx : x = q + k) (hy : y = u + k) (hw : ¬ ((0 ≤ x ∧ x < v1 36) ∧ (0 ≤ y ∧ y < v1 36)) ∨ ((0 ≤ x ∧ x < v1 36) ∧ a1 34 x.toNat < 0)) (hf : f = -1) (h42 : v2 42 = k) (hs : KSA v1 a1 v2 a2) : CPA v a v2 a2 q u n f := fun E hE => by
  obtain ⟨E1, e1, e2⟩ := h E hE
  refine ⟨E1, Or.inr ⟨⟨by omega, hn⟩, Or.inr ⟨k.toNat, by omega, e1, fun ⟨E3, xs, yy, c1, c2, _⟩ => ?_, hf, by omega⟩⟩, e2.cg hs⟩
  rw [show q + ((k.toNat : Nat) : Int) = x by omega] at c1
  rw [show u + ((k.toNat : Nat) : Int) = y by omega] at c2
  rcases hw with c | ⟨c, c3⟩
  · obtain ⟨r1, r2, _⟩ := rwl_lt c1
    obtain ⟨r3, r4, _⟩ := rwl_lt c2
    have e := e2.1
    exact c ⟨⟨r1, by omega⟩, r3, by omega⟩
  · exact e2.fault (Or.inr ⟨c, c3⟩) ⟨xs, c1⟩
theorem CPA.ok (h : CL1 v a v1 a1 q u k) (hk : k = n) (hn : 0 ≤ n ∧ n ≤ 10) (hf : f = n) (h42 : v2 42 = n) (hs : KSA v1 a1 v2 a2) : CPA v a v2 a2 q u n f := fun E hE => by
  obtain ⟨E1, e1, e2⟩ := h E hE
  rw [hk] at e1
  exact ⟨E1, Or.inr ⟨hn, Or.inl ⟨e1, hf, h42⟩⟩, e2.cg hs⟩
end CPLS
set_option maxHeartbeats 4000000 in
set_option maxRecDepth 100000 in
theorem N2_copyLines {l : Launch} {G : GT} {h0 : Nat} {ad ln : Nat → Nat} {v : Nat → Int} {a : Nat → Nat → Int}  {q u n1 : Int} (hB : BX v a) (hq : -2147483648 ≤ q ∧ q ≤ 2147483647) (hu : -2147483648 ≤ u ∧ u ≤ 2147483647) (hn1 : -2147483648 ≤ n1 ∧ n1 ≤ 2147483647) : Mm l G yX12_copyLines cX12_copyLines 10 (some .int) 1 [.int (iI q), .int (iI u), .int (iI n1)] h0 ad ln v a 0 0 (fun r v2 a2 => ∃ f : Int, r = some (.int (iI f)) ∧ fr [0, 1, 42] [34, 35] v a v2 a2 ∧ BX v2 a2 ∧ (CPA v a v2 a2 q u n1 f)) := by
  refine Mm.mk (by decide) (Nat.le_of_ble_eq_true rfl) ?_
  intro p e s m args below meth c A C
  refine hv2 (show 0 ≤ v 36 ∧ v 36 ≤ 200 from hB.1 36) (show fr [0, 1, 42] [34, 35] v a v a from fr.refl) (fun r36 fp0 => ?_)
  refine m_iload_n (j := 3) C dX12_copyLines_0 rfl ?_
  refine m_bipush (z := 10) C dX12_copyLines_1 (by decide) ?_
  refine m_icmp_le (tgt := 13) C ⟨by omega, by omega⟩ ⟨by decide, by decide⟩ dX12_copyLines_3 (by decide) (fun c1 => ?_) (fun c1 => ?_)
  · refine m_iload_n (j := 3) C dX12_copyLines_13 rfl ?_
    refine m_if_ge (tgt := 23) C ⟨by omega, by omega⟩ dX12_copyLines_14 (by decide) (fun c2 => ?_) (fun c2 => ?_)
    · refine m_aload_n (j := 0) C dX12_copyLines_23 rfl ?_
      refine m_iconst C dX12_copyLines_24 ?_
      refine m_put (k := 42) (z := 0) C dX12_copyLines_25 w6_101 (by decide) rfl rfl rfl ?_
      refine hv2 (show BX (va_up v 42 0) a from hB.put (k := 42) (z := 0) ⟨by decide, by decide⟩) (fp0.put (k := 42) (z := 0) rfl) (fun bq1 fq1 => ?_)
      refine m_iconst C dX12_copyLines_28 ?_
      refine m_istore (lv2 := [(4, .int (iI 0)), (0, .ref h0), (1, .int (iI q)), (2, .int (iI u)), (3, .int (iI n1))]) C dX12_copyLines_29 (by decide) rfl ?_
      have Lp1 : ∀ (nn : Nat) (k : Int) (vb1 : Nat → Int) (ab1 : Nat → Nat → Int), 11 - k < (nn : Int) → BX vb1 ab1 → fr [0, 1, 42] [34, 35] v a vb1 ab1 → (0 ≤ k ∧ k ≤ n1) → (vb1 42 = k) → (vb1 36 = v 36) → (CL1 v a vb1 ab1 q u k) → mw p l e (rmq 1 0 0) s m args below meth c G A 10 (MQ below (Qm G A (fun rq Lq Eq => ∃ (vq : Nat → Int) (aq : Nat → Nat → Int), mI G h0 ad ln vq aq Lq Eq ∧ (fun r v2 a2 => ∃ f : Int, r = some (.int (iI f)) ∧ fr [0, 1, 42] [34, 35] v a v2 a2 ∧ BX v2 a2 ∧ (CPA v a v2 a2 q u n1 f)) rq vq aq)) args s 0 0 A) h0 ad ln vb1 ab1 0 0 31 [(4, .int (iI k)), (0, .ref h0), (1, .int (iI q)), (2, .int (iI u)), (3, .int (iI n1))] [] := by
        intro nn
        induction nn with
        | zero =>
          intro k vb1 ab1 hm bxb1 fpb1 hk hc h36 hA
          exact absurd hm (by omega)
        | succ nn ih1 =>
          intro k vb1 ab1 hm bxb1 fpb1 hk hc h36 hA
          refine m_iload (j := 0) C dX12_copyLines_31 rfl ?_
          refine m_iload_n (j := 4) C dX12_copyLines_33 rfl ?_
          refine m_icmp_ge (tgt := 196) C ⟨by omega, by omega⟩ ⟨by omega, by omega⟩ dX12_copyLines_34 (by decide) (fun c3 => ?_) (fun c3 => ?_)
          · refine m_aload_n (j := 1) C dX12_copyLines_196 rfl ?_
            refine m_iload_n (j := 4) C dX12_copyLines_197 rfl ?_
            refine m_call (mc2 := 0) (ms2 := 0) (As := [.int (iI n1)]) (rest := []) C (B_fine (x := n1) bxb1 (by show -2147483648 ≤ n1 ∧ n1 ≤ 2147483647; omega)) dX12_copyLines_198 kV_X12_158 rfl ck_13 rfl (Nat.le_of_ble_eq_true rfl) ⟨Nat.le_of_ble_eq_true rfl, Nat.le_of_ble_eq_true rfl⟩ ⟨Nat.le_of_ble_eq_true rfl, Nat.le_of_ble_eq_true rfl⟩ (fun rh1 vh1 ah1 h1 => ?_)
            obtain ⟨f1, rfl, fn1, bn1, ex1⟩ := h1
            refine hv2 (fpb1.call fn1 rfl rfl) (show f1 = n1 from ex1) (fun fq2 gf1 => ?_)
            refine m_st (st2 := [.int (iI f1)]) rfl ?_
            refine hv2 (show (-2147483648) ≤ vh1 42 ∧ vh1 42 ≤ 2147483647 from bn1.1 42) (show vh1 42 = vb1 42 from fn1.1 42 rfl) (fun rv1 ve1 => ?_)
            exact m_iret C dX12_copyLines_201 rfl (Nat.le_of_ble_eq_true rfl) (Nat.le_of_ble_eq_true rfl) ⟨f1, rfl, fq2, bn1, (CPA.ok hA (by omega) ⟨by omega, by omega⟩ (by omega) (by omega) ⟨fn1.1 36 rfl, fn1.2 34 rfl, fn1.2 35 rfl⟩)⟩
          · refine m_iload_n (j := 2) C dX12_copyLines_37 rfl ?_
            refine m_i2l (w := lI q) C dX12_copyLines_38 (lI_of ⟨by omega, by omega⟩) ?_
            refine m_iload (j := 0) C dX12_copyLines_39 rfl ?_
            refine m_i2l (w := lI k) C dX12_copyLines_41 (lI_of ⟨by omega, by omega⟩) ?_
            refine m_ladd (w := lI (q + k)) C dX12_copyLines_42 (lI_add _ _) ?_
            refine m_lstore (lv2 := [(5, .long (lI (q + k))), (4, .int (iI k)), (0, .ref h0), (1, .int (iI q)), (2, .int (iI u)), (3, .int (iI n1))]) C dX12_copyLines_43 (by decide) rfl ?_
            refine m_iload_n (j := 4) C dX12_copyLines_45 rfl ?_
            refine m_i2l (w := lI u) C dX12_copyLines_46 (lI_of ⟨by omega, by omega⟩) ?_
            refine m_iload (j := 1) C dX12_copyLines_47 rfl ?_
            refine m_i2l (w := lI k) C dX12_copyLines_49 (lI_of ⟨by omega, by omega⟩) ?_
            refine m_ladd (w := lI (u + k)) C dX12_copyLines_50 (lI_add _ _) ?_
            refine m_lstore (lv2 := [(7, .long (lI (u + k))), (5, .long (lI (q + k))), (4, .int (iI k)), (0, .ref h0), (1, .int (iI q)), (2, .int (iI u)), (3, .int (iI n1))]) C dX12_copyLines_51 (by decide) rfl ?_
            refine m_lload (j := 1) C dX12_copyLines_53 rfl ?_
            refine m_lconst (w := lI 0) C dX12_copyLines_55 rfl ?_
            obtain ⟨lc1, hlc1, elc1⟩ := lcmp_c (x := (q + k)) (y := 0) ⟨by omega, by omega⟩ ⟨by omega, by omega⟩
            refine m_lcmp (w := iI lc1) C dX12_copyLines_56 elc1 ?_
            refine m_if_lt (tgt := 89) C ⟨by omega, by omega⟩ dX12_copyLines_57 (by decide) (fun c4 => ?_) (fun c4 => ?_)
            · refine m_aload_n (j := 3) C dX12_copyLines_89 rfl ?_
              refine m_iconst C dX12_copyLines_90 ?_
              refine m_call (mc2 := 0) (ms2 := 0) (As := [.int (iI 2)]) (rest := []) C (B_bad (x := 2) bxb1 (by show -2147483648 ≤ (2 : Int) ∧ (2 : Int) ≤ 2147483647; omega)) dX12_copyLines_91 kV_X12_154 rfl ck_13 rfl (Nat.le_of_ble_eq_true rfl) ⟨Nat.le_of_ble_eq_true rfl, Nat.le_of_ble_eq_true rfl⟩ ⟨Nat.le_of_ble_eq_true rfl, Nat.le_of_ble_eq_true rfl⟩ (fun rh2 vh2 ah2 h2 => ?_)
              obtain ⟨f2, rfl, fn2, bn2, ex2⟩ := h2
              refine hv2 (fpb1.call fn2 rfl rfl) (show f2 = -1 from ex2) (fun fq3 gf2 => ?_)
              refine m_st (st2 := [.int (iI f2)]) rfl ?_
              refine hv2 (show (-2147483648) ≤ vh2 42 ∧ vh2 42 ≤ 2147483647 from bn2.1 42) (show vh2 42 = vb1 42 from fn2.1 42 rfl) (fun rv2 ve2 => ?_)
              exact m_iret C dX12_copyLines_94 rfl (Nat.le_of_ble_eq_true rfl) (Nat.le_of_ble_eq_true rfl) ⟨f2, rfl, fq3, bn2, (CPA.stop hA ⟨by omega, by omega⟩ (by omega) rfl rfl (by omega) (by omega) (by omega) ⟨fn2.1 36 rfl, fn2.2 34 rfl, fn2.2 35 rfl⟩)⟩
            · refine m_lload (j := 1) C dX12_copyLines_60 rfl ?_
              refine m_aload_n (j := 3) C dX12_copyLines_62 rfl ?_
              refine hv2 (show 0 ≤ vb1 36 ∧ vb1 36 ≤ 200 from bxb1.1 36) (show vb1 36 = v 36 from fpb1.1 36 rfl) (fun rv3 ve3 => ?_)
              refine m_get (k := 36) C dX12_copyLines_63 w6_95 (by decide) rfl ?_
              refine m_st (st2 := [.int (iI (v 36)), .long (lI (q + k))]) (congrArg (fun z => Value.int (iI z) :: [.long (lI (q + k))]) (fpb1.1 36 rfl)) ?_
              refine m_i2l (w := lI (v 36)) C dX12_copyLines_66 (lI_of ⟨by omega, by omega⟩) ?_
              obtain ⟨lc2, hlc2, elc2⟩ := lcmp_c (x := (q + k)) (y := (v 36)) ⟨by omega, by omega⟩ ⟨by omega, by omega⟩
              refine m_lcmp (w := iI lc2) C dX12_copyLines_67 elc2 ?_
              refine m_if_ge (tgt := 89) C ⟨by omega, by omega⟩ dX12_copyLines_68 (by decide) (fun c5 => ?_) (fun c5 => ?_)
              · refine m_aload_n (j := 3) C dX12_copyLines_89 rfl ?_
                refine m_iconst C dX12_copyLines_90 ?_
                refine m_call (mc2 := 0) (ms2 := 0) (As := [.int (iI 2)]) (rest := []) C (B_bad (x := 2) bxb1 (by show -2147483648 ≤ (2 : Int) ∧ (2 : Int) ≤ 2147483647; omega)) dX12_copyLines_91 kV_X12_154 rfl ck_13 rfl (Nat.le_of_ble_eq_true rfl) ⟨Nat.le_of_ble_eq_true rfl, Nat.le_of_ble_eq_true rfl⟩ ⟨Nat.le_of_ble_eq_true rfl, Nat.le_of_ble_eq_true rfl⟩ (fun rh3 vh3 ah3 h3 => ?_)
                obtain ⟨f3, rfl, fn3, bn3, ex3⟩ := h3
                refine hv2 (fpb1.call fn3 rfl rfl) (show f3 = -1 from ex3) (fun fq4 gf3 => ?_)
                refine m_st (st2 := [.int (iI f3)]) rfl ?_
                refine hv2 (show (-2147483648) ≤ vh3 42 ∧ vh3 42 ≤ 2147483647 from bn3.1 42) (show vh3 42 = vb1 42 from fn3.1 42 rfl) (fun rv4 ve4 => ?_)
                exact m_iret C dX12_copyLines_94 rfl (Nat.le_of_ble_eq_true rfl) (Nat.le_of_ble_eq_true rfl) ⟨f3, rfl, fq4, bn3, (CPA.stop hA ⟨by omega, by omega⟩ (by omega) rfl rfl (by omega) (by omega) (by omega) ⟨fn3.1 36 rfl, fn3.2 34 rfl, fn3.2 35 rfl⟩)⟩
              · refine m_lload (j := 0) C dX12_copyLines_71 rfl ?_
                refine m_lconst (w := lI 0) C dX12_copyLines_73 rfl ?_
                obtain ⟨lc3, hlc3, elc3⟩ := lcmp_c (x := (u + k)) (y := 0) ⟨by omega, by omega⟩ ⟨by omega, by omega⟩
                refine m_lcmp (w := iI lc3) C dX12_copyLines_74 elc3 ?_
                refine m_if_lt (tgt := 89) C ⟨by omega, by omega⟩ dX12_copyLines_75 (by decide) (fun c6 => ?_) (fun c6 => ?_)
                · refine m_aload_n (j := 3) C dX12_copyLines_89 rfl ?_
                  refine m_iconst C dX12_copyLines_90 ?_
                  refine m_call (mc2 := 0) (ms2 := 0) (As := [.int (iI 2)]) (rest := []) C (B_bad (x := 2) bxb1 (by show -2147483648 ≤ (2 : Int) ∧ (2 : Int) ≤ 2147483647; omega)) dX12_copyLines_91 kV_X12_154 rfl ck_13 rfl (Nat.le_of_ble_eq_true rfl) ⟨Nat.le_of_ble_eq_true rfl, Nat.le_of_ble_eq_true rfl⟩ ⟨Nat.le_of_ble_eq_true rfl, Nat.le_of_ble_eq_true rfl⟩ (fun rh4 vh4 ah4 h4 => ?_)
                  obtain ⟨f4, rfl, fn4, bn4, ex4⟩ := h4
                  refine hv2 (fpb1.call fn4 rfl rfl) (show f4 = -1 from ex4) (fun fq5 gf4 => ?_)
                  refine m_st (st2 := [.int (iI f4)]) rfl ?_
                  refine hv2 (show (-2147483648) ≤ vh4 42 ∧ vh4 42 ≤ 2147483647 from bn4.1 42) (show vh4 42 = vb1 42 from fn4.1 42 rfl) (fun rv5 ve5 => ?_)
                  exact m_iret C dX12_copyLines_94 rfl (Nat.le_of_ble_eq_true rfl) (Nat.le_of_ble_eq_true rfl) ⟨f4, rfl, fq5, bn4, (CPA.stop hA ⟨by omega, by omega⟩ (by omega) rfl rfl (by omega) (by omega) (by omega) ⟨fn4.1 36 rfl, fn4.2 34 rfl, fn4.2 35 rfl⟩)⟩
                · refine m_lload (j := 0) C dX12_copyLines_78 rfl ?_
                  refine m_aload_n (j := 3) C dX12_copyLines_80 rfl ?_
                  refine m_get (k := 36) C dX12_copyLines_81 w6_95 (by decide) rfl ?_
                  refine m_st (st2 := [.int (iI (v 36)), .long (lI (u + k))]) (congrArg (fun z => Value.int (iI z) :: [.long (lI (u + k))]) (fpb1.1 36 rfl)) ?_
                  refine m_i2l (w := lI (v 36)) C dX12_copyLines_84 (lI_of ⟨by omega, by omega⟩) ?_
                  obtain ⟨lc4, hlc4, elc4⟩ := lcmp_c (x := (u + k)) (y := (v 36)) ⟨by omega, by omega⟩ ⟨by omega, by omega⟩
                  refine m_lcmp (w := iI lc4) C dX12_copyLines_85 elc4 ?_
                  refine m_if_lt (tgt := 95) C ⟨by omega, by omega⟩ dX12_copyLines_86 (by decide) (fun c7 => ?_) (fun c7 => ?_)
                  · refine m_aload_n (j := 3) C dX12_copyLines_95 rfl ?_
                    refine m_geta (k := 34) C dX12_copyLines_96 w6_93 (by decide) rfl ?_
                    refine m_lload (j := 1) C dX12_copyLines_99 rfl ?_
                    refine m_l2i (w := iI (q + k)) C dX12_copyLines_101 (lI_i _) ?_
                    refine m_ald (k := 34) C dX12_copyLines_102 rfl rfl (by decide) (by omega) (by show _ < ((_ : Nat) : Int); simp only [mlen]; omega) (by decide) ?_
                    have ra1 : (-1) ≤ ab1 34 (q + k).toNat ∧ ab1 34 (q + k).toNat ≤ 200 := bxb1.2 34 ((q + k).toNat)
                    refine m_if_ge (tgt := 112) C (r32_c (lo := (-1)) (hi := 200) ra1.1 ra1.2 (by decide) (by decide)) dX12_copyLines_103 (by decide) (fun c8 => ?_) (fun c8 => ?_)
                    · refine m_aload_n (j := 3) C dX12_copyLines_112 rfl ?_
                      refine m_geta (k := 34) C dX12_copyLines_113 w6_93 (by decide) rfl ?_
                      refine m_lload (j := 0) C dX12_copyLines_116 rfl ?_
                      refine m_l2i (w := iI (u + k)) C dX12_copyLines_118 (lI_i _) ?_
                      refine m_aload_n (j := 3) C dX12_copyLines_119 rfl ?_
                      refine m_geta (k := 34) C dX12_copyLines_120 w6_93 (by decide) rfl ?_
                      refine m_lload (j := 1) C dX12_copyLines_123 rfl ?_
                      refine m_l2i (w := iI (q + k)) C dX12_copyLines_125 (lI_i _) ?_
                      refine m_ald (k := 34) C dX12_copyLines_126 rfl rfl (by decide) (by omega) (by show _ < ((_ : Nat) : Int); simp only [mlen]; omega) (by decide) ?_
                      refine m_ast (k := 34) C dX12_copyLines_127 rfl rfl (by decide) (by omega) (by show _ < ((_ : Nat) : Int); simp only [mlen]; omega) (by decide) ?_
                      refine hv2 (show BX vb1 (up2 ab1 34 (u + k).toNat (ab1 34 (q + k).toNat)) from bxb1.set (k := 34) (i := (u + k).toNat) (z := ab1 34 (q + k).toNat) (show (-1) ≤ (ab1 34 (q + k).toNat) ∧ (ab1 34 (q + k).toNat) ≤ 200 by omega)) (fpb1.set (k := 34) (i := (u + k).toNat) (z := ab1 34 (q + k).toNat) rfl) (fun bq2 fq6 => ?_)
                      refine m_iconst C dX12_copyLines_128 ?_
                      refine m_istore (lv2 := [(9, .int (iI 0)), (7, .long (lI (u + k))), (5, .long (lI (q + k))), (4, .int (iI k)), (0, .ref h0), (1, .int (iI q)), (2, .int (iI u)), (3, .int (iI n1))]) C dX12_copyLines_129 (by decide) rfl ?_
                      have Lp2 : ∀ (nn : Nat) (i1 : Int) (vb2 : Nat → Int) (ab2 : Nat → Nat → Int), 201 - i1 < (nn : Int) → BX vb2 ab2 → fr [0, 1, 42] [34, 35] v a vb2 ab2 → (0 ≤ i1 ∧ i1 ≤ 200) → (vb2 42 = k) → (vb2 36 = v 36) → (CL2 v a vb2 ab2 q u k (q + k) (u + k) i1) → mw p l e (rmq 1 0 0) s m args below meth c G A 10 (MQ below (Qm G A (fun rq Lq Eq => ∃ (vq : Nat → Int) (aq : Nat → Nat → Int), mI G h0 ad ln vq aq Lq Eq ∧ (fun r v2 a2 => ∃ f : Int, r = some (.int (iI f)) ∧ fr [0, 1, 42] [34, 35] v a v2 a2 ∧ BX v2 a2 ∧ (CPA v a v2 a2 q u n1 f)) rq vq aq)) args s 0 0 A) h0 ad ln vb2 ab2 0 0 131 [(9, .int (iI i1)), (7, .long (lI (u + k))), (5, .long (lI (q + k))), (4, .int (iI k)), (0, .ref h0), (1, .int (iI q)), (2, .int (iI u)), (3, .int (iI n1))] [] := by
                        intro nn
                        induction nn with
                        | zero =>
                          intro i1 vb2 ab2 hm bxb2 fpb2 hi hc2 h36b hD
                          exact absurd hm (by omega)
                        | succ nn ih2 =>
                          intro i1 vb2 ab2 hm bxb2 fpb2 hi hc2 h36b hD
                          refine m_iload (j := 0) C dX12_copyLines_131 rfl ?_
                          refine m_aload_n (j := 4) C dX12_copyLines_133 rfl ?_
                          refine m_geta (k := 34) C dX12_copyLines_134 w6_93 (by decide) rfl ?_
                          refine m_lload (j := 2) C dX12_copyLines_137 rfl ?_
                          refine m_l2i (w := iI (q + k)) C dX12_copyLines_139 (lI_i _) ?_
                          refine m_ald (k := 34) C dX12_copyLines_140 rfl rfl (by decide) (by omega) (by show _ < ((_ : Nat) : Int); simp only [mlen]; omega) (by decide) ?_
                          have ra2 : (-1) ≤ ab2 34 (q + k).toNat ∧ ab2 34 (q + k).toNat ≤ 200 := bxb2.2 34 ((q + k).toNat)
                          refine m_icmp_ge (tgt := 180) C (r32_c (lo := 0) (hi := 200) hi.1 hi.2 (by decide) (by decide)) (r32_c (lo := (-1)) (hi := 200) ra2.1 ra2.2 (by decide) (by decide)) dX12_copyLines_141 (by decide) (fun c9 => ?_) (fun c9 => ?_)
                          · refine m_aload_n (j := 4) C dX12_copyLines_180 rfl ?_
                            refine m_dup C dX12_copyLines_181 rfl ?_
                            have rv6 : (-2147483648) ≤ vb2 42 ∧ vb2 42 ≤ 2147483647 := bxb2.1 42
                            refine m_get (k := 42) C dX12_copyLines_182 w6_101 (by decide) rfl ?_
                            refine m_iconst C dX12_copyLines_185 ?_
                            refine m_iadd C dX12_copyLines_186 ?_
                            refine m_put (k := 42) (z := (vb2 42) + 1) C dX12_copyLines_187 w6_101 (by decide) rfl rfl rfl ?_
                            refine hv2 (show BX (va_up vb2 42 ((vb2 42) + 1)) ab2 from bxb2.put (k := 42) (z := (vb2 42) + 1) (show (-2147483648) ≤ ((vb2 42) + 1) ∧ ((vb2 42) + 1) ≤ 2147483647 by omega)) (fpb2.put (k := 42) (z := (vb2 42) + 1) rfl) (fun bq3 fq7 => ?_)
                            refine m_iinc (z := k) (j := 3) (lv2 := [(4, .int (iI (k + 1))), (9, .int (iI i1)), (7, .long (lI (u + k))), (5, .long (lI (q + k))), (0, .ref h0), (1, .int (iI q)), (2, .int (iI u)), (3, .int (iI n1))]) C dX12_copyLines_190 rfl (by decide) rfl ?_
                            refine m_goto (tgt := 31) C dX12_copyLines_193 (by decide) ?_
                            refine hv2 (show 0 ≤ vb2 36 ∧ vb2 36 ≤ 200 from bq3.1 36) (show vb2 36 = v 36 from fpb2.1 36 rfl) (fun rv7 ve6 => ?_)
                            refine m_lv (lv2 := [(4, .int (iI (k + 1))), (0, .ref h0), (1, .int (iI q)), (2, .int (iI u)), (3, .int (iI n1))]) [0, 4, 5, 6, 7] rfl ?_
                            exact ih1  (k + 1) _ _ (by omega) bq3 fq7 (by omega) (by show ((vb2 42) + 1) = (k + 1); omega) (by show (vb2 36) = v 36; omega) (CL2.fin hD (by omega) rfl rfl ⟨⟨by omega, by omega⟩, by omega, by omega⟩ ⟨by omega, by omega⟩ (va_up_ne _ _ (by decide)))
                          · refine m_aload_n (j := 4) C dX12_copyLines_144 rfl ?_
                            refine m_geta (k := 35) C dX12_copyLines_145 w6_94 (by decide) rfl ?_
                            refine m_sipush (z := 200) C dX12_copyLines_148 (by decide) ?_
                            refine m_lload (j := 1) C dX12_copyLines_151 rfl ?_
                            refine m_l2i (w := iI (u + k)) C dX12_copyLines_153 (lI_i _) ?_
                            refine m_imul C dX12_copyLines_154 ?_
                            refine m_iload (j := 0) C dX12_copyLines_155 rfl ?_
                            refine m_iadd C dX12_copyLines_157 ?_
                            refine m_aload_n (j := 4) C dX12_copyLines_158 rfl ?_
                            refine m_geta (k := 35) C dX12_copyLines_159 w6_94 (by decide) rfl ?_
                            refine m_sipush (z := 200) C dX12_copyLines_162 (by decide) ?_
                            refine m_lload (j := 2) C dX12_copyLines_165 rfl ?_
                            refine m_l2i (w := iI (q + k)) C dX12_copyLines_167 (lI_i _) ?_
                            refine m_imul C dX12_copyLines_168 ?_
                            refine m_iload (j := 0) C dX12_copyLines_169 rfl ?_
                            refine m_iadd C dX12_copyLines_171 ?_
                            refine m_ald (k := 35) C dX12_copyLines_172 rfl rfl (by decide) (by omega) (by show _ < ((_ : Nat) : Int); simp only [mlen]; omega) (by decide) ?_
                            have ra3 : (-2147483648) ≤ ab2 35 ((200 * (q + k)) + i1).toNat ∧ ab2 35 ((200 * (q + k)) + i1).toNat ≤ 2147483647 := bxb2.2 35 (((200 * (q + k)) + i1).toNat)
                            refine m_ast (k := 35) C dX12_copyLines_173 rfl rfl (by decide) (by omega) (by show _ < ((_ : Nat) : Int); simp only [mlen]; omega) (by decide) ?_
                            refine hv2 (show BX vb2 (up2 ab2 35 ((200 * (u + k)) + i1).toNat (ab2 35 ((200 * (q + k)) + i1).toNat)) from bxb2.set (k := 35) (i := ((200 * (u + k)) + i1).toNat) (z := ab2 35 ((200 * (q + k)) + i1).toNat) (show (-2147483648) ≤ (ab2 35 ((200 * (q + k)) + i1).toNat) ∧ (ab2 35 ((200 * (q + k)) + i1).toNat) ≤ 2147483647 by omega)) (fpb2.set (k := 35) (i := ((200 * (u + k)) + i1).toNat) (z := ab2 35 ((200 * (q + k)) + i1).toNat) rfl) (fun bq4 fq8 => ?_)
                            refine m_iinc (z := i1) (j := 0) (lv2 := [(9, .int (iI (i1 + 1))), (7, .long (lI (u + k))), (5, .long (lI (q + k))), (4, .int (iI k)), (0, .ref h0), (1, .int (iI q)), (2, .int (iI u)), (3, .int (iI n1))]) C dX12_copyLines_174 rfl (by decide) rfl ?_
                            refine m_goto (tgt := 131) C dX12_copyLines_177 (by decide) ?_
                            refine hv3 (show (-2147483648) ≤ vb2 42 ∧ vb2 42 ≤ 2147483647 from bq4.1 42) (show 0 ≤ vb2 36 ∧ vb2 36 ≤ 200 from bq4.1 36) (show vb2 36 = v 36 from fpb2.1 36 rfl) (fun rv8 rv9 ve7 => ?_)
                            refine m_lv (lv2 := [(9, .int (iI (i1 + 1))), (7, .long (lI (u + k))), (5, .long (lI (q + k))), (4, .int (iI k)), (0, .ref h0), (1, .int (iI q)), (2, .int (iI u)), (3, .int (iI n1))]) [0, 1, 2, 3, 4, 5, 6, 7] rfl ?_
                            exact ih2  (i1 + 1) _ _ (by omega) bq4 fq8 (by omega) (by show (vb2 42) = k; omega) (by show (vb2 36) = v 36; omega) (CL2.step hD ⟨by omega, by omega⟩ ⟨by omega, by omega⟩ rfl rfl)
                      have rv10 : (-2147483648) ≤ vb1 42 ∧ vb1 42 ≤ 2147483647 := bq2.1 42
                      refine m_lv (lv2 := [(9, .int (iI 0)), (7, .long (lI (u + k))), (5, .long (lI (q + k))), (4, .int (iI k)), (0, .ref h0), (1, .int (iI q)), (2, .int (iI u)), (3, .int (iI n1))]) [0, 1, 2, 3, 4, 5, 6, 7] rfl ?_
                      exact Lp2 202 0 _ _ (by omega) bq2 fq6 (by omega) (by show (vb1 42) = k; omega) (by show (vb1 36) = v 36; omega) (CL1.go hA (fun j => (bxb1.2 34 j).2) rfl rfl (by omega))
                    · refine m_aload_n (j := 3) C dX12_copyLines_106 rfl ?_
                      refine m_iconst C dX12_copyLines_107 ?_
                      refine m_call (mc2 := 0) (ms2 := 0) (As := [.int (iI 1)]) (rest := []) C (B_bad (x := 1) bxb1 (by show -2147483648 ≤ (1 : Int) ∧ (1 : Int) ≤ 2147483647; omega)) dX12_copyLines_108 kV_X12_154 rfl ck_13 rfl (Nat.le_of_ble_eq_true rfl) ⟨Nat.le_of_ble_eq_true rfl, Nat.le_of_ble_eq_true rfl⟩ ⟨Nat.le_of_ble_eq_true rfl, Nat.le_of_ble_eq_true rfl⟩ (fun rh5 vh5 ah5 h5 => ?_)
                      obtain ⟨f5, rfl, fn5, bn5, ex5⟩ := h5
                      refine hv2 (fpb1.call fn5 rfl rfl) (show f5 = -1 from ex5) (fun fq9 gf5 => ?_)
                      refine m_st (st2 := [.int (iI f5)]) rfl ?_
                      refine hv2 (show (-2147483648) ≤ vh5 42 ∧ vh5 42 ≤ 2147483647 from bn5.1 42) (show vh5 42 = vb1 42 from fn5.1 42 rfl) (fun rv11 ve8 => ?_)
                      exact m_iret C dX12_copyLines_111 rfl (Nat.le_of_ble_eq_true rfl) (Nat.le_of_ble_eq_true rfl) ⟨f5, rfl, fq9, bn5, (CPA.stop hA ⟨by omega, by omega⟩ (by omega) rfl rfl (by omega) (by omega) (by omega) ⟨fn5.1 36 rfl, fn5.2 34 rfl, fn5.2 35 rfl⟩)⟩
                  · refine m_aload_n (j := 3) C dX12_copyLines_89 rfl ?_
                    refine m_iconst C dX12_copyLines_90 ?_
                    refine m_call (mc2 := 0) (ms2 := 0) (As := [.int (iI 2)]) (rest := []) C (B_bad (x := 2) bxb1 (by show -2147483648 ≤ (2 : Int) ∧ (2 : Int) ≤ 2147483647; omega)) dX12_copyLines_91 kV_X12_154 rfl ck_13 rfl (Nat.le_of_ble_eq_true rfl) ⟨Nat.le_of_ble_eq_true rfl, Nat.le_of_ble_eq_true rfl⟩ ⟨Nat.le_of_ble_eq_true rfl, Nat.le_of_ble_eq_true rfl⟩ (fun rh6 vh6 ah6 h6 => ?_)
                    obtain ⟨f6, rfl, fn6, bn6, ex6⟩ := h6
                    refine hv2 (fpb1.call fn6 rfl rfl) (show f6 = -1 from ex6) (fun fq10 gf6 => ?_)
                    refine m_st (st2 := [.int (iI f6)]) rfl ?_
                    refine hv2 (show (-2147483648) ≤ vh6 42 ∧ vh6 42 ≤ 2147483647 from bn6.1 42) (show vh6 42 = vb1 42 from fn6.1 42 rfl) (fun rv12 ve9 => ?_)
                    exact m_iret C dX12_copyLines_94 rfl (Nat.le_of_ble_eq_true rfl) (Nat.le_of_ble_eq_true rfl) ⟨f6, rfl, fq10, bn6, (CPA.stop hA ⟨by omega, by omega⟩ (by omega) rfl rfl (by omega) (by omega) (by omega) ⟨fn6.1 36 rfl, fn6.2 34 rfl, fn6.2 35 rfl⟩)⟩
      have rv13 : 0 ≤ v 36 ∧ v 36 ≤ 200 := bq1.1 36
      refine m_lv (lv2 := [(4, .int (iI 0)), (0, .ref h0), (1, .int (iI q)), (2, .int (iI u)), (3, .int (iI n1))]) [0, 1, 2, 3, 4] rfl ?_
      exact Lp1 12 0 _ _ (by omega) bq1 fq1 (by omega) (by show 0 = 0; omega) (by show (v 36) = v 36; omega) (CL1.zero rfl ⟨va_up_ne _ _ (by decide), rfl, rfl⟩)
    · refine m_aload_n (j := 0) C dX12_copyLines_17 rfl ?_
      refine m_iconst C dX12_copyLines_18 ?_
      refine m_call (mc2 := 0) (ms2 := 0) (As := [.int (iI 5)]) (rest := []) C (B_bad (x := 5) hB (by show -2147483648 ≤ (5 : Int) ∧ (5 : Int) ≤ 2147483647; omega)) dX12_copyLines_19 kV_X12_154 rfl ck_13 rfl (Nat.le_of_ble_eq_true rfl) ⟨Nat.le_of_ble_eq_true rfl, Nat.le_of_ble_eq_true rfl⟩ ⟨Nat.le_of_ble_eq_true rfl, Nat.le_of_ble_eq_true rfl⟩ (fun rh7 vh7 ah7 h7 => ?_)
      obtain ⟨f7, rfl, fn7, bn7, ex7⟩ := h7
      refine hv2 (fp0.call fn7 rfl rfl) (show f7 = -1 from ex7) (fun fq11 gf7 => ?_)
      refine m_st (st2 := [.int (iI f7)]) rfl ?_
      refine hv2 (show (-2147483648) ≤ vh7 42 ∧ vh7 42 ≤ 2147483647 from bn7.1 42) (show vh7 42 = v 42 from fn7.1 42 rfl) (fun rv14 ve10 => ?_)
      exact m_iret C dX12_copyLines_22 rfl (Nat.le_of_ble_eq_true rfl) (Nat.le_of_ble_eq_true rfl) ⟨f7, rfl, fq11, bn7, (CPA.bad0 (by omega) (by omega) (by omega) ⟨fn7.1 36 rfl, fn7.2 34 rfl, fn7.2 35 rfl⟩)⟩
  · refine m_aload_n (j := 0) C dX12_copyLines_6 rfl ?_
    refine m_bipush (z := 6) C dX12_copyLines_7 (by decide) ?_
    refine m_call (mc2 := 0) (ms2 := 0) (As := [.int (iI 6)]) (rest := []) C (B_bad (x := 6) hB (by show -2147483648 ≤ (6 : Int) ∧ (6 : Int) ≤ 2147483647; omega)) dX12_copyLines_9 kV_X12_154 rfl ck_13 rfl (Nat.le_of_ble_eq_true rfl) ⟨Nat.le_of_ble_eq_true rfl, Nat.le_of_ble_eq_true rfl⟩ ⟨Nat.le_of_ble_eq_true rfl, Nat.le_of_ble_eq_true rfl⟩ (fun rh8 vh8 ah8 h8 => ?_)
    obtain ⟨f8, rfl, fn8, bn8, ex8⟩ := h8
    refine hv2 (fp0.call fn8 rfl rfl) (show f8 = -1 from ex8) (fun fq12 gf8 => ?_)
    refine m_st (st2 := [.int (iI f8)]) rfl ?_
    refine hv2 (show (-2147483648) ≤ vh8 42 ∧ vh8 42 ≤ 2147483647 from bn8.1 42) (show vh8 42 = v 42 from fn8.1 42 rfl) (fun rv15 ve11 => ?_)
    exact m_iret C dX12_copyLines_12 rfl (Nat.le_of_ble_eq_true rfl) (Nat.le_of_ble_eq_true rfl) ⟨f8, rfl, fq12, bn8, (CPA.bad0 (by omega) (by omega) (by omega) ⟨fn8.1 36 rfl, fn8.2 34 rfl, fn8.2 35 rfl⟩)⟩
def bcs (s : Int32) : List Int → Int32
  | [] => s
  | x :: xs => bcs (s + bcn (iI x)) xs
def emb (E : List (Option (List Int))) (q wd : Int) : Nat → Int32 → Prop
  | 0, s => s = 0
  | k + 1, s => ∃ s0, emb E q wd k s0 ∧ ((rwe E (q + ((k : Nat) : Int)) = some none ∧ s = s0) ∨ ∃ xs, rwe E (q + ((k : Nat) : Int)) = some (some xs) ∧ ((xs.length : Nat) : Int) ≤ wd ∧ s = bcs s0 xs)
def EMS (E : List (Option (List Int))) (q wd : Int) (k : Nat) (s : Int32) (f : Int) : Prop := (rwe E (q + ((k : Nat) : Int)) = none ∧ f = -1) ∨ ∃ xs, rwe E (q + ((k : Nat) : Int)) = some (some xs) ∧ wd < ((xs.length : Nat) : Int) ∧ iI f = s
def EMBX (E : List (Option (List Int))) (q n wd : Int) (c : Int32) (f : Int) (c2 : Int32) : Prop := ((n < 0 ∨ 200 < n) ∧ f = -1 ∧ c2 = c) ∨ ((0 ≤ n ∧ n ≤ 200) ∧ ((emb E q wd n.toNat (iI f) ∧ c2 = c + iI n) ∨ ∃ (k : Nat) (s : Int32), ((k : Nat) : Int) < n ∧ emb E q wd k s ∧ EMS E q wd k s f ∧ c2 = c + iI (((k : Nat) : Int) + 1)))
def EMA (v : Nat → Int) (a : Nat → Nat → Int) (v2 : Nat → Int) (q n f : Int) : Prop := ∀ E, SHA v a E → EMBX E q n (v 31) (iI (v 43)) f (iI (v2 43))
def EM1 (v : Nat → Int) (a : Nat → Nat → Int) (q k s : Int) : Prop := ∀ E, SHA v a E → emb E q (v 31) k.toNat (iI s)
def EM2 (v : Nat → Int) (a : Nat → Nat → Int) (q k i s : Int) : Prop := ∃ s0, EM1 v a q k s0 ∧ iI s = bcs (iI s0) (mpr i.toNat (fun j => a 35 (200 * (q + k) + ((j : Nat) : Int)).toNat))
section EMBS
variable {v v1 v2 : Nat → Int} {a : Nat → Nat → Int} {E : List (Option (List Int))} {q n f f1 f2 wd k i z x y s1 s2 : Int} {c c1 c2 s t : Int32} {xs : List Int}
theorem bcs_snoc : ∀ (xs : List Int) (s : Int32) (x : Int), bcs s (xs ++ [x]) = bcs s xs + bcn (iI x) := by
  intro xs
  induction xs with
  | nil => intro s x; rfl
  | cons y xs ih => intro s x; exact ih (s + bcn (iI y)) x
theorem bcs_add : ∀ (xs : List Int) (s : Int32), bcs s xs = s + bcs 0 xs := by
  intro xs
  induction xs with
  | nil => intro s; exact (Int32.add_zero s).symm
  | cons y xs ih =>
    intro s
    show bcs (s + bcn (iI y)) xs = s + bcs (0 + bcn (iI y)) xs
    rw [ih (s + bcn (iI y)), ih (0 + bcn (iI y)), Int32.zero_add, Int32.add_assoc]
theorem emb.uni : ∀ (k : Nat) (s t : Int32), emb E q wd k s → emb E q wd k t → s = t := by
  intro k
  induction k with
  | zero => intro s t h h2; exact h.trans h2.symm
  | succ k ih =>
    intro s t h h2
    obtain ⟨s0, a1, a2⟩ := h
    obtain ⟨t0, b1, b2⟩ := h2
    have e := ih s0 t0 a1 b1
    rcases a2 with ⟨e1, e2⟩ | ⟨xs, e1, _, e2⟩ <;> rcases b2 with ⟨d1, d2⟩ | ⟨ys, d1, _, d2⟩
    · rw [e2, d2, e]
    · rw [e1] at d1; cases d1
    · rw [e1] at d1; cases d1
    · rw [e1] at d1; cases d1
      rw [e2, d2, e]
theorem emb.less {k m : Nat} (hm : k < m) : ∀ s, emb E q wd m s → rwe E (q + ((k : Nat) : Int)) = some none ∨ ∃ xs, rwe E (q + ((k : Nat) : Int)) = some (some xs) ∧ ((xs.length : Nat) : Int) ≤ wd := by
  induction m with
  | zero => omega
  | succ m ih =>
    intro s h
    obtain ⟨s0, a1, a2⟩ := h
    by_cases c0 : k = m
    · subst c0
      rcases a2 with ⟨e1, _⟩ | ⟨xs, e1, e2, _⟩
      · exact Or.inl e1
      · exact Or.inr ⟨xs, e1, e2⟩
    · exact ih (by omega) s0 a1
theorem emb.stop {k m : Nat} (h1 : EMS E q wd k s f) (h2 : emb E q wd m t) (hm : k < m) : False := by
  rcases h1 with ⟨e, _⟩ | ⟨xs, e, e2, _⟩ <;> rcases emb.less hm t h2 with d | ⟨ys, d, d2⟩
  · rw [e] at d; cases d
  · rw [e] at d; cases d
  · rw [e] at d; cases d
  · rw [e] at d; cases d
    omega
theorem EMBX.uni (h : EMBX E q n wd c f1 c1) (h2 : EMBX E q n wd c f2 c2) : iI f1 = iI f2 ∧ c1 = c2 := by
  rcases h with ⟨e0, e1, e2⟩ | ⟨e0, ⟨e1, e2⟩ | ⟨k, s, e1, e2, e3, e4⟩⟩ <;> rcases h2 with ⟨d0, d1, d2⟩ | ⟨d0, ⟨d1, d2⟩ | ⟨m, t, d1, d2, d3, d4⟩⟩
  · exact ⟨by rw [e1, d1], e2.trans d2.symm⟩
  · omega
  · omega
  · omega
  · exact ⟨emb.uni _ _ _ e1 d1, e2.trans d2.symm⟩
  · exact (emb.stop d3 e1 (by omega)).elim
  · omega
  · exact (emb.stop e3 d1 (by omega)).elim
  · by_cases c0 : k = m
    · subst c0
      have es := emb.uni k s t e2 d2
      refine ⟨?_, e4.trans d4.symm⟩
      rcases e3 with ⟨g1, g2⟩ | ⟨xs, g1, _, g2⟩ <;> rcases d3 with ⟨b1, b2⟩ | ⟨ys, b1, _, b2⟩
      · rw [g2, b2]
      · rw [g1] at b1; cases b1
      · rw [g1] at b1; cases b1
      · rw [g2, b2, es]
    · by_cases c3 : k < m
      · exact (emb.stop e3 d2 c3).elim
      · exact (emb.stop d3 e2 (by omega)).elim
theorem EM1.zero (hk : k = 0) (hs : s1 = 0) : EM1 v a q k s1 := fun E hE => by
  rw [hk, hs]
  rfl
theorem EM1.go (h : EM1 v a q k s1) (hi : i = 0) : EM2 v a q k i s1 := ⟨s1, h, by rw [hi]; rfl⟩
theorem EM2.step (h : EM2 v a q k i s1) (hi : 0 ≤ i) (hx : x = a 35 (200 * (q + k) + i).toNat) (hz : bcn (iI x) = iI z) (hy : iI (s1 + z) = iI y) : EM2 v a q k (i + 1) y := by
  obtain ⟨s0, g1, g2⟩ := h
  refine ⟨s0, g1, ?_⟩
  rw [show (i + 1).toNat = i.toNat + 1 by omega]
  have e : mpr (i.toNat + 1) (fun j => a 35 (200 * (q + k) + ((j : Nat) : Int)).toNat) = mpr i.toNat (fun j => a 35 (200 * (q + k) + ((j : Nat) : Int)).toNat) ++ [a 35 (200 * (q + k) + ((i.toNat : Nat) : Int)).toNat] := by
    unfold mpr
    rw [List.range_succ, List.map_append]
    rfl
  have ea : iI (s1 + z) = iI s1 + iI z := Int32.ofInt_add s1 z
  rw [e, bcs_snoc, ← g2, ← hy, ea, show ((i.toNat : Nat) : Int) = i by omega, ← hx, hz]
theorem EM2.fin (h : EM2 v a q k i s1) (hk : 0 ≤ k) (h0 : 0 ≤ q + k ∧ q + k < v 36) (hw : a 34 (q + k).toNat ≤ v 31) (hi : (i = 0 ∧ a 34 (q + k).toNat ≤ 0) ∨ i = a 34 (q + k).toNat) : EM1 v a q (k + 1) s1 := fun E hE => by
  obtain ⟨s0, g1, g2⟩ := h
  rw [show (k + 1).toNat = k.toNat + 1 by omega]
  refine ⟨iI s0, g1 E hE, ?_⟩
  rw [show q + ((k.toNat : Nat) : Int) = q + k by omega]
  by_cases c0 : a 34 (q + k).toNat < 0
  · refine Or.inl ⟨hE.lack h0.1 h0.2 c0, ?_⟩
    rw [g2, show i.toNat = 0 by omega]
    rfl
  · obtain ⟨xs, e1, e2, e3⟩ := hE.have_ h0.1 h0.2 (by omega)
    refine Or.inr ⟨xs, e1, by omega, ?_⟩
    rw [g2]
    congr 1
    refine List.ext_getElem? (fun j => ?_)
    by_cases cj : j < xs.length
    · have lt : j < (mpr i.toNat (fun j => a 35 (200 * (q + k) + ((j : Nat) : Int)).toNat)).length := by rw [mpr_len]; omega
      rw [gd0_lt cj]
      have g := List.getElem?_eq_getElem lt
      rw [g]
      obtain ⟨_, m2⟩ := mpr_at g
      rw [m2, ← e3 j cj, show (200 * (q + k) + ((j : Nat) : Int)).toNat = 200 * (q + k).toNat + j by omega]
    · have l1 : (mpr i.toNat (fun j => a 35 (200 * (q + k) + ((j : Nat) : Int)).toNat)).length ≤ j := by
        rw [mpr_len]
        omega
      rw [List.getElem?_eq_none l1, List.getElem?_eq_none (show xs.length ≤ j by omega)]
theorem EMA.bad (hn : n < 0 ∨ 200 < n) (hf : f = -1) (h43 : v2 43 = v 43) : EMA v a v2 q n f := fun E hE => Or.inl ⟨hn, hf, by rw [h43]⟩
theorem EMA.ok (h : EM1 v a q k s1) (hk : k = n) (hn : 0 ≤ n ∧ n ≤ 200) (hf : f = s1) (hc : iI (v2 43) = iI (v 43) + iI k) : EMA v a v2 q n f := fun E hE => by
  have g := h E hE
  rw [hk, ← hf] at g
  rw [hk] at hc
  exact Or.inr ⟨hn, Or.inl ⟨g, hc⟩⟩
theorem EMA.stop (h : EM1 v a q k s1) (hk : 0 ≤ k ∧ k < n) (hn : n ≤ 200) (hc : iI (v2 43) = iI (v 43) + iI (k + 1)) (hx : (¬ (0 ≤ q + k ∧ q + k < v 36) ∧ f = -1) ∨ ((0 ≤ q + k ∧ q + k < v 36) ∧ v 31 < a 34 (q + k).toNat ∧ f = s1)) (h31 : 1 ≤ v 31) : EMA v a v2 q n f := fun E hE => by
  refine Or.inr ⟨⟨by omega, hn⟩, Or.inr ⟨k.toNat, iI s1, by omega, h E hE, ?_, by rw [hc, show ((k.toNat : Nat) : Int) = k by omega]⟩⟩
  unfold EMS
  rw [show q + ((k.toNat : Nat) : Int) = q + k by omega]
  rcases hx with ⟨e1, e2⟩ | ⟨e1, e2, e3⟩
  · exact Or.inl ⟨hE.off e1, e2⟩
  · obtain ⟨xs, d1, d2, _⟩ := hE.have_ e1.1 e1.2 (by omega)
    exact Or.inr ⟨xs, d1, by omega, by rw [e3]⟩
theorem cnt_s {c0 w0 w1 k z : Int} (h : iI w0 = iI c0 + iI k) (e : iI (w0 + 1) = iI z) (h2 : w1 = z) : iI w1 = iI c0 + iI (k + 1) := by
  refine hv2 (show iI (w0 + 1) = iI w0 + iI 1 from Int32.ofInt_add w0 1) (show iI (k + 1) = iI k + iI 1 from Int32.ofInt_add k 1) (fun e1 e2 => ?_)
  rw [h2, ← e, e1, h, e2, Int32.add_assoc]
theorem cnt_0 {c0 k : Int} (hk : k = 0) : iI c0 = iI c0 + iI k := by
  rw [hk]
  exact (Int32.add_zero _).symm
end EMBS
set_option maxHeartbeats 4000000 in
set_option maxRecDepth 100000 in
theorem N2_emboss {l : Launch} {G : GT} {h0 : Nat} {ad ln : Nat → Nat} {v : Nat → Int} {a : Nat → Nat → Int}  {q n1 : Int} (hB : BX v a) (hq : -2147483648 ≤ q ∧ q ≤ 2147483647) (hn1 : -2147483648 ≤ n1 ∧ n1 ≤ 2147483647) : Mm l G yX12_emboss cX12_emboss 9 (some .int) 1 [.int (iI q), .int (iI n1)] h0 ad ln v a 0 0 (fun r v2 a2 => ∃ f : Int, r = some (.int (iI f)) ∧ fr [0, 1, 43] [] v a v2 a2 ∧ BX v2 a2 ∧ (EMA v a v2 q n1 f)) := by
  refine Mm.mk (by decide) (Nat.le_of_ble_eq_true rfl) ?_
  intro p e s m args below meth c A C
  refine hv2 (show 0 ≤ v 36 ∧ v 36 ≤ 200 from hB.1 36) (show fr [0, 1, 43] [] v a v a from fr.refl) (fun r36 fp0 => ?_)
  refine m_iload_n (j := 2) C dX12_emboss_0 rfl ?_
  refine m_sipush (z := 200) C dX12_emboss_1 (by decide) ?_
  refine m_icmp_le (tgt := 14) C ⟨by omega, by omega⟩ ⟨by decide, by decide⟩ dX12_emboss_4 (by decide) (fun c1 => ?_) (fun c1 => ?_)
  · refine m_iload_n (j := 2) C dX12_emboss_14 rfl ?_
    refine m_if_ge (tgt := 24) C ⟨by omega, by omega⟩ dX12_emboss_15 (by decide) (fun c2 => ?_) (fun c2 => ?_)
    · refine m_iconst C dX12_emboss_24 ?_
      refine m_istore_n (lv2 := [(3, .int (iI 0)), (0, .ref h0), (1, .int (iI q)), (2, .int (iI n1))]) C dX12_emboss_25 (by decide) rfl ?_
      refine m_iconst C dX12_emboss_26 ?_
      refine m_istore (lv2 := [(4, .int (iI 0)), (3, .int (iI 0)), (0, .ref h0), (1, .int (iI q)), (2, .int (iI n1))]) C dX12_emboss_27 (by decide) rfl ?_
      have Lp1 : ∀ (nn : Nat) (s1 k : Int) (vb1 : Nat → Int) (ab1 : Nat → Nat → Int), 201 - k < (nn : Int) → BX vb1 ab1 → fr [0, 1, 43] [] v a vb1 ab1 → (-2147483648 ≤ s1 ∧ s1 ≤ 2147483647) → (0 ≤ k ∧ k ≤ n1) → (iI (vb1 43) = iI (v 43) + iI k) → (EM1 v a q k s1) → mw p l e (rmq 1 0 0) s m args below meth c G A 9 (MQ below (Qm G A (fun rq Lq Eq => ∃ (vq : Nat → Int) (aq : Nat → Nat → Int), mI G h0 ad ln vq aq Lq Eq ∧ (fun r v2 a2 => ∃ f : Int, r = some (.int (iI f)) ∧ fr [0, 1, 43] [] v a v2 a2 ∧ BX v2 a2 ∧ (EMA v a v2 q n1 f)) rq vq aq)) args s 0 0 A) h0 ad ln vb1 ab1 0 0 29 [(4, .int (iI k)), (3, .int (iI s1)), (0, .ref h0), (1, .int (iI q)), (2, .int (iI n1))] [] := by
        intro nn
        induction nn with
        | zero =>
          intro s1 k vb1 ab1 hm bxb1 fpb1 hs hk h43 hE
          exact absurd hm (by omega)
        | succ nn ih1 =>
          intro s1 k vb1 ab1 hm bxb1 fpb1 hs hk h43 hE
          refine m_iload (j := 0) C dX12_emboss_29 rfl ?_
          refine m_iload_n (j := 4) C dX12_emboss_31 rfl ?_
          refine m_icmp_ge (tgt := 142) C ⟨by omega, by omega⟩ ⟨by omega, by omega⟩ dX12_emboss_32 (by decide) (fun c3 => ?_) (fun c3 => ?_)
          · refine m_aload_n (j := 2) C dX12_emboss_142 rfl ?_
            refine m_iload_n (j := 1) C dX12_emboss_143 rfl ?_
            refine m_call (mc2 := 0) (ms2 := 0) (As := [.int (iI s1)]) (rest := []) C (B_fine (x := s1) bxb1 (by show -2147483648 ≤ s1 ∧ s1 ≤ 2147483647; omega)) dX12_emboss_144 kV_X12_158 rfl ck_13 rfl (Nat.le_of_ble_eq_true rfl) ⟨Nat.le_of_ble_eq_true rfl, Nat.le_of_ble_eq_true rfl⟩ ⟨Nat.le_of_ble_eq_true rfl, Nat.le_of_ble_eq_true rfl⟩ (fun rh1 vh1 ah1 h1 => ?_)
            obtain ⟨f1, rfl, fn1, bn1, ex1⟩ := h1
            refine hv2 (fpb1.call fn1 rfl rfl) (show f1 = s1 from ex1) (fun fq1 gf1 => ?_)
            refine m_st (st2 := [.int (iI f1)]) rfl ?_
            refine hv2 (show (-2147483648) ≤ vh1 43 ∧ vh1 43 ≤ 2147483647 from bn1.1 43) (show vh1 43 = vb1 43 from fn1.1 43 rfl) (fun rv1 ve1 => ?_)
            exact m_iret C dX12_emboss_147 rfl (Nat.le_of_ble_eq_true rfl) (Nat.le_of_ble_eq_true rfl) ⟨f1, rfl, fq1, bn1, (EMA.ok hE (by omega) ⟨by omega, by omega⟩ (by omega) (by rw [fn1.1 43 rfl]; exact h43))⟩
          · refine m_iload_n (j := 3) C dX12_emboss_35 rfl ?_
            refine m_i2l (w := lI q) C dX12_emboss_36 (lI_of ⟨by omega, by omega⟩) ?_
            refine m_iload (j := 0) C dX12_emboss_37 rfl ?_
            refine m_i2l (w := lI k) C dX12_emboss_39 (lI_of ⟨by omega, by omega⟩) ?_
            refine m_ladd (w := lI (q + k)) C dX12_emboss_40 (lI_add _ _) ?_
            refine m_lstore (lv2 := [(5, .long (lI (q + k))), (4, .int (iI k)), (3, .int (iI s1)), (0, .ref h0), (1, .int (iI q)), (2, .int (iI n1))]) C dX12_emboss_41 (by decide) rfl ?_
            refine m_aload_n (j := 3) C dX12_emboss_43 rfl ?_
            refine m_dup C dX12_emboss_44 rfl ?_
            have rv2 : (-2147483648) ≤ vb1 43 ∧ vb1 43 ≤ 2147483647 := bxb1.1 43
            refine m_get (k := 43) C dX12_emboss_45 w6_102 (by decide) rfl ?_
            refine m_iconst C dX12_emboss_48 ?_
            refine m_iadd C dX12_emboss_49 ?_
            obtain ⟨zz1, hzz1, ezz1⟩ := iI_of (iI ((vb1 43) + 1))
            refine m_st (st2 := [.int (iI zz1), .ref h0]) (by rw [ezz1]) ?_
            refine m_put (k := 43) (z := zz1) C dX12_emboss_50 w6_102 (by decide) rfl rfl rfl ?_
            refine hv2 (show BX (va_up vb1 43 zz1) ab1 from bxb1.put (k := 43) (z := zz1) (show (-2147483648) ≤ zz1 ∧ zz1 ≤ 2147483647 by omega)) (fpb1.put (k := 43) (z := zz1) rfl) (fun bq1 fq2 => ?_)
            refine m_lload (j := 0) C dX12_emboss_53 rfl ?_
            refine m_lconst (w := lI 0) C dX12_emboss_55 rfl ?_
            obtain ⟨lc1, hlc1, elc1⟩ := lcmp_c (x := (q + k)) (y := 0) ⟨by omega, by omega⟩ ⟨by omega, by omega⟩
            refine m_lcmp (w := iI lc1) C dX12_emboss_56 elc1 ?_
            refine m_if_lt (tgt := 71) C ⟨by omega, by omega⟩ dX12_emboss_57 (by decide) (fun c4 => ?_) (fun c4 => ?_)
            · refine m_aload_n (j := 3) C dX12_emboss_71 rfl ?_
              refine m_iconst C dX12_emboss_72 ?_
              refine m_call (mc2 := 0) (ms2 := 0) (As := [.int (iI 2)]) (rest := []) C (B_bad (x := 2) bq1 (by show -2147483648 ≤ (2 : Int) ∧ (2 : Int) ≤ 2147483647; omega)) dX12_emboss_73 kV_X12_154 rfl ck_13 rfl (Nat.le_of_ble_eq_true rfl) ⟨Nat.le_of_ble_eq_true rfl, Nat.le_of_ble_eq_true rfl⟩ ⟨Nat.le_of_ble_eq_true rfl, Nat.le_of_ble_eq_true rfl⟩ (fun rh2 vh2 ah2 h2 => ?_)
              obtain ⟨f2, rfl, fn2, bn2, ex2⟩ := h2
              refine hv2 (fq2.call fn2 rfl rfl) (show f2 = -1 from ex2) (fun fq3 gf2 => ?_)
              refine m_st (st2 := [.int (iI f2)]) rfl ?_
              refine hv2 (show (-2147483648) ≤ vh2 43 ∧ vh2 43 ≤ 2147483647 from bn2.1 43) (show vh2 43 = zz1 from fn2.1 43 rfl) (fun rv3 ve2 => ?_)
              exact m_iret C dX12_emboss_76 rfl (Nat.le_of_ble_eq_true rfl) (Nat.le_of_ble_eq_true rfl) ⟨f2, rfl, fq3, bn2, (EMA.stop hE ⟨by omega, by omega⟩ (by omega) (cnt_s h43 ezz1 ((fn2.1 43 rfl).trans (va_up_self _ _ _))) (by omega) (hB.1 31).1)⟩
            · refine m_lload (j := 0) C dX12_emboss_60 rfl ?_
              refine m_aload_n (j := 3) C dX12_emboss_62 rfl ?_
              refine hv2 (show 0 ≤ vb1 36 ∧ vb1 36 ≤ 200 from bq1.1 36) (show vb1 36 = v 36 from fpb1.1 36 rfl) (fun rv4 ve3 => ?_)
              refine m_get (k := 36) C dX12_emboss_63 w6_95 (by decide) rfl ?_
              refine m_st (st2 := [.int (iI (v 36)), .long (lI (q + k))]) (congrArg (fun z => Value.int (iI z) :: [.long (lI (q + k))]) (fq2.1 36 rfl)) ?_
              refine m_i2l (w := lI (v 36)) C dX12_emboss_66 (lI_of ⟨by omega, by omega⟩) ?_
              obtain ⟨lc2, hlc2, elc2⟩ := lcmp_c (x := (q + k)) (y := (v 36)) ⟨by omega, by omega⟩ ⟨by omega, by omega⟩
              refine m_lcmp (w := iI lc2) C dX12_emboss_67 elc2 ?_
              refine m_if_lt (tgt := 77) C ⟨by omega, by omega⟩ dX12_emboss_68 (by decide) (fun c5 => ?_) (fun c5 => ?_)
              · refine m_aload_n (j := 3) C dX12_emboss_77 rfl ?_
                refine m_geta (k := 34) C dX12_emboss_78 w6_93 (by decide) rfl ?_
                refine m_lload (j := 0) C dX12_emboss_81 rfl ?_
                refine m_l2i (w := iI (q + k)) C dX12_emboss_83 (lI_i _) ?_
                refine m_ald (k := 34) C dX12_emboss_84 rfl rfl (by decide) (by omega) (by show _ < ((_ : Nat) : Int); simp only [mlen]; omega) (by decide) ?_
                refine hv2 (show (-1) ≤ ab1 34 (q + k).toNat ∧ ab1 34 (q + k).toNat ≤ 200 from bq1.2 34 ((q + k).toNat)) (show ab1 34 ((q + k).toNat) = a 34 ((q + k).toNat) from congrFun (fpb1.2 34 rfl) ((q + k).toNat)) (fun ra1 ae1 => ?_)
                refine m_st (st2 := [.int (iI (a 34 (q + k).toNat))]) (congrArg (fun z => Value.int (iI z) :: []) (congrFun (fq2.2 34 rfl) ((q + k).toNat))) ?_
                refine m_istore (lv2 := [(7, .int (iI (a 34 (q + k).toNat))), (5, .long (lI (q + k))), (4, .int (iI k)), (3, .int (iI s1)), (0, .ref h0), (1, .int (iI q)), (2, .int (iI n1))]) C dX12_emboss_85 (by decide) rfl ?_
                refine m_iload (j := 0) C dX12_emboss_87 rfl ?_
                refine m_aload_n (j := 4) C dX12_emboss_89 rfl ?_
                refine hv2 (show 1 ≤ vb1 31 ∧ vb1 31 ≤ 100 from bq1.1 31) (show vb1 31 = v 31 from fpb1.1 31 rfl) (fun rv5 ve4 => ?_)
                refine m_get (k := 31) C dX12_emboss_90 w6_90 (by decide) rfl ?_
                refine m_st (st2 := [.int (iI (v 31)), .int (iI (a 34 (q + k).toNat))]) (congrArg (fun z => Value.int (iI z) :: [.int (iI (a 34 (q + k).toNat))]) (fq2.1 31 rfl)) ?_
                refine m_icmp_le (tgt := 99) C ⟨by omega, by omega⟩ (r32_c (lo := 1) (hi := 100) (Int.le_trans rv5.1 (Int.le_of_eq ve4)) (Int.le_trans (Int.le_of_eq ve4.symm) rv5.2) (by decide) (by decide)) dX12_emboss_93 (by decide) (fun c6 => ?_) (fun c6 => ?_)
                · refine m_iconst C dX12_emboss_99 ?_
                  refine m_istore (lv2 := [(8, .int (iI 0)), (7, .int (iI (a 34 (q + k).toNat))), (5, .long (lI (q + k))), (4, .int (iI k)), (3, .int (iI s1)), (0, .ref h0), (1, .int (iI q)), (2, .int (iI n1))]) C dX12_emboss_100 (by decide) rfl ?_
                  have Lp2 : ∀ (nn : Nat) (s2 i1 : Int) (vb2 : Nat → Int) (ab2 : Nat → Nat → Int), 201 - i1 < (nn : Int) → BX vb2 ab2 → fr [0, 1, 43] [] v a vb2 ab2 → (-2147483648 ≤ s2 ∧ s2 ≤ 2147483647) → (0 ≤ i1 ∧ i1 ≤ 200 ∧ (i1 = 0 ∨ i1 ≤ a 34 (q + k).toNat)) → (iI (vb2 43) = iI (v 43) + iI (k + 1)) → (EM2 v a q k i1 s2) → mw p l e (rmq 1 0 0) s m args below meth c G A 9 (MQ below (Qm G A (fun rq Lq Eq => ∃ (vq : Nat → Int) (aq : Nat → Nat → Int), mI G h0 ad ln vq aq Lq Eq ∧ (fun r v2 a2 => ∃ f : Int, r = some (.int (iI f)) ∧ fr [0, 1, 43] [] v a v2 a2 ∧ BX v2 a2 ∧ (EMA v a v2 q n1 f)) rq vq aq)) args s 0 0 A) h0 ad ln vb2 ab2 0 0 102 [(8, .int (iI i1)), (3, .int (iI s2)), (7, .int (iI (a 34 (q + k).toNat))), (5, .long (lI (q + k))), (4, .int (iI k)), (0, .ref h0), (1, .int (iI q)), (2, .int (iI n1))] [] := by
                    intro nn
                    induction nn with
                    | zero =>
                      intro s2 i1 vb2 ab2 hm bxb2 fpb2 hs2 hi h43b hD
                      exact absurd hm (by omega)
                    | succ nn ih2 =>
                      intro s2 i1 vb2 ab2 hm bxb2 fpb2 hs2 hi h43b hD
                      refine m_iload (j := 0) C dX12_emboss_102 rfl ?_
                      refine m_iload (j := 2) C dX12_emboss_104 rfl ?_
                      refine m_icmp_ge (tgt := 136) C (r32_c (lo := 0) (hi := 200) hi.1 hi.2.1 (by decide) (by decide)) ⟨by omega, by omega⟩ dX12_emboss_106 (by decide) (fun c7 => ?_) (fun c7 => ?_)
                      · refine m_iinc (z := k) (j := 4) (lv2 := [(4, .int (iI (k + 1))), (8, .int (iI i1)), (3, .int (iI s2)), (7, .int (iI (a 34 (q + k).toNat))), (5, .long (lI (q + k))), (0, .ref h0), (1, .int (iI q)), (2, .int (iI n1))]) C dX12_emboss_136 rfl (by decide) rfl ?_
                        refine m_goto (tgt := 29) C dX12_emboss_139 (by decide) ?_
                        have rv6 : (-2147483648) ≤ vb2 43 ∧ vb2 43 ≤ 2147483647 := bxb2.1 43
                        refine m_lv (lv2 := [(4, .int (iI (k + 1))), (3, .int (iI s2)), (0, .ref h0), (1, .int (iI q)), (2, .int (iI n1))]) [0, 2, 5, 6, 7] rfl ?_
                        exact ih1  s2 (k + 1) _ _ (by omega) bxb2 fpb2 (by omega) (by omega) h43b (EM2.fin hD (by omega) ⟨by omega, by omega⟩ (by omega) (by omega))
                      · refine m_iload_n (j := 1) C dX12_emboss_109 rfl ?_
                        refine m_aload_n (j := 5) C dX12_emboss_110 rfl ?_
                        refine m_geta (k := 35) C dX12_emboss_111 w6_94 (by decide) rfl ?_
                        refine m_sipush (z := 200) C dX12_emboss_114 (by decide) ?_
                        refine m_lload (j := 3) C dX12_emboss_117 rfl ?_
                        refine m_l2i (w := iI (q + k)) C dX12_emboss_119 (lI_i _) ?_
                        refine m_imul C dX12_emboss_120 ?_
                        refine m_iload (j := 0) C dX12_emboss_121 rfl ?_
                        refine m_iadd C dX12_emboss_123 ?_
                        refine m_ald (k := 35) C dX12_emboss_124 rfl rfl (by decide) (by omega) (by show _ < ((_ : Nat) : Int); simp only [mlen]; omega) (by decide) ?_
                        refine hv2 (show (-2147483648) ≤ ab2 35 ((200 * (q + k)) + i1).toNat ∧ ab2 35 ((200 * (q + k)) + i1).toNat ≤ 2147483647 from bxb2.2 35 (((200 * (q + k)) + i1).toNat)) (show ab2 35 (((200 * (q + k)) + i1).toNat) = a 35 (((200 * (q + k)) + i1).toNat) from congrFun (fpb2.2 35 rfl) (((200 * (q + k)) + i1).toNat)) (fun ra2 ae2 => ?_)
                        refine m_st (st2 := [.int (iI (a 35 ((200 * (q + k)) + i1).toNat)), .int (iI s2)]) (congrArg (fun z => Value.int (iI z) :: [.int (iI s2)]) (congrFun (fpb2.2 35 rfl) (((200 * (q + k)) + i1).toNat))) ?_
                        refine m_callS (As := [.int (iI (a 35 ((200 * (q + k)) + i1).toNat))]) (rest := [.int (iI s2)]) C (fun L E => s_bitCount (iI (a 35 ((200 * (q + k)) + i1).toNat))) dX12_emboss_125 kS_X12_309 rfl rfl (Nat.le_of_ble_eq_true rfl) ⟨Nat.le_of_ble_eq_true rfl, Nat.le_of_ble_eq_true rfl⟩ ⟨Nat.le_of_ble_eq_true rfl, Nat.le_of_ble_eq_true rfl⟩ ?_
                        obtain ⟨zz2, hzz2, ezz2⟩ := iI_of (bcn (iI (a 35 ((200 * (q + k)) + i1).toNat)))
                        · refine m_st (st2 := [.int (iI zz2), .int (iI s2)]) (by rw [ezz2]) ?_
                          refine m_iadd C dX12_emboss_128 ?_
                          obtain ⟨zz3, hzz3, ezz3⟩ := iI_of (iI (s2 + zz2))
                          refine m_st (st2 := [.int (iI zz3)]) (by rw [ezz3]) ?_
                          refine m_istore_n (lv2 := [(3, .int (iI zz3)), (8, .int (iI i1)), (7, .int (iI (a 34 (q + k).toNat))), (5, .long (lI (q + k))), (4, .int (iI k)), (0, .ref h0), (1, .int (iI q)), (2, .int (iI n1))]) C dX12_emboss_129 (by decide) rfl ?_
                          refine m_iinc (z := i1) (j := 1) (lv2 := [(8, .int (iI (i1 + 1))), (3, .int (iI zz3)), (7, .int (iI (a 34 (q + k).toNat))), (5, .long (lI (q + k))), (4, .int (iI k)), (0, .ref h0), (1, .int (iI q)), (2, .int (iI n1))]) C dX12_emboss_130 rfl (by decide) rfl ?_
                          refine m_goto (tgt := 102) C dX12_emboss_133 (by decide) ?_
                          have rv7 : (-2147483648) ≤ vb2 43 ∧ vb2 43 ≤ 2147483647 := bxb2.1 43
                          refine m_lv (lv2 := [(8, .int (iI (i1 + 1))), (3, .int (iI zz3)), (7, .int (iI (a 34 (q + k).toNat))), (5, .long (lI (q + k))), (4, .int (iI k)), (0, .ref h0), (1, .int (iI q)), (2, .int (iI n1))]) [0, 1, 2, 3, 4, 5, 6, 7] rfl ?_
                          exact ih2  zz3 (i1 + 1) _ _ (by omega) bxb2 fpb2 (by omega) (by omega) h43b (EM2.step hD (by omega) rfl ezz2 ezz3)
                  refine m_lv (lv2 := [(8, .int (iI 0)), (3, .int (iI s1)), (7, .int (iI (a 34 (q + k).toNat))), (5, .long (lI (q + k))), (4, .int (iI k)), (0, .ref h0), (1, .int (iI q)), (2, .int (iI n1))]) [0, 4, 1, 2, 3, 5, 6, 7] rfl ?_
                  exact Lp2 202 s1 0 _ _ (by omega) bq1 fq2 (by omega) (by omega) (cnt_s h43 ezz1 (va_up_self _ _ _)) (EM1.go hE rfl)
                · refine m_goto (tgt := 142) C dX12_emboss_96 (by decide) ?_
                  refine m_aload_n (j := 4) C dX12_emboss_142 rfl ?_
                  refine m_iload_n (j := 3) C dX12_emboss_143 rfl ?_
                  refine m_call (mc2 := 0) (ms2 := 0) (As := [.int (iI s1)]) (rest := []) C (B_fine (x := s1) bq1 (by show -2147483648 ≤ s1 ∧ s1 ≤ 2147483647; omega)) dX12_emboss_144 kV_X12_158 rfl ck_13 rfl (Nat.le_of_ble_eq_true rfl) ⟨Nat.le_of_ble_eq_true rfl, Nat.le_of_ble_eq_true rfl⟩ ⟨Nat.le_of_ble_eq_true rfl, Nat.le_of_ble_eq_true rfl⟩ (fun rh4 vh4 ah4 h4 => ?_)
                  obtain ⟨f3, rfl, fn3, bn3, ex3⟩ := h4
                  refine hv2 (fq2.call fn3 rfl rfl) (show f3 = s1 from ex3) (fun fq4 gf3 => ?_)
                  refine m_st (st2 := [.int (iI f3)]) rfl ?_
                  refine hv2 (show (-2147483648) ≤ vh4 43 ∧ vh4 43 ≤ 2147483647 from bn3.1 43) (show vh4 43 = zz1 from fn3.1 43 rfl) (fun rv8 ve5 => ?_)
                  exact m_iret C dX12_emboss_147 rfl (Nat.le_of_ble_eq_true rfl) (Nat.le_of_ble_eq_true rfl) ⟨f3, rfl, fq4, bn3, (EMA.stop hE ⟨by omega, by omega⟩ (by omega) (cnt_s h43 ezz1 ((fn3.1 43 rfl).trans (va_up_self _ _ _))) (by omega) (hB.1 31).1)⟩
              · refine m_aload_n (j := 3) C dX12_emboss_71 rfl ?_
                refine m_iconst C dX12_emboss_72 ?_
                refine m_call (mc2 := 0) (ms2 := 0) (As := [.int (iI 2)]) (rest := []) C (B_bad (x := 2) bq1 (by show -2147483648 ≤ (2 : Int) ∧ (2 : Int) ≤ 2147483647; omega)) dX12_emboss_73 kV_X12_154 rfl ck_13 rfl (Nat.le_of_ble_eq_true rfl) ⟨Nat.le_of_ble_eq_true rfl, Nat.le_of_ble_eq_true rfl⟩ ⟨Nat.le_of_ble_eq_true rfl, Nat.le_of_ble_eq_true rfl⟩ (fun rh5 vh5 ah5 h5 => ?_)
                obtain ⟨f4, rfl, fn4, bn4, ex4⟩ := h5
                refine hv2 (fq2.call fn4 rfl rfl) (show f4 = -1 from ex4) (fun fq5 gf4 => ?_)
                refine m_st (st2 := [.int (iI f4)]) rfl ?_
                refine hv2 (show (-2147483648) ≤ vh5 43 ∧ vh5 43 ≤ 2147483647 from bn4.1 43) (show vh5 43 = zz1 from fn4.1 43 rfl) (fun rv9 ve6 => ?_)
                exact m_iret C dX12_emboss_76 rfl (Nat.le_of_ble_eq_true rfl) (Nat.le_of_ble_eq_true rfl) ⟨f4, rfl, fq5, bn4, (EMA.stop hE ⟨by omega, by omega⟩ (by omega) (cnt_s h43 ezz1 ((fn4.1 43 rfl).trans (va_up_self _ _ _))) (by omega) (hB.1 31).1)⟩
      have rv10 : (-2147483648) ≤ v 43 ∧ v 43 ≤ 2147483647 := hB.1 43
      refine m_lv (lv2 := [(4, .int (iI 0)), (3, .int (iI 0)), (0, .ref h0), (1, .int (iI q)), (2, .int (iI n1))]) [0, 1, 2, 3, 4] rfl ?_
      exact Lp1 202 0 0 _ _ (by omega) hB fp0 (by omega) (by omega) (cnt_0 rfl) (EM1.zero rfl rfl)
    · refine m_aload_n (j := 0) C dX12_emboss_18 rfl ?_
      refine m_iconst C dX12_emboss_19 ?_
      refine m_call (mc2 := 0) (ms2 := 0) (As := [.int (iI 5)]) (rest := []) C (B_bad (x := 5) hB (by show -2147483648 ≤ (5 : Int) ∧ (5 : Int) ≤ 2147483647; omega)) dX12_emboss_20 kV_X12_154 rfl ck_13 rfl (Nat.le_of_ble_eq_true rfl) ⟨Nat.le_of_ble_eq_true rfl, Nat.le_of_ble_eq_true rfl⟩ ⟨Nat.le_of_ble_eq_true rfl, Nat.le_of_ble_eq_true rfl⟩ (fun rh6 vh6 ah6 h6 => ?_)
      obtain ⟨f5, rfl, fn5, bn5, ex5⟩ := h6
      refine hv2 (fp0.call fn5 rfl rfl) (show f5 = -1 from ex5) (fun fq6 gf5 => ?_)
      refine m_st (st2 := [.int (iI f5)]) rfl ?_
      refine hv2 (show (-2147483648) ≤ vh6 43 ∧ vh6 43 ≤ 2147483647 from bn5.1 43) (show vh6 43 = v 43 from fn5.1 43 rfl) (fun rv11 ve7 => ?_)
      exact m_iret C dX12_emboss_23 rfl (Nat.le_of_ble_eq_true rfl) (Nat.le_of_ble_eq_true rfl) ⟨f5, rfl, fq6, bn5, (EMA.bad (by omega) (by omega) (fn5.1 43 rfl))⟩
  · refine m_aload_n (j := 0) C dX12_emboss_7 rfl ?_
    refine m_bipush (z := 6) C dX12_emboss_8 (by decide) ?_
    refine m_call (mc2 := 0) (ms2 := 0) (As := [.int (iI 6)]) (rest := []) C (B_bad (x := 6) hB (by show -2147483648 ≤ (6 : Int) ∧ (6 : Int) ≤ 2147483647; omega)) dX12_emboss_10 kV_X12_154 rfl ck_13 rfl (Nat.le_of_ble_eq_true rfl) ⟨Nat.le_of_ble_eq_true rfl, Nat.le_of_ble_eq_true rfl⟩ ⟨Nat.le_of_ble_eq_true rfl, Nat.le_of_ble_eq_true rfl⟩ (fun rh7 vh7 ah7 h7 => ?_)
    obtain ⟨f6, rfl, fn6, bn6, ex6⟩ := h7
    refine hv2 (fp0.call fn6 rfl rfl) (show f6 = -1 from ex6) (fun fq7 gf6 => ?_)
    refine m_st (st2 := [.int (iI f6)]) rfl ?_
    refine hv2 (show (-2147483648) ≤ vh7 43 ∧ vh7 43 ≤ 2147483647 from bn6.1 43) (show vh7 43 = v 43 from fn6.1 43 rfl) (fun rv12 ve8 => ?_)
    exact m_iret C dX12_emboss_13 rfl (Nat.le_of_ble_eq_true rfl) (Nat.le_of_ble_eq_true rfl) ⟨f6, rfl, fq7, bn6, (EMA.bad (by omega) (by omega) (fn6.1 43 rfl))⟩
end
section
def rol (d : Int) : Int := if 0 ≤ d then 4 else (-1 - d) % 4
def SMR (a : Nat → Nat → Int) (d : Int) : Prop := 0 ≤ d ∧ 97 ≤ a 14 (8 * d).toNat ∧ a 14 (8 * d).toNat ≤ 122
def rlt (a : Nat → Nat → Int) (d h : Int) : Nat → List Int
  | 0 => []
  | n + 1 => rlt a d h n ++ [a 14 (8 * d + ((n : Nat) : Int)).toNat - (if h = 1 ∧ n = 0 then 32 else 0)]
def rout (a : Nat → Nat → Int) (d h : Int) : List Int := if 0 ≤ d then rlt a d h (a 12 d.toNat).toNat else if rol d = 2 then [60] else if rol d = 3 then [62] else []
def ngp (d g : Int) : Int := if rol d = 2 then 1 else if rol d = 3 then 0 else g
def ngh (d : Int) : Int := if rol d = 0 then 1 else 0
def NZL (a : Nat → Nat → Int) (l : List Int) : Prop := ∀ (j : Nat) (d : Int), l[j]? = some d → (1 ≤ rlen a d ∧ rlen a d ≤ 4) ∧ ∀ k : Int, 0 ≤ k → k < rlen a d → dcl a d k ≠ 0
section RSEM
variable {a a1 a2 : Nat → Nat → Int} {l l0 l1 : List Int} {R R1 : Nat → Int} {s s1 s2 : Int × Int × Int × Int × Int} {o o1 o2 bs b1 b2 : List Int} {p q k x y d e g h f f1 f2 : Int} {m n : Nat} {c c1 c2 : Option Int}
end RSEM
end
section
section RRD1
variable {v v1 v2 : Nat → Int} {a a1 a2 : Nat → Nat → Int} {l : List Int} {R : Nat → Int} {w x u k g f q r b d e y : Int} {bs : List Int}
theorem HLD.tt (h : HLD a a2 q l) (hq : 0 ≤ q) (h0 : 6008 * q ≤ r) (h1 : r < 6008 * q + a2 47 q.toNat) : ∃ d, l[(r - 6008 * q).toNat]? = some d ∧ rent a a2 r d := by
  have e := h.1
  have lt : (r - 6008 * q).toNat < l.length := by omega
  have g := List.getElem?_eq_getElem lt
  refine ⟨_, g, ?_⟩
  have w := h.2.2 _ _ g
  rw [show 6008 * q + (((r - 6008 * q).toNat : Nat) : Int) = r by omega] at w
  exact w
end RRD1
section RRD2
variable {v v1 v2 v3 : Nat → Int} {a a1 a2 a3 : Nat → Nat → Int} {l0 l1 : List Int} {R : Nat → Int} {w x u k g g2 f q r b d e y z c pt p2 : Int} {bs : List Int}
theorem rent.r44 (hr : rent a a2 r d) : (0 ≤ d ∧ a2 44 r.toNat = d ∧ rol d = 4) ∨ (d < 0 ∧ a2 44 r.toNat = -1 - rol d ∧ 0 ≤ rol d ∧ rol d ≤ 3) := by
  by_cases c : 0 ≤ d
  · exact Or.inl ⟨c, (hr.1 c).1, if_pos c⟩
  · have e : rol d = (-1 - d) % 4 := if_neg c
    have h := (hr.2 (by omega)).1
    exact Or.inr ⟨by omega, by rw [e]; exact h, by omega, by omega⟩
theorem rlt_len : ∀ n : Nat, (rlt a d g n).length = n := by
  intro n
  induction n with
  | zero => rfl
  | succ n ih =>
    show (rlt a d g n ++ [_]).length = n + 1
    rw [len1, ih]
end RRD2
def SMX (a : Nat → Nat → Int) (w f : Int) : Prop := f = 1 ↔ (0 ≤ a 44 w.toNat ∧ 97 ≤ a 14 (8 * a 44 w.toNat).toNat ∧ a 14 (8 * a 44 w.toNat).toNat ≤ 122)
set_option maxHeartbeats 4000000 in
set_option maxRecDepth 100000 in
theorem E_isSmallRule {l : Launch} {G : GT} {h0 : Nat} {ad ln : Nat → Nat} {v : Nat → Int} {a : Nat → Nat → Int}  {w : Int} (hB : BX v a) (hr : 0 ≤ w ∧ w < 12016) (h44 : a 44 w.toNat < 6000) : Mm l G yX12_isSmallRule cX12_isSmallRule 2 (some .boolean) 1 [.int (iI w)] h0 ad ln v a 0 0 (fun r v2 a2 => ∃ f : Int, r = some (.int (iI f)) ∧ fr [] [] v a v2 a2 ∧ BX v2 a2 ∧ ((f = 0 ∨ f = 1) ∧ SMX a w f)) := by
  refine Mm.mk (by decide) (Nat.le_of_ble_eq_true rfl) ?_
  intro p e s m args below meth c A C
  have fp0 : fr [] [] v a v a := fr.refl
  refine m_aload_n (j := 0) C dX12_isSmallRule_0 rfl ?_
  refine m_geta (k := 44) C dX12_isSmallRule_1 w6_103 (by decide) rfl ?_
  refine m_iload_n (j := 1) C dX12_isSmallRule_4 rfl ?_
  refine m_ald (k := 44) C dX12_isSmallRule_5 rfl rfl (by decide) (by omega) (by show _ < ((_ : Nat) : Int); simp only [mlen]; omega) (by decide) ?_
  have ra1 : (-4) ≤ a 44 w.toNat ∧ a 44 w.toNat ≤ 5999 := hB.2 44 (w.toNat)
  refine m_if_lt (tgt := 33) C (r32_c (lo := (-4)) (hi := 5999) ra1.1 ra1.2 (by decide) (by decide)) dX12_isSmallRule_6 (by decide) (fun c1 => ?_) (fun c1 => ?_)
  · refine m_iconst C dX12_isSmallRule_33 ?_
    exact m_zret C dX12_isSmallRule_34 rfl (Or.inl rfl) (Nat.le_of_ble_eq_true rfl) (Nat.le_of_ble_eq_true rfl) ⟨0, rfl, fp0, hB, ⟨by omega, by unfold SMX; omega⟩⟩
  · refine m_aload_n (j := 0) C dX12_isSmallRule_9 rfl ?_
    refine m_geta (k := 14) C dX12_isSmallRule_10 w6_73 (by decide) rfl ?_
    refine m_bipush (z := 8) C dX12_isSmallRule_13 (by decide) ?_
    refine m_aload_n (j := 0) C dX12_isSmallRule_15 rfl ?_
    refine m_geta (k := 44) C dX12_isSmallRule_16 w6_103 (by decide) rfl ?_
    refine m_iload_n (j := 1) C dX12_isSmallRule_19 rfl ?_
    refine m_ald (k := 44) C dX12_isSmallRule_20 rfl rfl (by decide) (by omega) (by show _ < ((_ : Nat) : Int); simp only [mlen]; omega) (by decide) ?_
    refine m_imul C dX12_isSmallRule_21 ?_
    refine m_ald (k := 14) C dX12_isSmallRule_22 rfl rfl (by decide) (by omega) (by show _ < ((_ : Nat) : Int); simp only [mlen]; omega) (by decide) ?_
    have ra2 : 0 ≤ a 14 (8 * (a 44 w.toNat)).toNat ∧ a 14 (8 * (a 44 w.toNat)).toNat ≤ 125 := hB.2 14 ((8 * (a 44 w.toNat)).toNat)
    refine m_callS (As := [.int (iI (a 14 (8 * (a 44 w.toNat)).toNat))]) (rest := []) C (fun L E => s_isSmall (iI (a 14 (8 * (a 44 w.toNat)).toNat))) dX12_isSmallRule_23 kS_X12_208 rfl rfl (Nat.le_of_ble_eq_true rfl) ⟨Nat.le_of_ble_eq_true rfl, Nat.le_of_ble_eq_true rfl⟩ ⟨Nat.le_of_ble_eq_true rfl, Nat.le_of_ble_eq_true rfl⟩ ?_
    rcases inn_c (x := a 14 (8 * (a 44 w.toNat)).toNat) (lo := 97) (hi := 122) (r32_c (lo := 0) (hi := 125) ra2.1 ra2.2 (by decide) (by decide)) ⟨by decide, by decide⟩ ⟨by decide, by decide⟩ with ⟨h1a, h1b, h1e⟩ | ⟨h1a, h1e⟩
    · refine m_st (st2 := [.int (iI 1)]) (by rw [show inn (iI (a 14 (8 * (a 44 w.toNat)).toNat)) 97 122 = iI 1 from h1e]) ?_
      refine m_if_eq (tgt := 33) C ⟨by decide, by decide⟩ dX12_isSmallRule_26 (by decide) (fun z => absurd z (by omega)) (fun _ => ?_)
      refine m_iconst C dX12_isSmallRule_29 ?_
      refine m_goto (tgt := 34) C dX12_isSmallRule_30 (by decide) ?_
      exact m_zret C dX12_isSmallRule_34 rfl (Or.inr rfl) (Nat.le_of_ble_eq_true rfl) (Nat.le_of_ble_eq_true rfl) ⟨1, rfl, fp0, hB, ⟨by omega, by unfold SMX; omega⟩⟩
    · refine m_st (st2 := [.int (iI 0)]) (by rw [show inn (iI (a 14 (8 * (a 44 w.toNat)).toNat)) 97 122 = iI 0 from h1e]) ?_
      refine m_if_eq (tgt := 33) C ⟨by decide, by decide⟩ dX12_isSmallRule_26 (by decide) (fun _ => ?_) (fun z => absurd z (by omega))
      refine m_iconst C dX12_isSmallRule_33 ?_
      exact m_zret C dX12_isSmallRule_34 rfl (Or.inl rfl) (Nat.le_of_ble_eq_true rfl) (Nat.le_of_ble_eq_true rfl) ⟨0, rfl, fp0, hB, ⟨by omega, by unfold SMX; omega⟩⟩
section RRD3
variable {v v2 : Nat → Int} {a a1 a2 : Nat → Nat → Int} {l : List Int} {q x u f w : Int} {V A : List Nat} {d k r : Int}
theorem SMX.fr (h : SMX a1 w f) (hf : fr V A v a v2 a1) (c14 : A.contains 14 = false := by rfl) (c44 : A.contains 44 = false := by rfl) : SMX a w f := by
  unfold SMX at h ⊢
  rw [← hf.2 14 c14, ← hf.2 44 c44]
  exact h
end RRD3
section RRD4
variable {v v1 v2 v3 : Nat → Int} {a a1 a2 a3 : Nat → Nat → Int} {l0 l1 : List Int} {R : Nat → Int} {x y g f w f1 : Int}
end RRD4
end
section
def RR0 (xs : List Int) : Nat → Int := fun j => (xs[j]?).getD 0
section RRD5
variable {v v1 v2 v3 : Nat → Int} {a a1 a2 a3 : Nat → Nat → Int} {E : List (Option (List Int))} {l l0 l1 xs ys bs : List Int} {R : Nat → Int} {x y g f w q k i t n z r d h : Int}
theorem app_or {α : Type} {A B : List α} {j : Nat} {m : α} (e : (A ++ B)[j]? = some m) : (∃ i : Nat, A[i]? = some m) ∨ ∃ i : Nat, B[i]? = some m := by
  by_cases c : j < A.length
  · rw [List.getElem?_append_left c] at e
    exact Or.inl ⟨j, e⟩
  · rw [List.getElem?_append_right (by omega)] at e
    exact Or.inr ⟨_, e⟩
theorem gat_cg (h6 : a1 6 = a 6) (h8 : a1 8 = a 8) (h9 : a1 9 = a 9) (h10 : a1 10 = a 10) (h16 : a1 16 = a 16) : gat0 a1 t = gat0 a t ∧ gat1 a1 t = gat1 a t := by
  have i1 : ∀ I, indl a1 I = indl a I := fun I => by unfold indl; rw [h16]
  have r1 : ∀ t, rws1 a1 t = rws1 a t := fun t => by unfold rws1 RWL; rw [i1, i1, h10, h8]
  refine ⟨?_, ?_⟩
  · unfold gat0
    rw [h6, h8, r1, r1, i1]
  · unfold gat1
    rw [h6, h9, r1, i1]
end RRD5
set_option maxHeartbeats 4000000 in
set_option maxRecDepth 100000 in
theorem E_putRow {l : Launch} {G : GT} {h0 : Nat} {ad ln : Nat → Nat} {v : Nat → Int} {a : Nat → Nat → Int}  {x y : Int} (hB : BX v a) (hx : -2147483648 ≤ x ∧ x ≤ 2147483647) (hy : -2147483648 ≤ y ∧ y ≤ 2147483647) (h50 : v 50 < 40200) : Mm l G yX12_putRow cX12_putRow 3 none 0 [.int (iI x), .int (iI y)] h0 ad ln v a 0 0 (fun r v2 a2 => r = none ∧ fr [50] [48, 49] v a v2 a2 ∧ BX v2 a2 ∧ ((v2 50 = v 50 + 1) ∧ a2 48 = va_up (a 48) (v 50).toNat x)) := by
  refine Mm.mk (by decide) (Nat.le_of_ble_eq_true rfl) ?_
  intro p e s m args below meth c A C
  have fp0 : fr [50] [48, 49] v a v a := fr.refl
  refine m_aload_n (j := 0) C dX12_putRow_0 rfl ?_
  refine m_geta (k := 48) C dX12_putRow_1 w6_107 (by decide) rfl ?_
  refine m_aload_n (j := 0) C dX12_putRow_4 rfl ?_
  have rv1 : 0 ≤ v 50 ∧ v 50 ≤ 40200 := hB.1 50
  refine m_get (k := 50) C dX12_putRow_5 w6_109 (by decide) rfl ?_
  refine m_iload_n (j := 1) C dX12_putRow_8 rfl ?_
  refine m_ast (k := 48) C dX12_putRow_9 rfl rfl (by decide) (by omega) (by show _ < ((_ : Nat) : Int); simp only [mlen]; omega) (by decide) ?_
  refine hv2 (show BX v (up2 a 48 (v 50).toNat x) from hB.set (k := 48) (i := (v 50).toNat) (z := x) (show (-2147483648) ≤ x ∧ x ≤ 2147483647 by omega)) (fp0.set (k := 48) (i := (v 50).toNat) (z := x) rfl) (fun bq1 fq1 => ?_)
  refine m_aload_n (j := 0) C dX12_putRow_10 rfl ?_
  refine m_geta (k := 49) C dX12_putRow_11 w6_108 (by decide) rfl ?_
  refine m_aload_n (j := 0) C dX12_putRow_14 rfl ?_
  refine m_get (k := 50) C dX12_putRow_15 w6_109 (by decide) rfl ?_
  refine m_iload_n (j := 2) C dX12_putRow_18 rfl ?_
  refine m_ast (k := 49) C dX12_putRow_19 rfl rfl (by decide) (by omega) (by show _ < ((_ : Nat) : Int); simp only [mlen]; omega) (by decide) ?_
  refine hv2 (show BX v (up2 (up2 a 48 (v 50).toNat x) 49 (v 50).toNat y) from bq1.set (k := 49) (i := (v 50).toNat) (z := y) (show (-2147483648) ≤ y ∧ y ≤ 2147483647 by omega)) (fq1.set (k := 49) (i := (v 50).toNat) (z := y) rfl) (fun bq2 fq2 => ?_)
  refine m_aload_n (j := 0) C dX12_putRow_20 rfl ?_
  refine m_dup C dX12_putRow_21 rfl ?_
  refine m_get (k := 50) C dX12_putRow_22 w6_109 (by decide) rfl ?_
  refine m_iconst C dX12_putRow_25 ?_
  refine m_iadd C dX12_putRow_26 ?_
  refine m_put (k := 50) (z := (v 50) + 1) C dX12_putRow_27 w6_109 (by decide) rfl rfl rfl ?_
  refine hv2 (show BX (va_up v 50 ((v 50) + 1)) (up2 (up2 a 48 (v 50).toNat x) 49 (v 50).toNat y) from bq2.put (k := 50) (z := (v 50) + 1) (show 0 ≤ ((v 50) + 1) ∧ ((v 50) + 1) ≤ 40200 by omega)) (fq2.put (k := 50) (z := (v 50) + 1) rfl) (fun bq3 fq3 => ?_)
  exact m_vret C dX12_putRow_30 rfl (Nat.le_of_ble_eq_true rfl) (Nat.le_of_ble_eq_true rfl) ⟨rfl, fq3, bq3, ⟨rfl, rfl⟩⟩
end
section
def LKQ (F : Int32) (x y : Int) : Prop := (iI x ^^^ iI y) &&& F = iI 0
def fsn (f : Int) : Int32 := iI 255 &&& (iI f ^^^ iI (-1))
def MYR (a : Nat → Nat → Int) (C : Nat → Int) (F : Int32) (n d p h : Int) : Prop := ((1 ≤ rlen a d ∧ p + rlen a d ≤ n) ∧ (h = 1 → SMR a d)) ∧ ∀ k : Int, 0 ≤ k → k < rlen a d → LKQ F (dcl a d k) (C (p + k).toNat)
def MYB (C : Nat → Int) (F : Int32) (n p h : Int) : Prop := (h ≠ 1 ∧ p < n) ∧ LKQ F 0 (C p.toNat)
def MYO (a : Nat → Nat → Int) (C : Nat → Int) (F : Int32) (n p h : Int) : Option Int → Prop
  | none => MYB C F n p h
  | some d => MYR a C F n d p h
def onp (a : Nat → Nat → Int) (p : Int) : Option Int → Int
  | none => p + 1
  | some d => p + rlen a d
def ong (g : Int) : Option Int → Int
  | none => 0
  | some d => ngp d g
def onh : Option Int → Int
  | none => 0
  | some d => ngh d
def oou (a : Nat → Nat → Int) (h : Int) : Option Int → List Int
  | none => [32]
  | some d => rout a d h
def chs (l0 l1 : List Int) (g : Int) : List (Option Int) := none :: (if g = 0 then l0 else l1).map some
def pxs (w : List Int) (X : List (List Int)) : List (List Int) := X.map (fun u => w ++ u)
noncomputable def cif (P : Prop) (X : List (List Int)) : List (List Int) := @ite _ P (Classical.propDecidable P) X []
def fmp (f : Option Int → List (List Int)) : List (Option Int) → List (List Int)
  | [] => []
  | o :: l => f o ++ fmp f l
noncomputable def rdl (a : Nat → Nat → Int) (l0 l1 : List Int) (C : Nat → Int) (F : Int32) (n : Int) : Nat → Int → Int → Int → List (List Int)
  | 0, _, _, _ => []
  | m + 1, p, g, h => if p = n then (if h = 1 then [] else [[]]) else fmp (fun o => cif (MYO a C F n p h o) (pxs (oou a h o) (rdl a l0 l1 C F n m (onp a p o) (ong g o) (onh o)))) (chs l0 l1 g)
noncomputable def RDC (a : Nat → Nat → Int) (l0 l1 : List Int) (C : Nat → Int) (F : Int32) (n : Int) (p g h : Int) : List (List Int) := rdl a l0 l1 C F n ((n - p).toNat + 1) p g h
noncomputable def RCO (a : Nat → Nat → Int) (l0 l1 : List Int) (C : Nat → Int) (F : Int32) (n : Int) (p g h : Int) (o : Option Int) : List (List Int) := cif (MYO a C F n p h o) (pxs (oou a h o) (RDC a l0 l1 C F n (onp a p o) (ong g o) (onh o)))
def KMQ (W : Nat) (Z K : List (List Int)) (m : Int) : Prop := K = Z.take W ∧ ((m = 1 ∧ W < Z.length) ∨ (m = 0 ∧ Z.length ≤ W))
section GSEM
variable {a a1 : Nat → Nat → Int} {l0 l1 : List Int} {C : Nat → Int} {F : Int32} {n p g h d x y m1 m2 : Int} {f f2 : Option Int → List (List Int)} {l : List (Option Int)} {o : Option Int} {X Y Z K K2 : List (List Int)} {w u : List Int} {k W : Nat} {P : Prop}
theorem cif_t (hp : P) : cif P X = X := if_pos hp
theorem cif_f (hp : ¬ P) : cif P X = [] := if_neg hp
theorem fmp_cg : ∀ l : List (Option Int), (∀ o ∈ l, f o = f2 o) → fmp f l = fmp f2 l := by
  intro l
  induction l with
  | nil => intro _; rfl
  | cons o l ih =>
    intro hh
    show f o ++ fmp f l = f2 o ++ fmp f2 l
    rw [hh o (List.mem_cons_self ..), ih (fun q hq => hh q (List.mem_cons_of_mem _ hq))]
theorem fmp_nil : ∀ l : List (Option Int), (fmp f l = [] ↔ ∀ o ∈ l, f o = []) := by
  intro l
  induction l with
  | nil => exact ⟨fun _ o ho => absurd ho (List.not_mem_nil), fun _ => rfl⟩
  | cons o l ih =>
    show f o ++ fmp f l = [] ↔ _
    constructor
    · intro e q hq
      obtain ⟨e1, e2⟩ := List.append_eq_nil_iff.mp e
      rcases List.mem_cons.mp hq with c | c
      · rw [c]; exact e1
      · exact ih.mp e2 q c
    · intro hh
      rw [hh o (List.mem_cons_self ..), ih.mpr (fun q hq => hh q (List.mem_cons_of_mem _ hq))]
      rfl
theorem fmp_dr : ∀ (l : List (Option Int)) (k : Nat), l[k]? = some o → fmp f (l.drop k) = f o ++ fmp f (l.drop (k + 1)) := by
  intro l
  induction l with
  | nil => intro k e; simp at e
  | cons q l ih =>
    intro k e
    cases k with
    | zero =>
      have e2 : some q = some o := e
      cases e2
      rfl
    | succ k => exact ih k e
theorem fmp_tk : ∀ (l : List (Option Int)) (k : Nat), l[k]? = some o → fmp f (l.take (k + 1)) = fmp f (l.take k) ++ f o := by
  intro l
  induction l with
  | nil => intro k e; simp at e
  | cons q l ih =>
    intro k e
    cases k with
    | zero =>
      have e2 : some q = some o := e
      cases e2
      show f _ ++ [] = [] ++ f _
      rw [List.append_nil, List.nil_append]
    | succ k =>
      show f q ++ fmp f (l.take (k + 1)) = (f q ++ fmp f (l.take k)) ++ f o
      rw [ih k e, List.append_assoc]
theorem pxs_nil : pxs [] X = X := by
  unfold pxs
  rw [show (fun u : List Int => [] ++ u) = id from rfl, List.map_id]
theorem pxs_app : pxs w (X ++ Y) = pxs w X ++ pxs w Y := List.map_append
theorem pxs_pxs : pxs w (pxs u X) = pxs (w ++ u) X := by
  unfold pxs
  rw [List.map_map]
  congr 1
  funext q
  show w ++ (u ++ q) = w ++ u ++ q
  rw [List.append_assoc]
theorem pxs_e : pxs w X = [] ↔ X = [] := List.map_eq_nil_iff
theorem MYO.lt (hm : MYO a C F n p h o) : p < onp a p o ∧ onp a p o ≤ n := by
  cases o with
  | none =>
    have e : MYB C F n p h := hm
    show p < p + 1 ∧ p + 1 ≤ n
    have := e.1.2
    omega
  | some d =>
    have e : MYR a C F n d p h := hm
    show p < p + rlen a d ∧ p + rlen a d ≤ n
    have := e.1.1
    omega
theorem rdl_s : rdl a l0 l1 C F n (k + 1) p g h = if p = n then (if h = 1 then [] else [[]]) else fmp (fun o => cif (MYO a C F n p h o) (pxs (oou a h o) (rdl a l0 l1 C F n k (onp a p o) (ong g o) (onh o)))) (chs l0 l1 g) := rfl
theorem rdl_fu : ∀ (i j : Nat) (p g h : Int), (n - p).toNat < i → (n - p).toNat < j → rdl a l0 l1 C F n i p g h = rdl a l0 l1 C F n j p g h := by
  intro i
  induction i with
  | zero => intro j p g h h1; omega
  | succ i ih =>
    intro j p g h h1 h2
    cases j with
    | zero => omega
    | succ j =>
      rw [rdl_s, rdl_s]
      by_cases c : p = n
      · rw [if_pos c, if_pos c]
      · rw [if_neg c, if_neg c]
        refine fmp_cg _ (fun o _ => ?_)
        by_cases m : MYO a C F n p h o
        · have e := m.lt
          rw [cif_t m, cif_t m, ih j _ _ _ (by omega) (by omega)]
        · rw [cif_f m, cif_f m]
theorem RDC_end (hp : p = n) : RDC a l0 l1 C F n p g h = if h = 1 then [] else [[]] := by
  unfold RDC
  rw [rdl_s, if_pos hp]
theorem RDC_go (hp : p ≠ n) : RDC a l0 l1 C F n p g h = fmp (RCO a l0 l1 C F n p g h) (chs l0 l1 g) := by
  unfold RDC
  rw [rdl_s, if_neg hp]
  refine fmp_cg _ (fun o _ => ?_)
  unfold RCO RDC
  by_cases m : MYO a C F n p h o
  · have e := m.lt
    rw [cif_t m, cif_t m, rdl_fu _ ((n - onp a p o).toNat + 1) _ _ _ (by omega) (by omega)]
  · rw [cif_f m, cif_f m]
theorem RCO_yes (hm : MYO a C F n p h o) : RCO a l0 l1 C F n p g h o = pxs (oou a h o) (RDC a l0 l1 C F n (onp a p o) (ong g o) (onh o)) := cif_t hm
theorem RCO_e : RCO a l0 l1 C F n p g h o = [] ↔ ¬ (MYO a C F n p h o ∧ RDC a l0 l1 C F n (onp a p o) (ong g o) (onh o) ≠ []) := by
  by_cases m : MYO a C F n p h o
  · rw [RCO_yes m, pxs_e]
    exact ⟨fun e q => q.2 e, fun e => Classical.byContradiction (fun q => e ⟨m, q⟩)⟩
  · unfold RCO
    rw [cif_f m]
    exact ⟨fun _ q => m q.1, fun _ => rfl⟩
theorem RDC_nz (hp : p ≠ n) (ho : o ∈ chs l0 l1 g) (hn : RCO a l0 l1 C F n p g h o ≠ []) : RDC a l0 l1 C F n p g h ≠ [] := fun e => by
  rw [RDC_go hp] at e
  exact hn ((fmp_nil _).mp e o ho)
theorem RDC_z (hp : p ≠ n) (hn : ∀ (k : Nat) (o : Option Int), (chs l0 l1 g)[k]? = some o → RCO a l0 l1 C F n p g h o = []) : RDC a l0 l1 C F n p g h = [] := by
  rw [RDC_go hp, fmp_nil]
  intro o ho
  obtain ⟨k, e⟩ := List.getElem?_of_mem ho
  exact hn k o e
theorem RDC_h (hn : RDC a l0 l1 C F n p g h ≠ []) : p = n → h ≠ 1 := fun e q => by
  rw [RDC_end e, if_pos q] at hn
  exact hn rfl
theorem chs_len : (chs l0 l1 g).length = (if g = 0 then l0 else l1).length + 1 := by
  show ((if g = 0 then l0 else l1).map some).length + 1 = _
  rw [List.length_map]
theorem chs_at (e : (if g = 0 then l0 else l1)[k]? = some d) : (chs l0 l1 g)[k + 1]? = some (some d) := by
  show ((if g = 0 then l0 else l1).map some)[k]? = _
  rw [List.getElem?_map, e]
  rfl
theorem KMQ.init : KMQ W [] [] 0 := ⟨by rw [List.take_nil], Or.inr ⟨rfl, Nat.zero_le _⟩⟩
theorem KMQ.more (hk : KMQ W Z K x) (hx : x = 1) : KMQ W (Z ++ Y) K x := by
  obtain ⟨e, q⟩ := hk
  rcases q with ⟨q1, q2⟩ | ⟨q1, q2⟩
  · exact ⟨by rw [List.take_append_of_le_length (by omega)]; exact e, Or.inl ⟨q1, by rw [List.length_append]; omega⟩⟩
  · omega
theorem KMQ.len (hk : KMQ W Z K x) (hx : x ≠ 1) : K = Z ∧ K.length ≤ W := by
  obtain ⟨e, q⟩ := hk
  rcases q with ⟨q1, q2⟩ | ⟨q1, q2⟩
  · exact absurd q1 hx
  · have e2 : K = Z := by rw [e, List.take_of_length_le q2]
    exact ⟨e2, by rw [e2]; exact q2⟩
theorem KMQ.push (hk : KMQ W Z K x) (hx : x ≠ 1) (hl : K.length < W) : KMQ W (Z ++ [w]) (K ++ [w]) 0 := by
  obtain ⟨e, _⟩ := hk.len hx
  subst e
  have q : (K ++ [w]).length ≤ W := by
    rw [List.length_append]
    show K.length + 1 ≤ W
    omega
  exact ⟨by rw [List.take_of_length_le q], Or.inr ⟨rfl, q⟩⟩
theorem KMQ.full (hk : KMQ W Z K x) (hx : x ≠ 1) (hl : K.length = W) : KMQ W (Z ++ [w]) K 1 := by
  obtain ⟨e, _⟩ := hk.len hx
  subst e
  refine ⟨by rw [List.take_append_of_le_length (by omega), List.take_of_length_le (by omega)], Or.inl ⟨rfl, ?_⟩⟩
  rw [List.length_append]
  show W < K.length + 1
  omega
theorem KMQ.uni (h1 : KMQ W Z K m1) (h2 : KMQ W Z K2 m2) : K = K2 ∧ m1 = m2 := by
  refine ⟨h1.1.trans h2.1.symm, ?_⟩
  rcases h1.2 with ⟨q1, q2⟩ | ⟨q1, q2⟩ <;> rcases h2.2 with ⟨q3, q4⟩ | ⟨q3, q4⟩ <;> omega
end GSEM
end
section
def LKX (v : Nat → Int) (x y f : Int) : Prop := f = 1 ↔ LKQ (fsn (v 56)) x y
def NXQ (z q f : Int) : Prop := (z = -3 ∧ f = 1) ∨ (z = -4 ∧ f = 0) ∨ ((z ≠ -3 ∧ z ≠ -4) ∧ f = q)
def CPQ (z c : Int) : Prop := (z = -1 ∧ c = 1) ∨ (z ≠ -1 ∧ c = 0)
def LKJ (v : Nat → Int) (a : Nat → Nat → Int) (w x k : Int) : Prop := ∀ j : Int, 0 ≤ j → j < k → LKQ (fsn (v 56)) (rcl a w j) (a 48 (x + j).toNat)
def MYX (v : Nat → Int) (a : Nat → Nat → Int) (w x pt g f : Int) : Prop := ∀ nx cp, NXQ (a 44 w.toNat) pt nx → CPQ (a 44 w.toNat) cp → (f = 1 ↔ ((x + a 46 w.toNat ≤ v 50 ∧ (g = 1 → (0 ≤ a 44 w.toNat ∧ 97 ≤ a 14 (8 * a 44 w.toNat).toNat ∧ a 14 (8 * a 44 w.toNat).toNat ≤ 122))) ∧ LKJ v a w x (a 46 w.toNat)) ∧ a 57 (4 * (x + a 46 w.toNat) + 2 * nx + cp).toNat ≠ 0)
def MBY (v : Nat → Int) (a : Nat → Nat → Int) (x g f : Int) : Prop := f = 1 ↔ (g ≠ 1 ∧ LKQ (fsn (v 56)) 0 (a 48 x.toNat)) ∧ a 57 (4 * (x + 1)).toNat ≠ 0
def GCX (a0 : Nat → Nat → Int) (v : Nat → Int) (a : Nat → Nat → Int) (l0 l1 : List Int) (C : Nat → Int) : Prop := (HLD a0 a 0 l0 ∧ HLD a0 a 1 l1) ∧ (NZL a0 l0 ∧ NZL a0 l1) ∧ (a 12 = a0 12 ∧ a 14 = a0 14 ∧ a 15 = a0 15 ∧ a 17 = a0 17) ∧ ∀ j : Int, 0 ≤ j → j < v 50 → a 48 j.toNat = C j.toNat
def CNP (a0 : Nat → Nat → Int) (v : Nat → Int) (a : Nat → Nat → Int) (l0 l1 : List Int) (C : Nat → Int) (x : Int) : Prop := ∀ p g h : Int, x < p → p ≤ v 50 → (g = 0 ∨ g = 1) → (h = 0 ∨ h = 1) → (a 57 (4 * p + 2 * g + h).toNat ≠ 0 ↔ RDC a0 l0 l1 C (fsn (v 56)) (v 50) p g h ≠ [])
def CNS (a0 : Nat → Nat → Int) (v : Nat → Int) (a : Nat → Nat → Int) (l0 l1 : List Int) (C : Nat → Int) (x y : Int) : Prop := ∀ g h : Int, (g = 0 ∨ g = 1) → (h = 0 ∨ h = 1) → 2 * g + h < y → (a 57 (4 * x + 2 * g + h).toNat ≠ 0 ↔ RDC a0 l0 l1 C (fsn (v 56)) (v 50) x g h ≠ [])
def FC5 (v : Nat → Int) (a : Nat → Nat → Int) (x : Int) : Prop := ∀ a0 l0 l1 C, GCX a0 v a l0 l1 C → CNP a0 v a l0 l1 C x
def FC11 (v : Nat → Int) (a : Nat → Nat → Int) (x y : Int) : Prop := ∀ a0 l0 l1 C, GCX a0 v a l0 l1 C → CNP a0 v a l0 l1 C x ∧ CNS a0 v a l0 l1 C x y
def FB70 (v : Nat → Int) (a : Nat → Nat → Int) (x h f : Int) : Prop := ∀ a0 l0 l1 C, GCX a0 v a l0 l1 C → CNP a0 v a l0 l1 C x → (f = 1 ↔ (x = v 50 ∧ h ≠ 1) ∨ (x < v 50 ∧ MYB C (fsn (v 56)) (v 50) x h ∧ RDC a0 l0 l1 C (fsn (v 56)) (v 50) (x + 1) 0 0 ≠ []))
def FR79 (v : Nat → Int) (a : Nat → Nat → Int) (x pt h f w : Int) : Prop := ∀ a0 l0 l1 C, GCX a0 v a l0 l1 C → CNP a0 v a l0 l1 C x → (f = 1 → RDC a0 l0 l1 C (fsn (v 56)) (v 50) x pt h ≠ []) ∧ (f ≠ 1 → x = v 50 → RDC a0 l0 l1 C (fsn (v 56)) (v 50) x pt h = []) ∧ (f ≠ 1 → x ≠ v 50 → ∀ (i : Nat) (o : Option Int), ((i : Nat) : Int) < w - 6008 * pt + 1 → (chs l0 l1 pt)[i]? = some o → RCO a0 l0 l1 C (fsn (v 56)) (v 50) x pt h o = [])
section GCAN
variable {v v1 v2 : Nat → Int} {a a0 a1 a2 : Nat → Nat → Int} {l0 l1 : List Int} {C : Nat → Int} {w x y k g h f pt d z nx cp z1 z2 z3 z4 : Int} {V A : List Nat}
theorem and_as (p q s : Int32) : p &&& q &&& s = p &&& (q &&& s) := by
  apply Int32.toBitVec_inj.mp
  rw [Int32.toBitVec_and, Int32.toBitVec_and, Int32.toBitVec_and, Int32.toBitVec_and, BitVec.and_assoc]
theorem LKX.mk (e1 : iI x ^^^ iI y = iI z1) (e2 : iI z1 &&& iI 255 = iI z2) (e3 : iI (v 56) ^^^ iI (-1) = iI z3) (e4 : iI z2 &&& iI z3 = iI z4) (hz : R32 z4) (hf : (z4 = 0 ∧ f = 1) ∨ (z4 ≠ 0 ∧ f = 0)) : LKX v x y f := by
  have e : (iI x ^^^ iI y) &&& fsn (v 56) = iI z4 := by
    unfold fsn
    rw [e1, e3, ← and_as, e2, e4]
  unfold LKX LKQ
  rw [e, iI_eq hz ⟨by decide, by decide⟩]
  omega
theorem LKJ.zero : LKJ v a w x 0 := fun j h1 h2 => absurd h1 (by omega)
theorem LKJ.step (hk : LKJ v a w x k) (e : LKQ (fsn (v 56)) (rcl a w k) (a 48 (x + k).toNat)) : LKJ v a w x (k + 1) := fun j h1 h2 => by
  by_cases c : j < k
  · exact hk j h1 c
  · rw [show j = k by omega]
    exact e
theorem MYX.no1 (hn : v 50 < x + a 46 w.toNat ∨ (g = 1 ∧ ¬ (0 ≤ a 44 w.toNat ∧ 97 ≤ a 14 (8 * a 44 w.toNat).toNat ∧ a 14 (8 * a 44 w.toNat).toNat ≤ 122))) (hf : f = 0) : MYX v a w x pt g f := fun nx cp _ _ => ⟨fun e => by omega, fun e => by
  rcases hn with q | ⟨q1, q2⟩
  · have := e.1.1.1
    omega
  · exact absurd (e.1.1.2 q1) q2⟩
theorem MYX.no2 (hk : 0 ≤ k ∧ k < a 46 w.toNat) (hn : ¬ LKQ (fsn (v 56)) (rcl a w k) (a 48 (x + k).toNat)) (hf : f = 0) : MYX v a w x pt g f := fun nx cp _ _ => ⟨fun e => by omega, fun e => absurd (e.1.2 k hk.1 hk.2) hn⟩
theorem MYX.yes (hk : LKJ v a w x k) (hk2 : k = a 46 w.toNat) (h1 : x + a 46 w.toNat ≤ v 50) (h2 : g = 1 → (0 ≤ a 44 w.toNat ∧ 97 ≤ a 14 (8 * a 44 w.toNat).toNat ∧ a 14 (8 * a 44 w.toNat).toNat ≤ 122)) (hn : NXQ (a 44 w.toNat) pt nx) (hc : CPQ (a 44 w.toNat) cp) (hz : z = 4 * (x + a 46 w.toNat) + 2 * nx + cp) (hf : f = a 57 z.toNat) (h01 : f = 0 ∨ f = 1) : MYX v a w x pt g f := fun nx2 cp2 q1 q2 => by
  have e1 : nx2 = nx := by
    unfold NXQ at hn q1
    omega
  have e2 : cp2 = cp := by
    unfold CPQ at hc q2
    omega
  rw [e1, e2, ← hz, ← hf]
  subst hk2
  exact ⟨fun e => ⟨⟨⟨h1, h2⟩, hk⟩, by omega⟩, fun e => by
    have := e.2
    omega⟩
theorem GCX.cg (hc : GCX a0 v a l0 l1 C) (h50 : v1 50 = v 50) (h44 : a1 44 = a 44) (h45 : a1 45 = a 45) (h46 : a1 46 = a 46) (h47 : a1 47 = a 47) (h12 : a1 12 = a 12) (h14 : a1 14 = a 14) (h15 : a1 15 = a 15) (h17 : a1 17 = a 17) (h48 : a1 48 = a 48) : GCX a0 v1 a1 l0 l1 C := by
  obtain ⟨⟨c1, c2⟩, c3, ⟨c4, c5, c6, c7⟩, c8⟩ := hc
  refine ⟨⟨c1.fr h44 h45 h46 (by rw [h47]), c2.fr h44 h45 h46 (by rw [h47])⟩, c3, ⟨h12.trans c4, h14.trans c5, h15.trans c6, h17.trans c7⟩, fun j j1 j2 => ?_⟩
  rw [h48]
  exact c8 j j1 (by omega)
theorem GCX.back (hc : GCX a0 v1 a1 l0 l1 C) (hf : fr V A v a v1 a1) (hV : V.contains 50 = false) (hA : ([12, 14, 15, 17, 44, 45, 46, 47, 48] : List Nat).all (fun k => !A.contains k) = true) : GCX a0 v a l0 l1 C := by
  have ka : ∀ j, ([12, 14, 15, 17, 44, 45, 46, 47, 48] : List Nat).contains j = true → a j = a1 j := fun j hj => (hf.2 j (by
    have w := List.all_eq_true.mp hA j (List.contains_iff_mem.mp hj)
    simpa using w)).symm
  exact hc.cg (hf.1 50 hV).symm (ka 44 rfl) (ka 45 rfl) (ka 46 rfl) (ka 47 rfl) (ka 12 rfl) (ka 14 rfl) (ka 15 rfl) (ka 17 rfl) (ka 48 rfl)
theorem CNP.cg (hc : CNP a0 v a l0 l1 C x) (h50 : v1 50 = v 50) (h56 : v1 56 = v 56) (h57 : a1 57 = a 57) : CNP a0 v1 a1 l0 l1 C x := fun p g h q1 q2 q3 q4 => by
  rw [h50, h56, h57]
  exact hc p g h q1 (by omega) q3 q4
theorem ngp_r (hp : pt = 0 ∨ pt = 1) : ngp d pt = 0 ∨ ngp d pt = 1 := by
  unfold ngp
  split
  · omega
  · split <;> omega
theorem ngh_r : ngh d = 0 ∨ ngh d = 1 := by
  unfold ngh
  split <;> omega
theorem MYX.sem (hm : MYX v a w x pt g f) (hc : GCX a0 v a l0 l1 C) (hn : CNP a0 v a l0 l1 C x) (hp : pt = 0 ∨ pt = 1) (hr : 6008 * pt ≤ w ∧ w < 6008 * pt + a 47 pt.toNat) (hx : 0 ≤ x) : ∃ d, (if pt = 0 then l0 else l1)[(w - 6008 * pt).toNat]? = some d ∧ rent a0 a w d ∧ (f = 1 ↔ MYR a0 C (fsn (v 56)) (v 50) d x g ∧ RDC a0 l0 l1 C (fsn (v 56)) (v 50) (x + rlen a0 d) (ngp d pt) (ngh d) ≠ []) := by
  obtain ⟨⟨c1, c2⟩, ⟨c3, c3'⟩, ⟨c4, c5, c6, c7⟩, c8⟩ := hc
  have hl : HLD a0 a pt (if pt = 0 then l0 else l1) ∧ NZL a0 (if pt = 0 then l0 else l1) := by
    rcases hp with e | e
    · subst e
      rw [if_pos rfl]
      exact ⟨c1, c3⟩
    · subst e
      rw [if_neg (by decide)]
      exact ⟨c2, c3'⟩
  obtain ⟨d, d1, d2⟩ := hl.1.tt (by omega) hr.1 hr.2
  refine ⟨d, d1, d2, ?_⟩
  obtain ⟨e46, ercl⟩ := d2.rc1 c6 c7
  refine hv2 ((hl.2 _ _ d1).1) (d2.r44) (fun nz r44 => ?_)
  have q1 : NXQ (a 44 w.toNat) pt (ngp d pt) := by
    unfold NXQ ngp
    split
    · omega
    · split <;> omega
  have q2 : CPQ (a 44 w.toNat) (ngh d) := by
    unfold CPQ ngh
    split <;> omega
  have sm : (0 ≤ a 44 w.toNat ∧ 97 ≤ a 14 (8 * a 44 w.toNat).toNat ∧ a 14 (8 * a 44 w.toNat).toNat ≤ 122) ↔ SMR a0 d := by
    rcases r44 with ⟨p1, p2, _⟩ | ⟨p1, p2, p3, _⟩
    · rw [p2, c5]
      exact Iff.rfl
    · exact ⟨fun e => by omega, fun e => absurd e.1 (by omega)⟩
  rw [hm _ _ q1 q2, e46]
  constructor
  · intro e
    obtain ⟨⟨⟨p1, p2⟩, p3⟩, p4⟩ := e
    refine ⟨⟨⟨⟨nz.1, p1⟩, fun e => sm.mp (p2 e)⟩, fun k k1 k2 => ?_⟩, (hn _ _ _ (by omega) p1 (ngp_r hp) ngh_r).mp p4⟩
    have u := p3 k k1 k2
    rw [ercl, c8 (x + k) (by omega) (by omega)] at u
    exact u
  · intro e
    obtain ⟨⟨⟨⟨_, p1⟩, p2⟩, p3⟩, p4⟩ := e
    refine ⟨⟨⟨p1, fun e => sm.mpr (p2 e)⟩, fun k k1 k2 => ?_⟩, (hn _ _ _ (by omega) p1 (ngp_r hp) ngh_r).mpr p4⟩
    have u := p3 k k1 k2
    rw [ercl, c8 (x + k) (by omega) (by omega)]
    exact u
theorem MBY.sem (hm : MBY v a x g f) (hc : GCX a0 v a l0 l1 C) (hn : CNP a0 v a l0 l1 C x) (hx : 0 ≤ x ∧ x < v 50) : f = 1 ↔ MYB C (fsn (v 56)) (v 50) x g ∧ RDC a0 l0 l1 C (fsn (v 56)) (v 50) (x + 1) 0 0 ≠ [] := by
  have e := hn (x + 1) 0 0 (by omega) (by omega) (Or.inl rfl) (Or.inl rfl)
  rw [show 4 * (x + 1) + 2 * 0 + 0 = 4 * (x + 1) by omega] at e
  unfold MBY at hm
  rw [hm, hc.2.2.2 x hx.1 hx.2, e]
  exact ⟨fun q => ⟨⟨⟨q.1.1, hx.2⟩, q.1.2⟩, q.2⟩, fun q => ⟨⟨q.1.1.1, q.1.2⟩, q.2⟩⟩
theorem FC5.init (hx : v 50 ≤ x) : FC5 v a x := fun a0 l0 l1 C _ p g h q1 q2 => by omega
theorem FC5.row (hi : FC5 v a x) : FC11 v a x 0 := fun a0 l0 l1 C hc => ⟨hi a0 l0 l1 C hc, fun g h q1 q2 q3 => by omega⟩
theorem FC11.up (hi : FC11 v a x y) (hy : 4 ≤ y) (hz : z = x - 1) : FC5 v a z := fun a0 l0 l1 C hc p g h q1 q2 q3 q4 => by
  obtain ⟨c1, c2⟩ := hi a0 l0 l1 C hc
  by_cases c : x < p
  · exact c1 p g h c q2 q3 q4
  · rw [show p = x by omega]
    exact c2 g h q3 q4 (by omega)
theorem FB70.end1 (hx : x = v 50) (hh : h ≠ 1) (hf : f = 1) : FB70 v a x h f := fun a0 l0 l1 C _ _ => ⟨fun _ => Or.inl ⟨hx, hh⟩, fun _ => hf⟩
theorem FB70.end0 (hx : x = v 50) (hh : h = 1) (hf : f = 0) : FB70 v a x h f := fun a0 l0 l1 C _ _ => ⟨fun e => by omega, fun e => by
  rcases e with ⟨_, e⟩ | ⟨e, _⟩
  · exact absurd hh e
  · omega⟩
theorem FB70.bl (hm : MBY v a x h z) (hx : 0 ≤ x ∧ x < v 50) (hf : (z = 1 ∧ f = 1) ∨ (z = 0 ∧ f = 0)) : FB70 v a x h f := fun a0 l0 l1 C hc hn => by
  have e := hm.sem hc hn hx
  have e2 : f = 1 ↔ z = 1 := by omega
  rw [e2, e]
  exact ⟨fun q => Or.inr ⟨hx.2, q⟩, fun q => by
    rcases q with ⟨q, _⟩ | ⟨_, q⟩
    · omega
    · exact q⟩
theorem FB70.go (hb : FB70 v a x h f) (hw : w = 6008 * pt) (hf : f = 0 ∨ f = 1) : FR79 v a x pt h f w := fun a0 l0 l1 C hc hn => by
  refine hv2 (hb a0 l0 l1 C hc hn) (show (chs l0 l1 pt)[0]? = some none from rfl) (fun e cz => ?_)
  have bq : x < v 50 → (MYB C (fsn (v 56)) (v 50) x h ∧ RDC a0 l0 l1 C (fsn (v 56)) (v 50) (x + 1) 0 0 ≠ [] ↔ RCO a0 l0 l1 C (fsn (v 56)) (v 50) x pt h none ≠ []) := fun _ => by
    have t := RCO_e (a := a0) (l0 := l0) (l1 := l1) (C := C) (F := fsn (v 56)) (n := v 50) (p := x) (g := pt) (h := h) (o := none)
    exact ⟨fun q1 q2 => t.mp q2 q1, fun q1 => Classical.byContradiction (fun q2 => q1 (t.mpr q2))⟩
  refine ⟨fun e1 => ?_, fun e1 e2 => ?_, fun e1 e2 i o hi ho => ?_⟩
  · rcases e.mp e1 with ⟨q1, q2⟩ | ⟨q1, q2⟩
    · rw [RDC_end q1, if_neg q2]
      exact fun q => by cases q
    · exact RDC_nz (by omega) (List.mem_of_getElem? cz) ((bq q1).mp q2)
  · rw [RDC_end e2]
    by_cases c : h = 1
    · rw [if_pos c]
    · exact absurd (e.mpr (Or.inl ⟨e2, c⟩)) e1
  · rw [show i = 0 by omega, cz] at ho
    cases ho
    refine Classical.byContradiction (fun q => ?_)
    by_cases c : x < v 50
    · exact e1 (e.mpr (Or.inr ⟨c, (bq c).mpr q⟩))
    · have t := RCO_e (a := a0) (l0 := l0) (l1 := l1) (C := C) (F := fsn (v 56)) (n := v 50) (p := x) (g := pt) (h := h) (o := none)
      refine q (t.mpr (fun u => ?_))
      have u1 : MYB C (fsn (v 56)) (v 50) x h := u.1
      exact c u1.1.2
theorem FR79.step (hr : FR79 v a x pt h f w) (hm : MYX v a w x pt h z) (hf : f = 0) (hp : pt = 0 ∨ pt = 1) (hw : 6008 * pt ≤ w ∧ w < 6008 * pt + a 47 pt.toNat) (hx : 0 ≤ x ∧ x < v 50) (hz : z = 0 ∨ z = 1) : FR79 v a x pt h z (w + 1) := fun a0 l0 l1 C hc hn => by
  obtain ⟨_, _, r3⟩ := hr a0 l0 l1 C hc hn
  obtain ⟨d, d1, d2, d3⟩ := hm.sem hc hn hp hw hx.1
  refine hv2 (chs_at d1) (RCO_e (a := a0) (l0 := l0) (l1 := l1) (C := C) (F := fsn (v 56)) (n := v 50) (p := x) (g := pt) (h := h) (o := some d)) (fun ca t => ?_)
  refine ⟨fun e1 => RDC_nz (by omega) (List.mem_of_getElem? ca) (fun q => t.mp q (d3.mp e1)), fun e1 e2 => by omega, fun e1 e2 i o hi ho => ?_⟩
  by_cases c : ((i : Nat) : Int) < w - 6008 * pt + 1
  · exact r3 (by omega) e2 i o c ho
  · rw [show i = (w - 6008 * pt).toNat + 1 by omega, ca] at ho
    cases ho
    exact t.mpr (fun u => e1 (d3.mpr u))
theorem FR79.fin (hr : FR79 v a x pt h f w) (hf : f = 0 ∨ f = 1) (hw : f ≠ 0 ∨ v 50 ≤ x ∨ w = 6008 * pt + a 47 pt.toNat) (hp : pt = 0 ∨ pt = 1) (hx : x ≤ v 50) (hc : GCX a0 v a l0 l1 C) (hn : CNP a0 v a l0 l1 C x) : f ≠ 0 ↔ RDC a0 l0 l1 C (fsn (v 56)) (v 50) x pt h ≠ [] := by
  obtain ⟨r1, r2, r3⟩ := hr a0 l0 l1 C hc hn
  by_cases c : f = 1
  · exact ⟨fun _ => r1 c, fun _ => by omega⟩
  · refine ⟨fun e => by omega, fun e => absurd ?_ e⟩
    by_cases c2 : x = v 50
    · exact r2 c c2
    · refine RDC_z c2 (fun i o ho => r3 c c2 i o ?_ ho)
      have lt := gl3 ho
      rw [chs_len] at lt
      have el : a 47 pt.toNat = (((if pt = 0 then l0 else l1).length : Nat) : Int) := by
        rcases hp with e | e
        · subst e
          exact hc.1.1.1
        · subst e
          exact hc.1.2.1
      omega
theorem FC11.put (hi : FC11 v a x y) (hr : FR79 v a x pt h f w) (hf : f = 0 ∨ f = 1) (hw : f ≠ 0 ∨ v 50 ≤ x ∨ w = 6008 * pt + a 47 pt.toNat) (hp : pt = 0 ∨ pt = 1) (hh : h = 0 ∨ h = 1) (hy : y = 2 * pt + h) (hx : 0 ≤ x ∧ x ≤ v 50) (h50 : v1 50 = v 50) (h56 : v1 56 = v 56) (e57 : a1 57 = va_up (a 57) z.toNat f) (hz : z = 4 * x + y) (h44 : a1 44 = a 44) (h45 : a1 45 = a 45) (h46 : a1 46 = a 46) (h47 : a1 47 = a 47) (h12 : a1 12 = a 12) (h14 : a1 14 = a 14) (h15 : a1 15 = a 15) (h17 : a1 17 = a 17) (h48 : a1 48 = a 48) : FC11 v1 a1 x (y + 1) := fun a0 l0 l1 C hc => by
  have hc0 := hc.cg h50.symm h44.symm h45.symm h46.symm h47.symm h12.symm h14.symm h15.symm h17.symm h48.symm
  obtain ⟨c1, c2⟩ := hi a0 l0 l1 C hc0
  refine ⟨fun p g h q1 q2 q3 q4 => ?_, fun g2 h2 q1 q2 q3 => ?_⟩
  · rw [e57, va_up_ne _ _ (by omega), h50, h56]
    exact c1 p g h q1 (by omega) q3 q4
  · rw [e57, h50, h56]
    by_cases c : 2 * g2 + h2 < y
    · rw [va_up_ne _ _ (by omega)]
      exact c2 g2 h2 q1 q2 c
    · rw [show (4 * x + 2 * g2 + h2).toNat = z.toNat by omega, va_up_self, show g2 = pt by omega, show h2 = h by omega]
      exact hr.fin hf hw hp hx.2 hc0 c1
end GCAN
section GCA2
variable {v : Nat → Int} {a : Nat → Nat → Int} {x g f z s : Int}
theorem MBY.no1 (hg : g = 1) (hf : f = 0) : MBY v a x g f := ⟨fun e => by omega, fun e => absurd hg e.1.1⟩
theorem MBY.no2 (hl : LKX v 0 (a 48 x.toNat) z) (hz : z = 0) (hf : f = 0) : MBY v a x g f := ⟨fun e => by omega, fun e => by
  have := hl.mpr e.1.2
  omega⟩
theorem MBY.mk2 (hl : LKX v 0 (a 48 x.toNat) z) (hz : z = 1) (hg : g ≠ 1) (hs : s = 4 * (x + 1)) (hf : (a 57 s.toNat ≠ 0 ∧ f = 1) ∨ (a 57 s.toNat = 0 ∧ f = 0)) : MBY v a x g f := by
  subst hs
  exact ⟨fun e => ⟨⟨hg, hl.mp hz⟩, by omega⟩, fun e => by
    have := e.2
    omega⟩
end GCA2
set_option maxHeartbeats 4000000 in
set_option maxRecDepth 100000 in
theorem E_looksLike {l : Launch} {G : GT} {h0 : Nat} {ad ln : Nat → Nat} {v : Nat → Int} {a : Nat → Nat → Int}  {x y : Int} (hB : BX v a) (hx : -2147483648 ≤ x ∧ x ≤ 2147483647) (hy : -2147483648 ≤ y ∧ y ≤ 2147483647) : Mm l G yX12_looksLike cX12_looksLike 3 (some .boolean) 0 [.int (iI x), .int (iI y)] h0 ad ln v a 0 0 (fun r v2 a2 => ∃ f : Int, r = some (.int (iI f)) ∧ fr [] [] v a v2 a2 ∧ BX v2 a2 ∧ ((f = 0 ∨ f = 1) ∧ LKX v x y f)) := by
  refine Mm.mk (by decide) (Nat.le_of_ble_eq_true rfl) ?_
  intro p e s m args below meth c A C
  have fp0 : fr [] [] v a v a := fr.refl
  refine m_iload_n (j := 1) C dX12_looksLike_0 rfl ?_
  refine m_iload_n (j := 2) C dX12_looksLike_1 rfl ?_
  obtain ⟨zz1, hzz1, ezz1⟩ := iI_of (iI x ^^^ iI y)
  refine m_ixor (w := iI zz1) C dX12_looksLike_2 ezz1 ?_
  refine m_sipush (z := 255) C dX12_looksLike_3 (by decide) ?_
  obtain ⟨zz2, hzz2, ezz2⟩ := iI_of (iI zz1 &&& iI 255)
  refine m_iand (w := iI zz2) C dX12_looksLike_6 ezz2 ?_
  refine m_aload_n (j := 0) C dX12_looksLike_7 rfl ?_
  have rv1 : (-2147483648) ≤ v 56 ∧ v 56 ≤ 2147483647 := hB.1 56
  refine m_get (k := 56) C dX12_looksLike_8 w6_115 (by decide) rfl ?_
  refine m_iconst C dX12_looksLike_11 ?_
  obtain ⟨zz3, hzz3, ezz3⟩ := iI_of (iI (v 56) ^^^ iI (-1))
  refine m_ixor (w := iI zz3) C dX12_looksLike_12 ezz3 ?_
  obtain ⟨zz4, hzz4, ezz4⟩ := iI_of (iI zz2 &&& iI zz3)
  refine m_iand (w := iI zz4) C dX12_looksLike_13 ezz4 ?_
  refine m_if_ne (tgt := 21) C ⟨by omega, by omega⟩ dX12_looksLike_14 (by decide) (fun c1 => ?_) (fun c1 => ?_)
  · refine m_iconst C dX12_looksLike_21 ?_
    exact m_zret C dX12_looksLike_22 rfl (Or.inl rfl) (Nat.le_of_ble_eq_true rfl) (Nat.le_of_ble_eq_true rfl) ⟨0, rfl, fp0, hB, ⟨by omega, LKX.mk ezz1 ezz2 ezz3 ezz4 hzz4 (by omega)⟩⟩
  · refine m_iconst C dX12_looksLike_17 ?_
    refine m_goto (tgt := 22) C dX12_looksLike_18 (by decide) ?_
    exact m_zret C dX12_looksLike_22 rfl (Or.inr rfl) (Nat.le_of_ble_eq_true rfl) (Nat.le_of_ble_eq_true rfl) ⟨1, rfl, fp0, hB, ⟨by omega, LKX.mk ezz1 ezz2 ezz3 ezz4 hzz4 (by omega)⟩⟩
set_option maxHeartbeats 4000000 in
set_option maxRecDepth 100000 in
theorem E_next {l : Launch} {G : GT} {h0 : Nat} {ad ln : Nat → Nat} {v : Nat → Int} {a : Nat → Nat → Int}  {w q : Int} (hB : BX v a) (hr : 0 ≤ w ∧ w < 12016) (hq : q = 0 ∨ q = 1) : Mm l G yX12_next cX12_next 3 (some .int) 0 [.int (iI w), .int (iI q)] h0 ad ln v a 0 0 (fun r v2 a2 => ∃ f : Int, r = some (.int (iI f)) ∧ fr [] [] v a v2 a2 ∧ BX v2 a2 ∧ ((f = 0 ∨ f = 1) ∧ ((a 44 w.toNat = -3 ∧ f = 1) ∨ (a 44 w.toNat = -4 ∧ f = 0) ∨ ((a 44 w.toNat ≠ -3 ∧ a 44 w.toNat ≠ -4) ∧ f = q)))) := by
  refine Mm.mk (by decide) (Nat.le_of_ble_eq_true rfl) ?_
  intro p e s m args below meth c A C
  have fp0 : fr [] [] v a v a := fr.refl
  refine m_aload_n (j := 0) C dX12_next_0 rfl ?_
  refine m_geta (k := 44) C dX12_next_1 w6_103 (by decide) rfl ?_
  refine m_iload_n (j := 1) C dX12_next_4 rfl ?_
  refine m_ald (k := 44) C dX12_next_5 rfl rfl (by decide) (by omega) (by show _ < ((_ : Nat) : Int); simp only [mlen]; omega) (by decide) ?_
  have ra1 : (-4) ≤ a 44 w.toNat ∧ a 44 w.toNat ≤ 5999 := hB.2 44 (w.toNat)
  refine m_bipush (z := (-3)) C dX12_next_6 (by decide) ?_
  refine m_icmp_ne (tgt := 15) C (r32_c (lo := (-4)) (hi := 5999) ra1.1 ra1.2 (by decide) (by decide)) ⟨by decide, by decide⟩ dX12_next_8 (by decide) (fun c1 => ?_) (fun c1 => ?_)
  · refine m_aload_n (j := 0) C dX12_next_15 rfl ?_
    refine m_geta (k := 44) C dX12_next_16 w6_103 (by decide) rfl ?_
    refine m_iload_n (j := 1) C dX12_next_19 rfl ?_
    refine m_ald (k := 44) C dX12_next_20 rfl rfl (by decide) (by omega) (by show _ < ((_ : Nat) : Int); simp only [mlen]; omega) (by decide) ?_
    refine m_bipush (z := (-4)) C dX12_next_21 (by decide) ?_
    refine m_icmp_ne (tgt := 30) C (r32_c (lo := (-4)) (hi := 5999) ra1.1 ra1.2 (by decide) (by decide)) ⟨by decide, by decide⟩ dX12_next_23 (by decide) (fun c2 => ?_) (fun c2 => ?_)
    · refine m_iload_n (j := 2) C dX12_next_30 rfl ?_
      exact m_iret C dX12_next_31 rfl (Nat.le_of_ble_eq_true rfl) (Nat.le_of_ble_eq_true rfl) ⟨q, rfl, fp0, hB, ⟨by omega, by omega⟩⟩
    · refine m_iconst C dX12_next_26 ?_
      refine m_goto (tgt := 31) C dX12_next_27 (by decide) ?_
      exact m_iret C dX12_next_31 rfl (Nat.le_of_ble_eq_true rfl) (Nat.le_of_ble_eq_true rfl) ⟨0, rfl, fp0, hB, ⟨by omega, by omega⟩⟩
  · refine m_iconst C dX12_next_11 ?_
    refine m_goto (tgt := 31) C dX12_next_12 (by decide) ?_
    exact m_iret C dX12_next_31 rfl (Nat.le_of_ble_eq_true rfl) (Nat.le_of_ble_eq_true rfl) ⟨1, rfl, fp0, hB, ⟨by omega, by omega⟩⟩
set_option maxHeartbeats 4000000 in
set_option maxRecDepth 100000 in
theorem E_may {l : Launch} {G : GT} {h0 : Nat} {ad ln : Nat → Nat} {v : Nat → Int} {a : Nat → Nat → Int}  {r1 x pt g : Int} (hB : BX v a) (hr : 0 ≤ r1 ∧ r1 < 12016) (ho : -4 ≤ a 44 r1.toNat ∧ a 44 r1.toNat < 6000) (ho2 : 1 ≤ a 46 r1.toNat ∧ a 46 r1.toNat ≤ 4) (ho3 : 0 ≤ a 45 r1.toNat ∧ (0 ≤ a 44 r1.toNat → a 45 r1.toNat + a 46 r1.toNat ≤ 24000) ∧ (a 44 r1.toNat < 0 → a 45 r1.toNat + a 46 r1.toNat ≤ 480)) (hx : 0 ≤ x ∧ x ≤ 100) (h50 : v 50 ≤ 100) (hp : pt = 0 ∨ pt = 1) (hg : g = 0 ∨ g = 1) : Mm l G yX12_may cX12_may 6 (some .boolean) 2 [.int (iI r1), .int (iI x), .int (iI pt), .int (iI g)] h0 ad ln v a 0 0 (fun r v2 a2 => ∃ f : Int, r = some (.int (iI f)) ∧ fr [] [] v a v2 a2 ∧ BX v2 a2 ∧ ((f = 0 ∨ (f = 1 ∧ x + a 46 r1.toNat ≤ v 50)) ∧ MYX v a r1 x pt g f)) := by
  refine Mm.mk (by decide) (Nat.le_of_ble_eq_true rfl) ?_
  intro p e s m args below meth c A C
  refine hv2 (show 0 ≤ v 50 ∧ v 50 ≤ 40200 from hB.1 50) (show fr [] [] v a v a from fr.refl) (fun r50 fp0 => ?_)
  refine m_iload_n (j := 2) C dX12_may_0 rfl ?_
  refine m_aload_n (j := 0) C dX12_may_1 rfl ?_
  refine m_geta (k := 46) C dX12_may_2 w6_105 (by decide) rfl ?_
  refine m_iload_n (j := 1) C dX12_may_5 rfl ?_
  refine m_ald (k := 46) C dX12_may_6 rfl rfl (by decide) (by omega) (by show _ < ((_ : Nat) : Int); simp only [mlen]; omega) (by decide) ?_
  have ra1 : 0 ≤ a 46 r1.toNat ∧ a 46 r1.toNat ≤ 4 := hB.2 46 (r1.toNat)
  refine m_iadd C dX12_may_7 ?_
  refine m_aload_n (j := 0) C dX12_may_8 rfl ?_
  have rv1 : 0 ≤ v 50 ∧ v 50 ≤ 40200 := hB.1 50
  refine m_get (k := 50) C dX12_may_9 w6_109 (by decide) rfl ?_
  refine m_icmp_gt (tgt := 28) C ⟨by omega, by omega⟩ (r32_c (lo := 0) (hi := 40200) rv1.1 rv1.2 (by decide) (by decide)) dX12_may_12 (by decide) (fun c1 => ?_) (fun c1 => ?_)
  · refine m_iconst C dX12_may_28 ?_
    exact m_zret C dX12_may_29 rfl (Or.inl rfl) (Nat.le_of_ble_eq_true rfl) (Nat.le_of_ble_eq_true rfl) ⟨0, rfl, fp0, hB, ⟨by omega, MYX.no1 (Or.inl (by omega)) rfl⟩⟩
  · refine m_iload (j := 4) C dX12_may_15 rfl ?_
    refine m_if_eq (tgt := 30) C ⟨by omega, by omega⟩ dX12_may_17 (by decide) (fun c2 => ?_) (fun c2 => ?_)
    · refine m_iconst C dX12_may_30 ?_
      refine m_istore (lv2 := [(5, .int (iI 0)), (0, .ref h0), (1, .int (iI r1)), (2, .int (iI x)), (3, .int (iI pt)), (4, .int (iI g))]) C dX12_may_31 (by decide) rfl ?_
      have Lp1 : ∀ (nn : Nat) (k : Int) (vb1 : Nat → Int) (ab1 : Nat → Nat → Int), 5 - k < (nn : Int) → BX vb1 ab1 → fr [] [] v a vb1 ab1 → (0 ≤ k ∧ k ≤ 4 ∧ k ≤ a 46 r1.toNat) → (LKJ v a r1 x k) → mw p l e (rmq 2 0 0) s m args below meth c G A 6 (MQ below (Qm G A (fun rq Lq Eq => ∃ (vq : Nat → Int) (aq : Nat → Nat → Int), mI G h0 ad ln vq aq Lq Eq ∧ (fun r v2 a2 => ∃ f : Int, r = some (.int (iI f)) ∧ fr [] [] v a v2 a2 ∧ BX v2 a2 ∧ ((f = 0 ∨ (f = 1 ∧ x + a 46 r1.toNat ≤ v 50)) ∧ MYX v a r1 x pt g f)) rq vq aq)) args s 0 0 A) h0 ad ln vb1 ab1 0 0 33 [(5, .int (iI k)), (0, .ref h0), (1, .int (iI r1)), (2, .int (iI x)), (3, .int (iI pt)), (4, .int (iI g))] [] := by
        intro nn
        induction nn with
        | zero =>
          intro k vb1 ab1 hm bxb1 fpb1 hk hI
          exact absurd hm (by omega)
        | succ nn ih1 =>
          intro k vb1 ab1 hm bxb1 fpb1 hk hI
          refine m_iload (j := 0) C dX12_may_33 rfl ?_
          refine m_aload_n (j := 1) C dX12_may_35 rfl ?_
          refine m_geta (k := 46) C dX12_may_36 w6_105 (by decide) rfl ?_
          refine m_iload_n (j := 2) C dX12_may_39 rfl ?_
          refine m_ald (k := 46) C dX12_may_40 rfl rfl (by decide) (by omega) (by show _ < ((_ : Nat) : Int); simp only [mlen]; omega) (by decide) ?_
          refine hv2 (show 0 ≤ ab1 46 r1.toNat ∧ ab1 46 r1.toNat ≤ 4 from bxb1.2 46 (r1.toNat)) (show ab1 46 (r1.toNat) = a 46 (r1.toNat) from congrFun (fpb1.2 46 rfl) (r1.toNat)) (fun ra2 ae1 => ?_)
          refine m_st (st2 := [.int (iI (a 46 r1.toNat)), .int (iI k)]) (congrArg (fun z => Value.int (iI z) :: [.int (iI k)]) (congrFun (fpb1.2 46 rfl) (r1.toNat))) ?_
          refine m_icmp_ge (tgt := 75) C (r32_c (lo := 0) (hi := 4) hk.1 hk.2.1 (by decide) (by decide)) (r32_c (lo := 0) (hi := 4) ra1.1 ra1.2 (by decide) (by decide)) dX12_may_41 (by decide) (fun c3 => ?_) (fun c3 => ?_)
          · refine m_aload_n (j := 1) C dX12_may_75 rfl ?_
            refine m_geta (k := 57) C dX12_may_76 w6_116 (by decide) rfl ?_
            refine m_iload_n (j := 3) C dX12_may_79 rfl ?_
            refine m_aload_n (j := 1) C dX12_may_80 rfl ?_
            refine m_geta (k := 46) C dX12_may_81 w6_105 (by decide) rfl ?_
            refine m_iload_n (j := 2) C dX12_may_84 rfl ?_
            refine m_ald (k := 46) C dX12_may_85 rfl rfl (by decide) (by omega) (by show _ < ((_ : Nat) : Int); simp only [mlen]; omega) (by decide) ?_
            refine m_st (st2 := [.int (iI (a 46 r1.toNat)), .int (iI x), .ref (ad 57)]) (congrArg (fun z => Value.int (iI z) :: [.int (iI x), .ref (ad 57)]) (congrFun (fpb1.2 46 rfl) (r1.toNat))) ?_
            refine m_iadd C dX12_may_86 ?_
            refine m_aload_n (j := 1) C dX12_may_87 rfl ?_
            refine m_iload_n (j := 2) C dX12_may_88 rfl ?_
            refine m_iload_n (j := 4) C dX12_may_89 rfl ?_
            refine hv2 (show (-4) ≤ ab1 44 r1.toNat ∧ ab1 44 r1.toNat ≤ 5999 from bxb1.2 44 (r1.toNat)) (show ab1 44 (r1.toNat) = a 44 (r1.toNat) from congrFun (fpb1.2 44 rfl) (r1.toNat)) (fun ra3 ae2 => ?_)
            refine m_call (mc2 := 0) (ms2 := 0) (As := [.int (iI r1), .int (iI pt)]) (rest := [.int (iI (x + (a 46 r1.toNat))), .ref (ad 57)]) C (E_next (w := r1) (q := pt) bxb1 (by omega) (by omega)) dX12_may_90 kV_X12_367 rfl ck_13 rfl (Nat.le_of_ble_eq_true rfl) ⟨Nat.le_of_ble_eq_true rfl, Nat.le_of_ble_eq_true rfl⟩ ⟨Nat.le_of_ble_eq_true rfl, Nat.le_of_ble_eq_true rfl⟩ (fun rh1 vh1 ah1 h1 => ?_)
            obtain ⟨f1, rfl, fn1, _, ef1⟩ := h1
            obtain ⟨rfl, rfl⟩ := fn1.eq
            have gf1 : (f1 = 0 ∨ f1 = 1) ∧ ((ab1 44 r1.toNat = -3 ∧ f1 = 1) ∨ (ab1 44 r1.toNat = -4 ∧ f1 = 0) ∨ ((ab1 44 r1.toNat ≠ -3 ∧ ab1 44 r1.toNat ≠ -4) ∧ f1 = pt)) := ef1
            refine m_st (st2 := [.int (iI f1), .int (iI (x + (a 46 r1.toNat))), .ref (ad 57)]) rfl ?_
            refine m_aload_n (j := 1) C dX12_may_93 rfl ?_
            refine m_geta (k := 44) C dX12_may_94 w6_103 (by decide) rfl ?_
            refine m_iload_n (j := 2) C dX12_may_97 rfl ?_
            refine m_ald (k := 44) C dX12_may_98 rfl rfl (by decide) (by omega) (by show _ < ((_ : Nat) : Int); simp only [mlen]; omega) (by decide) ?_
            refine m_st (st2 := [.int (iI (a 44 r1.toNat)), .int (iI f1), .int (iI (x + (a 46 r1.toNat))), .ref (ad 57)]) (congrArg (fun z => Value.int (iI z) :: [.int (iI f1), .int (iI (x + (a 46 r1.toNat))), .ref (ad 57)]) (congrFun (fpb1.2 44 rfl) (r1.toNat))) ?_
            refine m_iconst C dX12_may_99 ?_
            refine m_icmp_ne (tgt := 107) C ⟨by omega, by omega⟩ ⟨by decide, by decide⟩ dX12_may_100 (by decide) (fun c4 => ?_) (fun c4 => ?_)
            · refine m_iconst C dX12_may_107 ?_
              refine m_callS (As := [.int (iI (x + (a 46 r1.toNat))), .int (iI f1), .int (iI 0)]) (rest := [.ref (ad 57)]) C (fun L E => s_state (iI (x + (a 46 r1.toNat))) (iI f1) (iI 0)) dX12_may_108 kS_X12_370 rfl rfl (Nat.le_of_ble_eq_true rfl) ⟨Nat.le_of_ble_eq_true rfl, Nat.le_of_ble_eq_true rfl⟩ ⟨Nat.le_of_ble_eq_true rfl, Nat.le_of_ble_eq_true rfl⟩ ?_
              obtain ⟨sx1, hsx1⟩ : ∃ w : Int, w = 4 * (x + (a 46 r1.toNat)) + 2 * f1 + 0 := ⟨_, rfl⟩
              · refine m_st (st2 := [.int (iI sx1), .ref (ad 57)]) (by rw [stt_c (by omega), ← hsx1]) ?_
                refine m_zald (k := 57) C dX12_may_111 rfl rfl (by decide) (by omega) (by show _ < ((_ : Nat) : Int); simp only [mlen]; omega) (by decide) ?_
                refine hv2 (show 0 ≤ ab1 57 sx1.toNat ∧ ab1 57 sx1.toNat ≤ 1 from bxb1.2 57 (sx1.toNat)) (show ab1 57 (sx1.toNat) = a 57 (sx1.toNat) from congrFun (fpb1.2 57 rfl) (sx1.toNat)) (fun ra4 ae3 => ?_)
                refine m_st (st2 := [.int (iI (a 57 sx1.toNat))]) (congrArg (fun z => Value.int (iI z) :: []) (congrFun (fpb1.2 57 rfl) (sx1.toNat))) ?_
                exact m_zret C dX12_may_112 rfl (by omega) (Nat.le_of_ble_eq_true rfl) (Nat.le_of_ble_eq_true rfl) ⟨(a 57 sx1.toNat), rfl, fpb1, bxb1, ⟨by omega, MYX.yes (nx := f1) (cp := 0) hI (by omega) (by omega) (fun e => absurd e (by omega)) (by unfold NXQ; omega) (by unfold CPQ; omega) (by omega) rfl (by omega)⟩⟩
            · refine m_iconst C dX12_may_103 ?_
              refine m_goto (tgt := 108) C dX12_may_104 (by decide) ?_
              refine m_callS (As := [.int (iI (x + (a 46 r1.toNat))), .int (iI f1), .int (iI 1)]) (rest := [.ref (ad 57)]) C (fun L E => s_state (iI (x + (a 46 r1.toNat))) (iI f1) (iI 1)) dX12_may_108 kS_X12_370 rfl rfl (Nat.le_of_ble_eq_true rfl) ⟨Nat.le_of_ble_eq_true rfl, Nat.le_of_ble_eq_true rfl⟩ ⟨Nat.le_of_ble_eq_true rfl, Nat.le_of_ble_eq_true rfl⟩ ?_
              obtain ⟨sx2, hsx2⟩ : ∃ w : Int, w = 4 * (x + (a 46 r1.toNat)) + 2 * f1 + 1 := ⟨_, rfl⟩
              · refine m_st (st2 := [.int (iI sx2), .ref (ad 57)]) (by rw [stt_c (by omega), ← hsx2]) ?_
                refine m_zald (k := 57) C dX12_may_111 rfl rfl (by decide) (by omega) (by show _ < ((_ : Nat) : Int); simp only [mlen]; omega) (by decide) ?_
                refine hv2 (show 0 ≤ ab1 57 sx2.toNat ∧ ab1 57 sx2.toNat ≤ 1 from bxb1.2 57 (sx2.toNat)) (show ab1 57 (sx2.toNat) = a 57 (sx2.toNat) from congrFun (fpb1.2 57 rfl) (sx2.toNat)) (fun ra5 ae4 => ?_)
                refine m_st (st2 := [.int (iI (a 57 sx2.toNat))]) (congrArg (fun z => Value.int (iI z) :: []) (congrFun (fpb1.2 57 rfl) (sx2.toNat))) ?_
                exact m_zret C dX12_may_112 rfl (by omega) (Nat.le_of_ble_eq_true rfl) (Nat.le_of_ble_eq_true rfl) ⟨(a 57 sx2.toNat), rfl, fpb1, bxb1, ⟨by omega, MYX.yes (nx := f1) (cp := 1) hI (by omega) (by omega) (fun e => absurd e (by omega)) (by unfold NXQ; omega) (by unfold CPQ; omega) (by omega) rfl (by omega)⟩⟩
          · refine m_aload_n (j := 1) C dX12_may_44 rfl ?_
            refine m_aload_n (j := 1) C dX12_may_45 rfl ?_
            refine m_iload_n (j := 2) C dX12_may_46 rfl ?_
            refine m_iload (j := 0) C dX12_may_47 rfl ?_
            refine hv4 (show (-4) ≤ ab1 44 r1.toNat ∧ ab1 44 r1.toNat ≤ 5999 from bxb1.2 44 (r1.toNat)) (show ab1 44 (r1.toNat) = a 44 (r1.toNat) from congrFun (fpb1.2 44 rfl) (r1.toNat)) (show 0 ≤ ab1 45 r1.toNat ∧ ab1 45 r1.toNat ≤ 23999 from bxb1.2 45 (r1.toNat)) (show ab1 45 (r1.toNat) = a 45 (r1.toNat) from congrFun (fpb1.2 45 rfl) (r1.toNat)) (fun ra6 ae5 ra7 ae6 => ?_)
            refine m_call (mc2 := 0) (ms2 := 0) (As := [.int (iI r1), .int (iI k)]) (rest := [.ref h0]) C (E_rowCell (w := r1) (k := k) bxb1 (by omega) (by omega)) dX12_may_49 kV_X12_324 rfl ck_13 rfl (Nat.le_of_ble_eq_true rfl) ⟨Nat.le_of_ble_eq_true rfl, Nat.le_of_ble_eq_true rfl⟩ ⟨Nat.le_of_ble_eq_true rfl, Nat.le_of_ble_eq_true rfl⟩ (fun rh4 vh4 ah4 h4 => ?_)
            obtain ⟨f2, rfl, fn2, _, ef2, rc1⟩ := h4
            obtain ⟨rfl, rfl⟩ := fn2.eq
            have gf2 : -2147483648 ≤ f2 ∧ f2 ≤ 2147483647 := ef2
            refine m_st (st2 := [.int (iI f2), .ref h0]) rfl ?_
            refine m_aload_n (j := 1) C dX12_may_52 rfl ?_
            refine m_geta (k := 48) C dX12_may_53 w6_107 (by decide) rfl ?_
            refine m_iload_n (j := 3) C dX12_may_56 rfl ?_
            refine m_iload (j := 0) C dX12_may_57 rfl ?_
            refine m_iadd C dX12_may_59 ?_
            refine m_ald (k := 48) C dX12_may_60 rfl rfl (by decide) (by omega) (by show _ < ((_ : Nat) : Int); simp only [mlen]; omega) (by decide) ?_
            refine hv2 (show (-2147483648) ≤ ab1 48 (x + k).toNat ∧ ab1 48 (x + k).toNat ≤ 2147483647 from bxb1.2 48 ((x + k).toNat)) (show ab1 48 ((x + k).toNat) = a 48 ((x + k).toNat) from congrFun (fpb1.2 48 rfl) ((x + k).toNat)) (fun ra8 ae7 => ?_)
            refine m_st (st2 := [.int (iI (a 48 (x + k).toNat)), .int (iI f2), .ref h0]) (congrArg (fun z => Value.int (iI z) :: [.int (iI f2), .ref h0]) (congrFun (fpb1.2 48 rfl) ((x + k).toNat))) ?_
            refine m_call (mc2 := 0) (ms2 := 0) (As := [.int (iI f2), .int (iI (a 48 (x + k).toNat))]) (rest := []) C (E_looksLike (x := f2) (y := a 48 (x + k).toNat) bxb1 (by omega) (by omega)) dX12_may_61 kV_X12_363 rfl ck_13 rfl (Nat.le_of_ble_eq_true rfl) ⟨Nat.le_of_ble_eq_true rfl, Nat.le_of_ble_eq_true rfl⟩ ⟨Nat.le_of_ble_eq_true rfl, Nat.le_of_ble_eq_true rfl⟩ (fun rh5 vh5 ah5 h5 => ?_)
            obtain ⟨f3, rfl, fn3, _, ef3, lk1⟩ := h5
            obtain ⟨rfl, rfl⟩ := fn3.eq
            have gf3 : f3 = 0 ∨ f3 = 1 := ef3
            refine m_st (st2 := [.int (iI f3)]) rfl ?_
            refine m_if_ne (tgt := 69) C (r32_01 gf3) dX12_may_64 (by decide) (fun c5 => ?_) (fun c5 => ?_)
            · replace gf3 := (gf3.resolve_left c5)
              refine m_iinc (z := k) (j := 0) (lv2 := [(5, .int (iI (k + 1))), (0, .ref h0), (1, .int (iI r1)), (2, .int (iI x)), (3, .int (iI pt)), (4, .int (iI g))]) C dX12_may_69 rfl (by decide) rfl ?_
              refine m_goto (tgt := 33) C dX12_may_72 (by decide) ?_
              refine m_lv (lv2 := [(5, .int (iI (k + 1))), (0, .ref h0), (1, .int (iI r1)), (2, .int (iI x)), (3, .int (iI pt)), (4, .int (iI g))]) [0, 1, 2, 3, 4, 5] rfl ?_
              exact ih1  (k + 1) _ _ (by omega) bxb1 fpb1 (by omega) (hI.step (by have q1 := lk1.mp (by omega); rw [rc1, ← (fpb1.eq).1, ← (fpb1.eq).2] at q1; exact q1))
            · clear gf3
              refine m_iconst C dX12_may_67 ?_
              exact m_zret C dX12_may_68 rfl (Or.inl rfl) (Nat.le_of_ble_eq_true rfl) (Nat.le_of_ble_eq_true rfl) ⟨0, rfl, fpb1, bxb1, ⟨by omega, MYX.no2 (k := k) ⟨by omega, by omega⟩ (fun q => absurd (lk1.mpr (by rw [rc1, ← (fpb1.eq).1, ← (fpb1.eq).2]; exact q)) (by omega)) rfl⟩⟩
      refine m_lv (lv2 := [(5, .int (iI 0)), (0, .ref h0), (1, .int (iI r1)), (2, .int (iI x)), (3, .int (iI pt)), (4, .int (iI g))]) [0, 1, 2, 3, 4, 5] rfl ?_
      exact Lp1 6 0 _ _ (by omega) hB fp0 (by omega) LKJ.zero
    · refine m_aload_n (j := 0) C dX12_may_20 rfl ?_
      refine m_iload_n (j := 1) C dX12_may_21 rfl ?_
      have ra9 : (-4) ≤ a 44 r1.toNat ∧ a 44 r1.toNat ≤ 5999 := hB.2 44 (r1.toNat)
      refine m_call (mc2 := 0) (ms2 := 0) (As := [.int (iI r1)]) (rest := []) C (E_isSmallRule (w := r1) hB (by omega) (by show a 44 r1.toNat < 6000; omega)) dX12_may_22 kV_X12_348 rfl ck_13 rfl (Nat.le_of_ble_eq_true rfl) ⟨Nat.le_of_ble_eq_true rfl, Nat.le_of_ble_eq_true rfl⟩ ⟨Nat.le_of_ble_eq_true rfl, Nat.le_of_ble_eq_true rfl⟩ (fun rh6 vh6 ah6 h6 => ?_)
      obtain ⟨f4, rfl, fn4, _, ef4, sm1⟩ := h6
      obtain ⟨rfl, rfl⟩ := fn4.eq
      refine hv2 (show f4 = 0 ∨ f4 = 1 from ef4) (show SMX a r1 f4 from SMX.fr sm1 fp0) (fun gf4 sn1 => ?_)
      refine m_st (st2 := [.int (iI f4)]) rfl ?_
      refine m_if_ne (tgt := 30) C (r32_01 gf4) dX12_may_25 (by decide) (fun c6 => ?_) (fun c6 => ?_)
      · replace gf4 := (gf4.resolve_left c6)
        refine m_iconst C dX12_may_30 ?_
        refine m_istore (lv2 := [(5, .int (iI 0)), (0, .ref h0), (1, .int (iI r1)), (2, .int (iI x)), (3, .int (iI pt)), (4, .int (iI g))]) C dX12_may_31 (by decide) rfl ?_
        have Lp2 : ∀ (nn : Nat) (k : Int) (vb2 : Nat → Int) (ab2 : Nat → Nat → Int), 5 - k < (nn : Int) → BX vb2 ab2 → fr [] [] v a vb2 ab2 → (0 ≤ k ∧ k ≤ 4 ∧ k ≤ a 46 r1.toNat) → (LKJ v a r1 x k) → mw p l e (rmq 2 0 0) s m args below meth c G A 6 (MQ below (Qm G A (fun rq Lq Eq => ∃ (vq : Nat → Int) (aq : Nat → Nat → Int), mI G h0 ad ln vq aq Lq Eq ∧ (fun r v2 a2 => ∃ f : Int, r = some (.int (iI f)) ∧ fr [] [] v a v2 a2 ∧ BX v2 a2 ∧ ((f = 0 ∨ (f = 1 ∧ x + a 46 r1.toNat ≤ v 50)) ∧ MYX v a r1 x pt g f)) rq vq aq)) args s 0 0 A) h0 ad ln vb2 ab2 0 0 33 [(5, .int (iI k)), (0, .ref h0), (1, .int (iI r1)), (2, .int (iI x)), (3, .int (iI pt)), (4, .int (iI g))] [] := by
          intro nn
          induction nn with
          | zero =>
            intro k vb2 ab2 hm bxb2 fpb2 hk hI
            exact absurd hm (by omega)
          | succ nn ih2 =>
            intro k vb2 ab2 hm bxb2 fpb2 hk hI
            refine m_iload (j := 0) C dX12_may_33 rfl ?_
            refine m_aload_n (j := 1) C dX12_may_35 rfl ?_
            refine m_geta (k := 46) C dX12_may_36 w6_105 (by decide) rfl ?_
            refine m_iload_n (j := 2) C dX12_may_39 rfl ?_
            refine m_ald (k := 46) C dX12_may_40 rfl rfl (by decide) (by omega) (by show _ < ((_ : Nat) : Int); simp only [mlen]; omega) (by decide) ?_
            refine hv2 (show 0 ≤ ab2 46 r1.toNat ∧ ab2 46 r1.toNat ≤ 4 from bxb2.2 46 (r1.toNat)) (show ab2 46 (r1.toNat) = a 46 (r1.toNat) from congrFun (fpb2.2 46 rfl) (r1.toNat)) (fun ra10 ae8 => ?_)
            refine m_st (st2 := [.int (iI (a 46 r1.toNat)), .int (iI k)]) (congrArg (fun z => Value.int (iI z) :: [.int (iI k)]) (congrFun (fpb2.2 46 rfl) (r1.toNat))) ?_
            refine m_icmp_ge (tgt := 75) C (r32_c (lo := 0) (hi := 4) hk.1 hk.2.1 (by decide) (by decide)) (r32_c (lo := 0) (hi := 4) ra1.1 ra1.2 (by decide) (by decide)) dX12_may_41 (by decide) (fun c7 => ?_) (fun c7 => ?_)
            · refine m_aload_n (j := 1) C dX12_may_75 rfl ?_
              refine m_geta (k := 57) C dX12_may_76 w6_116 (by decide) rfl ?_
              refine m_iload_n (j := 3) C dX12_may_79 rfl ?_
              refine m_aload_n (j := 1) C dX12_may_80 rfl ?_
              refine m_geta (k := 46) C dX12_may_81 w6_105 (by decide) rfl ?_
              refine m_iload_n (j := 2) C dX12_may_84 rfl ?_
              refine m_ald (k := 46) C dX12_may_85 rfl rfl (by decide) (by omega) (by show _ < ((_ : Nat) : Int); simp only [mlen]; omega) (by decide) ?_
              refine m_st (st2 := [.int (iI (a 46 r1.toNat)), .int (iI x), .ref (ad 57)]) (congrArg (fun z => Value.int (iI z) :: [.int (iI x), .ref (ad 57)]) (congrFun (fpb2.2 46 rfl) (r1.toNat))) ?_
              refine m_iadd C dX12_may_86 ?_
              refine m_aload_n (j := 1) C dX12_may_87 rfl ?_
              refine m_iload_n (j := 2) C dX12_may_88 rfl ?_
              refine m_iload_n (j := 4) C dX12_may_89 rfl ?_
              refine hv2 (show (-4) ≤ ab2 44 r1.toNat ∧ ab2 44 r1.toNat ≤ 5999 from bxb2.2 44 (r1.toNat)) (show ab2 44 (r1.toNat) = a 44 (r1.toNat) from congrFun (fpb2.2 44 rfl) (r1.toNat)) (fun ra11 ae9 => ?_)
              refine m_call (mc2 := 0) (ms2 := 0) (As := [.int (iI r1), .int (iI pt)]) (rest := [.int (iI (x + (a 46 r1.toNat))), .ref (ad 57)]) C (E_next (w := r1) (q := pt) bxb2 (by omega) (by omega)) dX12_may_90 kV_X12_367 rfl ck_13 rfl (Nat.le_of_ble_eq_true rfl) ⟨Nat.le_of_ble_eq_true rfl, Nat.le_of_ble_eq_true rfl⟩ ⟨Nat.le_of_ble_eq_true rfl, Nat.le_of_ble_eq_true rfl⟩ (fun rh7 vh7 ah7 h7 => ?_)
              obtain ⟨f5, rfl, fn5, _, ef5⟩ := h7
              obtain ⟨rfl, rfl⟩ := fn5.eq
              have gf5 : (f5 = 0 ∨ f5 = 1) ∧ ((ab2 44 r1.toNat = -3 ∧ f5 = 1) ∨ (ab2 44 r1.toNat = -4 ∧ f5 = 0) ∨ ((ab2 44 r1.toNat ≠ -3 ∧ ab2 44 r1.toNat ≠ -4) ∧ f5 = pt)) := ef5
              refine m_st (st2 := [.int (iI f5), .int (iI (x + (a 46 r1.toNat))), .ref (ad 57)]) rfl ?_
              refine m_aload_n (j := 1) C dX12_may_93 rfl ?_
              refine m_geta (k := 44) C dX12_may_94 w6_103 (by decide) rfl ?_
              refine m_iload_n (j := 2) C dX12_may_97 rfl ?_
              refine m_ald (k := 44) C dX12_may_98 rfl rfl (by decide) (by omega) (by show _ < ((_ : Nat) : Int); simp only [mlen]; omega) (by decide) ?_
              refine m_st (st2 := [.int (iI (a 44 r1.toNat)), .int (iI f5), .int (iI (x + (a 46 r1.toNat))), .ref (ad 57)]) (congrArg (fun z => Value.int (iI z) :: [.int (iI f5), .int (iI (x + (a 46 r1.toNat))), .ref (ad 57)]) (congrFun (fpb2.2 44 rfl) (r1.toNat))) ?_
              refine m_iconst C dX12_may_99 ?_
              refine m_icmp_ne (tgt := 107) C (r32_c (lo := (-4)) (hi := 5999) ra9.1 ra9.2 (by decide) (by decide)) ⟨by decide, by decide⟩ dX12_may_100 (by decide) (fun c8 => ?_) (fun c8 => ?_)
              · refine m_iconst C dX12_may_107 ?_
                refine m_callS (As := [.int (iI (x + (a 46 r1.toNat))), .int (iI f5), .int (iI 0)]) (rest := [.ref (ad 57)]) C (fun L E => s_state (iI (x + (a 46 r1.toNat))) (iI f5) (iI 0)) dX12_may_108 kS_X12_370 rfl rfl (Nat.le_of_ble_eq_true rfl) ⟨Nat.le_of_ble_eq_true rfl, Nat.le_of_ble_eq_true rfl⟩ ⟨Nat.le_of_ble_eq_true rfl, Nat.le_of_ble_eq_true rfl⟩ ?_
                obtain ⟨sx3, hsx3⟩ : ∃ w : Int, w = 4 * (x + (a 46 r1.toNat)) + 2 * f5 + 0 := ⟨_, rfl⟩
                · refine m_st (st2 := [.int (iI sx3), .ref (ad 57)]) (by rw [stt_c (by omega), ← hsx3]) ?_
                  refine m_zald (k := 57) C dX12_may_111 rfl rfl (by decide) (by omega) (by show _ < ((_ : Nat) : Int); simp only [mlen]; omega) (by decide) ?_
                  refine hv2 (show 0 ≤ ab2 57 sx3.toNat ∧ ab2 57 sx3.toNat ≤ 1 from bxb2.2 57 (sx3.toNat)) (show ab2 57 (sx3.toNat) = a 57 (sx3.toNat) from congrFun (fpb2.2 57 rfl) (sx3.toNat)) (fun ra12 ae10 => ?_)
                  refine m_st (st2 := [.int (iI (a 57 sx3.toNat))]) (congrArg (fun z => Value.int (iI z) :: []) (congrFun (fpb2.2 57 rfl) (sx3.toNat))) ?_
                  exact m_zret C dX12_may_112 rfl (by omega) (Nat.le_of_ble_eq_true rfl) (Nat.le_of_ble_eq_true rfl) ⟨(a 57 sx3.toNat), rfl, fpb2, bxb2, ⟨by omega, MYX.yes (nx := f5) (cp := 0) hI (by omega) (by omega) (fun _ => sn1.mp (by omega)) (by unfold NXQ; omega) (by unfold CPQ; omega) (by omega) rfl (by omega)⟩⟩
              · refine m_iconst C dX12_may_103 ?_
                refine m_goto (tgt := 108) C dX12_may_104 (by decide) ?_
                refine m_callS (As := [.int (iI (x + (a 46 r1.toNat))), .int (iI f5), .int (iI 1)]) (rest := [.ref (ad 57)]) C (fun L E => s_state (iI (x + (a 46 r1.toNat))) (iI f5) (iI 1)) dX12_may_108 kS_X12_370 rfl rfl (Nat.le_of_ble_eq_true rfl) ⟨Nat.le_of_ble_eq_true rfl, Nat.le_of_ble_eq_true rfl⟩ ⟨Nat.le_of_ble_eq_true rfl, Nat.le_of_ble_eq_true rfl⟩ ?_
                obtain ⟨sx4, hsx4⟩ : ∃ w : Int, w = 4 * (x + (a 46 r1.toNat)) + 2 * f5 + 1 := ⟨_, rfl⟩
                · refine m_st (st2 := [.int (iI sx4), .ref (ad 57)]) (by rw [stt_c (by omega), ← hsx4]) ?_
                  refine m_zald (k := 57) C dX12_may_111 rfl rfl (by decide) (by omega) (by show _ < ((_ : Nat) : Int); simp only [mlen]; omega) (by decide) ?_
                  refine hv2 (show 0 ≤ ab2 57 sx4.toNat ∧ ab2 57 sx4.toNat ≤ 1 from bxb2.2 57 (sx4.toNat)) (show ab2 57 (sx4.toNat) = a 57 (sx4.toNat) from congrFun (fpb2.2 57 rfl) (sx4.toNat)) (fun ra13 ae11 => ?_)
                  refine m_st (st2 := [.int (iI (a 57 sx4.toNat))]) (congrArg (fun z => Value.int (iI z) :: []) (congrFun (fpb2.2 57 rfl) (sx4.toNat))) ?_
                  exact m_zret C dX12_may_112 rfl (by omega) (Nat.le_of_ble_eq_true rfl) (Nat.le_of_ble_eq_true rfl) ⟨(a 57 sx4.toNat), rfl, fpb2, bxb2, ⟨by omega, MYX.yes (nx := f5) (cp := 1) hI (by omega) (by omega) (fun _ => sn1.mp (by omega)) (by unfold NXQ; omega) (by unfold CPQ; omega) (by omega) rfl (by omega)⟩⟩
            · refine m_aload_n (j := 1) C dX12_may_44 rfl ?_
              refine m_aload_n (j := 1) C dX12_may_45 rfl ?_
              refine m_iload_n (j := 2) C dX12_may_46 rfl ?_
              refine m_iload (j := 0) C dX12_may_47 rfl ?_
              refine hv4 (show (-4) ≤ ab2 44 r1.toNat ∧ ab2 44 r1.toNat ≤ 5999 from bxb2.2 44 (r1.toNat)) (show ab2 44 (r1.toNat) = a 44 (r1.toNat) from congrFun (fpb2.2 44 rfl) (r1.toNat)) (show 0 ≤ ab2 45 r1.toNat ∧ ab2 45 r1.toNat ≤ 23999 from bxb2.2 45 (r1.toNat)) (show ab2 45 (r1.toNat) = a 45 (r1.toNat) from congrFun (fpb2.2 45 rfl) (r1.toNat)) (fun ra14 ae12 ra15 ae13 => ?_)
              refine m_call (mc2 := 0) (ms2 := 0) (As := [.int (iI r1), .int (iI k)]) (rest := [.ref h0]) C (E_rowCell (w := r1) (k := k) bxb2 (by omega) (by omega)) dX12_may_49 kV_X12_324 rfl ck_13 rfl (Nat.le_of_ble_eq_true rfl) ⟨Nat.le_of_ble_eq_true rfl, Nat.le_of_ble_eq_true rfl⟩ ⟨Nat.le_of_ble_eq_true rfl, Nat.le_of_ble_eq_true rfl⟩ (fun rh10 vh10 ah10 h10 => ?_)
              obtain ⟨f6, rfl, fn6, _, ef6, rc2⟩ := h10
              obtain ⟨rfl, rfl⟩ := fn6.eq
              have gf6 : -2147483648 ≤ f6 ∧ f6 ≤ 2147483647 := ef6
              refine m_st (st2 := [.int (iI f6), .ref h0]) rfl ?_
              refine m_aload_n (j := 1) C dX12_may_52 rfl ?_
              refine m_geta (k := 48) C dX12_may_53 w6_107 (by decide) rfl ?_
              refine m_iload_n (j := 3) C dX12_may_56 rfl ?_
              refine m_iload (j := 0) C dX12_may_57 rfl ?_
              refine m_iadd C dX12_may_59 ?_
              refine m_ald (k := 48) C dX12_may_60 rfl rfl (by decide) (by omega) (by show _ < ((_ : Nat) : Int); simp only [mlen]; omega) (by decide) ?_
              refine hv2 (show (-2147483648) ≤ ab2 48 (x + k).toNat ∧ ab2 48 (x + k).toNat ≤ 2147483647 from bxb2.2 48 ((x + k).toNat)) (show ab2 48 ((x + k).toNat) = a 48 ((x + k).toNat) from congrFun (fpb2.2 48 rfl) ((x + k).toNat)) (fun ra16 ae14 => ?_)
              refine m_st (st2 := [.int (iI (a 48 (x + k).toNat)), .int (iI f6), .ref h0]) (congrArg (fun z => Value.int (iI z) :: [.int (iI f6), .ref h0]) (congrFun (fpb2.2 48 rfl) ((x + k).toNat))) ?_
              refine m_call (mc2 := 0) (ms2 := 0) (As := [.int (iI f6), .int (iI (a 48 (x + k).toNat))]) (rest := []) C (E_looksLike (x := f6) (y := a 48 (x + k).toNat) bxb2 (by omega) (by omega)) dX12_may_61 kV_X12_363 rfl ck_13 rfl (Nat.le_of_ble_eq_true rfl) ⟨Nat.le_of_ble_eq_true rfl, Nat.le_of_ble_eq_true rfl⟩ ⟨Nat.le_of_ble_eq_true rfl, Nat.le_of_ble_eq_true rfl⟩ (fun rh11 vh11 ah11 h11 => ?_)
              obtain ⟨f7, rfl, fn7, _, ef7, lk2⟩ := h11
              obtain ⟨rfl, rfl⟩ := fn7.eq
              have gf7 : f7 = 0 ∨ f7 = 1 := ef7
              refine m_st (st2 := [.int (iI f7)]) rfl ?_
              refine m_if_ne (tgt := 69) C (r32_01 gf7) dX12_may_64 (by decide) (fun c9 => ?_) (fun c9 => ?_)
              · replace gf7 := (gf7.resolve_left c9)
                refine m_iinc (z := k) (j := 0) (lv2 := [(5, .int (iI (k + 1))), (0, .ref h0), (1, .int (iI r1)), (2, .int (iI x)), (3, .int (iI pt)), (4, .int (iI g))]) C dX12_may_69 rfl (by decide) rfl ?_
                refine m_goto (tgt := 33) C dX12_may_72 (by decide) ?_
                refine m_lv (lv2 := [(5, .int (iI (k + 1))), (0, .ref h0), (1, .int (iI r1)), (2, .int (iI x)), (3, .int (iI pt)), (4, .int (iI g))]) [0, 1, 2, 3, 4, 5] rfl ?_
                exact ih2  (k + 1) _ _ (by omega) bxb2 fpb2 (by omega) (hI.step (by have q1 := lk2.mp (by omega); rw [rc2, ← (fpb2.eq).1, ← (fpb2.eq).2] at q1; exact q1))
              · clear gf7
                refine m_iconst C dX12_may_67 ?_
                exact m_zret C dX12_may_68 rfl (Or.inl rfl) (Nat.le_of_ble_eq_true rfl) (Nat.le_of_ble_eq_true rfl) ⟨0, rfl, fpb2, bxb2, ⟨by omega, MYX.no2 (k := k) ⟨by omega, by omega⟩ (fun q => absurd (lk2.mpr (by rw [rc2, ← (fpb2.eq).1, ← (fpb2.eq).2]; exact q)) (by omega)) rfl⟩⟩
        refine m_lv (lv2 := [(5, .int (iI 0)), (0, .ref h0), (1, .int (iI r1)), (2, .int (iI x)), (3, .int (iI pt)), (4, .int (iI g))]) [0, 1, 2, 3, 4, 5] rfl ?_
        exact Lp2 6 0 _ _ (by omega) hB fp0 (by omega) LKJ.zero
      · clear gf4
        refine m_iconst C dX12_may_28 ?_
        exact m_zret C dX12_may_29 rfl (Or.inl rfl) (Nat.le_of_ble_eq_true rfl) (Nat.le_of_ble_eq_true rfl) ⟨0, rfl, fp0, hB, ⟨by omega, MYX.no1 (Or.inr ⟨by omega, fun q => absurd (sn1.mpr q) (by omega)⟩) rfl⟩⟩
set_option maxHeartbeats 4000000 in
set_option maxRecDepth 100000 in
theorem E_mayBlank {l : Launch} {G : GT} {h0 : Nat} {ad ln : Nat → Nat} {v : Nat → Int} {a : Nat → Nat → Int}  {x g : Int} (hB : BX v a) (hx : 0 ≤ x ∧ x < v 50) (h50 : v 50 ≤ 100) (hg : g = 0 ∨ g = 1) : Mm l G yX12_mayBlank cX12_mayBlank 3 (some .boolean) 1 [.int (iI x), .int (iI g)] h0 ad ln v a 0 0 (fun r v2 a2 => ∃ f : Int, r = some (.int (iI f)) ∧ fr [] [] v a v2 a2 ∧ BX v2 a2 ∧ ((f = 0 ∨ f = 1) ∧ MBY v a x g f)) := by
  refine Mm.mk (by decide) (Nat.le_of_ble_eq_true rfl) ?_
  intro p e s m args below meth c A C
  have fp0 : fr [] [] v a v a := fr.refl
  refine m_iload_n (j := 2) C dX12_mayBlank_0 rfl ?_
  refine m_if_ne (tgt := 38) C ⟨by omega, by omega⟩ dX12_mayBlank_1 (by decide) (fun c1 => ?_) (fun c1 => ?_)
  · refine m_iconst C dX12_mayBlank_38 ?_
    exact m_zret C dX12_mayBlank_39 rfl (Or.inl rfl) (Nat.le_of_ble_eq_true rfl) (Nat.le_of_ble_eq_true rfl) ⟨0, rfl, fp0, hB, ⟨by omega, MBY.no1 (by omega) rfl⟩⟩
  · refine m_aload_n (j := 0) C dX12_mayBlank_4 rfl ?_
    refine m_iconst C dX12_mayBlank_5 ?_
    refine m_aload_n (j := 0) C dX12_mayBlank_6 rfl ?_
    refine m_geta (k := 48) C dX12_mayBlank_7 w6_107 (by decide) rfl ?_
    refine m_iload_n (j := 1) C dX12_mayBlank_10 rfl ?_
    refine m_ald (k := 48) C dX12_mayBlank_11 rfl rfl (by decide) (by omega) (by show _ < ((_ : Nat) : Int); simp only [mlen]; omega) (by decide) ?_
    have ra1 : (-2147483648) ≤ a 48 x.toNat ∧ a 48 x.toNat ≤ 2147483647 := hB.2 48 (x.toNat)
    refine m_call (mc2 := 0) (ms2 := 0) (As := [.int (iI 0), .int (iI (a 48 x.toNat))]) (rest := []) C (E_looksLike (x := 0) (y := a 48 x.toNat) hB (by omega) (by omega)) dX12_mayBlank_12 kV_X12_363 rfl ck_13 rfl (Nat.le_of_ble_eq_true rfl) ⟨Nat.le_of_ble_eq_true rfl, Nat.le_of_ble_eq_true rfl⟩ ⟨Nat.le_of_ble_eq_true rfl, Nat.le_of_ble_eq_true rfl⟩ (fun rh1 vh1 ah1 h1 => ?_)
    obtain ⟨f1, rfl, fn1, _, ef1, lk1⟩ := h1
    obtain ⟨rfl, rfl⟩ := fn1.eq
    have gf1 : f1 = 0 ∨ f1 = 1 := ef1
    refine m_st (st2 := [.int (iI f1)]) rfl ?_
    refine m_if_eq (tgt := 38) C (r32_01 gf1) dX12_mayBlank_15 (by decide) (fun c2 => ?_) (fun c2 => ?_)
    · clear gf1
      refine m_iconst C dX12_mayBlank_38 ?_
      exact m_zret C dX12_mayBlank_39 rfl (Or.inl rfl) (Nat.le_of_ble_eq_true rfl) (Nat.le_of_ble_eq_true rfl) ⟨0, rfl, fp0, hB, ⟨by omega, MBY.no2 lk1 (by omega) rfl⟩⟩
    · replace gf1 := (gf1.resolve_left c2)
      refine m_aload_n (j := 0) C dX12_mayBlank_18 rfl ?_
      refine m_geta (k := 57) C dX12_mayBlank_19 w6_116 (by decide) rfl ?_
      refine m_iload_n (j := 1) C dX12_mayBlank_22 rfl ?_
      refine m_iconst C dX12_mayBlank_23 ?_
      refine m_iadd C dX12_mayBlank_24 ?_
      refine m_iconst C dX12_mayBlank_25 ?_
      refine m_iconst C dX12_mayBlank_26 ?_
      refine m_callS (As := [.int (iI (x + 1)), .int (iI 0), .int (iI 0)]) (rest := [.ref (ad 57)]) C (fun L E => s_state (iI (x + 1)) (iI 0) (iI 0)) dX12_mayBlank_27 kS_X12_370 rfl rfl (Nat.le_of_ble_eq_true rfl) ⟨Nat.le_of_ble_eq_true rfl, Nat.le_of_ble_eq_true rfl⟩ ⟨Nat.le_of_ble_eq_true rfl, Nat.le_of_ble_eq_true rfl⟩ ?_
      obtain ⟨sx1, hsx1⟩ : ∃ w : Int, w = 4 * (x + 1) + 2 * 0 + 0 := ⟨_, rfl⟩
      · refine m_st (st2 := [.int (iI sx1), .ref (ad 57)]) (by rw [stt_c (by omega), ← hsx1]) ?_
        refine m_zald (k := 57) C dX12_mayBlank_30 rfl rfl (by decide) (by omega) (by show _ < ((_ : Nat) : Int); simp only [mlen]; omega) (by decide) ?_
        have ra2 : 0 ≤ a 57 sx1.toNat ∧ a 57 sx1.toNat ≤ 1 := hB.2 57 (sx1.toNat)
        refine m_if_eq (tgt := 38) C (r32_c (lo := 0) (hi := 1) ra2.1 ra2.2 (by decide) (by decide)) dX12_mayBlank_31 (by decide) (fun c3 => ?_) (fun c3 => ?_)
        · refine m_iconst C dX12_mayBlank_38 ?_
          exact m_zret C dX12_mayBlank_39 rfl (Or.inl rfl) (Nat.le_of_ble_eq_true rfl) (Nat.le_of_ble_eq_true rfl) ⟨0, rfl, fp0, hB, ⟨by omega, MBY.mk2 (s := sx1) lk1 (by omega) (by omega) (by omega) (by omega)⟩⟩
        · refine m_iconst C dX12_mayBlank_34 ?_
          refine m_goto (tgt := 39) C dX12_mayBlank_35 (by decide) ?_
          exact m_zret C dX12_mayBlank_39 rfl (Or.inr rfl) (Nat.le_of_ble_eq_true rfl) (Nat.le_of_ble_eq_true rfl) ⟨1, rfl, fp0, hB, ⟨by omega, MBY.mk2 (s := sx1) lk1 (by omega) (by omega) (by omega) (by omega)⟩⟩
set_option maxHeartbeats 4000000 in
set_option maxRecDepth 100000 in
theorem E_findCan {l : Launch} {G : GT} {h0 : Nat} {ad ln : Nat → Nat} {v : Nat → Int} {a : Nat → Nat → Int}  (hB : BX v a) (hW : RWS a) (h50 : v 50 ≤ 100) : Mm l G yX12_findCan cX12_findCan 7 none 3 [] h0 ad ln v a 0 0 (fun r v2 a2 => r = none ∧ fr [] [57] v a v2 a2 ∧ BX v2 a2 ∧ (FC5 v2 a2 (-1))) := by
  refine Mm.mk (by decide) (Nat.le_of_ble_eq_true rfl) ?_
  intro p e s m args below meth c A C
  refine hv4 (show 0 ≤ v 50 ∧ v 50 ≤ 40200 from hB.1 50) ((hW 0 (Or.inl rfl)).1) ((hW 1 (Or.inr rfl)).1) (show fr [] [57] v a v a from fr.refl) (fun r50 r470 r471 fp0 => ?_)
  refine m_aload_n (j := 0) C dX12_findCan_0 rfl ?_
  have rv1 : 0 ≤ v 50 ∧ v 50 ≤ 40200 := hB.1 50
  refine m_get (k := 50) C dX12_findCan_1 w6_109 (by decide) rfl ?_
  refine m_istore_n (lv2 := [(1, .int (iI (v 50))), (0, .ref h0)]) C dX12_findCan_4 (by decide) rfl ?_
  have Lp1 : ∀ (nn : Nat) (x : Int) (vb1 : Nat → Int) (ab1 : Nat → Nat → Int), x + 1 < (nn : Int) → BX vb1 ab1 → fr [] [57] v a vb1 ab1 → (-1 ≤ x ∧ x ≤ v 50) → (FC5 vb1 ab1 x) → mw p l e (rmq 3 0 0) s m args below meth c G A 7 (MQ below (Qm G A (fun rq Lq Eq => ∃ (vq : Nat → Int) (aq : Nat → Nat → Int), mI G h0 ad ln vq aq Lq Eq ∧ (fun r v2 a2 => r = none ∧ fr [] [57] v a v2 a2 ∧ BX v2 a2 ∧ (FC5 v2 a2 (-1))) rq vq aq)) args s 0 0 A) h0 ad ln vb1 ab1 0 0 5 [(1, .int (iI x)), (0, .ref h0)] [] := by
    intro nn
    induction nn with
    | zero =>
      intro x vb1 ab1 hm bxb1 fpb1 hx hF5
      exact absurd hm (by omega)
    | succ nn ih1 =>
      intro x vb1 ab1 hm bxb1 fpb1 hx hF5
      refine m_iload_n (j := 0) C dX12_findCan_5 rfl ?_
      refine m_if_lt (tgt := 151) C ⟨by omega, by omega⟩ dX12_findCan_6 (by decide) (fun c1 => ?_) (fun c1 => ?_)
      · exact m_vret C dX12_findCan_151 rfl (Nat.le_of_ble_eq_true rfl) (Nat.le_of_ble_eq_true rfl) ⟨rfl, fpb1, bxb1, (by have q := hF5; rw [show x = -1 by omega] at q; exact q)⟩
      · refine m_iconst C dX12_findCan_9 ?_
        refine m_istore_n (lv2 := [(2, .int (iI 0)), (1, .int (iI x)), (0, .ref h0)]) C dX12_findCan_10 (by decide) rfl ?_
        have Lp2 : ∀ (nn : Nat) (y : Int) (vb2 : Nat → Int) (ab2 : Nat → Nat → Int), 5 - y < (nn : Int) → BX vb2 ab2 → fr [] [57] v a vb2 ab2 → (0 ≤ y ∧ y ≤ 4) → (FC11 vb2 ab2 x y) → mw p l e (rmq 3 0 0) s m args below meth c G A 7 (MQ below (Qm G A (fun rq Lq Eq => ∃ (vq : Nat → Int) (aq : Nat → Nat → Int), mI G h0 ad ln vq aq Lq Eq ∧ (fun r v2 a2 => r = none ∧ fr [] [57] v a v2 a2 ∧ BX v2 a2 ∧ (FC5 v2 a2 (-1))) rq vq aq)) args s 0 0 A) h0 ad ln vb2 ab2 0 0 11 [(2, .int (iI y)), (1, .int (iI x)), (0, .ref h0)] [] := by
          intro nn
          induction nn with
          | zero =>
            intro y vb2 ab2 hm bxb2 fpb2 hy hF11
            exact absurd hm (by omega)
          | succ nn ih2 =>
            intro y vb2 ab2 hm bxb2 fpb2 hy hF11
            refine m_iload_n (j := 0) C dX12_findCan_11 rfl ?_
            refine m_iconst C dX12_findCan_12 ?_
            refine m_icmp_ge (tgt := 145) C (r32_c (lo := 0) (hi := 4) hy.1 hy.2 (by decide) (by decide)) ⟨by decide, by decide⟩ dX12_findCan_13 (by decide) (fun c2 => ?_) (fun c2 => ?_)
            · refine m_iinc (z := x) (j := 1) (lv2 := [(1, .int (iI (x + (-1)))), (2, .int (iI y)), (0, .ref h0)]) C dX12_findCan_145 rfl (by decide) rfl ?_
              refine m_goto (tgt := 5) C dX12_findCan_148 (by decide) ?_
              refine m_lv (lv2 := [(1, .int (iI (x + (-1)))), (0, .ref h0)]) [0, 2] rfl ?_
              exact ih1  (x + (-1)) _ _ (by omega) bxb2 fpb2 (by omega) (hF11.up (by omega) (by omega))
            · refine m_iload_n (j := 0) C dX12_findCan_16 rfl ?_
              refine m_iconst C dX12_findCan_17 ?_
              obtain ⟨dq1, hdq1⟩ : ∃ q : Int, q = y / 2 := ⟨_, rfl⟩
              refine m_idiv (w := iI dq1) C dX12_findCan_18 (iI_ne0 ⟨by omega, by omega⟩) (by rw [hdq1]; exact iI_div ⟨by omega, by omega⟩ ⟨by omega, by omega⟩) ?_
              refine m_istore_n (lv2 := [(3, .int (iI dq1)), (2, .int (iI y)), (1, .int (iI x)), (0, .ref h0)]) C dX12_findCan_19 (by decide) rfl ?_
              refine m_iload_n (j := 1) C dX12_findCan_20 rfl ?_
              refine m_iconst C dX12_findCan_21 ?_
              obtain ⟨dq2, hdq2⟩ : ∃ q : Int, q = y % 2 := ⟨_, rfl⟩
              refine m_irem (w := iI dq2) C dX12_findCan_22 (iI_ne0 ⟨by omega, by omega⟩) (by rw [hdq2]; exact iI_mod ⟨by omega, by omega⟩ ⟨by omega, by omega⟩) ?_
              refine m_iconst C dX12_findCan_23 ?_
              have J1 : ∀ (g : Int) (vb3 : Nat → Int) (ab3 : Nat → Nat → Int), BX vb3 ab3 → fr [] [57] v a vb3 ab3 → ((g = 1 ∧ dq2 = 1) ∨ (g = 0 ∧ dq2 ≠ 1)) → (FC11 vb3 ab3 x y) → mw p l e (rmq 3 0 0) s m args below meth c G A 7 (MQ below (Qm G A (fun rq Lq Eq => ∃ (vq : Nat → Int) (aq : Nat → Nat → Int), mI G h0 ad ln vq aq Lq Eq ∧ (fun r v2 a2 => r = none ∧ fr [] [57] v a v2 a2 ∧ BX v2 a2 ∧ (FC5 v2 a2 (-1))) rq vq aq)) args s 0 0 A) h0 ad ln vb3 ab3 0 0 32 [(3, .int (iI dq1)), (2, .int (iI y)), (1, .int (iI x)), (0, .ref h0)] [.int (iI g)] := by
                intro g vb3 ab3 bxb3 fpb3 hg hF32
                refine m_istore (lv2 := [(4, .int (iI g)), (3, .int (iI dq1)), (2, .int (iI y)), (1, .int (iI x)), (0, .ref h0)]) C dX12_findCan_32 (by decide) rfl ?_
                refine m_iload_n (j := 3) C dX12_findCan_34 rfl ?_
                refine m_aload_n (j := 4) C dX12_findCan_35 rfl ?_
                refine hv2 (show 0 ≤ vb3 50 ∧ vb3 50 ≤ 40200 from bxb3.1 50) (show vb3 50 = v 50 from fpb3.1 50 rfl) (fun rv2 ve1 => ?_)
                refine m_get (k := 50) C dX12_findCan_36 w6_109 (by decide) rfl ?_
                refine m_st (st2 := [.int (iI (v 50)), .int (iI x)]) (congrArg (fun z => Value.int (iI z) :: [.int (iI x)]) (fpb3.1 50 rfl)) ?_
                have J2 : ∀ (g1 : Int) (vb4 : Nat → Int) (ab4 : Nat → Nat → Int), BX vb4 ab4 → fr [] [57] v a vb4 ab4 → (g1 = 0 ∨ g1 = 1) → (FC11 vb4 ab4 x y) → (FB70 vb4 ab4 x g g1) → mw p l e (rmq 3 0 0) s m args below meth c G A 7 (MQ below (Qm G A (fun rq Lq Eq => ∃ (vq : Nat → Int) (aq : Nat → Nat → Int), mI G h0 ad ln vq aq Lq Eq ∧ (fun r v2 a2 => r = none ∧ fr [] [57] v a v2 a2 ∧ BX v2 a2 ∧ (FC5 v2 a2 (-1))) rq vq aq)) args s 0 0 A) h0 ad ln vb4 ab4 0 0 70 [(4, .int (iI g)), (3, .int (iI dq1)), (2, .int (iI y)), (1, .int (iI x)), (0, .ref h0)] [.int (iI g1)] := by
                  intro g1 vb4 ab4 bxb4 fpb4 hg1 hF70 hB70
                  refine m_istore (lv2 := [(5, .int (iI g1)), (4, .int (iI g)), (3, .int (iI dq1)), (2, .int (iI y)), (1, .int (iI x)), (0, .ref h0)]) C dX12_findCan_70 (by decide) rfl ?_
                  refine m_sipush (z := 6008) C dX12_findCan_72 (by decide) ?_
                  refine m_iload_n (j := 2) C dX12_findCan_75 rfl ?_
                  refine m_imul C dX12_findCan_76 ?_
                  refine m_istore (lv2 := [(6, .int (iI (6008 * dq1))), (5, .int (iI g1)), (4, .int (iI g)), (3, .int (iI dq1)), (2, .int (iI y)), (1, .int (iI x)), (0, .ref h0)]) C dX12_findCan_77 (by decide) rfl ?_
                  have Lp3 : ∀ (nn : Nat) (g2 r : Int) (vb5 : Nat → Int) (ab5 : Nat → Nat → Int), 6008 * dq1 + 6009 - r < (nn : Int) → BX vb5 ab5 → fr [] [57] v a vb5 ab5 → (g2 = 0 ∨ g2 = 1) → (6008 * dq1 ≤ r ∧ r ≤ 6008 * dq1 + a 47 dq1.toNat) → (0 ≤ a 47 dq1.toNat ∧ a 47 dq1.toNat ≤ 6008) → (FC11 vb5 ab5 x y) → (FR79 vb5 ab5 x dq1 g g2 r) → mw p l e (rmq 3 0 0) s m args below meth c G A 7 (MQ below (Qm G A (fun rq Lq Eq => ∃ (vq : Nat → Int) (aq : Nat → Nat → Int), mI G h0 ad ln vq aq Lq Eq ∧ (fun r v2 a2 => r = none ∧ fr [] [57] v a v2 a2 ∧ BX v2 a2 ∧ (FC5 v2 a2 (-1))) rq vq aq)) args s 0 0 A) h0 ad ln vb5 ab5 0 0 79 [(6, .int (iI r)), (5, .int (iI g2)), (4, .int (iI g)), (3, .int (iI dq1)), (2, .int (iI y)), (1, .int (iI x)), (0, .ref h0)] [] := by
                    intro nn
                    induction nn with
                    | zero =>
                      intro g2 r vb5 ab5 hm bxb5 fpb5 hg2 hr hr47 hF79 hR79
                      exact absurd hm (by omega)
                    | succ nn ih3 =>
                      intro g2 r vb5 ab5 hm bxb5 fpb5 hg2 hr hr47 hF79 hR79
                      refine m_iload (j := 0) C dX12_findCan_79 rfl ?_
                      refine m_sipush (z := 6008) C dX12_findCan_81 (by decide) ?_
                      refine m_iload_n (j := 3) C dX12_findCan_84 rfl ?_
                      refine m_imul C dX12_findCan_85 ?_
                      refine m_aload_n (j := 6) C dX12_findCan_86 rfl ?_
                      refine m_geta (k := 47) C dX12_findCan_87 w6_106 (by decide) rfl ?_
                      refine m_iload_n (j := 3) C dX12_findCan_90 rfl ?_
                      refine m_ald (k := 47) C dX12_findCan_91 rfl rfl (by decide) (by omega) (by show _ < ((_ : Nat) : Int); simp only [mlen]; omega) (by decide) ?_
                      refine hv2 (show 0 ≤ ab5 47 dq1.toNat ∧ ab5 47 dq1.toNat ≤ 6008 from bxb5.2 47 (dq1.toNat)) (show ab5 47 (dq1.toNat) = a 47 (dq1.toNat) from congrFun (fpb5.2 47 rfl) (dq1.toNat)) (fun ra1 ae1 => ?_)
                      refine m_st (st2 := [.int (iI (a 47 dq1.toNat)), .int (iI (6008 * dq1)), .int (iI r)]) (congrArg (fun z => Value.int (iI z) :: [.int (iI (6008 * dq1)), .int (iI r)]) (congrFun (fpb5.2 47 rfl) (dq1.toNat))) ?_
                      refine m_iadd C dX12_findCan_92 ?_
                      refine m_icmp_ge (tgt := 127) C ⟨by omega, by omega⟩ ⟨by omega, by omega⟩ dX12_findCan_93 (by decide) (fun c3 => ?_) (fun c3 => ?_)
                      · refine m_aload_n (j := 6) C dX12_findCan_127 rfl ?_
                        refine m_geta (k := 57) C dX12_findCan_128 w6_116 (by decide) rfl ?_
                        refine m_iconst C dX12_findCan_131 ?_
                        refine m_iload_n (j := 5) C dX12_findCan_132 rfl ?_
                        refine m_imul C dX12_findCan_133 ?_
                        refine m_iload_n (j := 4) C dX12_findCan_134 rfl ?_
                        refine m_iadd C dX12_findCan_135 ?_
                        refine m_iload (j := 1) C dX12_findCan_136 rfl ?_
                        refine m_zast (k := 57) (w := g2) C dX12_findCan_138 rfl rfl (by decide) (by omega) (by show _ < ((_ : Nat) : Int); simp only [mlen]; omega) (by decide) (by omega) ?_
                        refine hv2 (show BX vb5 (up2 ab5 57 ((4 * x) + y).toNat g2) from bxb5.set (k := 57) (i := ((4 * x) + y).toNat) (z := g2) (show 0 ≤ g2 ∧ g2 ≤ 1 by omega)) (fpb5.set (k := 57) (i := ((4 * x) + y).toNat) (z := g2) rfl) (fun bq1 fq1 => ?_)
                        refine m_iinc (z := y) (j := 4) (lv2 := [(2, .int (iI (y + 1))), (6, .int (iI r)), (5, .int (iI g2)), (4, .int (iI g)), (3, .int (iI dq1)), (1, .int (iI x)), (0, .ref h0)]) C dX12_findCan_139 rfl (by decide) rfl ?_
                        refine m_goto (tgt := 11) C dX12_findCan_142 (by decide) ?_
                        refine hv2 (show 0 ≤ vb5 50 ∧ vb5 50 ≤ 40200 from bq1.1 50) (show vb5 50 = v 50 from fpb5.1 50 rfl) (fun rv3 ve2 => ?_)
                        refine m_lv (lv2 := [(2, .int (iI (y + 1))), (1, .int (iI x)), (0, .ref h0)]) [0, 5, 6] rfl ?_
                        exact ih2  (y + 1) _ _ (by omega) bq1 fq1 (by omega) (hF79.put hR79 (by omega) (by omega) (by omega) (by omega) (by omega) ⟨by omega, by omega⟩ rfl rfl (by unfold up2; rfl) (by omega) rfl rfl rfl rfl rfl rfl rfl rfl rfl)
                      · refine m_iload (j := 1) C dX12_findCan_96 rfl ?_
                        refine m_if_ne (tgt := 127) C (r32_01 hg2) dX12_findCan_98 (by decide) (fun c4 => ?_) (fun c4 => ?_)
                        · replace hg2 := (hg2.resolve_left c4)
                          refine m_aload_n (j := 6) C dX12_findCan_127 rfl ?_
                          refine m_geta (k := 57) C dX12_findCan_128 w6_116 (by decide) rfl ?_
                          refine m_iconst C dX12_findCan_131 ?_
                          refine m_iload_n (j := 5) C dX12_findCan_132 rfl ?_
                          refine m_imul C dX12_findCan_133 ?_
                          refine m_iload_n (j := 4) C dX12_findCan_134 rfl ?_
                          refine m_iadd C dX12_findCan_135 ?_
                          refine m_iload (j := 1) C dX12_findCan_136 rfl ?_
                          refine m_zast (k := 57) (w := g2) C dX12_findCan_138 rfl rfl (by decide) (by omega) (by show _ < ((_ : Nat) : Int); simp only [mlen]; omega) (by decide) (by omega) ?_
                          refine hv2 (show BX vb5 (up2 ab5 57 ((4 * x) + y).toNat g2) from bxb5.set (k := 57) (i := ((4 * x) + y).toNat) (z := g2) (show 0 ≤ g2 ∧ g2 ≤ 1 by omega)) (fpb5.set (k := 57) (i := ((4 * x) + y).toNat) (z := g2) rfl) (fun bq2 fq2 => ?_)
                          refine m_iinc (z := y) (j := 4) (lv2 := [(2, .int (iI (y + 1))), (6, .int (iI r)), (5, .int (iI g2)), (4, .int (iI g)), (3, .int (iI dq1)), (1, .int (iI x)), (0, .ref h0)]) C dX12_findCan_139 rfl (by decide) rfl ?_
                          refine m_goto (tgt := 11) C dX12_findCan_142 (by decide) ?_
                          refine hv2 (show 0 ≤ vb5 50 ∧ vb5 50 ≤ 40200 from bq2.1 50) (show vb5 50 = v 50 from fpb5.1 50 rfl) (fun rv4 ve3 => ?_)
                          refine m_lv (lv2 := [(2, .int (iI (y + 1))), (1, .int (iI x)), (0, .ref h0)]) [0, 5, 6] rfl ?_
                          exact ih2  (y + 1) _ _ (by omega) bq2 fq2 (by omega) (hF79.put hR79 (by omega) (by omega) (by omega) (by omega) (by omega) ⟨by omega, by omega⟩ rfl rfl (by unfold up2; rfl) (by omega) rfl rfl rfl rfl rfl rfl rfl rfl rfl)
                        · clear hg2
                          refine m_iload_n (j := 5) C dX12_findCan_101 rfl ?_
                          refine m_aload_n (j := 6) C dX12_findCan_102 rfl ?_
                          refine hv2 (show 0 ≤ vb5 50 ∧ vb5 50 ≤ 40200 from bxb5.1 50) (show vb5 50 = v 50 from fpb5.1 50 rfl) (fun rv5 ve4 => ?_)
                          refine m_get (k := 50) C dX12_findCan_103 w6_109 (by decide) rfl ?_
                          refine m_st (st2 := [.int (iI (v 50)), .int (iI x)]) (congrArg (fun z => Value.int (iI z) :: [.int (iI x)]) (fpb5.1 50 rfl)) ?_
                          refine m_icmp_ge (tgt := 127) C ⟨by omega, by omega⟩ (r32_c (lo := 0) (hi := 40200) rv1.1 rv1.2 (by decide) (by decide)) dX12_findCan_106 (by decide) (fun c5 => ?_) (fun c5 => ?_)
                          · refine m_aload_n (j := 6) C dX12_findCan_127 rfl ?_
                            refine m_geta (k := 57) C dX12_findCan_128 w6_116 (by decide) rfl ?_
                            refine m_iconst C dX12_findCan_131 ?_
                            refine m_iload_n (j := 5) C dX12_findCan_132 rfl ?_
                            refine m_imul C dX12_findCan_133 ?_
                            refine m_iload_n (j := 4) C dX12_findCan_134 rfl ?_
                            refine m_iadd C dX12_findCan_135 ?_
                            refine m_iload (j := 1) C dX12_findCan_136 rfl ?_
                            refine m_zast (k := 57) (w := g2) C dX12_findCan_138 rfl rfl (by decide) (by omega) (by show _ < ((_ : Nat) : Int); simp only [mlen]; omega) (by decide) (by omega) ?_
                            refine hv2 (show BX vb5 (up2 ab5 57 ((4 * x) + y).toNat g2) from bxb5.set (k := 57) (i := ((4 * x) + y).toNat) (z := g2) (show 0 ≤ g2 ∧ g2 ≤ 1 by omega)) (fpb5.set (k := 57) (i := ((4 * x) + y).toNat) (z := g2) rfl) (fun bq3 fq3 => ?_)
                            refine m_iinc (z := y) (j := 4) (lv2 := [(2, .int (iI (y + 1))), (6, .int (iI r)), (5, .int (iI g2)), (4, .int (iI g)), (3, .int (iI dq1)), (1, .int (iI x)), (0, .ref h0)]) C dX12_findCan_139 rfl (by decide) rfl ?_
                            refine m_goto (tgt := 11) C dX12_findCan_142 (by decide) ?_
                            refine m_lv (lv2 := [(2, .int (iI (y + 1))), (1, .int (iI x)), (0, .ref h0)]) [0, 5, 6] rfl ?_
                            exact ih2  (y + 1) _ _ (by omega) bq3 fq3 (by omega) (hF79.put hR79 (by omega) (by omega) (by omega) (by omega) (by omega) ⟨by omega, by omega⟩ rfl rfl (by unfold up2; rfl) (by omega) rfl rfl rfl rfl rfl rfl rfl rfl rfl)
                          · refine m_aload_n (j := 6) C dX12_findCan_109 rfl ?_
                            refine m_iload (j := 0) C dX12_findCan_110 rfl ?_
                            refine m_iload_n (j := 5) C dX12_findCan_112 rfl ?_
                            refine m_iload_n (j := 3) C dX12_findCan_113 rfl ?_
                            refine m_iload (j := 2) C dX12_findCan_114 rfl ?_
                            refine hv7 (show RowOK a r from (hW (dq1) (by omega)).2 r (by omega) (by omega)) (show (-4) ≤ ab5 44 r.toNat ∧ ab5 44 r.toNat ≤ 5999 from bxb5.2 44 (r.toNat)) (show ab5 44 (r.toNat) = a 44 (r.toNat) from congrFun (fpb5.2 44 rfl) (r.toNat)) (show 0 ≤ ab5 45 r.toNat ∧ ab5 45 r.toNat ≤ 23999 from bxb5.2 45 (r.toNat)) (show ab5 45 (r.toNat) = a 45 (r.toNat) from congrFun (fpb5.2 45 rfl) (r.toNat)) (show 0 ≤ ab5 46 r.toNat ∧ ab5 46 r.toNat ≤ 4 from bxb5.2 46 (r.toNat)) (show ab5 46 (r.toNat) = a 46 (r.toNat) from congrFun (fpb5.2 46 rfl) (r.toNat)) (fun ro ra2 ae2 ra3 ae3 ra4 ae4 => ?_)
                            refine hv4 (ro.1) (ro.2.1) (ro.2.2.1) (ro.2.2.2) (fun ro1 ro2 ro3 ro4 => ?_)
                            refine m_call (mc2 := 0) (ms2 := 0) (As := [.int (iI r), .int (iI x), .int (iI dq1), .int (iI g)]) (rest := []) C (E_may (r1 := r) (x := x) (pt := dq1) (g := g) bxb5 (by omega) (by show -4 ≤ ab5 44 r.toNat ∧ ab5 44 r.toNat < 6000; omega) (by show 1 ≤ ab5 46 r.toNat ∧ ab5 46 r.toNat ≤ 4; omega) (by show 0 ≤ ab5 45 r.toNat ∧ (0 ≤ ab5 44 r.toNat → ab5 45 r.toNat + ab5 46 r.toNat ≤ 24000) ∧ (ab5 44 r.toNat < 0 → ab5 45 r.toNat + ab5 46 r.toNat ≤ 480); omega) (by omega) (by show (vb5 50) ≤ 100; omega) (by omega) (by omega)) dX12_findCan_116 kV_X12_378 rfl ck_13 rfl (Nat.le_of_ble_eq_true rfl) ⟨Nat.le_of_ble_eq_true rfl, Nat.le_of_ble_eq_true rfl⟩ ⟨Nat.le_of_ble_eq_true rfl, Nat.le_of_ble_eq_true rfl⟩ (fun rh1 vh1 ah1 h1 => ?_)
                            obtain ⟨f1, rfl, fn1, _, ef1, my1⟩ := h1
                            obtain ⟨rfl, rfl⟩ := fn1.eq
                            have gf1 : f1 = 0 ∨ (f1 = 1 ∧ x + ab5 46 r.toNat ≤ (vb5 50)) := ef1
                            refine m_st (st2 := [.int (iI f1)]) rfl ?_
                            refine m_istore (lv2 := [(5, .int (iI f1)), (6, .int (iI r)), (4, .int (iI g)), (3, .int (iI dq1)), (2, .int (iI y)), (1, .int (iI x)), (0, .ref h0)]) C dX12_findCan_119 (by decide) rfl ?_
                            refine m_iinc (z := r) (j := 1) (lv2 := [(6, .int (iI (r + 1))), (5, .int (iI f1)), (4, .int (iI g)), (3, .int (iI dq1)), (2, .int (iI y)), (1, .int (iI x)), (0, .ref h0)]) C dX12_findCan_121 rfl (by decide) rfl ?_
                            refine m_goto (tgt := 79) C dX12_findCan_124 (by decide) ?_
                            refine m_lv (lv2 := [(6, .int (iI (r + 1))), (5, .int (iI f1)), (4, .int (iI g)), (3, .int (iI dq1)), (2, .int (iI y)), (1, .int (iI x)), (0, .ref h0)]) [0, 1, 2, 3, 4, 5, 6] rfl ?_
                            exact ih3  f1 (r + 1) _ _ (by omega) bxb5 fpb5 (by omega) (by omega) (by omega) hF79 (hR79.step my1 (by omega) (by omega) ⟨by omega, by omega⟩ ⟨by omega, by omega⟩ (by omega))
                  refine m_lv (lv2 := [(6, .int (iI (6008 * dq1))), (5, .int (iI g1)), (4, .int (iI g)), (3, .int (iI dq1)), (2, .int (iI y)), (1, .int (iI x)), (0, .ref h0)]) [0, 1, 2, 3, 4, 5, 6] rfl ?_
                  exact Lp3 6010 g1 (6008 * dq1) _ _ (by omega) bxb4 fpb4 (by omega) (by have q : 0 ≤ a 47 dq1.toNat ∧ a 47 dq1.toNat ≤ 6008 := hB.2 47 _; omega) (by have q : 0 ≤ a 47 dq1.toNat ∧ a 47 dq1.toNat ≤ 6008 := hB.2 47 _; omega) hF70 (hB70.go (by omega) (by omega))
                refine m_icmp_ne (tgt := 47) C ⟨by omega, by omega⟩ (r32_c (lo := 0) (hi := 40200) rv1.1 rv1.2 (by decide) (by decide)) dX12_findCan_39 (by decide) (fun c6 => ?_) (fun c6 => ?_)
                · refine m_iload_n (j := 3) C dX12_findCan_47 rfl ?_
                  refine m_aload_n (j := 4) C dX12_findCan_48 rfl ?_
                  refine m_get (k := 50) C dX12_findCan_49 w6_109 (by decide) rfl ?_
                  refine m_st (st2 := [.int (iI (v 50)), .int (iI x)]) (congrArg (fun z => Value.int (iI z) :: [.int (iI x)]) (fpb3.1 50 rfl)) ?_
                  refine m_icmp_ge (tgt := 69) C ⟨by omega, by omega⟩ (r32_c (lo := 0) (hi := 40200) rv1.1 rv1.2 (by decide) (by decide)) dX12_findCan_52 (by decide) (fun c7 => ?_) (fun c7 => ?_)
                  · refine m_iconst C dX12_findCan_69 ?_
                    refine m_lv (lv2 := [(4, .int (iI g)), (3, .int (iI dq1)), (2, .int (iI y)), (1, .int (iI x)), (0, .ref h0)]) [0, 1, 2, 3, 4] rfl ?_
                    exact J2  0 _ _  bxb3 fpb3 (by omega) hF32 (FB70.end0 (by omega) (by omega) rfl)
                  · refine m_aload_n (j := 4) C dX12_findCan_55 rfl ?_
                    refine m_iload_n (j := 3) C dX12_findCan_56 rfl ?_
                    refine m_iload (j := 0) C dX12_findCan_57 rfl ?_
                    refine m_call (mc2 := 0) (ms2 := 0) (As := [.int (iI x), .int (iI g)]) (rest := []) C (E_mayBlank (x := x) (g := g) bxb3 (by show 0 ≤ x ∧ x < (vb3 50); omega) (by show (vb3 50) ≤ 100; omega) (by omega)) dX12_findCan_59 kV_X12_374 rfl ck_13 rfl (Nat.le_of_ble_eq_true rfl) ⟨Nat.le_of_ble_eq_true rfl, Nat.le_of_ble_eq_true rfl⟩ ⟨Nat.le_of_ble_eq_true rfl, Nat.le_of_ble_eq_true rfl⟩ (fun rh2 vh2 ah2 h2 => ?_)
                    obtain ⟨f2, rfl, fn2, _, ef2, mb1⟩ := h2
                    obtain ⟨rfl, rfl⟩ := fn2.eq
                    have gf2 : f2 = 0 ∨ f2 = 1 := ef2
                    refine m_st (st2 := [.int (iI f2)]) rfl ?_
                    refine m_if_eq (tgt := 69) C (r32_01 gf2) dX12_findCan_62 (by decide) (fun c8 => ?_) (fun c8 => ?_)
                    · clear gf2
                      refine m_iconst C dX12_findCan_69 ?_
                      refine m_lv (lv2 := [(4, .int (iI g)), (3, .int (iI dq1)), (2, .int (iI y)), (1, .int (iI x)), (0, .ref h0)]) [0, 1, 2, 3, 4] rfl ?_
                      exact J2  0 _ _  bxb3 fpb3 (by omega) hF32 (FB70.bl mb1 ⟨by omega, by omega⟩ (by omega))
                    · replace gf2 := (gf2.resolve_left c8)
                      refine m_iconst C dX12_findCan_65 ?_
                      refine m_goto (tgt := 70) C dX12_findCan_66 (by decide) ?_
                      refine m_lv (lv2 := [(4, .int (iI g)), (3, .int (iI dq1)), (2, .int (iI y)), (1, .int (iI x)), (0, .ref h0)]) [0, 1, 2, 3, 4] rfl ?_
                      exact J2  1 _ _  bxb3 fpb3 (by omega) hF32 (FB70.bl mb1 ⟨by omega, by omega⟩ (by omega))
                · refine m_iload (j := 0) C dX12_findCan_42 rfl ?_
                  refine m_if_eq (tgt := 65) C ⟨by omega, by omega⟩ dX12_findCan_44 (by decide) (fun c9 => ?_) (fun c9 => ?_)
                  · replace hg := (hg.resolve_left (fun q => absurd (q.1.symm.trans c9) (by decide)))
                    refine m_iconst C dX12_findCan_65 ?_
                    refine m_goto (tgt := 70) C dX12_findCan_66 (by decide) ?_
                    refine m_lv (lv2 := [(4, .int (iI g)), (3, .int (iI dq1)), (2, .int (iI y)), (1, .int (iI x)), (0, .ref h0)]) [0, 1, 2, 3, 4] rfl ?_
                    exact J2  1 _ _  bxb3 fpb3 (by omega) hF32 (FB70.end1 (by omega) (by omega) rfl)
                  · replace hg := (hg.resolve_right (fun q => c9 q.1))
                    refine m_iload_n (j := 3) C dX12_findCan_47 rfl ?_
                    refine m_aload_n (j := 4) C dX12_findCan_48 rfl ?_
                    refine m_get (k := 50) C dX12_findCan_49 w6_109 (by decide) rfl ?_
                    refine m_st (st2 := [.int (iI (v 50)), .int (iI x)]) (congrArg (fun z => Value.int (iI z) :: [.int (iI x)]) (fpb3.1 50 rfl)) ?_
                    refine m_icmp_ge (tgt := 69) C ⟨by omega, by omega⟩ (r32_c (lo := 0) (hi := 40200) rv1.1 rv1.2 (by decide) (by decide)) dX12_findCan_52 (by decide) (fun _ => ?_) (fun z => absurd z (by omega))
                    refine m_iconst C dX12_findCan_69 ?_
                    refine m_lv (lv2 := [(4, .int (iI g)), (3, .int (iI dq1)), (2, .int (iI y)), (1, .int (iI x)), (0, .ref h0)]) [0, 1, 2, 3, 4] rfl ?_
                    exact J2  0 _ _  bxb3 fpb3 (by omega) hF32 (FB70.end0 (by omega) (by omega) rfl)
              refine m_icmp_ne (tgt := 31) C ⟨by omega, by omega⟩ ⟨by decide, by decide⟩ dX12_findCan_24 (by decide) (fun c10 => ?_) (fun c10 => ?_)
              · refine m_iconst C dX12_findCan_31 ?_
                refine m_lv (lv2 := [(3, .int (iI dq1)), (2, .int (iI y)), (1, .int (iI x)), (0, .ref h0)]) [0, 1, 2, 3] rfl ?_
                exact J1  0 _ _  bxb2 fpb2 (by omega) hF11
              · refine m_iconst C dX12_findCan_27 ?_
                refine m_goto (tgt := 32) C dX12_findCan_28 (by decide) ?_
                refine m_lv (lv2 := [(3, .int (iI dq1)), (2, .int (iI y)), (1, .int (iI x)), (0, .ref h0)]) [0, 1, 2, 3] rfl ?_
                exact J1  1 _ _  bxb2 fpb2 (by omega) hF11
        refine m_lv (lv2 := [(2, .int (iI 0)), (1, .int (iI x)), (0, .ref h0)]) [0, 1, 2] rfl ?_
        exact Lp2 6 0 _ _ (by omega) bxb1 fpb1 (by omega) hF5.row
  refine m_lv (lv2 := [(1, .int (iI (v 50))), (0, .ref h0)]) [0, 1] rfl ?_
  exact Lp1 102 (v 50) _ _ (by omega) hB fp0 (by omega) (FC5.init (by omega))
end
