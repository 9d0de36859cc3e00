section
def LSA (v : Nat → Int) (a : Nat → Nat → Int) (v2 : Nat → Int) (a2 : Nat → Nat → Int) (l f : Int) : Prop := ∀ E, SHA v a E → ∃ E2, LOSX E l f E2 ∧ SHA v2 a2 E2
def CTA (v : Nat → Int) (a : Nat → Nat → Int) (v2 : Nat → Int) (a2 : Nat → Nat → Int) (l n f : Int) : Prop := ∀ E, SHA v a E → ∃ E2, CUTX E l n f E2 ∧ SHA v2 a2 E2
def CT1 (a : Nat → Nat → Int) (a1 : Nat → Nat → Int) (l k : Int) : Prop := a1 34 = a 34 ∧ ∀ j : Nat, a1 35 j = if 200 * l + a 34 l.toNat ≤ ((j : Nat) : Int) ∧ ((j : Nat) : Int) < 200 * l + k then 0 else a 35 j
def CRA (v : Nat → Int) (a : Nat → Nat → Int) (v2 : Nat → Int) (a2 : Nat → Nat → Int) (q w u x n f : Int) : Prop := ∀ E, SHA v a E → ∃ E2, CPRX E q w u x n f E2 ∧ SHA v2 a2 E2
def CR1 (a : Nat → Nat → Int) (a1 : Nat → Nat → Int) (p t n g k : Int) : Prop := a1 34 = a 34 ∧ ∀ j : Nat, a1 35 j = if (g = 0 ∧ t ≤ ((j : Nat) : Int) ∧ ((j : Nat) : Int) < t + k) ∨ (g ≠ 0 ∧ t + (n - k) ≤ ((j : Nat) : Int) ∧ ((j : Nat) : Int) < t + n) then a 35 (((j : Nat) : Int) - t + p).toNat else a 35 j
def KSA (v : Nat → Int) (a : Nat → Nat → Int) (v2 : Nat → Int) (a2 : Nat → Nat → Int) : Prop := v2 36 = v 36 ∧ a2 34 = a 34 ∧ a2 35 = a 35
section RSHT
variable {v v1 v2 : Nat → Int} {a a1 a2 a3 : Nat → Nat → Int} {E E2 : List (Option (List Int))} {l i n q u w x f k z p t g : Int} {m m2 : Nat} {y : Option (List Int)} {xs ys : List Int}
theorem SHA.cg (h : SHA v a E) (hk : KSA v a v2 a2) : SHA v2 a2 E := by
  obtain ⟨k1, k2, k3⟩ := hk
  refine ⟨k1.trans h.1, fun l x e => ?_⟩
  unfold RWA
  rw [k2, k3]
  exact h.2 l x e
theorem SHA.set (h : SHA v a E) (hb : ∀ j, a 34 j ≤ 200) (h0 : 0 ≤ l ∧ l < v 36) (h36 : v2 36 = v 36) (hr : RWA a2 l.toNat y) (ho : ∀ j : Nat, j ≠ l.toNat → a2 34 j = a 34 j ∧ ∀ o : Nat, o < 200 → a2 35 (200 * j + o) = a 35 (200 * j + o)) : SHA v2 a2 (E.set l.toNat y) := by
  obtain ⟨h1, h2⟩ := h
  refine ⟨by rw [List.length_set]; omega, fun j x e => ?_⟩
  rw [List.getElem?_set] at e
  by_cases c : l.toNat = j
  · rw [if_pos c] at e
    split at e
    · cases e
      rw [← c]
      exact hr
    · cases e
  · rw [if_neg c] at e
    obtain ⟨o1, o2⟩ := ho j (fun e2 => c e2.symm)
    rcases h2 j x e with ⟨d1, d2⟩ | ⟨xs, d1, d2, d3⟩
    · exact Or.inl ⟨d1, by omega⟩
    · refine Or.inr ⟨xs, d1, by omega, fun o z ez => ?_⟩
      refine hv2 (gl3 ez) (hb j) (fun lt b => ?_)
      rw [o2 o (by omega)]
      exact d3 o z ez
theorem SHA.fault (h : SHA v a E) (hl : ¬ (0 ≤ l ∧ l < v 36) ∨ ((0 ≤ l ∧ l < v 36) ∧ a 34 l.toNat < 0)) : ¬ ∃ xs, rwe E l = some (some xs) := fun e => by
  obtain ⟨xs, e⟩ := e
  rcases hl with c | ⟨c1, c2⟩
  · rw [h.off c] at e
    cases e
  · rw [h.lack c1.1 c1.2 c2] at e
    cases e
theorem LSA.bad (hl : ¬ (0 ≤ l ∧ l < v 36)) (hf : f = -1) (hk : KSA v a v2 a2) : LSA v a v2 a2 l f := fun E h => ⟨E, Or.inr ⟨h.off hl, rfl, hf⟩, h.cg hk⟩
theorem LSA.ok (hb : ∀ j, a 34 j ≤ 200) (h0 : 0 ≤ l ∧ l < v 36) (hf : f = 1) (h36 : v2 36 = v 36) (h34 : a2 34 = up2 a 34 l.toNat (-1) 34) (h35 : a2 35 = up2 a 34 l.toNat (-1) 35) : LSA v a v2 a2 l f := fun E h => by
  obtain ⟨y, y1, _⟩ := h.on h0.1 h0.2
  refine ⟨_, Or.inl ⟨⟨y, y1⟩, rfl, hf⟩, h.set hb h0 h36 (Or.inl ⟨rfl, ?_⟩) (fun j hj => ⟨?_, fun o _ => ?_⟩)⟩
  · rw [h34, up2_s]
    decide
  · rw [h34, up2_j hj]
  · rw [h35, up2_k (by decide)]
theorem CT1.zero (hk : k = a 34 l.toNat) : CT1 a a l k := ⟨rfl, fun j => by rw [if_neg (by omega)]⟩
theorem CT1.step (h : CT1 a a1 l k) (hk : a 34 l.toNat ≤ k ∧ 0 ≤ 200 * l + k) (hm : m = (200 * l + k).toNat) : CT1 a (up2 a1 35 m 0) l (k + 1) := by
  obtain ⟨h1, h2⟩ := h
  refine ⟨by rw [← h1]; funext j; exact up2_k (by decide), fun j => ?_⟩
  by_cases c : j = m
  · rw [c, up2_s, if_pos (by omega)]
  · rw [up2_j c, h2 j]
    by_cases c2 : 200 * l + a 34 l.toNat ≤ ((j : Nat) : Int) ∧ ((j : Nat) : Int) < 200 * l + k
    · rw [if_pos c2, if_pos (by omega)]
    · rw [if_neg c2, if_neg (by omega)]
theorem CTA.bad (hl : (n < 0 ∨ 200 < n) ∨ (¬ (0 ≤ l ∧ l < v 36) ∨ ((0 ≤ l ∧ l < v 36) ∧ a 34 l.toNat < 0))) (hf : f = -1) (hk : KSA v a v2 a2) : CTA v a v2 a2 l n f := fun E h => by
  refine ⟨E, Or.inr ⟨fun ⟨c, xs, e⟩ => ?_, rfl, hf⟩, h.cg hk⟩
  rcases hl with c2 | c2
  · omega
  · exact h.fault c2 ⟨xs, e⟩
theorem CTA.ok (hb : ∀ j, a 34 j ≤ 200) (h0 : 0 ≤ l ∧ l < v 36) (hn : 0 ≤ n ∧ n ≤ 200) (hp : 0 ≤ a 34 l.toNat) (hc : CT1 a a1 l k) (hk : (k = a 34 l.toNat ∨ k ≤ n) ∧ n ≤ k) (hf : f = n) (h36 : v2 36 = v 36) (h34 : a2 34 = up2 a1 34 l.toNat n 34) (h35 : a2 35 = up2 a1 34 l.toNat n 35) : CTA v a v2 a2 l n f := fun E h => by
  obtain ⟨xs, e1, e2, e3⟩ := h.have_ h0.1 h0.2 hp
  obtain ⟨c1, c2⟩ := hc
  have b := hb l.toNat
  refine ⟨_, Or.inl ⟨hn, xs, e1, rfl, hf⟩, h.set hb h0 h36 (Or.inr ⟨_, rfl, ?_, fun j y ey => ?_⟩) (fun j hj => ⟨?_, fun o ho => ?_⟩)⟩
  · rw [h34, up2_s, mpr_len]
    omega
  · obtain ⟨m1, m2⟩ := mpr_at ey
    rw [h35, up2_k (by decide), c2, m2]
    by_cases c : j < xs.length
    · rw [if_neg (by omega)]
      exact e3 j c
    · rw [if_pos (by omega), gd0_out (by omega)]
  · rw [h34, up2_j hj, c1]
  · rw [h35, up2_k (by decide), c2, if_neg (by omega)]
theorem CR1.zero (hk : k = 0) (h34 : a1 34 = a 34 ∧ a1 35 = a 35) : CR1 a a1 p t n g k := ⟨h34.1, fun j => by rw [if_neg (by omega), h34.2]⟩
theorem CR1.step (h : CR1 a a1 p t n g k) (hg : (g = 0 ∧ z = k) ∨ (g = 1 ∧ z = n - 1 - k)) (hk : 0 ≤ k ∧ k < n) (hp : 0 ≤ p ∧ 0 ≤ t) (ho : (g = 1 ∧ p < t) ∨ (g = 0 ∧ (t ≤ p ∨ t + n ≤ p ∨ p + n ≤ t))) (hm : m = (t + z).toNat) (hm2 : m2 = (p + z).toNat) : CR1 a (up2 a1 35 m (a1 35 m2)) p t n g (k + 1) := by
  obtain ⟨h1, h2⟩ := h
  refine ⟨by rw [← h1]; funext j; exact up2_k (by decide), fun j => ?_⟩
  by_cases c : j = m
  · rw [c, up2_s, if_pos (by omega), h2 m2, if_neg (by omega), show ((m : Nat) : Int) - t + p = ((m2 : Nat) : Int) by omega, Int.toNat_natCast]
  · rw [up2_j c, h2 j]
    by_cases c2 : (g = 0 ∧ t ≤ ((j : Nat) : Int) ∧ ((j : Nat) : Int) < t + k) ∨ (g ≠ 0 ∧ t + (n - k) ≤ ((j : Nat) : Int) ∧ ((j : Nat) : Int) < t + n)
    · rw [if_pos c2, if_pos (by omega)]
    · rw [if_neg c2, if_neg (by omega)]
theorem CRA.bad (hf : f = -1) (hk : KSA v a v2 a2) (hn : ¬ (((0 ≤ q ∧ q < v 36) ∧ 0 ≤ a 34 q.toNat) ∧ ((0 ≤ u ∧ u < v 36) ∧ 0 ≤ a 34 u.toNat) ∧ 0 ≤ n ∧ 0 ≤ w ∧ 0 ≤ x ∧ w + n ≤ a 34 q.toNat ∧ x + n ≤ a 34 u.toNat)) : CRA v a v2 a2 q w u x n f := fun E h => by
  refine ⟨E, Or.inr ⟨fun ⟨xs, ys, e1, e2, e3, e4, e5, e6, e7⟩ => hn ?_, rfl, hf⟩, h.cg hk⟩
  have k : ∀ l zs, rwe E l = some (some zs) → (0 ≤ l ∧ l < v 36) ∧ a 34 l.toNat = ((zs.length : Nat) : Int) := fun l zs e => by
    obtain ⟨r1, r2, r3⟩ := rwl_lt e
    refine ⟨⟨r1, by have q := h.1; omega⟩, ?_⟩
    rcases h.2 _ _ r3 with ⟨d, _⟩ | ⟨ws, d1, d2, _⟩
    · cases d
    · cases d1
      exact d2
  obtain ⟨a1, a2⟩ := k q xs e1
  obtain ⟨b1, b2⟩ := k u ys e2
  exact ⟨⟨a1, by omega⟩, ⟨b1, by omega⟩, e3, e4, e5, by omega, by omega⟩
theorem CRA.ok (hb : ∀ j, a 34 j ≤ 200) (hq : (0 ≤ q ∧ q < v 36) ∧ 0 ≤ a 34 q.toNat) (hu : (0 ≤ u ∧ u < v 36) ∧ 0 ≤ a 34 u.toNat) (hn : 0 ≤ n) (hw : 0 ≤ w) (hx : 0 ≤ x) (h1 : w + n ≤ a 34 q.toNat) (h2 : x + n ≤ a 34 u.toNat) (hc : CR1 a a1 (200 * q + w) (200 * u + x) n g k) (hk : k = n) (hf : f = n) (h36 : v2 36 = v 36) (h34 : a2 34 = a1 34) (h35 : a2 35 = a1 35) : CRA v a v2 a2 q w u x n f := fun E h => by
  obtain ⟨xs, e1, e2, e3⟩ := h.have_ hq.1.1 hq.1.2 hq.2
  obtain ⟨ys, d1, d2, d3⟩ := h.have_ hu.1.1 hu.1.2 hu.2
  obtain ⟨c1, c2⟩ := hc
  refine hv2 (hb u.toNat) (hb q.toNat) (fun b b3 => ?_)
  refine ⟨_, Or.inl ⟨xs, ys, ⟨e1, d1, hn, hw, hx, by omega, by omega⟩, rfl, hf⟩, h.set hb hu.1 h36 (Or.inr ⟨_, rfl, ?_, fun j y ey => ?_⟩) (fun j hj => ⟨?_, fun o ho => ?_⟩)⟩
  · unfold cpx
    rw [h34, c1, mpr_len]
    exact d2
  · unfold cpx at ey
    obtain ⟨m1, m2⟩ := mpr_at ey
    rw [h35, c2, m2]
    by_cases c : x.toNat ≤ j ∧ j < x.toNat + n.toNat
    · rw [if_pos (by omega), if_pos c, ← e3 _ (by omega)]
      congr 1
      omega
    · rw [if_neg (by omega), if_neg c]
      exact d3 j m1
  · rw [h34, c1]
  · rw [h35, c2, if_neg (by omega)]
end RSHT
set_option maxHeartbeats 4000000 in
set_option maxRecDepth 100000 in
theorem N2_lose {l : Launch} {G : GT} {h0 : Nat} {ad ln : Nat → Nat} {v : Nat → Int} {a : Nat → Nat → Int}  {l0 : Int} (hB : BX v a) (hl0 : -2147483648 ≤ l0 ∧ l0 ≤ 2147483647) : Mm l G yX12_lose cX12_lose 2 (some .int) 2 [.int (iI l0)] h0 ad ln v a 0 0 (fun r v2 a2 => ∃ f : Int, r = some (.int (iI f)) ∧ fr [0, 1] [34] v a v2 a2 ∧ BX v2 a2 ∧ (LSA v a v2 a2 l0 f)) := by
  refine Mm.mk (by decide) (Nat.le_of_ble_eq_true rfl) ?_
  intro p e s m args below meth c A C
  have fp0 : fr [0, 1] [34] v a v a := fr.refl
  refine m_iload_n (j := 1) C dX12_lose_0 rfl ?_
  refine m_iconst C dX12_lose_1 ?_
  refine m_aload_n (j := 0) C dX12_lose_2 rfl ?_
  have rv1 : 0 ≤ v 36 ∧ v 36 ≤ 200 := hB.1 36
  refine m_get (k := 36) C dX12_lose_3 w6_95 (by decide) rfl ?_
  refine m_iconst C dX12_lose_6 ?_
  refine m_isub C dX12_lose_7 ?_
  refine m_callS (As := [.int (iI l0), .int (iI 0), .int (iI ((v 36) - 1))]) (rest := []) C (fun L E => s_isIn (iI l0) (iI 0) (iI ((v 36) - 1))) dX12_lose_8 kS_X12_174 rfl rfl (Nat.le_of_ble_eq_true rfl) ⟨Nat.le_of_ble_eq_true rfl, Nat.le_of_ble_eq_true rfl⟩ ⟨Nat.le_of_ble_eq_true rfl, Nat.le_of_ble_eq_true rfl⟩ ?_
  rcases inn_c (x := l0) (lo := 0) (hi := (v 36) - 1) ⟨by omega, by omega⟩ ⟨by decide, by decide⟩ ⟨by omega, by omega⟩ with ⟨h1a, h1b, h1e⟩ | ⟨h1a, h1e⟩
  · refine m_st (st2 := [.int (iI 1)]) (by rw [h1e]) ?_
    refine m_if_ne (tgt := 20) C ⟨by decide, by decide⟩ dX12_lose_11 (by decide) (fun _ => ?_) (fun z => absurd z (by omega))
    refine m_aload_n (j := 0) C dX12_lose_20 rfl ?_
    refine m_geta (k := 34) C dX12_lose_21 w6_93 (by decide) rfl ?_
    refine m_iload_n (j := 1) C dX12_lose_24 rfl ?_
    refine m_iconst C dX12_lose_25 ?_
    refine m_ast (k := 34) C dX12_lose_26 rfl rfl (by decide) (by omega) (by show _ < ((_ : Nat) : Int); simp only [mlen]; omega) (by decide) ?_
    refine hv2 (show BX v (up2 a 34 l0.toNat (-1)) from hB.set (k := 34) (i := l0.toNat) (z := (-1)) ⟨by decide, by decide⟩) (fp0.set (k := 34) (i := l0.toNat) (z := (-1)) rfl) (fun bq1 fq1 => ?_)
    refine m_aload_n (j := 0) C dX12_lose_27 rfl ?_
    refine m_iconst C dX12_lose_28 ?_
    refine m_call (mc2 := 0) (ms2 := 0) (As := [.int (iI 1)]) (rest := []) C (B_fine (x := 1) bq1 (by show -2147483648 ≤ (1 : Int) ∧ (1 : Int) ≤ 2147483647; omega)) dX12_lose_29 kV_X12_158 rfl ck_13 rfl (Nat.le_of_ble_eq_true rfl) ⟨Nat.le_of_ble_eq_true rfl, Nat.le_of_ble_eq_true rfl⟩ ⟨Nat.le_of_ble_eq_true rfl, Nat.le_of_ble_eq_true rfl⟩ (fun rh2 vh2 ah2 h2 => ?_)
    obtain ⟨f1, rfl, fn1, bn1, ex1⟩ := h2
    refine hv2 (fq1.call fn1 rfl rfl) (show f1 = (1 : Int) from ex1) (fun fq2 gf1 => ?_)
    refine m_st (st2 := [.int (iI f1)]) rfl ?_
    exact m_iret C dX12_lose_32 rfl (Nat.le_of_ble_eq_true rfl) (Nat.le_of_ble_eq_true rfl) ⟨f1, rfl, fq2, bn1, (LSA.ok (fun j => (hB.2 34 j).2) ⟨by omega, by omega⟩ (by omega) (fn1.1 36 rfl) (fn1.2 34 rfl) (fn1.2 35 rfl))⟩
  · refine m_st (st2 := [.int (iI 0)]) (by rw [h1e]) ?_
    refine m_if_ne (tgt := 20) C ⟨by decide, by decide⟩ dX12_lose_11 (by decide) (fun z => absurd z (by omega)) (fun _ => ?_)
    refine m_aload_n (j := 0) C dX12_lose_14 rfl ?_
    refine m_iconst C dX12_lose_15 ?_
    refine m_call (mc2 := 0) (ms2 := 0) (As := [.int (iI 2)]) (rest := []) C (B_bad (x := 2) hB (by show -2147483648 ≤ (2 : Int) ∧ (2 : Int) ≤ 2147483647; omega)) dX12_lose_16 kV_X12_154 rfl ck_13 rfl (Nat.le_of_ble_eq_true rfl) ⟨Nat.le_of_ble_eq_true rfl, Nat.le_of_ble_eq_true rfl⟩ ⟨Nat.le_of_ble_eq_true rfl, Nat.le_of_ble_eq_true rfl⟩ (fun rh3 vh3 ah3 h3 => ?_)
    obtain ⟨f2, rfl, fn2, bn2, ex2⟩ := h3
    refine hv2 (fp0.call fn2 rfl rfl) (show f2 = -1 from ex2) (fun fq3 gf2 => ?_)
    refine m_st (st2 := [.int (iI f2)]) rfl ?_
    exact m_iret C dX12_lose_19 rfl (Nat.le_of_ble_eq_true rfl) (Nat.le_of_ble_eq_true rfl) ⟨f2, rfl, fq3, bn2, (LSA.bad (by omega) (by omega) ⟨fn2.1 36 rfl, fn2.2 34 rfl, fn2.2 35 rfl⟩)⟩
set_option maxHeartbeats 4000000 in
set_option maxRecDepth 100000 in
theorem N2_cut {l : Launch} {G : GT} {h0 : Nat} {ad ln : Nat → Nat} {v : Nat → Int} {a : Nat → Nat → Int}  {l0 n1 : Int} (hB : BX v a) (hl0 : -2147483648 ≤ l0 ∧ l0 ≤ 2147483647) (hn1 : -2147483648 ≤ n1 ∧ n1 ≤ 2147483647) : Mm l G yX12_cut cX12_cut 4 (some .int) 2 [.int (iI l0), .int (iI n1)] h0 ad ln v a 0 0 (fun r v2 a2 => ∃ f : Int, r = some (.int (iI f)) ∧ fr [0, 1] [34, 35] v a v2 a2 ∧ BX v2 a2 ∧ (CTA v a v2 a2 l0 n1 f)) := by
  refine Mm.mk (by decide) (Nat.le_of_ble_eq_true rfl) ?_
  intro p e s m args below meth c A C
  refine hv2 (show 0 ≤ v 36 ∧ v 36 ≤ 200 from hB.1 36) (show fr [0, 1] [34, 35] v a v a from fr.refl) (fun r36 fp0 => ?_)
  refine m_iload_n (j := 2) C dX12_cut_0 rfl ?_
  refine m_sipush (z := 200) C dX12_cut_1 (by decide) ?_
  refine m_icmp_le (tgt := 14) C ⟨by omega, by omega⟩ ⟨by decide, by decide⟩ dX12_cut_4 (by decide) (fun c1 => ?_) (fun c1 => ?_)
  · refine m_iload_n (j := 2) C dX12_cut_14 rfl ?_
    refine m_if_ge (tgt := 24) C ⟨by omega, by omega⟩ dX12_cut_15 (by decide) (fun c2 => ?_) (fun c2 => ?_)
    · refine m_aload_n (j := 0) C dX12_cut_24 rfl ?_
      refine m_iload_n (j := 1) C dX12_cut_25 rfl ?_
      have rv1 : 0 ≤ v 36 ∧ v 36 ≤ 200 := hB.1 36
      refine m_call (mc2 := 0) (ms2 := 0) (As := [.int (iI l0)]) (rest := []) C (M_lineFault (l0 := l0) hB.rg ⟨by omega, by omega⟩ ⟨hB.1 36, hB.2 34⟩) dX12_cut_26 kV_X12_294 rfl ck_13 rfl (Nat.le_of_ble_eq_true rfl) ⟨Nat.le_of_ble_eq_true rfl, Nat.le_of_ble_eq_true rfl⟩ ⟨Nat.le_of_ble_eq_true rfl, Nat.le_of_ble_eq_true rfl⟩ (fun rh1 vh1 ah1 h1 => ?_)
      obtain ⟨f1, rfl, hf1, rfl, rfl⟩ := h1
      refine hv2 (show (f1 = 2 ∧ ¬ (0 ≤ l0 ∧ l0 < (v 36))) ∨ (f1 = 1 ∧ 0 ≤ l0 ∧ l0 < (v 36) ∧ a 34 l0.toNat < 0) ∨ (f1 = 0 ∧ 0 ≤ l0 ∧ l0 < (v 36) ∧ 0 ≤ a 34 l0.toNat) from hf1) (show (-1) ≤ a 34 l0.toNat ∧ a 34 l0.toNat ≤ 200 from hB.2 34 (l0.toNat)) (fun gf1 ra1 => ?_)
      refine m_st (st2 := [.int (iI f1)]) rfl ?_
      refine m_if_le (tgt := 42) C ⟨by omega, by omega⟩ dX12_cut_29 (by decide) (fun c3 => ?_) (fun c3 => ?_)
      · refine m_aload_n (j := 0) C dX12_cut_42 rfl ?_
        refine m_geta (k := 34) C dX12_cut_43 w6_93 (by decide) rfl ?_
        refine m_iload_n (j := 1) C dX12_cut_46 rfl ?_
        refine m_ald (k := 34) C dX12_cut_47 rfl rfl (by decide) (by omega) (by show _ < ((_ : Nat) : Int); simp only [mlen]; omega) (by decide) ?_
        refine m_istore_n (lv2 := [(3, .int (iI (a 34 l0.toNat))), (0, .ref h0), (1, .int (iI l0)), (2, .int (iI n1))]) C dX12_cut_48 (by decide) rfl ?_
        have Lp1 : ∀ (nn : Nat) (k : Int) (vb1 : Nat → Int) (ab1 : Nat → Nat → Int), 201 - k < (nn : Int) → BX vb1 ab1 → fr [0, 1] [34, 35] v a vb1 ab1 → (0 ≤ k ∧ (k ≤ n1 ∨ k ≤ 200)) → ((k = a 34 l0.toNat ∨ k ≤ n1) ∧ a 34 l0.toNat ≤ k) → (CT1 a ab1 l0 k) → mw p l e (rmq 2 0 0) s m args below meth c G A 4 (MQ below (Qm G A (fun rq Lq Eq => ∃ (vq : Nat → Int) (aq : Nat → Nat → Int), mI G h0 ad ln vq aq Lq Eq ∧ (fun r v2 a2 => ∃ f : Int, r = some (.int (iI f)) ∧ fr [0, 1] [34, 35] v a v2 a2 ∧ BX v2 a2 ∧ (CTA v a v2 a2 l0 n1 f)) rq vq aq)) args s 0 0 A) h0 ad ln vb1 ab1 0 0 49 [(3, .int (iI k)), (0, .ref h0), (1, .int (iI l0)), (2, .int (iI n1))] [] := by
          intro nn
          induction nn with
          | zero =>
            intro k vb1 ab1 hm bxb1 fpb1 hk hk2 hC
            exact absurd hm (by omega)
          | succ nn ih1 =>
            intro k vb1 ab1 hm bxb1 fpb1 hk hk2 hC
            refine m_iload_n (j := 0) C dX12_cut_49 rfl ?_
            refine m_iload_n (j := 3) C dX12_cut_50 rfl ?_
            refine m_icmp_ge (tgt := 73) C ⟨by omega, by omega⟩ ⟨by omega, by omega⟩ dX12_cut_51 (by decide) (fun c4 => ?_) (fun c4 => ?_)
            · refine m_aload_n (j := 1) C dX12_cut_73 rfl ?_
              refine m_geta (k := 34) C dX12_cut_74 w6_93 (by decide) rfl ?_
              refine m_iload_n (j := 2) C dX12_cut_77 rfl ?_
              refine m_iload_n (j := 3) C dX12_cut_78 rfl ?_
              refine m_ast (k := 34) C dX12_cut_79 rfl rfl (by decide) (by omega) (by show _ < ((_ : Nat) : Int); simp only [mlen]; omega) (by decide) ?_
              refine hv2 (show BX vb1 (up2 ab1 34 l0.toNat n1) from bxb1.set (k := 34) (i := l0.toNat) (z := n1) (show (-1) ≤ n1 ∧ n1 ≤ 200 by omega)) (fpb1.set (k := 34) (i := l0.toNat) (z := n1) rfl) (fun bq1 fq1 => ?_)
              refine m_aload_n (j := 1) C dX12_cut_80 rfl ?_
              refine m_iload_n (j := 3) C dX12_cut_81 rfl ?_
              refine m_call (mc2 := 0) (ms2 := 0) (As := [.int (iI n1)]) (rest := []) C (B_fine (x := n1) bq1 (by show -2147483648 ≤ n1 ∧ n1 ≤ 2147483647; omega)) dX12_cut_82 kV_X12_158 rfl ck_13 rfl (Nat.le_of_ble_eq_true rfl) ⟨Nat.le_of_ble_eq_true rfl, Nat.le_of_ble_eq_true rfl⟩ ⟨Nat.le_of_ble_eq_true rfl, Nat.le_of_ble_eq_true rfl⟩ (fun rh2 vh2 ah2 h2 => ?_)
              obtain ⟨f2, rfl, fn1, bn1, ex1⟩ := h2
              refine hv2 (fq1.call fn1 rfl rfl) (show f2 = n1 from ex1) (fun fq2 gf2 => ?_)
              refine m_st (st2 := [.int (iI f2)]) rfl ?_
              exact m_iret C dX12_cut_85 rfl (Nat.le_of_ble_eq_true rfl) (Nat.le_of_ble_eq_true rfl) ⟨f2, rfl, fq2, bn1, (CTA.ok (fun j => (hB.2 34 j).2) ⟨by omega, by omega⟩ ⟨by omega, by omega⟩ (by omega) hC (by omega) (by omega) (fq2.1 36 rfl) (fn1.2 34 rfl) (fn1.2 35 rfl))⟩
            · refine m_aload_n (j := 1) C dX12_cut_54 rfl ?_
              refine m_geta (k := 35) C dX12_cut_55 w6_94 (by decide) rfl ?_
              refine m_sipush (z := 200) C dX12_cut_58 (by decide) ?_
              refine m_iload_n (j := 2) C dX12_cut_61 rfl ?_
              refine m_imul C dX12_cut_62 ?_
              refine m_iload_n (j := 0) C dX12_cut_63 rfl ?_
              refine m_iadd C dX12_cut_64 ?_
              refine m_iconst C dX12_cut_65 ?_
              refine m_ast (k := 35) C dX12_cut_66 rfl rfl (by decide) (by omega) (by show _ < ((_ : Nat) : Int); simp only [mlen]; omega) (by decide) ?_
              refine hv2 (show BX vb1 (up2 ab1 35 ((200 * l0) + k).toNat 0) from bxb1.set (k := 35) (i := ((200 * l0) + k).toNat) (z := 0) ⟨by decide, by decide⟩) (fpb1.set (k := 35) (i := ((200 * l0) + k).toNat) (z := 0) rfl) (fun bq2 fq3 => ?_)
              refine m_iinc (z := k) (j := 0) (lv2 := [(3, .int (iI (k + 1))), (0, .ref h0), (1, .int (iI l0)), (2, .int (iI n1))]) C dX12_cut_67 rfl (by decide) rfl ?_
              refine m_goto (tgt := 49) C dX12_cut_70 (by decide) ?_
              refine m_lv (lv2 := [(3, .int (iI (k + 1))), (0, .ref h0), (1, .int (iI l0)), (2, .int (iI n1))]) [0, 1, 2, 3] rfl ?_
              exact ih1  (k + 1) _ _ (by omega) bq2 fq3 (by omega) (by omega) (CT1.step hC ⟨by omega, by omega⟩ rfl)
        refine m_lv (lv2 := [(3, .int (iI (a 34 l0.toNat))), (0, .ref h0), (1, .int (iI l0)), (2, .int (iI n1))]) [0, 1, 2, 3] rfl ?_
        exact Lp1 202 (a 34 l0.toNat) _ _ (by omega) hB fp0 (by omega) (by omega) (CT1.zero rfl)
      · refine m_aload_n (j := 0) C dX12_cut_32 rfl ?_
        refine m_aload_n (j := 0) C dX12_cut_33 rfl ?_
        refine m_iload_n (j := 1) C dX12_cut_34 rfl ?_
        refine m_call (mc2 := 0) (ms2 := 0) (As := [.int (iI l0)]) (rest := [.ref h0]) C (M_lineFault (l0 := l0) hB.rg ⟨by omega, by omega⟩ ⟨hB.1 36, hB.2 34⟩) dX12_cut_35 kV_X12_294 rfl ck_13 rfl (Nat.le_of_ble_eq_true rfl) ⟨Nat.le_of_ble_eq_true rfl, Nat.le_of_ble_eq_true rfl⟩ ⟨Nat.le_of_ble_eq_true rfl, Nat.le_of_ble_eq_true rfl⟩ (fun rh3 vh3 ah3 h3 => ?_)
        obtain ⟨f3, rfl, hf3, rfl, rfl⟩ := h3
        have gf3 : (f3 = 2 ∧ ¬ (0 ≤ l0 ∧ l0 < (v 36))) ∨ (f3 = 1 ∧ 0 ≤ l0 ∧ l0 < (v 36) ∧ a 34 l0.toNat < 0) ∨ (f3 = 0 ∧ 0 ≤ l0 ∧ l0 < (v 36) ∧ 0 ≤ a 34 l0.toNat) := hf3
        refine m_st (st2 := [.int (iI f3), .ref h0]) rfl ?_
        refine m_call (mc2 := 0) (ms2 := 0) (As := [.int (iI f3)]) (rest := []) C (B_bad (x := f3) hB (by show -2147483648 ≤ f3 ∧ f3 ≤ 2147483647; omega)) dX12_cut_38 kV_X12_154 rfl ck_13 rfl (Nat.le_of_ble_eq_true rfl) ⟨Nat.le_of_ble_eq_true rfl, Nat.le_of_ble_eq_true rfl⟩ ⟨Nat.le_of_ble_eq_true rfl, Nat.le_of_ble_eq_true rfl⟩ (fun rh4 vh4 ah4 h4 => ?_)
        obtain ⟨f4, rfl, fn2, bn2, ex2⟩ := h4
        refine hv2 (fp0.call fn2 rfl rfl) (show f4 = -1 from ex2) (fun fq4 gf4 => ?_)
        refine m_st (st2 := [.int (iI f4)]) rfl ?_
        exact m_iret C dX12_cut_41 rfl (Nat.le_of_ble_eq_true rfl) (Nat.le_of_ble_eq_true rfl) ⟨f4, rfl, fq4, bn2, (CTA.bad (by omega) (by omega) ⟨fn2.1 36 rfl, fn2.2 34 rfl, fn2.2 35 rfl⟩)⟩
    · refine m_aload_n (j := 0) C dX12_cut_18 rfl ?_
      refine m_iconst C dX12_cut_19 ?_
      refine m_call (mc2 := 0) (ms2 := 0) (As := [.int (iI 5)]) (rest := []) C (B_bad (x := 5) hB (by show -2147483648 ≤ (5 : Int) ∧ (5 : Int) ≤ 2147483647; omega)) dX12_cut_20 kV_X12_154 rfl ck_13 rfl (Nat.le_of_ble_eq_true rfl) ⟨Nat.le_of_ble_eq_true rfl, Nat.le_of_ble_eq_true rfl⟩ ⟨Nat.le_of_ble_eq_true rfl, Nat.le_of_ble_eq_true rfl⟩ (fun rh5 vh5 ah5 h5 => ?_)
      obtain ⟨f5, rfl, fn3, bn3, ex3⟩ := h5
      refine hv2 (fp0.call fn3 rfl rfl) (show f5 = -1 from ex3) (fun fq5 gf5 => ?_)
      refine m_st (st2 := [.int (iI f5)]) rfl ?_
      exact m_iret C dX12_cut_23 rfl (Nat.le_of_ble_eq_true rfl) (Nat.le_of_ble_eq_true rfl) ⟨f5, rfl, fq5, bn3, (CTA.bad (by omega) (by omega) ⟨fn3.1 36 rfl, fn3.2 34 rfl, fn3.2 35 rfl⟩)⟩
  · refine m_aload_n (j := 0) C dX12_cut_7 rfl ?_
    refine m_bipush (z := 6) C dX12_cut_8 (by decide) ?_
    refine m_call (mc2 := 0) (ms2 := 0) (As := [.int (iI 6)]) (rest := []) C (B_bad (x := 6) hB (by show -2147483648 ≤ (6 : Int) ∧ (6 : Int) ≤ 2147483647; omega)) dX12_cut_10 kV_X12_154 rfl ck_13 rfl (Nat.le_of_ble_eq_true rfl) ⟨Nat.le_of_ble_eq_true rfl, Nat.le_of_ble_eq_true rfl⟩ ⟨Nat.le_of_ble_eq_true rfl, Nat.le_of_ble_eq_true rfl⟩ (fun rh6 vh6 ah6 h6 => ?_)
    obtain ⟨f6, rfl, fn4, bn4, ex4⟩ := h6
    refine hv2 (fp0.call fn4 rfl rfl) (show f6 = -1 from ex4) (fun fq6 gf6 => ?_)
    refine m_st (st2 := [.int (iI f6)]) rfl ?_
    exact m_iret C dX12_cut_13 rfl (Nat.le_of_ble_eq_true rfl) (Nat.le_of_ble_eq_true rfl) ⟨f6, rfl, fq6, bn4, (CTA.bad (by omega) (by omega) ⟨fn4.1 36 rfl, fn4.2 34 rfl, fn4.2 35 rfl⟩)⟩
set_option maxHeartbeats 4000000 in
set_option maxRecDepth 100000 in
theorem N2_copyRow {l : Launch} {G : GT} {h0 : Nat} {ad ln : Nat → Nat} {v : Nat → Int} {a : Nat → Nat → Int}  {q w1 u x n1 : Int} (hB : BX v a) (hq : -2147483648 ≤ q ∧ q ≤ 2147483647) (hw1 : -2147483648 ≤ w1 ∧ w1 ≤ 2147483647) (hu : -2147483648 ≤ u ∧ u ≤ 2147483647) (hx : -2147483648 ≤ x ∧ x ≤ 2147483647) (hn1 : -2147483648 ≤ n1 ∧ n1 ≤ 2147483647) : Mm l G yX12_copyRow cX12_copyRow 11 (some .int) 1 [.int (iI q), .int (iI w1), .int (iI u), .int (iI x), .int (iI n1)] h0 ad ln v a 0 0 (fun r v2 a2 => ∃ f : Int, r = some (.int (iI f)) ∧ fr [0, 1] [35] v a v2 a2 ∧ BX v2 a2 ∧ (CRA v a v2 a2 q w1 u x n1 f)) := by
  refine Mm.mk (by decide) (Nat.le_of_ble_eq_true rfl) ?_
  intro p e s m args below meth c A C
  refine hv2 (show 0 ≤ v 36 ∧ v 36 ≤ 200 from hB.1 36) (show fr [0, 1] [35] v a v a from fr.refl) (fun r36 fp0 => ?_)
  refine m_iload_n (j := 1) C dX12_copyRow_0 rfl ?_
  refine m_iconst C dX12_copyRow_1 ?_
  refine m_aload_n (j := 0) C dX12_copyRow_2 rfl ?_
  have rv1 : 0 ≤ v 36 ∧ v 36 ≤ 200 := hB.1 36
  refine m_get (k := 36) C dX12_copyRow_3 w6_95 (by decide) rfl ?_
  refine m_iconst C dX12_copyRow_6 ?_
  refine m_isub C dX12_copyRow_7 ?_
  refine m_callS (As := [.int (iI q), .int (iI 0), .int (iI ((v 36) - 1))]) (rest := []) C (fun L E => s_isIn (iI q) (iI 0) (iI ((v 36) - 1))) dX12_copyRow_8 kS_X12_174 rfl rfl (Nat.le_of_ble_eq_true rfl) ⟨Nat.le_of_ble_eq_true rfl, Nat.le_of_ble_eq_true rfl⟩ ⟨Nat.le_of_ble_eq_true rfl, Nat.le_of_ble_eq_true rfl⟩ ?_
  rcases inn_c (x := q) (lo := 0) (hi := (v 36) - 1) ⟨by omega, by omega⟩ ⟨by decide, by decide⟩ ⟨by omega, by omega⟩ with ⟨h1a, h1b, h1e⟩ | ⟨h1a, h1e⟩
  · refine m_st (st2 := [.int (iI 1)]) (by rw [h1e]) ?_
    refine m_if_eq (tgt := 28) C ⟨by decide, by decide⟩ dX12_copyRow_11 (by decide) (fun z => absurd z (by omega)) (fun _ => ?_)
    refine m_iload_n (j := 3) C dX12_copyRow_14 rfl ?_
    refine m_iconst C dX12_copyRow_15 ?_
    refine m_aload_n (j := 0) C dX12_copyRow_16 rfl ?_
    refine m_get (k := 36) C dX12_copyRow_17 w6_95 (by decide) rfl ?_
    refine m_iconst C dX12_copyRow_20 ?_
    refine m_isub C dX12_copyRow_21 ?_
    refine m_callS (As := [.int (iI u), .int (iI 0), .int (iI ((v 36) - 1))]) (rest := []) C (fun L E => s_isIn (iI u) (iI 0) (iI ((v 36) - 1))) dX12_copyRow_22 kS_X12_174 rfl rfl (Nat.le_of_ble_eq_true rfl) ⟨Nat.le_of_ble_eq_true rfl, Nat.le_of_ble_eq_true rfl⟩ ⟨Nat.le_of_ble_eq_true rfl, Nat.le_of_ble_eq_true rfl⟩ ?_
    rcases inn_c (x := u) (lo := 0) (hi := (v 36) - 1) ⟨by omega, by omega⟩ ⟨by decide, by decide⟩ ⟨by omega, by omega⟩ with ⟨h2a, h2b, h2e⟩ | ⟨h2a, h2e⟩
    · refine m_st (st2 := [.int (iI 1)]) (by rw [h2e]) ?_
      refine m_if_ne (tgt := 34) C ⟨by decide, by decide⟩ dX12_copyRow_25 (by decide) (fun _ => ?_) (fun z => absurd z (by omega))
      refine m_aload_n (j := 0) C dX12_copyRow_34 rfl ?_
      refine m_geta (k := 34) C dX12_copyRow_35 w6_93 (by decide) rfl ?_
      refine m_iload_n (j := 1) C dX12_copyRow_38 rfl ?_
      refine m_ald (k := 34) C dX12_copyRow_39 rfl rfl (by decide) (by omega) (by show _ < ((_ : Nat) : Int); simp only [mlen]; omega) (by decide) ?_
      have ra1 : (-1) ≤ a 34 q.toNat ∧ a 34 q.toNat ≤ 200 := hB.2 34 (q.toNat)
      refine m_if_lt (tgt := 52) C (r32_c (lo := (-1)) (hi := 200) ra1.1 ra1.2 (by decide) (by decide)) dX12_copyRow_40 (by decide) (fun c1 => ?_) (fun c1 => ?_)
      · refine m_aload_n (j := 0) C dX12_copyRow_52 rfl ?_
        refine m_iconst C dX12_copyRow_53 ?_
        refine m_call (mc2 := 0) (ms2 := 0) (As := [.int (iI 1)]) (rest := []) C (B_bad (x := 1) hB (by show -2147483648 ≤ (1 : Int) ∧ (1 : Int) ≤ 2147483647; omega)) dX12_copyRow_54 kV_X12_154 rfl ck_13 rfl (Nat.le_of_ble_eq_true rfl) ⟨Nat.le_of_ble_eq_true rfl, Nat.le_of_ble_eq_true rfl⟩ ⟨Nat.le_of_ble_eq_true rfl, Nat.le_of_ble_eq_true rfl⟩ (fun rh3 vh3 ah3 h3 => ?_)
        obtain ⟨f1, rfl, fn1, bn1, ex1⟩ := h3
        refine hv2 (fp0.call fn1 rfl rfl) (show f1 = -1 from ex1) (fun fq1 gf1 => ?_)
        refine m_st (st2 := [.int (iI f1)]) rfl ?_
        exact m_iret C dX12_copyRow_57 rfl (Nat.le_of_ble_eq_true rfl) (Nat.le_of_ble_eq_true rfl) ⟨f1, rfl, fq1, bn1, (CRA.bad (by omega) ⟨fn1.1 36 rfl, fn1.2 34 rfl, fn1.2 35 rfl⟩ (by omega))⟩
      · refine m_aload_n (j := 0) C dX12_copyRow_43 rfl ?_
        refine m_geta (k := 34) C dX12_copyRow_44 w6_93 (by decide) rfl ?_
        refine m_iload_n (j := 3) C dX12_copyRow_47 rfl ?_
        refine m_ald (k := 34) C dX12_copyRow_48 rfl rfl (by decide) (by omega) (by show _ < ((_ : Nat) : Int); simp only [mlen]; omega) (by decide) ?_
        have ra2 : (-1) ≤ a 34 u.toNat ∧ a 34 u.toNat ≤ 200 := hB.2 34 (u.toNat)
        refine m_if_ge (tgt := 58) C (r32_c (lo := (-1)) (hi := 200) ra2.1 ra2.2 (by decide) (by decide)) dX12_copyRow_49 (by decide) (fun c2 => ?_) (fun c2 => ?_)
        · refine m_iload (j := 5) C dX12_copyRow_58 rfl ?_
          refine m_if_lt (tgt := 99) C ⟨by omega, by omega⟩ dX12_copyRow_60 (by decide) (fun c3 => ?_) (fun c3 => ?_)
          · refine m_aload_n (j := 0) C dX12_copyRow_99 rfl ?_
            refine m_iconst C dX12_copyRow_100 ?_
            refine m_call (mc2 := 0) (ms2 := 0) (As := [.int (iI 2)]) (rest := []) C (B_bad (x := 2) hB (by show -2147483648 ≤ (2 : Int) ∧ (2 : Int) ≤ 2147483647; omega)) dX12_copyRow_101 kV_X12_154 rfl ck_13 rfl (Nat.le_of_ble_eq_true rfl) ⟨Nat.le_of_ble_eq_true rfl, Nat.le_of_ble_eq_true rfl⟩ ⟨Nat.le_of_ble_eq_true rfl, Nat.le_of_ble_eq_true rfl⟩ (fun rh4 vh4 ah4 h4 => ?_)
            obtain ⟨f2, rfl, fn2, bn2, ex2⟩ := h4
            refine hv2 (fp0.call fn2 rfl rfl) (show f2 = -1 from ex2) (fun fq2 gf2 => ?_)
            refine m_st (st2 := [.int (iI f2)]) rfl ?_
            exact m_iret C dX12_copyRow_104 rfl (Nat.le_of_ble_eq_true rfl) (Nat.le_of_ble_eq_true rfl) ⟨f2, rfl, fq2, bn2, (CRA.bad (by omega) ⟨fn2.1 36 rfl, fn2.2 34 rfl, fn2.2 35 rfl⟩ (by omega))⟩
          · refine m_iload_n (j := 2) C dX12_copyRow_63 rfl ?_
            refine m_if_lt (tgt := 99) C ⟨by omega, by omega⟩ dX12_copyRow_64 (by decide) (fun c4 => ?_) (fun c4 => ?_)
            · refine m_aload_n (j := 0) C dX12_copyRow_99 rfl ?_
              refine m_iconst C dX12_copyRow_100 ?_
              refine m_call (mc2 := 0) (ms2 := 0) (As := [.int (iI 2)]) (rest := []) C (B_bad (x := 2) hB (by show -2147483648 ≤ (2 : Int) ∧ (2 : Int) ≤ 2147483647; omega)) dX12_copyRow_101 kV_X12_154 rfl ck_13 rfl (Nat.le_of_ble_eq_true rfl) ⟨Nat.le_of_ble_eq_true rfl, Nat.le_of_ble_eq_true rfl⟩ ⟨Nat.le_of_ble_eq_true rfl, Nat.le_of_ble_eq_true rfl⟩ (fun rh5 vh5 ah5 h5 => ?_)
              obtain ⟨f3, rfl, fn3, bn3, ex3⟩ := h5
              refine hv2 (fp0.call fn3 rfl rfl) (show f3 = -1 from ex3) (fun fq3 gf3 => ?_)
              refine m_st (st2 := [.int (iI f3)]) rfl ?_
              exact m_iret C dX12_copyRow_104 rfl (Nat.le_of_ble_eq_true rfl) (Nat.le_of_ble_eq_true rfl) ⟨f3, rfl, fq3, bn3, (CRA.bad (by omega) ⟨fn3.1 36 rfl, fn3.2 34 rfl, fn3.2 35 rfl⟩ (by omega))⟩
            · refine m_iload (j := 4) C dX12_copyRow_67 rfl ?_
              refine m_if_lt (tgt := 99) C ⟨by omega, by omega⟩ dX12_copyRow_69 (by decide) (fun c5 => ?_) (fun c5 => ?_)
              · refine m_aload_n (j := 0) C dX12_copyRow_99 rfl ?_
                refine m_iconst C dX12_copyRow_100 ?_
                refine m_call (mc2 := 0) (ms2 := 0) (As := [.int (iI 2)]) (rest := []) C (B_bad (x := 2) hB (by show -2147483648 ≤ (2 : Int) ∧ (2 : Int) ≤ 2147483647; omega)) dX12_copyRow_101 kV_X12_154 rfl ck_13 rfl (Nat.le_of_ble_eq_true rfl) ⟨Nat.le_of_ble_eq_true rfl, Nat.le_of_ble_eq_true rfl⟩ ⟨Nat.le_of_ble_eq_true rfl, Nat.le_of_ble_eq_true rfl⟩ (fun rh6 vh6 ah6 h6 => ?_)
                obtain ⟨f4, rfl, fn4, bn4, ex4⟩ := h6
                refine hv2 (fp0.call fn4 rfl rfl) (show f4 = -1 from ex4) (fun fq4 gf4 => ?_)
                refine m_st (st2 := [.int (iI f4)]) rfl ?_
                exact m_iret C dX12_copyRow_104 rfl (Nat.le_of_ble_eq_true rfl) (Nat.le_of_ble_eq_true rfl) ⟨f4, rfl, fq4, bn4, (CRA.bad (by omega) ⟨fn4.1 36 rfl, fn4.2 34 rfl, fn4.2 35 rfl⟩ (by omega))⟩
              · refine m_iload (j := 5) C dX12_copyRow_72 rfl ?_
                refine m_aload_n (j := 0) C dX12_copyRow_74 rfl ?_
                refine m_geta (k := 34) C dX12_copyRow_75 w6_93 (by decide) rfl ?_
                refine m_iload_n (j := 1) C dX12_copyRow_78 rfl ?_
                refine m_ald (k := 34) C dX12_copyRow_79 rfl rfl (by decide) (by omega) (by show _ < ((_ : Nat) : Int); simp only [mlen]; omega) (by decide) ?_
                refine m_iload_n (j := 2) C dX12_copyRow_80 rfl ?_
                refine m_isub C dX12_copyRow_81 ?_
                refine m_icmp_gt (tgt := 99) C ⟨by omega, by omega⟩ ⟨by omega, by omega⟩ dX12_copyRow_82 (by decide) (fun c6 => ?_) (fun c6 => ?_)
                · refine m_aload_n (j := 0) C dX12_copyRow_99 rfl ?_
                  refine m_iconst C dX12_copyRow_100 ?_
                  refine m_call (mc2 := 0) (ms2 := 0) (As := [.int (iI 2)]) (rest := []) C (B_bad (x := 2) hB (by show -2147483648 ≤ (2 : Int) ∧ (2 : Int) ≤ 2147483647; omega)) dX12_copyRow_101 kV_X12_154 rfl ck_13 rfl (Nat.le_of_ble_eq_true rfl) ⟨Nat.le_of_ble_eq_true rfl, Nat.le_of_ble_eq_true rfl⟩ ⟨Nat.le_of_ble_eq_true rfl, Nat.le_of_ble_eq_true rfl⟩ (fun rh7 vh7 ah7 h7 => ?_)
                  obtain ⟨f5, rfl, fn5, bn5, ex5⟩ := h7
                  refine hv2 (fp0.call fn5 rfl rfl) (show f5 = -1 from ex5) (fun fq5 gf5 => ?_)
                  refine m_st (st2 := [.int (iI f5)]) rfl ?_
                  exact m_iret C dX12_copyRow_104 rfl (Nat.le_of_ble_eq_true rfl) (Nat.le_of_ble_eq_true rfl) ⟨f5, rfl, fq5, bn5, (CRA.bad (by omega) ⟨fn5.1 36 rfl, fn5.2 34 rfl, fn5.2 35 rfl⟩ (by omega))⟩
                · refine m_iload (j := 5) C dX12_copyRow_85 rfl ?_
                  refine m_aload_n (j := 0) C dX12_copyRow_87 rfl ?_
                  refine m_geta (k := 34) C dX12_copyRow_88 w6_93 (by decide) rfl ?_
                  refine m_iload_n (j := 3) C dX12_copyRow_91 rfl ?_
                  refine m_ald (k := 34) C dX12_copyRow_92 rfl rfl (by decide) (by omega) (by show _ < ((_ : Nat) : Int); simp only [mlen]; omega) (by decide) ?_
                  refine m_iload (j := 4) C dX12_copyRow_93 rfl ?_
                  refine m_isub C dX12_copyRow_95 ?_
                  refine m_icmp_le (tgt := 105) C ⟨by omega, by omega⟩ ⟨by omega, by omega⟩ dX12_copyRow_96 (by decide) (fun c7 => ?_) (fun c7 => ?_)
                  · refine m_sipush (z := 200) C dX12_copyRow_105 (by decide) ?_
                    refine m_iload_n (j := 1) C dX12_copyRow_108 rfl ?_
                    refine m_imul C dX12_copyRow_109 ?_
                    refine m_iload_n (j := 2) C dX12_copyRow_110 rfl ?_
                    refine m_iadd C dX12_copyRow_111 ?_
                    refine m_istore (lv2 := [(6, .int (iI ((200 * q) + w1))), (0, .ref h0), (1, .int (iI q)), (2, .int (iI w1)), (3, .int (iI u)), (4, .int (iI x)), (5, .int (iI n1))]) C dX12_copyRow_112 (by decide) rfl ?_
                    refine m_sipush (z := 200) C dX12_copyRow_114 (by decide) ?_
                    refine m_iload_n (j := 4) C dX12_copyRow_117 rfl ?_
                    refine m_imul C dX12_copyRow_118 ?_
                    refine m_iload (j := 5) C dX12_copyRow_119 rfl ?_
                    refine m_iadd C dX12_copyRow_121 ?_
                    refine m_istore (lv2 := [(7, .int (iI ((200 * u) + x))), (6, .int (iI ((200 * q) + w1))), (0, .ref h0), (1, .int (iI q)), (2, .int (iI w1)), (3, .int (iI u)), (4, .int (iI x)), (5, .int (iI n1))]) C dX12_copyRow_122 (by decide) rfl ?_
                    refine m_iload_n (j := 3) C dX12_copyRow_124 rfl ?_
                    refine m_iload_n (j := 5) C dX12_copyRow_125 rfl ?_
                    have J1 : ∀ (g : Int) (vb1 : Nat → Int) (ab1 : Nat → Nat → Int), BX vb1 ab1 → fr [0, 1] [35] v a vb1 ab1 → (g = 0 ∨ g = 1) → ((g = 1 ∧ q = u ∧ w1 < x) ∨ (g = 0 ∧ (q ≠ u ∨ x ≤ w1))) → (ab1 34 = a 34 ∧ ab1 35 = a 35) → mw p l e (rmq 1 0 0) s m args below meth c G A 11 (MQ below (Qm G A (fun rq Lq Eq => ∃ (vq : Nat → Int) (aq : Nat → Nat → Int), mI G h0 ad ln vq aq Lq Eq ∧ (fun r v2 a2 => ∃ f : Int, r = some (.int (iI f)) ∧ fr [0, 1] [35] v a v2 a2 ∧ BX v2 a2 ∧ (CRA v a v2 a2 q w1 u x n1 f)) rq vq aq)) args s 0 0 A) h0 ad ln vb1 ab1 0 0 140 [(7, .int (iI ((200 * u) + x))), (6, .int (iI ((200 * q) + w1))), (0, .ref h0), (1, .int (iI q)), (2, .int (iI w1)), (3, .int (iI u)), (4, .int (iI x)), (5, .int (iI n1))] [.int (iI g)] := by
                      intro g vb1 ab1 bxb1 fpb1 hg hg2 hKK
                      refine m_istore (lv2 := [(8, .int (iI g)), (7, .int (iI ((200 * u) + x))), (6, .int (iI ((200 * q) + w1))), (0, .ref h0), (1, .int (iI q)), (2, .int (iI w1)), (3, .int (iI u)), (4, .int (iI x)), (5, .int (iI n1))]) C dX12_copyRow_140 (by decide) rfl ?_
                      refine m_iconst C dX12_copyRow_142 ?_
                      refine m_istore (lv2 := [(9, .int (iI 0)), (8, .int (iI g)), (7, .int (iI ((200 * u) + x))), (6, .int (iI ((200 * q) + w1))), (0, .ref h0), (1, .int (iI q)), (2, .int (iI w1)), (3, .int (iI u)), (4, .int (iI x)), (5, .int (iI n1))]) C dX12_copyRow_143 (by decide) rfl ?_
                      have Lp1 : ∀ (nn : Nat) (i1 : Int) (vb2 : Nat → Int) (ab2 : Nat → Nat → Int), 201 - i1 < (nn : Int) → BX vb2 ab2 → fr [0, 1] [35] v a vb2 ab2 → (0 ≤ i1 ∧ i1 ≤ n1) → ((g = 1 ∧ q = u ∧ w1 < x) ∨ (g = 0 ∧ (q ≠ u ∨ x ≤ w1))) → (CR1 a ab2 (200 * q + w1) (200 * u + x) n1 g i1) → mw p l e (rmq 1 0 0) s m args below meth c G A 11 (MQ below (Qm G A (fun rq Lq Eq => ∃ (vq : Nat → Int) (aq : Nat → Nat → Int), mI G h0 ad ln vq aq Lq Eq ∧ (fun r v2 a2 => ∃ f : Int, r = some (.int (iI f)) ∧ fr [0, 1] [35] v a v2 a2 ∧ BX v2 a2 ∧ (CRA v a v2 a2 q w1 u x n1 f)) rq vq aq)) args s 0 0 A) h0 ad ln vb2 ab2 0 0 145 [(9, .int (iI i1)), (8, .int (iI g)), (7, .int (iI ((200 * u) + x))), (6, .int (iI ((200 * q) + w1))), (0, .ref h0), (1, .int (iI q)), (2, .int (iI w1)), (3, .int (iI u)), (4, .int (iI x)), (5, .int (iI n1))] [] := by
                        intro nn
                        induction nn with
                        | zero =>
                          intro i1 vb2 ab2 hm bxb2 fpb2 hi hg3 hC
                          exact absurd hm (by omega)
                        | succ nn ih1 =>
                          intro i1 vb2 ab2 hm bxb2 fpb2 hi hg3 hC
                          refine m_iload (j := 0) C dX12_copyRow_145 rfl ?_
                          refine m_iload (j := 9) C dX12_copyRow_147 rfl ?_
                          refine m_icmp_ge (tgt := 197) C ⟨by omega, by omega⟩ ⟨by omega, by omega⟩ dX12_copyRow_149 (by decide) (fun c8 => ?_) (fun c8 => ?_)
                          · refine m_aload_n (j := 4) C dX12_copyRow_197 rfl ?_
                            refine m_iload (j := 9) C dX12_copyRow_198 rfl ?_
                            refine m_call (mc2 := 0) (ms2 := 0) (As := [.int (iI n1)]) (rest := []) C (B_fine (x := n1) bxb2 (by show -2147483648 ≤ n1 ∧ n1 ≤ 2147483647; omega)) dX12_copyRow_200 kV_X12_158 rfl ck_13 rfl (Nat.le_of_ble_eq_true rfl) ⟨Nat.le_of_ble_eq_true rfl, Nat.le_of_ble_eq_true rfl⟩ ⟨Nat.le_of_ble_eq_true rfl, Nat.le_of_ble_eq_true rfl⟩ (fun rh8 vh8 ah8 h8 => ?_)
                            obtain ⟨f6, rfl, fn6, bn6, ex6⟩ := h8
                            refine hv2 (fpb2.call fn6 rfl rfl) (show f6 = n1 from ex6) (fun fq6 gf6 => ?_)
                            refine m_st (st2 := [.int (iI f6)]) rfl ?_
                            exact m_iret C dX12_copyRow_203 rfl (Nat.le_of_ble_eq_true rfl) (Nat.le_of_ble_eq_true rfl) ⟨f6, rfl, fq6, bn6, (CRA.ok (fun j => (hB.2 34 j).2) ⟨⟨by omega, by omega⟩, by omega⟩ ⟨⟨by omega, by omega⟩, by omega⟩ (by omega) (by omega) (by omega) (by omega) (by omega) hC (by omega) (by omega) (fq6.1 36 rfl) (fn6.2 34 rfl) (fn6.2 35 rfl))⟩
                          · refine m_iload (j := 1) C dX12_copyRow_152 rfl ?_
                            have J2 : ∀ (k : Int) (vb3 : Nat → Int) (ab3 : Nat → Nat → Int), BX vb3 ab3 → fr [0, 1] [35] v a vb3 ab3 → (0 ≤ k ∧ k < n1) → ((g = 0 ∧ k = i1) ∨ (g = 1 ∧ k = n1 - 1 - i1)) → (CR1 a ab3 (200 * q + w1) (200 * u + x) n1 g i1) → mw p l e (rmq 1 0 0) s m args below meth c G A 11 (MQ below (Qm G A (fun rq Lq Eq => ∃ (vq : Nat → Int) (aq : Nat → Nat → Int), mI G h0 ad ln vq aq Lq Eq ∧ (fun r v2 a2 => ∃ f : Int, r = some (.int (iI f)) ∧ fr [0, 1] [35] v a v2 a2 ∧ BX v2 a2 ∧ (CRA v a v2 a2 q w1 u x n1 f)) rq vq aq)) args s 0 0 A) h0 ad ln vb3 ab3 0 0 169 [(9, .int (iI i1)), (8, .int (iI g)), (7, .int (iI ((200 * u) + x))), (6, .int (iI ((200 * q) + w1))), (0, .ref h0), (1, .int (iI q)), (2, .int (iI w1)), (3, .int (iI u)), (4, .int (iI x)), (5, .int (iI n1))] [.int (iI k)] := by
                              intro k vb3 ab3 bxb3 fpb3 hk hkg hC2
                              refine m_istore (lv2 := [(10, .int (iI k)), (9, .int (iI i1)), (8, .int (iI g)), (7, .int (iI ((200 * u) + x))), (6, .int (iI ((200 * q) + w1))), (0, .ref h0), (1, .int (iI q)), (2, .int (iI w1)), (3, .int (iI u)), (4, .int (iI x)), (5, .int (iI n1))]) C dX12_copyRow_169 (by decide) rfl ?_
                              refine m_aload_n (j := 5) C dX12_copyRow_171 rfl ?_
                              refine m_geta (k := 35) C dX12_copyRow_172 w6_94 (by decide) rfl ?_
                              refine m_iload (j := 3) C dX12_copyRow_175 rfl ?_
                              refine m_iload (j := 0) C dX12_copyRow_177 rfl ?_
                              refine m_iadd C dX12_copyRow_179 ?_
                              refine m_aload_n (j := 5) C dX12_copyRow_180 rfl ?_
                              refine m_geta (k := 35) C dX12_copyRow_181 w6_94 (by decide) rfl ?_
                              refine m_iload (j := 4) C dX12_copyRow_184 rfl ?_
                              refine m_iload (j := 0) C dX12_copyRow_186 rfl ?_
                              refine m_iadd C dX12_copyRow_188 ?_
                              refine m_ald (k := 35) C dX12_copyRow_189 rfl rfl (by decide) (by omega) (by show _ < ((_ : Nat) : Int); simp only [mlen]; omega) (by decide) ?_
                              have ra3 : (-2147483648) ≤ ab3 35 (((200 * q) + w1) + k).toNat ∧ ab3 35 (((200 * q) + w1) + k).toNat ≤ 2147483647 := bxb3.2 35 ((((200 * q) + w1) + k).toNat)
                              refine m_ast (k := 35) C dX12_copyRow_190 rfl rfl (by decide) (by omega) (by show _ < ((_ : Nat) : Int); simp only [mlen]; omega) (by decide) ?_
                              refine hv2 (show BX vb3 (up2 ab3 35 (((200 * u) + x) + k).toNat (ab3 35 (((200 * q) + w1) + k).toNat)) from bxb3.set (k := 35) (i := (((200 * u) + x) + k).toNat) (z := ab3 35 (((200 * q) + w1) + k).toNat) (show (-2147483648) ≤ (ab3 35 (((200 * q) + w1) + k).toNat) ∧ (ab3 35 (((200 * q) + w1) + k).toNat) ≤ 2147483647 by omega)) (fpb3.set (k := 35) (i := (((200 * u) + x) + k).toNat) (z := ab3 35 (((200 * q) + w1) + k).toNat) rfl) (fun bq1 fq7 => ?_)
                              refine m_iinc (z := i1) (j := 1) (lv2 := [(9, .int (iI (i1 + 1))), (10, .int (iI k)), (8, .int (iI g)), (7, .int (iI ((200 * u) + x))), (6, .int (iI ((200 * q) + w1))), (0, .ref h0), (1, .int (iI q)), (2, .int (iI w1)), (3, .int (iI u)), (4, .int (iI x)), (5, .int (iI n1))]) C dX12_copyRow_191 rfl (by decide) rfl ?_
                              refine m_goto (tgt := 145) C dX12_copyRow_194 (by decide) ?_
                              refine m_lv (lv2 := [(9, .int (iI (i1 + 1))), (8, .int (iI g)), (7, .int (iI ((200 * u) + x))), (6, .int (iI ((200 * q) + w1))), (0, .ref h0), (1, .int (iI q)), (2, .int (iI w1)), (3, .int (iI u)), (4, .int (iI x)), (5, .int (iI n1))]) [0, 2, 3, 4, 5, 6, 7, 8, 9, 10] rfl ?_
                              exact ih1  (i1 + 1) _ _ (by omega) bq1 fq7 (by omega) (by omega) (CR1.step hC2 (by omega) ⟨by omega, by omega⟩ ⟨by omega, by omega⟩ (by omega) rfl rfl)
                            refine m_if_eq (tgt := 167) C (r32_01 hg) dX12_copyRow_154 (by decide) (fun c9 => ?_) (fun c9 => ?_)
                            · clear hg
                              replace hg2 := (hg2.resolve_left (fun q => absurd (q.1.symm.trans c9) (by decide)))
                              refine m_iload (j := 0) C dX12_copyRow_167 rfl ?_
                              refine m_lv (lv2 := [(9, .int (iI i1)), (8, .int (iI g)), (7, .int (iI ((200 * u) + x))), (6, .int (iI ((200 * q) + w1))), (0, .ref h0), (1, .int (iI q)), (2, .int (iI w1)), (3, .int (iI u)), (4, .int (iI x)), (5, .int (iI n1))]) [0, 1, 2, 3, 4, 5, 6, 7, 8, 9] rfl ?_
                              exact J2  i1 _ _  bxb2 fpb2 (by omega) (by omega) hC
                            · replace hg := (hg.resolve_left c9)
                              replace hg2 := (hg2.resolve_right (fun q => c9 q.1))
                              refine m_iload (j := 9) C dX12_copyRow_157 rfl ?_
                              refine m_iconst C dX12_copyRow_159 ?_
                              refine m_isub C dX12_copyRow_160 ?_
                              refine m_iload (j := 0) C dX12_copyRow_161 rfl ?_
                              refine m_isub C dX12_copyRow_163 ?_
                              refine m_goto (tgt := 169) C dX12_copyRow_164 (by decide) ?_
                              refine m_lv (lv2 := [(9, .int (iI i1)), (8, .int (iI g)), (7, .int (iI ((200 * u) + x))), (6, .int (iI ((200 * q) + w1))), (0, .ref h0), (1, .int (iI q)), (2, .int (iI w1)), (3, .int (iI u)), (4, .int (iI x)), (5, .int (iI n1))]) [0, 1, 2, 3, 4, 5, 6, 7, 8, 9] rfl ?_
                              exact J2  ((n1 - 1) - i1) _ _  bxb2 fpb2 (by omega) (by omega) hC
                      refine m_lv (lv2 := [(9, .int (iI 0)), (8, .int (iI g)), (7, .int (iI ((200 * u) + x))), (6, .int (iI ((200 * q) + w1))), (0, .ref h0), (1, .int (iI q)), (2, .int (iI w1)), (3, .int (iI u)), (4, .int (iI x)), (5, .int (iI n1))]) [0, 1, 2, 3, 4, 5, 6, 7, 8, 9] rfl ?_
                      exact Lp1 202 0 _ _ (by omega) bxb1 fpb1 (by omega) (by omega) (CR1.zero rfl hKK)
                    refine m_icmp_ne (tgt := 139) C ⟨by omega, by omega⟩ ⟨by omega, by omega⟩ dX12_copyRow_126 (by decide) (fun c10 => ?_) (fun c10 => ?_)
                    · refine m_iconst C dX12_copyRow_139 ?_
                      refine m_lv (lv2 := [(7, .int (iI ((200 * u) + x))), (6, .int (iI ((200 * q) + w1))), (0, .ref h0), (1, .int (iI q)), (2, .int (iI w1)), (3, .int (iI u)), (4, .int (iI x)), (5, .int (iI n1))]) [0, 1, 2, 3, 4, 5, 6, 7] rfl ?_
                      exact J1  0 _ _  hB fp0 (by omega) (by omega) ⟨rfl, rfl⟩
                    · refine m_iload_n (j := 4) C dX12_copyRow_129 rfl ?_
                      refine m_iload (j := 6) C dX12_copyRow_130 rfl ?_
                      refine m_icmp_ge (tgt := 139) C ⟨by omega, by omega⟩ ⟨by omega, by omega⟩ dX12_copyRow_132 (by decide) (fun c11 => ?_) (fun c11 => ?_)
                      · refine m_iconst C dX12_copyRow_139 ?_
                        refine m_lv (lv2 := [(7, .int (iI ((200 * u) + x))), (6, .int (iI ((200 * q) + w1))), (0, .ref h0), (1, .int (iI q)), (2, .int (iI w1)), (3, .int (iI u)), (4, .int (iI x)), (5, .int (iI n1))]) [0, 1, 2, 3, 4, 5, 6, 7] rfl ?_
                        exact J1  0 _ _  hB fp0 (by omega) (by omega) ⟨rfl, rfl⟩
                      · refine m_iconst C dX12_copyRow_135 ?_
                        refine m_goto (tgt := 140) C dX12_copyRow_136 (by decide) ?_
                        refine m_lv (lv2 := [(7, .int (iI ((200 * u) + x))), (6, .int (iI ((200 * q) + w1))), (0, .ref h0), (1, .int (iI q)), (2, .int (iI w1)), (3, .int (iI u)), (4, .int (iI x)), (5, .int (iI n1))]) [0, 1, 2, 3, 4, 5, 6, 7] rfl ?_
                        exact J1  1 _ _  hB fp0 (by omega) (by omega) ⟨rfl, rfl⟩
                  · refine m_aload_n (j := 0) C dX12_copyRow_99 rfl ?_
                    refine m_iconst C dX12_copyRow_100 ?_
                    refine m_call (mc2 := 0) (ms2 := 0) (As := [.int (iI 2)]) (rest := []) C (B_bad (x := 2) hB (by show -2147483648 ≤ (2 : Int) ∧ (2 : Int) ≤ 2147483647; omega)) dX12_copyRow_101 kV_X12_154 rfl ck_13 rfl (Nat.le_of_ble_eq_true rfl) ⟨Nat.le_of_ble_eq_true rfl, Nat.le_of_ble_eq_true rfl⟩ ⟨Nat.le_of_ble_eq_true rfl, Nat.le_of_ble_eq_true rfl⟩ (fun rh9 vh9 ah9 h9 => ?_)
                    obtain ⟨f7, rfl, fn7, bn7, ex7⟩ := h9
                    refine hv2 (fp0.call fn7 rfl rfl) (show f7 = -1 from ex7) (fun fq8 gf7 => ?_)
                    refine m_st (st2 := [.int (iI f7)]) rfl ?_
                    exact m_iret C dX12_copyRow_104 rfl (Nat.le_of_ble_eq_true rfl) (Nat.le_of_ble_eq_true rfl) ⟨f7, rfl, fq8, bn7, (CRA.bad (by omega) ⟨fn7.1 36 rfl, fn7.2 34 rfl, fn7.2 35 rfl⟩ (by omega))⟩
        · refine m_aload_n (j := 0) C dX12_copyRow_52 rfl ?_
          refine m_iconst C dX12_copyRow_53 ?_
          refine m_call (mc2 := 0) (ms2 := 0) (As := [.int (iI 1)]) (rest := []) C (B_bad (x := 1) hB (by show -2147483648 ≤ (1 : Int) ∧ (1 : Int) ≤ 2147483647; omega)) dX12_copyRow_54 kV_X12_154 rfl ck_13 rfl (Nat.le_of_ble_eq_true rfl) ⟨Nat.le_of_ble_eq_true rfl, Nat.le_of_ble_eq_true rfl⟩ ⟨Nat.le_of_ble_eq_true rfl, Nat.le_of_ble_eq_true rfl⟩ (fun rh10 vh10 ah10 h10 => ?_)
          obtain ⟨f8, rfl, fn8, bn8, ex8⟩ := h10
          refine hv2 (fp0.call fn8 rfl rfl) (show f8 = -1 from ex8) (fun fq9 gf8 => ?_)
          refine m_st (st2 := [.int (iI f8)]) rfl ?_
          exact m_iret C dX12_copyRow_57 rfl (Nat.le_of_ble_eq_true rfl) (Nat.le_of_ble_eq_true rfl) ⟨f8, rfl, fq9, bn8, (CRA.bad (by omega) ⟨fn8.1 36 rfl, fn8.2 34 rfl, fn8.2 35 rfl⟩ (by omega))⟩
    · refine m_st (st2 := [.int (iI 0)]) (by rw [h2e]) ?_
      refine m_if_ne (tgt := 34) C ⟨by decide, by decide⟩ dX12_copyRow_25 (by decide) (fun z => absurd z (by omega)) (fun _ => ?_)
      refine m_aload_n (j := 0) C dX12_copyRow_28 rfl ?_
      refine m_iconst C dX12_copyRow_29 ?_
      refine m_call (mc2 := 0) (ms2 := 0) (As := [.int (iI 2)]) (rest := []) C (B_bad (x := 2) hB (by show -2147483648 ≤ (2 : Int) ∧ (2 : Int) ≤ 2147483647; omega)) dX12_copyRow_30 kV_X12_154 rfl ck_13 rfl (Nat.le_of_ble_eq_true rfl) ⟨Nat.le_of_ble_eq_true rfl, Nat.le_of_ble_eq_true rfl⟩ ⟨Nat.le_of_ble_eq_true rfl, Nat.le_of_ble_eq_true rfl⟩ (fun rh11 vh11 ah11 h11 => ?_)
      obtain ⟨f9, rfl, fn9, bn9, ex9⟩ := h11
      refine hv2 (fp0.call fn9 rfl rfl) (show f9 = -1 from ex9) (fun fq10 gf9 => ?_)
      refine m_st (st2 := [.int (iI f9)]) rfl ?_
      exact m_iret C dX12_copyRow_33 rfl (Nat.le_of_ble_eq_true rfl) (Nat.le_of_ble_eq_true rfl) ⟨f9, rfl, fq10, bn9, (CRA.bad (by omega) ⟨fn9.1 36 rfl, fn9.2 34 rfl, fn9.2 35 rfl⟩ (by omega))⟩
  · refine m_st (st2 := [.int (iI 0)]) (by rw [h1e]) ?_
    refine m_if_eq (tgt := 28) C ⟨by decide, by decide⟩ dX12_copyRow_11 (by decide) (fun _ => ?_) (fun z => absurd z (by omega))
    refine m_aload_n (j := 0) C dX12_copyRow_28 rfl ?_
    refine m_iconst C dX12_copyRow_29 ?_
    refine m_call (mc2 := 0) (ms2 := 0) (As := [.int (iI 2)]) (rest := []) C (B_bad (x := 2) hB (by show -2147483648 ≤ (2 : Int) ∧ (2 : Int) ≤ 2147483647; omega)) dX12_copyRow_30 kV_X12_154 rfl ck_13 rfl (Nat.le_of_ble_eq_true rfl) ⟨Nat.le_of_ble_eq_true rfl, Nat.le_of_ble_eq_true rfl⟩ ⟨Nat.le_of_ble_eq_true rfl, Nat.le_of_ble_eq_true rfl⟩ (fun rh12 vh12 ah12 h12 => ?_)
    obtain ⟨f10, rfl, fn10, bn10, ex10⟩ := h12
    refine hv2 (fp0.call fn10 rfl rfl) (show f10 = -1 from ex10) (fun fq11 gf10 => ?_)
    refine m_st (st2 := [.int (iI f10)]) rfl ?_
    exact m_iret C dX12_copyRow_33 rfl (Nat.le_of_ble_eq_true rfl) (Nat.le_of_ble_eq_true rfl) ⟨f10, rfl, fq11, bn10, (CRA.bad (by omega) ⟨fn10.1 36 rfl, fn10.2 34 rfl, fn10.2 35 rfl⟩ (by omega))⟩
def CPA (v : Nat → Int) (a : Nat → Nat → Int) (v2 : Nat → Int) (a2 : Nat → Nat → Int) (q u n f : Int) : Prop := ∀ E, SHA v a E → ∃ E2, CPLX E q u n (v 42) f E2 (v2 42) ∧ SHA v2 a2 E2
def CL1 (v : Nat → Int) (a : Nat → Nat → Int) (v1 : Nat → Int) (a1 : Nat → Nat → Int) (q u k : Int) : Prop := ∀ E, SHA v a E → ∃ E1, cpn E q u k.toNat E1 ∧ SHA v1 a1 E1
def CL2 (v : Nat → Int) (a : Nat → Nat → Int) (v1 : Nat → Int) (a1 : Nat → Nat → Int) (q u k x y i : Int) : Prop := ∃ a3, CL1 v a v1 a3 q u k ∧ (∀ j, a3 34 j ≤ 200) ∧ (∀ j : Nat, a1 34 j = if j = y.toNat then a3 34 x.toNat else a3 34 j) ∧ 0 ≤ a3 34 x.toNat ∧ ∀ j : Nat, a1 35 j = if 200 * y ≤ ((j : Nat) : Int) ∧ ((j : Nat) : Int) < 200 * y + i then a3 35 (((j : Nat) : Int) - 200 * y + 200 * x).toNat else a3 35 j
section CPLS
variable {v v1 v2 v3 : Nat → Int} {a a1 a2 : Nat → Nat → Int} {E E2 : List (Option (List Int))} {q u n f k x y z i : Int} {m m2 : Nat}
theorem CL1.zero (hk : k = 0) (h : KSA v a v1 a1) : CL1 v a v1 a1 q u k := fun E hE => ⟨E, by rw [hk]; rfl, hE.cg h⟩
theorem CL1.fr (h : CL1 v a v1 a1 q u k) (hk : KSA v1 a1 v2 a2) : CL1 v a v2 a2 q u k := fun E hE => by
  obtain ⟨E1, e1, e2⟩ := h E hE
  exact ⟨E1, e1, e2.cg hk⟩
theorem CL1.go (h : CL1 v a v1 a1 q u k) (hb : ∀ j, a1 34 j ≤ 200) (hm : m = y.toNat) (hz : z = a1 34 x.toNat) (hx : 0 ≤ a1 34 x.toNat) : CL2 v a v1 (up2 a1 34 m z) q u k x y 0 := by
  refine ⟨a1, h, hb, fun j => ?_, hx, fun j => ?_⟩
  · subst hm
    by_cases c : j = y.toNat
    · rw [c, up2_s, if_pos rfl]
      exact hz
    · rw [up2_j c, if_neg c]
  · rw [if_neg (by omega), up2_k (by decide)]
theorem CL2.step (h : CL2 v a v1 a1 q u k x y i) (hx : 0 ≤ x ∧ 0 ≤ y) (hi : 0 ≤ i ∧ i < 200) (hm : m = (200 * y + i).toNat) (hm2 : m2 = (200 * x + i).toNat) : CL2 v a v1 (up2 a1 35 m (a1 35 m2)) q u k x y (i + 1) := by
  obtain ⟨a3, h1, hb, h2, h3, h4⟩ := h
  refine ⟨a3, h1, hb, fun j => by rw [up2_k (by decide)]; exact h2 j, h3, fun j => ?_⟩
  by_cases c : j = m
  · rw [c, up2_s, if_pos (by omega), h4 m2, if_neg (by omega), show ((m : Nat) : Int) - 200 * y + 200 * x = ((m2 : Nat) : Int) by omega, Int.toNat_natCast]
  · rw [up2_j c, h4 j]
    by_cases c2 : 200 * y ≤ ((j : Nat) : Int) ∧ ((j : Nat) : Int) < 200 * y + i
    · rw [if_pos c2, if_pos (by omega)]
    · rw [if_neg c2, if_neg (by omega)]
theorem CL2.fin (h : CL2 v a v1 a1 q u k x y i) (hk : 0 ≤ k) (hx : x = q + k) (hy : y = u + k) (h0 : (0 ≤ x ∧ x < v1 36) ∧ (0 ≤ y ∧ y < v1 36)) (hi : a1 34 x.toNat ≤ i ∧ i ≤ 200) (h36 : v2 36 = v1 36) : CL1 v a v2 a1 q u (k + 1) := fun E hE => by
  obtain ⟨a3, h1, hb, h2, h3, h4⟩ := h
  obtain ⟨E1, e1, e2⟩ := h1 E hE
  obtain ⟨xs, d1, d2, d3⟩ := e2.have_ h0.1.1 h0.1.2 h3
  obtain ⟨yy, d4, _⟩ := e2.on h0.2.1 h0.2.2
  have ex : a1 34 x.toNat = a3 34 x.toNat := by
    rw [h2 x.toNat]
    split
    · rfl
    · rfl
  have b := hb x.toNat
  refine ⟨E1.set y.toNat (some xs), ?_, e2.set hb h0.2 h36 (Or.inr ⟨xs, rfl, ?_, fun j z ez => ?_⟩) (fun j hj => ⟨?_, fun o ho => ?_⟩)⟩
  · rw [show (k + 1).toNat = k.toNat + 1 by omega]
    refine ⟨E1, e1, xs, yy, ?_, ?_, ?_⟩
    · rw [show q + ((k.toNat : Nat) : Int) = x by omega]
      exact d1
    · rw [show u + ((k.toNat : Nat) : Int) = y by omega]
      exact d4
    · rw [show u + ((k.toNat : Nat) : Int) = y by omega]
  · rw [h2, if_pos rfl]
    exact d2
  · have lt := gl3 ez
    rw [h4, if_pos (by omega), show (((200 * y.toNat + j : Nat) : Int) - 200 * y + 200 * x).toNat = 200 * x.toNat + j by omega, d3 j lt]
    exact gd0_at ez
  · rw [h2, if_neg hj]
  · rw [h4, if_neg (by omega)]
theorem CPA.bad0 (hn : n < 0 ∨ 10 < n) (hf : f = -1) (h42 : v2 42 = v 42) (hk : KSA v a v2 a2) : CPA v a v2 a2 q u n f := fun E hE => ⟨E, Or.inl ⟨hn, rfl, hf, h42⟩, hE.cg hk⟩
theorem CPA.stop (h : CL1 v a v1 a1 q u k) (hk : 0 ≤ k ∧ k < n) (hn : n ≤ 10) (hx : x = q + k) (hy : y = u + k) (hw : ¬ ((0 ≤ x ∧ x < v1 36) ∧ (0 ≤ y ∧ y < v1 36)) ∨ ((0 ≤ x ∧ x < v1 36) ∧ a1 34 x.toNat < 0)) (hf : f = -1) (h42 : v2 42 = k) (hs : KSA v1 a1 v2 a2) : CPA v a v2 a2 q u n f := fun E hE => by
  obtain ⟨E1, e1, e2⟩ := h E hE
  refine ⟨E1, Or.inr ⟨⟨by omega, hn⟩, Or.inr ⟨k.toNat, by omega, e1, fun ⟨E3, xs, yy, c1, c2, _⟩ => ?_, hf, by omega⟩⟩, e2.cg hs⟩
  rw [show q + ((k.toNat : Nat) : Int) = x by omega] at c1
  rw [show u + ((k.toNat : Nat) : Int) = y by omega] at c2
  rcases hw with c | ⟨c, c3⟩
  · obtain ⟨r1, r2, _⟩ := rwl_lt c1
    obtain ⟨r3, r4, _⟩ := rwl_lt c2
    have e := e2.1
    exact c ⟨⟨r1, by omega⟩, r3, by omega⟩
  · exact e2.fault (Or.inr ⟨c, c3⟩) ⟨xs, c1⟩
theorem CPA.ok (h : CL1 v a v1 a1 q u k) (hk : k = n) (hn : 0 ≤ n ∧ n ≤ 10) (hf : f = n) (h42 : v2 42 = n) (hs : KSA v1 a1 v2 a2) : CPA v a v2 a2 q u n f := fun E hE => by
  obtain ⟨E1, e1, e2⟩ := h E hE
  rw [hk] at e1
  exact ⟨E1, Or.inr ⟨hn, Or.inl ⟨e1, hf, h42⟩⟩, e2.cg hs⟩
end CPLS
set_option maxHeartbeats 4000000 in
set_option maxRecDepth 100000 in
theorem N2_copyLines {l : Launch} {G : GT} {h0 : Nat} {ad ln : Nat → Nat} {v : Nat → Int} {a : Nat → Nat → Int}  {q u n1 : Int} (hB : BX v a) (hq : -2147483648 ≤ q ∧ q ≤ 2147483647) (hu : -2147483648 ≤ u ∧ u ≤ 2147483647) (hn1 : -2147483648 ≤ n1 ∧ n1 ≤ 2147483647) : Mm l G yX12_copyLines cX12_copyLines 10 (some .int) 1 [.int (iI q), .int (iI u), .int (iI n1)] h0 ad ln v a 0 0 (fun r v2 a2 => ∃ f : Int, r = some (.int (iI f)) ∧ fr [0, 1, 42] [34, 35] v a v2 a2 ∧ BX v2 a2 ∧ (CPA v a v2 a2 q u n1 f)) := by
  refine Mm.mk (by decide) (Nat.le_of_ble_eq_true rfl) ?_
  intro p e s m args below meth c A C
  refine hv2 (show 0 ≤ v 36 ∧ v 36 ≤ 200 from hB.1 36) (show fr [0, 1, 42] [34, 35] v a v a from fr.refl) (fun r36 fp0 => ?_)
  refine m_iload_n (j := 3) C dX12_copyLines_0 rfl ?_
  refine m_bipush (z := 10) C dX12_copyLines_1 (by decide) ?_
  refine m_icmp_le (tgt := 13) C ⟨by omega, by omega⟩ ⟨by decide, by decide⟩ dX12_copyLines_3 (by decide) (fun c1 => ?_) (fun c1 => ?_)
  · refine m_iload_n (j := 3) C dX12_copyLines_13 rfl ?_
    refine m_if_ge (tgt := 23) C ⟨by omega, by omega⟩ dX12_copyLines_14 (by decide) (fun c2 => ?_) (fun c2 => ?_)
    · refine m_aload_n (j := 0) C dX12_copyLines_23 rfl ?_
      refine m_iconst C dX12_copyLines_24 ?_
      refine m_put (k := 42) (z := 0) C dX12_copyLines_25 w6_101 (by decide) rfl rfl rfl ?_
      refine hv2 (show BX (va_up v 42 0) a from hB.put (k := 42) (z := 0) ⟨by decide, by decide⟩) (fp0.put (k := 42) (z := 0) rfl) (fun bq1 fq1 => ?_)
      refine m_iconst C dX12_copyLines_28 ?_
      refine m_istore (lv2 := [(4, .int (iI 0)), (0, .ref h0), (1, .int (iI q)), (2, .int (iI u)), (3, .int (iI n1))]) C dX12_copyLines_29 (by decide) rfl ?_
      have Lp1 : ∀ (nn : Nat) (k : Int) (vb1 : Nat → Int) (ab1 : Nat → Nat → Int), 11 - k < (nn : Int) → BX vb1 ab1 → fr [0, 1, 42] [34, 35] v a vb1 ab1 → (0 ≤ k ∧ k ≤ n1) → (vb1 42 = k) → (vb1 36 = v 36) → (CL1 v a vb1 ab1 q u k) → mw p l e (rmq 1 0 0) s m args below meth c G A 10 (MQ below (Qm G A (fun rq Lq Eq => ∃ (vq : Nat → Int) (aq : Nat → Nat → Int), mI G h0 ad ln vq aq Lq Eq ∧ (fun r v2 a2 => ∃ f : Int, r = some (.int (iI f)) ∧ fr [0, 1, 42] [34, 35] v a v2 a2 ∧ BX v2 a2 ∧ (CPA v a v2 a2 q u n1 f)) rq vq aq)) args s 0 0 A) h0 ad ln vb1 ab1 0 0 31 [(4, .int (iI k)), (0, .ref h0), (1, .int (iI q)), (2, .int (iI u)), (3, .int (iI n1))] [] := by
        intro nn
        induction nn with
        | zero =>
          intro k vb1 ab1 hm bxb1 fpb1 hk hc h36 hA
          exact absurd hm (by omega)
        | succ nn ih1 =>
          intro k vb1 ab1 hm bxb1 fpb1 hk hc h36 hA
          refine m_iload (j := 0) C dX12_copyLines_31 rfl ?_
          refine m_iload_n (j := 4) C dX12_copyLines_33 rfl ?_
          refine m_icmp_ge (tgt := 196) C ⟨by omega, by omega⟩ ⟨by omega, by omega⟩ dX12_copyLines_34 (by decide) (fun c3 => ?_) (fun c3 => ?_)
          · refine m_aload_n (j := 1) C dX12_copyLines_196 rfl ?_
            refine m_iload_n (j := 4) C dX12_copyLines_197 rfl ?_
            refine m_call (mc2 := 0) (ms2 := 0) (As := [.int (iI n1)]) (rest := []) C (B_fine (x := n1) bxb1 (by show -2147483648 ≤ n1 ∧ n1 ≤ 2147483647; omega)) dX12_copyLines_198 kV_X12_158 rfl ck_13 rfl (Nat.le_of_ble_eq_true rfl) ⟨Nat.le_of_ble_eq_true rfl, Nat.le_of_ble_eq_true rfl⟩ ⟨Nat.le_of_ble_eq_true rfl, Nat.le_of_ble_eq_true rfl⟩ (fun rh1 vh1 ah1 h1 => ?_)
            obtain ⟨f1, rfl, fn1, bn1, ex1⟩ := h1
            refine hv2 (fpb1.call fn1 rfl rfl) (show f1 = n1 from ex1) (fun fq2 gf1 => ?_)
            refine m_st (st2 := [.int (iI f1)]) rfl ?_
            refine hv2 (show (-2147483648) ≤ vh1 42 ∧ vh1 42 ≤ 2147483647 from bn1.1 42) (show vh1 42 = vb1 42 from fn1.1 42 rfl) (fun rv1 ve1 => ?_)
            exact m_iret C dX12_copyLines_201 rfl (Nat.le_of_ble_eq_true rfl) (Nat.le_of_ble_eq_true rfl) ⟨f1, rfl, fq2, bn1, (CPA.ok hA (by omega) ⟨by omega, by omega⟩ (by omega) (by omega) ⟨fn1.1 36 rfl, fn1.2 34 rfl, fn1.2 35 rfl⟩)⟩
          · refine m_iload_n (j := 2) C dX12_copyLines_37 rfl ?_
            refine m_i2l (w := lI q) C dX12_copyLines_38 (lI_of ⟨by omega, by omega⟩) ?_
            refine m_iload (j := 0) C dX12_copyLines_39 rfl ?_
            refine m_i2l (w := lI k) C dX12_copyLines_41 (lI_of ⟨by omega, by omega⟩) ?_
            refine m_ladd (w := lI (q + k)) C dX12_copyLines_42 (lI_add _ _) ?_
            refine m_lstore (lv2 := [(5, .long (lI (q + k))), (4, .int (iI k)), (0, .ref h0), (1, .int (iI q)), (2, .int (iI u)), (3, .int (iI n1))]) C dX12_copyLines_43 (by decide) rfl ?_
            refine m_iload_n (j := 4) C dX12_copyLines_45 rfl ?_
            refine m_i2l (w := lI u) C dX12_copyLines_46 (lI_of ⟨by omega, by omega⟩) ?_
            refine m_iload (j := 1) C dX12_copyLines_47 rfl ?_
            refine m_i2l (w := lI k) C dX12_copyLines_49 (lI_of ⟨by omega, by omega⟩) ?_
            refine m_ladd (w := lI (u + k)) C dX12_copyLines_50 (lI_add _ _) ?_
            refine m_lstore (lv2 := [(7, .long (lI (u + k))), (5, .long (lI (q + k))), (4, .int (iI k)), (0, .ref h0), (1, .int (iI q)), (2, .int (iI u)), (3, .int (iI n1))]) C dX12_copyLines_51 (by decide) rfl ?_
            refine m_lload (j := 1) C dX12_copyLines_53 rfl ?_
            refine m_lconst (w := lI 0) C dX12_copyLines_55 rfl ?_
            obtain ⟨lc1, hlc1, elc1⟩ := lcmp_c (x := (q + k)) (y := 0) ⟨by omega, by omega⟩ ⟨by omega, by omega⟩
            refine m_lcmp (w := iI lc1) C dX12_copyLines_56 elc1 ?_
            refine m_if_lt (tgt := 89) C ⟨by omega, by omega⟩ dX12_copyLines_57 (by decide) (fun c4 => ?_) (fun c4 => ?_)
            · refine m_aload_n (j := 3) C dX12_copyLines_89 rfl ?_
              refine m_iconst C dX12_copyLines_90 ?_
              refine m_call (mc2 := 0) (ms2 := 0) (As := [.int (iI 2)]) (rest := []) C (B_bad (x := 2) bxb1 (by show -2147483648 ≤ (2 : Int) ∧ (2 : Int) ≤ 2147483647; omega)) dX12_copyLines_91 kV_X12_154 rfl ck_13 rfl (Nat.le_of_ble_eq_true rfl) ⟨Nat.le_of_ble_eq_true rfl, Nat.le_of_ble_eq_true rfl⟩ ⟨Nat.le_of_ble_eq_true rfl, Nat.le_of_ble_eq_true rfl⟩ (fun rh2 vh2 ah2 h2 => ?_)
              obtain ⟨f2, rfl, fn2, bn2, ex2⟩ := h2
              refine hv2 (fpb1.call fn2 rfl rfl) (show f2 = -1 from ex2) (fun fq3 gf2 => ?_)
              refine m_st (st2 := [.int (iI f2)]) rfl ?_
              refine hv2 (show (-2147483648) ≤ vh2 42 ∧ vh2 42 ≤ 2147483647 from bn2.1 42) (show vh2 42 = vb1 42 from fn2.1 42 rfl) (fun rv2 ve2 => ?_)
              exact m_iret C dX12_copyLines_94 rfl (Nat.le_of_ble_eq_true rfl) (Nat.le_of_ble_eq_true rfl) ⟨f2, rfl, fq3, bn2, (CPA.stop hA ⟨by omega, by omega⟩ (by omega) rfl rfl (by omega) (by omega) (by omega) ⟨fn2.1 36 rfl, fn2.2 34 rfl, fn2.2 35 rfl⟩)⟩
            · refine m_lload (j := 1) C dX12_copyLines_60 rfl ?_
              refine m_aload_n (j := 3) C dX12_copyLines_62 rfl ?_
              refine hv2 (show 0 ≤ vb1 36 ∧ vb1 36 ≤ 200 from bxb1.1 36) (show vb1 36 = v 36 from fpb1.1 36 rfl) (fun rv3 ve3 => ?_)
              refine m_get (k := 36) C dX12_copyLines_63 w6_95 (by decide) rfl ?_
              refine m_st (st2 := [.int (iI (v 36)), .long (lI (q + k))]) (congrArg (fun z => Value.int (iI z) :: [.long (lI (q + k))]) (fpb1.1 36 rfl)) ?_
              refine m_i2l (w := lI (v 36)) C dX12_copyLines_66 (lI_of ⟨by omega, by omega⟩) ?_
              obtain ⟨lc2, hlc2, elc2⟩ := lcmp_c (x := (q + k)) (y := (v 36)) ⟨by omega, by omega⟩ ⟨by omega, by omega⟩
              refine m_lcmp (w := iI lc2) C dX12_copyLines_67 elc2 ?_
              refine m_if_ge (tgt := 89) C ⟨by omega, by omega⟩ dX12_copyLines_68 (by decide) (fun c5 => ?_) (fun c5 => ?_)
              · refine m_aload_n (j := 3) C dX12_copyLines_89 rfl ?_
                refine m_iconst C dX12_copyLines_90 ?_
                refine m_call (mc2 := 0) (ms2 := 0) (As := [.int (iI 2)]) (rest := []) C (B_bad (x := 2) bxb1 (by show -2147483648 ≤ (2 : Int) ∧ (2 : Int) ≤ 2147483647; omega)) dX12_copyLines_91 kV_X12_154 rfl ck_13 rfl (Nat.le_of_ble_eq_true rfl) ⟨Nat.le_of_ble_eq_true rfl, Nat.le_of_ble_eq_true rfl⟩ ⟨Nat.le_of_ble_eq_true rfl, Nat.le_of_ble_eq_true rfl⟩ (fun rh3 vh3 ah3 h3 => ?_)
                obtain ⟨f3, rfl, fn3, bn3, ex3⟩ := h3
                refine hv2 (fpb1.call fn3 rfl rfl) (show f3 = -1 from ex3) (fun fq4 gf3 => ?_)
                refine m_st (st2 := [.int (iI f3)]) rfl ?_
                refine hv2 (show (-2147483648) ≤ vh3 42 ∧ vh3 42 ≤ 2147483647 from bn3.1 42) (show vh3 42 = vb1 42 from fn3.1 42 rfl) (fun rv4 ve4 => ?_)
                exact m_iret C dX12_copyLines_94 rfl (Nat.le_of_ble_eq_true rfl) (Nat.le_of_ble_eq_true rfl) ⟨f3, rfl, fq4, bn3, (CPA.stop hA ⟨by omega, by omega⟩ (by omega) rfl rfl (by omega) (by omega) (by omega) ⟨fn3.1 36 rfl, fn3.2 34 rfl, fn3.2 35 rfl⟩)⟩
              · refine m_lload (j := 0) C dX12_copyLines_71 rfl ?_
                refine m_lconst (w := lI 0) C dX12_copyLines_73 rfl ?_
                obtain ⟨lc3, hlc3, elc3⟩ := lcmp_c (x := (u + k)) (y := 0) ⟨by omega, by omega⟩ ⟨by omega, by omega⟩
                refine m_lcmp (w := iI lc3) C dX12_copyLines_74 elc3 ?_
                refine m_if_lt (tgt := 89) C ⟨by omega, by omega⟩ dX12_copyLines_75 (by decide) (fun c6 => ?_) (fun c6 => ?_)
                · refine m_aload_n (j := 3) C dX12_copyLines_89 rfl ?_
                  refine m_iconst C dX12_copyLines_90 ?_
                  refine m_call (mc2 := 0) (ms2 := 0) (As := [.int (iI 2)]) (rest := []) C (B_bad (x := 2) bxb1 (by show -2147483648 ≤ (2 : Int) ∧ (2 : Int) ≤ 2147483647; omega)) dX12_copyLines_91 kV_X12_154 rfl ck_13 rfl (Nat.le_of_ble_eq_true rfl) ⟨Nat.le_of_ble_eq_true rfl, Nat.le_of_ble_eq_true rfl⟩ ⟨Nat.le_of_ble_eq_true rfl, Nat.le_of_ble_eq_true rfl⟩ (fun rh4 vh4 ah4 h4 => ?_)
                  obtain ⟨f4, rfl, fn4, bn4, ex4⟩ := h4
                  refine hv2 (fpb1.call fn4 rfl rfl) (show f4 = -1 from ex4) (fun fq5 gf4 => ?_)
                  refine m_st (st2 := [.int (iI f4)]) rfl ?_
                  refine hv2 (show (-2147483648) ≤ vh4 42 ∧ vh4 42 ≤ 2147483647 from bn4.1 42) (show vh4 42 = vb1 42 from fn4.1 42 rfl) (fun rv5 ve5 => ?_)
                  exact m_iret C dX12_copyLines_94 rfl (Nat.le_of_ble_eq_true rfl) (Nat.le_of_ble_eq_true rfl) ⟨f4, rfl, fq5, bn4, (CPA.stop hA ⟨by omega, by omega⟩ (by omega) rfl rfl (by omega) (by omega) (by omega) ⟨fn4.1 36 rfl, fn4.2 34 rfl, fn4.2 35 rfl⟩)⟩
                · refine m_lload (j := 0) C dX12_copyLines_78 rfl ?_
                  refine m_aload_n (j := 3) C dX12_copyLines_80 rfl ?_
                  refine m_get (k := 36) C dX12_copyLines_81 w6_95 (by decide) rfl ?_
                  refine m_st (st2 := [.int (iI (v 36)), .long (lI (u + k))]) (congrArg (fun z => Value.int (iI z) :: [.long (lI (u + k))]) (fpb1.1 36 rfl)) ?_
                  refine m_i2l (w := lI (v 36)) C dX12_copyLines_84 (lI_of ⟨by omega, by omega⟩) ?_
                  obtain ⟨lc4, hlc4, elc4⟩ := lcmp_c (x := (u + k)) (y := (v 36)) ⟨by omega, by omega⟩ ⟨by omega, by omega⟩
                  refine m_lcmp (w := iI lc4) C dX12_copyLines_85 elc4 ?_
                  refine m_if_lt (tgt := 95) C ⟨by omega, by omega⟩ dX12_copyLines_86 (by decide) (fun c7 => ?_) (fun c7 => ?_)
                  · refine m_aload_n (j := 3) C dX12_copyLines_95 rfl ?_
                    refine m_geta (k := 34) C dX12_copyLines_96 w6_93 (by decide) rfl ?_
                    refine m_lload (j := 1) C dX12_copyLines_99 rfl ?_
                    refine m_l2i (w := iI (q + k)) C dX12_copyLines_101 (lI_i _) ?_
                    refine m_ald (k := 34) C dX12_copyLines_102 rfl rfl (by decide) (by omega) (by show _ < ((_ : Nat) : Int); simp only [mlen]; omega) (by decide) ?_
                    have ra1 : (-1) ≤ ab1 34 (q + k).toNat ∧ ab1 34 (q + k).toNat ≤ 200 := bxb1.2 34 ((q + k).toNat)
                    refine m_if_ge (tgt := 112) C (r32_c (lo := (-1)) (hi := 200) ra1.1 ra1.2 (by decide) (by decide)) dX12_copyLines_103 (by decide) (fun c8 => ?_) (fun c8 => ?_)
                    · refine m_aload_n (j := 3) C dX12_copyLines_112 rfl ?_
                      refine m_geta (k := 34) C dX12_copyLines_113 w6_93 (by decide) rfl ?_
                      refine m_lload (j := 0) C dX12_copyLines_116 rfl ?_
                      refine m_l2i (w := iI (u + k)) C dX12_copyLines_118 (lI_i _) ?_
                      refine m_aload_n (j := 3) C dX12_copyLines_119 rfl ?_
                      refine m_geta (k := 34) C dX12_copyLines_120 w6_93 (by decide) rfl ?_
                      refine m_lload (j := 1) C dX12_copyLines_123 rfl ?_
                      refine m_l2i (w := iI (q + k)) C dX12_copyLines_125 (lI_i _) ?_
                      refine m_ald (k := 34) C dX12_copyLines_126 rfl rfl (by decide) (by omega) (by show _ < ((_ : Nat) : Int); simp only [mlen]; omega) (by decide) ?_
                      refine m_ast (k := 34) C dX12_copyLines_127 rfl rfl (by decide) (by omega) (by show _ < ((_ : Nat) : Int); simp only [mlen]; omega) (by decide) ?_
                      refine hv2 (show BX vb1 (up2 ab1 34 (u + k).toNat (ab1 34 (q + k).toNat)) from bxb1.set (k := 34) (i := (u + k).toNat) (z := ab1 34 (q + k).toNat) (show (-1) ≤ (ab1 34 (q + k).toNat) ∧ (ab1 34 (q + k).toNat) ≤ 200 by omega)) (fpb1.set (k := 34) (i := (u + k).toNat) (z := ab1 34 (q + k).toNat) rfl) (fun bq2 fq6 => ?_)
                      refine m_iconst C dX12_copyLines_128 ?_
                      refine m_istore (lv2 := [(9, .int (iI 0)), (7, .long (lI (u + k))), (5, .long (lI (q + k))), (4, .int (iI k)), (0, .ref h0), (1, .int (iI q)), (2, .int (iI u)), (3, .int (iI n1))]) C dX12_copyLines_129 (by decide) rfl ?_
                      have Lp2 : ∀ (nn : Nat) (i1 : Int) (vb2 : Nat → Int) (ab2 : Nat → Nat → Int), 201 - i1 < (nn : Int) → BX vb2 ab2 → fr [0, 1, 42] [34, 35] v a vb2 ab2 → (0 ≤ i1 ∧ i1 ≤ 200) → (vb2 42 = k) → (vb2 36 = v 36) → (CL2 v a vb2 ab2 q u k (q + k) (u + k) i1) → mw p l e (rmq 1 0 0) s m args below meth c G A 10 (MQ below (Qm G A (fun rq Lq Eq => ∃ (vq : Nat → Int) (aq : Nat → Nat → Int), mI G h0 ad ln vq aq Lq Eq ∧ (fun r v2 a2 => ∃ f : Int, r = some (.int (iI f)) ∧ fr [0, 1, 42] [34, 35] v a v2 a2 ∧ BX v2 a2 ∧ (CPA v a v2 a2 q u n1 f)) rq vq aq)) args s 0 0 A) h0 ad ln vb2 ab2 0 0 131 [(9, .int (iI i1)), (7, .long (lI (u + k))), (5, .long (lI (q + k))), (4, .int (iI k)), (0, .ref h0), (1, .int (iI q)), (2, .int (iI u)), (3, .int (iI n1))] [] := by
                        intro nn
                        induction nn with
                        | zero =>
                          intro i1 vb2 ab2 hm bxb2 fpb2 hi hc2 h36b hD
                          exact absurd hm (by omega)
                        | succ nn ih2 =>
                          intro i1 vb2 ab2 hm bxb2 fpb2 hi hc2 h36b hD
                          refine m_iload (j := 0) C dX12_copyLines_131 rfl ?_
                          refine m_aload_n (j := 4) C dX12_copyLines_133 rfl ?_
                          refine m_geta (k := 34) C dX12_copyLines_134 w6_93 (by decide) rfl ?_
                          refine m_lload (j := 2) C dX12_copyLines_137 rfl ?_
                          refine m_l2i (w := iI (q + k)) C dX12_copyLines_139 (lI_i _) ?_
                          refine m_ald (k := 34) C dX12_copyLines_140 rfl rfl (by decide) (by omega) (by show _ < ((_ : Nat) : Int); simp only [mlen]; omega) (by decide) ?_
                          have ra2 : (-1) ≤ ab2 34 (q + k).toNat ∧ ab2 34 (q + k).toNat ≤ 200 := bxb2.2 34 ((q + k).toNat)
                          refine m_icmp_ge (tgt := 180) C (r32_c (lo := 0) (hi := 200) hi.1 hi.2 (by decide) (by decide)) (r32_c (lo := (-1)) (hi := 200) ra2.1 ra2.2 (by decide) (by decide)) dX12_copyLines_141 (by decide) (fun c9 => ?_) (fun c9 => ?_)
                          · refine m_aload_n (j := 4) C dX12_copyLines_180 rfl ?_
                            refine m_dup C dX12_copyLines_181 rfl ?_
                            have rv6 : (-2147483648) ≤ vb2 42 ∧ vb2 42 ≤ 2147483647 := bxb2.1 42
                            refine m_get (k := 42) C dX12_copyLines_182 w6_101 (by decide) rfl ?_
                            refine m_iconst C dX12_copyLines_185 ?_
                            refine m_iadd C dX12_copyLines_186 ?_
                            refine m_put (k := 42) (z := (vb2 42) + 1) C dX12_copyLines_187 w6_101 (by decide) rfl rfl rfl ?_
                            refine hv2 (show BX (va_up vb2 42 ((vb2 42) + 1)) ab2 from bxb2.put (k := 42) (z := (vb2 42) + 1) (show (-2147483648) ≤ ((vb2 42) + 1) ∧ ((vb2 42) + 1) ≤ 2147483647 by omega)) (fpb2.put (k := 42) (z := (vb2 42) + 1) rfl) (fun bq3 fq7 => ?_)
                            refine m_iinc (z := k) (j := 3) (lv2 := [(4, .int (iI (k + 1))), (9, .int (iI i1)), (7, .long (lI (u + k))), (5, .long (lI (q + k))), (0, .ref h0), (1, .int (iI q)), (2, .int (iI u)), (3, .int (iI n1))]) C dX12_copyLines_190 rfl (by decide) rfl ?_
                            refine m_goto (tgt := 31) C dX12_copyLines_193 (by decide) ?_
                            refine hv2 (show 0 ≤ vb2 36 ∧ vb2 36 ≤ 200 from bq3.1 36) (show vb2 36 = v 36 from fpb2.1 36 rfl) (fun rv7 ve6 => ?_)
                            refine m_lv (lv2 := [(4, .int (iI (k + 1))), (0, .ref h0), (1, .int (iI q)), (2, .int (iI u)), (3, .int (iI n1))]) [0, 4, 5, 6, 7] rfl ?_
                            exact ih1  (k + 1) _ _ (by omega) bq3 fq7 (by omega) (by show ((vb2 42) + 1) = (k + 1); omega) (by show (vb2 36) = v 36; omega) (CL2.fin hD (by omega) rfl rfl ⟨⟨by omega, by omega⟩, by omega, by omega⟩ ⟨by omega, by omega⟩ (va_up_ne _ _ (by decide)))
                          · refine m_aload_n (j := 4) C dX12_copyLines_144 rfl ?_
                            refine m_geta (k := 35) C dX12_copyLines_145 w6_94 (by decide) rfl ?_
                            refine m_sipush (z := 200) C dX12_copyLines_148 (by decide) ?_
                            refine m_lload (j := 1) C dX12_copyLines_151 rfl ?_
                            refine m_l2i (w := iI (u + k)) C dX12_copyLines_153 (lI_i _) ?_
                            refine m_imul C dX12_copyLines_154 ?_
                            refine m_iload (j := 0) C dX12_copyLines_155 rfl ?_
                            refine m_iadd C dX12_copyLines_157 ?_
                            refine m_aload_n (j := 4) C dX12_copyLines_158 rfl ?_
                            refine m_geta (k := 35) C dX12_copyLines_159 w6_94 (by decide) rfl ?_
                            refine m_sipush (z := 200) C dX12_copyLines_162 (by decide) ?_
                            refine m_lload (j := 2) C dX12_copyLines_165 rfl ?_
                            refine m_l2i (w := iI (q + k)) C dX12_copyLines_167 (lI_i _) ?_
                            refine m_imul C dX12_copyLines_168 ?_
                            refine m_iload (j := 0) C dX12_copyLines_169 rfl ?_
                            refine m_iadd C dX12_copyLines_171 ?_
                            refine m_ald (k := 35) C dX12_copyLines_172 rfl rfl (by decide) (by omega) (by show _ < ((_ : Nat) : Int); simp only [mlen]; omega) (by decide) ?_
                            have ra3 : (-2147483648) ≤ ab2 35 ((200 * (q + k)) + i1).toNat ∧ ab2 35 ((200 * (q + k)) + i1).toNat ≤ 2147483647 := bxb2.2 35 (((200 * (q + k)) + i1).toNat)
                            refine m_ast (k := 35) C dX12_copyLines_173 rfl rfl (by decide) (by omega) (by show _ < ((_ : Nat) : Int); simp only [mlen]; omega) (by decide) ?_
                            refine hv2 (show BX vb2 (up2 ab2 35 ((200 * (u + k)) + i1).toNat (ab2 35 ((200 * (q + k)) + i1).toNat)) from bxb2.set (k := 35) (i := ((200 * (u + k)) + i1).toNat) (z := ab2 35 ((200 * (q + k)) + i1).toNat) (show (-2147483648) ≤ (ab2 35 ((200 * (q + k)) + i1).toNat) ∧ (ab2 35 ((200 * (q + k)) + i1).toNat) ≤ 2147483647 by omega)) (fpb2.set (k := 35) (i := ((200 * (u + k)) + i1).toNat) (z := ab2 35 ((200 * (q + k)) + i1).toNat) rfl) (fun bq4 fq8 => ?_)
                            refine m_iinc (z := i1) (j := 0) (lv2 := [(9, .int (iI (i1 + 1))), (7, .long (lI (u + k))), (5, .long (lI (q + k))), (4, .int (iI k)), (0, .ref h0), (1, .int (iI q)), (2, .int (iI u)), (3, .int (iI n1))]) C dX12_copyLines_174 rfl (by decide) rfl ?_
                            refine m_goto (tgt := 131) C dX12_copyLines_177 (by decide) ?_
                            refine hv3 (show (-2147483648) ≤ vb2 42 ∧ vb2 42 ≤ 2147483647 from bq4.1 42) (show 0 ≤ vb2 36 ∧ vb2 36 ≤ 200 from bq4.1 36) (show vb2 36 = v 36 from fpb2.1 36 rfl) (fun rv8 rv9 ve7 => ?_)
                            refine m_lv (lv2 := [(9, .int (iI (i1 + 1))), (7, .long (lI (u + k))), (5, .long (lI (q + k))), (4, .int (iI k)), (0, .ref h0), (1, .int (iI q)), (2, .int (iI u)), (3, .int (iI n1))]) [0, 1, 2, 3, 4, 5, 6, 7] rfl ?_
                            exact ih2  (i1 + 1) _ _ (by omega) bq4 fq8 (by omega) (by show (vb2 42) = k; omega) (by show (vb2 36) = v 36; omega) (CL2.step hD ⟨by omega, by omega⟩ ⟨by omega, by omega⟩ rfl rfl)
                      have rv10 : (-2147483648) ≤ vb1 42 ∧ vb1 42 ≤ 2147483647 := bq2.1 42
                      refine m_lv (lv2 := [(9, .int (iI 0)), (7, .long (lI (u + k))), (5, .long (lI (q + k))), (4, .int (iI k)), (0, .ref h0), (1, .int (iI q)), (2, .int (iI u)), (3, .int (iI n1))]) [0, 1, 2, 3, 4, 5, 6, 7] rfl ?_
                      exact Lp2 202 0 _ _ (by omega) bq2 fq6 (by omega) (by show (vb1 42) = k; omega) (by show (vb1 36) = v 36; omega) (CL1.go hA (fun j => (bxb1.2 34 j).2) rfl rfl (by omega))
                    · refine m_aload_n (j := 3) C dX12_copyLines_106 rfl ?_
                      refine m_iconst C dX12_copyLines_107 ?_
                      refine m_call (mc2 := 0) (ms2 := 0) (As := [.int (iI 1)]) (rest := []) C (B_bad (x := 1) bxb1 (by show -2147483648 ≤ (1 : Int) ∧ (1 : Int) ≤ 2147483647; omega)) dX12_copyLines_108 kV_X12_154 rfl ck_13 rfl (Nat.le_of_ble_eq_true rfl) ⟨Nat.le_of_ble_eq_true rfl, Nat.le_of_ble_eq_true rfl⟩ ⟨Nat.le_of_ble_eq_true rfl, Nat.le_of_ble_eq_true rfl⟩ (fun rh5 vh5 ah5 h5 => ?_)
                      obtain ⟨f5, rfl, fn5, bn5, ex5⟩ := h5
                      refine hv2 (fpb1.call fn5 rfl rfl) (show f5 = -1 from ex5) (fun fq9 gf5 => ?_)
                      refine m_st (st2 := [.int (iI f5)]) rfl ?_
                      refine hv2 (show (-2147483648) ≤ vh5 42 ∧ vh5 42 ≤ 2147483647 from bn5.1 42) (show vh5 42 = vb1 42 from fn5.1 42 rfl) (fun rv11 ve8 => ?_)
                      exact m_iret C dX12_copyLines_111 rfl (Nat.le_of_ble_eq_true rfl) (Nat.le_of_ble_eq_true rfl) ⟨f5, rfl, fq9, bn5, (CPA.stop hA ⟨by omega, by omega⟩ (by omega) rfl rfl (by omega) (by omega) (by omega) ⟨fn5.1 36 rfl, fn5.2 34 rfl, fn5.2 35 rfl⟩)⟩
                  · refine m_aload_n (j := 3) C dX12_copyLines_89 rfl ?_
                    refine m_iconst C dX12_copyLines_90 ?_
                    refine m_call (mc2 := 0) (ms2 := 0) (As := [.int (iI 2)]) (rest := []) C (B_bad (x := 2) bxb1 (by show -2147483648 ≤ (2 : Int) ∧ (2 : Int) ≤ 2147483647; omega)) dX12_copyLines_91 kV_X12_154 rfl ck_13 rfl (Nat.le_of_ble_eq_true rfl) ⟨Nat.le_of_ble_eq_true rfl, Nat.le_of_ble_eq_true rfl⟩ ⟨Nat.le_of_ble_eq_true rfl, Nat.le_of_ble_eq_true rfl⟩ (fun rh6 vh6 ah6 h6 => ?_)
                    obtain ⟨f6, rfl, fn6, bn6, ex6⟩ := h6
                    refine hv2 (fpb1.call fn6 rfl rfl) (show f6 = -1 from ex6) (fun fq10 gf6 => ?_)
                    refine m_st (st2 := [.int (iI f6)]) rfl ?_
                    refine hv2 (show (-2147483648) ≤ vh6 42 ∧ vh6 42 ≤ 2147483647 from bn6.1 42) (show vh6 42 = vb1 42 from fn6.1 42 rfl) (fun rv12 ve9 => ?_)
                    exact m_iret C dX12_copyLines_94 rfl (Nat.le_of_ble_eq_true rfl) (Nat.le_of_ble_eq_true rfl) ⟨f6, rfl, fq10, bn6, (CPA.stop hA ⟨by omega, by omega⟩ (by omega) rfl rfl (by omega) (by omega) (by omega) ⟨fn6.1 36 rfl, fn6.2 34 rfl, fn6.2 35 rfl⟩)⟩
      have rv13 : 0 ≤ v 36 ∧ v 36 ≤ 200 := bq1.1 36
      refine m_lv (lv2 := [(4, .int (iI 0)), (0, .ref h0), (1, .int (iI q)), (2, .int (iI u)), (3, .int (iI n1))]) [0, 1, 2, 3, 4] rfl ?_
      exact Lp1 12 0 _ _ (by omega) bq1 fq1 (by omega) (by show 0 = 0; omega) (by show (v 36) = v 36; omega) (CL1.zero rfl ⟨va_up_ne _ _ (by decide), rfl, rfl⟩)
    · refine m_aload_n (j := 0) C dX12_copyLines_17 rfl ?_
      refine m_iconst C dX12_copyLines_18 ?_
      refine m_call (mc2 := 0) (ms2 := 0) (As := [.int (iI 5)]) (rest := []) C (B_bad (x := 5) hB (by show -2147483648 ≤ (5 : Int) ∧ (5 : Int) ≤ 2147483647; omega)) dX12_copyLines_19 kV_X12_154 rfl ck_13 rfl (Nat.le_of_ble_eq_true rfl) ⟨Nat.le_of_ble_eq_true rfl, Nat.le_of_ble_eq_true rfl⟩ ⟨Nat.le_of_ble_eq_true rfl, Nat.le_of_ble_eq_true rfl⟩ (fun rh7 vh7 ah7 h7 => ?_)
      obtain ⟨f7, rfl, fn7, bn7, ex7⟩ := h7
      refine hv2 (fp0.call fn7 rfl rfl) (show f7 = -1 from ex7) (fun fq11 gf7 => ?_)
      refine m_st (st2 := [.int (iI f7)]) rfl ?_
      refine hv2 (show (-2147483648) ≤ vh7 42 ∧ vh7 42 ≤ 2147483647 from bn7.1 42) (show vh7 42 = v 42 from fn7.1 42 rfl) (fun rv14 ve10 => ?_)
      exact m_iret C dX12_copyLines_22 rfl (Nat.le_of_ble_eq_true rfl) (Nat.le_of_ble_eq_true rfl) ⟨f7, rfl, fq11, bn7, (CPA.bad0 (by omega) (by omega) (by omega) ⟨fn7.1 36 rfl, fn7.2 34 rfl, fn7.2 35 rfl⟩)⟩
  · refine m_aload_n (j := 0) C dX12_copyLines_6 rfl ?_
    refine m_bipush (z := 6) C dX12_copyLines_7 (by decide) ?_
    refine m_call (mc2 := 0) (ms2 := 0) (As := [.int (iI 6)]) (rest := []) C (B_bad (x := 6) hB (by show -2147483648 ≤ (6 : Int) ∧ (6 : Int) ≤ 2147483647; omega)) dX12_copyLines_9 kV_X12_154 rfl ck_13 rfl (Nat.le_of_ble_eq_true rfl) ⟨Nat.le_of_ble_eq_true rfl, Nat.le_of_ble_eq_true rfl⟩ ⟨Nat.le_of_ble_eq_true rfl, Nat.le_of_ble_eq_true rfl⟩ (fun rh8 vh8 ah8 h8 => ?_)
    obtain ⟨f8, rfl, fn8, bn8, ex8⟩ := h8
    refine hv2 (fp0.call fn8 rfl rfl) (show f8 = -1 from ex8) (fun fq12 gf8 => ?_)
    refine m_st (st2 := [.int (iI f8)]) rfl ?_
    refine hv2 (show (-2147483648) ≤ vh8 42 ∧ vh8 42 ≤ 2147483647 from bn8.1 42) (show vh8 42 = v 42 from fn8.1 42 rfl) (fun rv15 ve11 => ?_)
    exact m_iret C dX12_copyLines_12 rfl (Nat.le_of_ble_eq_true rfl) (Nat.le_of_ble_eq_true rfl) ⟨f8, rfl, fq12, bn8, (CPA.bad0 (by omega) (by omega) (by omega) ⟨fn8.1 36 rfl, fn8.2 34 rfl, fn8.2 35 rfl⟩)⟩
def bcs (s : Int32) : List Int → Int32
  | [] => s
  | x :: xs => bcs (s + bcn (iI x)) xs
def emb (E : List (Option (List Int))) (q wd : Int) : Nat → Int32 → Prop
  | 0, s => s = 0
  | k + 1, s => ∃ s0, emb E q wd k s0 ∧ ((rwe E (q + ((k : Nat) : Int)) = some none ∧ s = s0) ∨ ∃ xs, rwe E (q + ((k : Nat) : Int)) = some (some xs) ∧ ((xs.length : Nat) : Int) ≤ wd ∧ s = bcs s0 xs)
def EMS (E : List (Option (List Int))) (q wd : Int) (k : Nat) (s : Int32) (f : Int) : Prop := (rwe E (q + ((k : Nat) : Int)) = none ∧ f = -1) ∨ ∃ xs, rwe E (q + ((k : Nat) : Int)) = some (some xs) ∧ wd < ((xs.length : Nat) : Int) ∧ iI f = s
def EMBX (E : List (Option (List Int))) (q n wd : Int) (c : Int32) (f : Int) (c2 : Int32) : Prop := ((n < 0 ∨ 200 < n) ∧ f = -1 ∧ c2 = c) ∨ ((0 ≤ n ∧ n ≤ 200) ∧ ((emb E q wd n.toNat (iI f) ∧ c2 = c + iI n) ∨ ∃ (k : Nat) (s : Int32), ((k : Nat) : Int) < n ∧ emb E q wd k s ∧ EMS E q wd k s f ∧ c2 = c + iI (((k : Nat) : Int) + 1)))
def EMA (v : Nat → Int) (a : Nat → Nat → Int) (v2 : Nat → Int) (q n f : Int) : Prop := ∀ E, SHA v a E → EMBX E q n (v 31) (iI (v 43)) f (iI (v2 43))
def EM1 (v : Nat → Int) (a : Nat → Nat → Int) (q k s : Int) : Prop := ∀ E, SHA v a E → emb E q (v 31) k.toNat (iI s)
def EM2 (v : Nat → Int) (a : Nat → Nat → Int) (q k i s : Int) : Prop := ∃ s0, EM1 v a q k s0 ∧ iI s = bcs (iI s0) (mpr i.toNat (fun j => a 35 (200 * (q + k) + ((j : Nat) : Int)).toNat))
section EMBS
variable {v v1 v2 : Nat → Int} {a : Nat → Nat → Int} {E : List (Option (List Int))} {q n f f1 f2 wd k i z x y s1 s2 : Int} {c c1 c2 s t : Int32} {xs : List Int}
theorem bcs_snoc : ∀ (xs : List Int) (s : Int32) (x : Int), bcs s (xs ++ [x]) = bcs s xs + bcn (iI x) := by
  intro xs
  induction xs with
  | nil => intro s x; rfl
  | cons y xs ih => intro s x; exact ih (s + bcn (iI y)) x
theorem bcs_add : ∀ (xs : List Int) (s : Int32), bcs s xs = s + bcs 0 xs := by
  intro xs
  induction xs with
  | nil => intro s; exact (Int32.add_zero s).symm
  | cons y xs ih =>
    intro s
    show bcs (s + bcn (iI y)) xs = s + bcs (0 + bcn (iI y)) xs
    rw [ih (s + bcn (iI y)), ih (0 + bcn (iI y)), Int32.zero_add, Int32.add_assoc]
theorem emb.uni : ∀ (k : Nat) (s t : Int32), emb E q wd k s → emb E q wd k t → s = t := by
  intro k
  induction k with
  | zero => intro s t h h2; exact h.trans h2.symm
  | succ k ih =>
    intro s t h h2
    obtain ⟨s0, a1, a2⟩ := h
    obtain ⟨t0, b1, b2⟩ := h2
    have e := ih s0 t0 a1 b1
    rcases a2 with ⟨e1, e2⟩ | ⟨xs, e1, _, e2⟩ <;> rcases b2 with ⟨d1, d2⟩ | ⟨ys, d1, _, d2⟩
    · rw [e2, d2, e]
    · rw [e1] at d1; cases d1
    · rw [e1] at d1; cases d1
    · rw [e1] at d1; cases d1
      rw [e2, d2, e]
theorem emb.less {k m : Nat} (hm : k < m) : ∀ s, emb E q wd m s → rwe E (q + ((k : Nat) : Int)) = some none ∨ ∃ xs, rwe E (q + ((k : Nat) : Int)) = some (some xs) ∧ ((xs.length : Nat) : Int) ≤ wd := by
  induction m with
  | zero => omega
  | succ m ih =>
    intro s h
    obtain ⟨s0, a1, a2⟩ := h
    by_cases c0 : k = m
    · subst c0
      rcases a2 with ⟨e1, _⟩ | ⟨xs, e1, e2, _⟩
      · exact Or.inl e1
      · exact Or.inr ⟨xs, e1, e2⟩
    · exact ih (by omega) s0 a1
theorem emb.stop {k m : Nat} (h1 : EMS E q wd k s f) (h2 : emb E q wd m t) (hm : k < m) : False := by
  rcases h1 with ⟨e, _⟩ | ⟨xs, e, e2, _⟩ <;> rcases emb.less hm t h2 with d | ⟨ys, d, d2⟩
  · rw [e] at d; cases d
  · rw [e] at d; cases d
  · rw [e] at d; cases d
  · rw [e] at d; cases d
    omega
theorem EMBX.uni (h : EMBX E q n wd c f1 c1) (h2 : EMBX E q n wd c f2 c2) : iI f1 = iI f2 ∧ c1 = c2 := by
  rcases h with ⟨e0, e1, e2⟩ | ⟨e0, ⟨e1, e2⟩ | ⟨k, s, e1, e2, e3, e4⟩⟩ <;> rcases h2 with ⟨d0, d1, d2⟩ | ⟨d0, ⟨d1, d2⟩ | ⟨m, t, d1, d2, d3, d4⟩⟩
  · exact ⟨by rw [e1, d1], e2.trans d2.symm⟩
  · omega
  · omega
  · omega
  · exact ⟨emb.uni _ _ _ e1 d1, e2.trans d2.symm⟩
  · exact (emb.stop d3 e1 (by omega)).elim
  · omega
  · exact (emb.stop e3 d1 (by omega)).elim
  · by_cases c0 : k = m
    · subst c0
      have es := emb.uni k s t e2 d2
      refine ⟨?_, e4.trans d4.symm⟩
      rcases e3 with ⟨g1, g2⟩ | ⟨xs, g1, _, g2⟩ <;> rcases d3 with ⟨b1, b2⟩ | ⟨ys, b1, _, b2⟩
      · rw [g2, b2]
      · rw [g1] at b1; cases b1
      · rw [g1] at b1; cases b1
      · rw [g2, b2, es]
    · by_cases c3 : k < m
      · exact (emb.stop e3 d2 c3).elim
      · exact (emb.stop d3 e2 (by omega)).elim
theorem EM1.zero (hk : k = 0) (hs : s1 = 0) : EM1 v a q k s1 := fun E hE => by
  rw [hk, hs]
  rfl
theorem EM1.go (h : EM1 v a q k s1) (hi : i = 0) : EM2 v a q k i s1 := ⟨s1, h, by rw [hi]; rfl⟩
theorem EM2.step (h : EM2 v a q k i s1) (hi : 0 ≤ i) (hx : x = a 35 (200 * (q + k) + i).toNat) (hz : bcn (iI x) = iI z) (hy : iI (s1 + z) = iI y) : EM2 v a q k (i + 1) y := by
  obtain ⟨s0, g1, g2⟩ := h
  refine ⟨s0, g1, ?_⟩
  rw [show (i + 1).toNat = i.toNat + 1 by omega]
  have e : mpr (i.toNat + 1) (fun j => a 35 (200 * (q + k) + ((j : Nat) : Int)).toNat) = mpr i.toNat (fun j => a 35 (200 * (q + k) + ((j : Nat) : Int)).toNat) ++ [a 35 (200 * (q + k) + ((i.toNat : Nat) : Int)).toNat] := by
    unfold mpr
    rw [List.range_succ, List.map_append]
    rfl
  have ea : iI (s1 + z) = iI s1 + iI z := Int32.ofInt_add s1 z
  rw [e, bcs_snoc, ← g2, ← hy, ea, show ((i.toNat : Nat) : Int) = i by omega, ← hx, hz]
theorem EM2.fin (h : EM2 v a q k i s1) (hk : 0 ≤ k) (h0 : 0 ≤ q + k ∧ q + k < v 36) (hw : a 34 (q + k).toNat ≤ v 31) (hi : (i = 0 ∧ a 34 (q + k).toNat ≤ 0) ∨ i = a 34 (q + k).toNat) : EM1 v a q (k + 1) s1 := fun E hE => by
  obtain ⟨s0, g1, g2⟩ := h
  rw [show (k + 1).toNat = k.toNat + 1 by omega]
  refine ⟨iI s0, g1 E hE, ?_⟩
  rw [show q + ((k.toNat : Nat) : Int) = q + k by omega]
  by_cases c0 : a 34 (q + k).toNat < 0
  · refine Or.inl ⟨hE.lack h0.1 h0.2 c0, ?_⟩
    rw [g2, show i.toNat = 0 by omega]
    rfl
  · obtain ⟨xs, e1, e2, e3⟩ := hE.have_ h0.1 h0.2 (by omega)
    refine Or.inr ⟨xs, e1, by omega, ?_⟩
    rw [g2]
    congr 1
    refine List.ext_getElem? (fun j => ?_)
    by_cases cj : j < xs.length
    · have lt : j < (mpr i.toNat (fun j => a 35 (200 * (q + k) + ((j : Nat) : Int)).toNat)).length := by rw [mpr_len]; omega
      rw [gd0_lt cj]
      have g := List.getElem?_eq_getElem lt
      rw [g]
      obtain ⟨_, m2⟩ := mpr_at g
      rw [m2, ← e3 j cj, show (200 * (q + k) + ((j : Nat) : Int)).toNat = 200 * (q + k).toNat + j by omega]
    · have l1 : (mpr i.toNat (fun j => a 35 (200 * (q + k) + ((j : Nat) : Int)).toNat)).length ≤ j := by
        rw [mpr_len]
        omega
      rw [List.getElem?_eq_none l1, List.getElem?_eq_none (show xs.length ≤ j by omega)]
theorem EMA.bad (hn : n < 0 ∨ 200 < n) (hf : f = -1) (h43 : v2 43 = v 43) : EMA v a v2 q n f := fun E hE => Or.inl ⟨hn, hf, by rw [h43]⟩
theorem EMA.ok (h : EM1 v a q k s1) (hk : k = n) (hn : 0 ≤ n ∧ n ≤ 200) (hf : f = s1) (hc : iI (v2 43) = iI (v 43) + iI k) : EMA v a v2 q n f := fun E hE => by
  have g := h E hE
  rw [hk, ← hf] at g
  rw [hk] at hc
  exact Or.inr ⟨hn, Or.inl ⟨g, hc⟩⟩
theorem EMA.stop (h : EM1 v a q k s1) (hk : 0 ≤ k ∧ k < n) (hn : n ≤ 200) (hc : iI (v2 43) = iI (v 43) + iI (k + 1)) (hx : (¬ (0 ≤ q + k ∧ q + k < v 36) ∧ f = -1) ∨ ((0 ≤ q + k ∧ q + k < v 36) ∧ v 31 < a 34 (q + k).toNat ∧ f = s1)) (h31 : 1 ≤ v 31) : EMA v a v2 q n f := fun E hE => by
  refine Or.inr ⟨⟨by omega, hn⟩, Or.inr ⟨k.toNat, iI s1, by omega, h E hE, ?_, by rw [hc, show ((k.toNat : Nat) : Int) = k by omega]⟩⟩
  unfold EMS
  rw [show q + ((k.toNat : Nat) : Int) = q + k by omega]
  rcases hx with ⟨e1, e2⟩ | ⟨e1, e2, e3⟩
  · exact Or.inl ⟨hE.off e1, e2⟩
  · obtain ⟨xs, d1, d2, _⟩ := hE.have_ e1.1 e1.2 (by omega)
    exact Or.inr ⟨xs, d1, by omega, by rw [e3]⟩
theorem cnt_s {c0 w0 w1 k z : Int} (h : iI w0 = iI c0 + iI k) (e : iI (w0 + 1) = iI z) (h2 : w1 = z) : iI w1 = iI c0 + iI (k + 1) := by
  refine hv2 (show iI (w0 + 1) = iI w0 + iI 1 from Int32.ofInt_add w0 1) (show iI (k + 1) = iI k + iI 1 from Int32.ofInt_add k 1) (fun e1 e2 => ?_)
  rw [h2, ← e, e1, h, e2, Int32.add_assoc]
theorem cnt_0 {c0 k : Int} (hk : k = 0) : iI c0 = iI c0 + iI k := by
  rw [hk]
  exact (Int32.add_zero _).symm
end EMBS
set_option maxHeartbeats 4000000 in
set_option maxRecDepth 100000 in
theorem N2_emboss {l : Launch} {G : GT} {h0 : Nat} {ad ln : Nat → Nat} {v : Nat → Int} {a : Nat → Nat → Int}  {q n1 : Int} (hB : BX v a) (hq : -2147483648 ≤ q ∧ q ≤ 2147483647) (hn1 : -2147483648 ≤ n1 ∧ n1 ≤ 2147483647) : Mm l G yX12_emboss cX12_emboss 9 (some .int) 1 [.int (iI q), .int (iI n1)] h0 ad ln v a 0 0 (fun r v2 a2 => ∃ f : Int, r = some (.int (iI f)) ∧ fr [0, 1, 43] [] v a v2 a2 ∧ BX v2 a2 ∧ (EMA v a v2 q n1 f)) := by
  refine Mm.mk (by decide) (Nat.le_of_ble_eq_true rfl) ?_
  intro p e s m args below meth c A C
  refine hv2 (show 0 ≤ v 36 ∧ v 36 ≤ 200 from hB.1 36) (show fr [0, 1, 43] [] v a v a from fr.refl) (fun r36 fp0 => ?_)
  refine m_iload_n (j := 2) C dX12_emboss_0 rfl ?_
  refine m_sipush (z := 200) C dX12_emboss_1 (by decide) ?_
  refine m_icmp_le (tgt := 14) C ⟨by omega, by omega⟩ ⟨by decide, by decide⟩ dX12_emboss_4 (by decide) (fun c1 => ?_) (fun c1 => ?_)
  · refine m_iload_n (j := 2) C dX12_emboss_14 rfl ?_
    refine m_if_ge (tgt := 24) C ⟨by omega, by omega⟩ dX12_emboss_15 (by decide) (fun c2 => ?_) (fun c2 => ?_)
    · refine m_iconst C dX12_emboss_24 ?_
      refine m_istore_n (lv2 := [(3, .int (iI 0)), (0, .ref h0), (1, .int (iI q)), (2, .int (iI n1))]) C dX12_emboss_25 (by decide) rfl ?_
      refine m_iconst C dX12_emboss_26 ?_
      refine m_istore (lv2 := [(4, .int (iI 0)), (3, .int (iI 0)), (0, .ref h0), (1, .int (iI q)), (2, .int (iI n1))]) C dX12_emboss_27 (by decide) rfl ?_
      have Lp1 : ∀ (nn : Nat) (s1 k : Int) (vb1 : Nat → Int) (ab1 : Nat → Nat → Int), 201 - k < (nn : Int) → BX vb1 ab1 → fr [0, 1, 43] [] v a vb1 ab1 → (-2147483648 ≤ s1 ∧ s1 ≤ 2147483647) → (0 ≤ k ∧ k ≤ n1) → (iI (vb1 43) = iI (v 43) + iI k) → (EM1 v a q k s1) → mw p l e (rmq 1 0 0) s m args below meth c G A 9 (MQ below (Qm G A (fun rq Lq Eq => ∃ (vq : Nat → Int) (aq : Nat → Nat → Int), mI G h0 ad ln vq aq Lq Eq ∧ (fun r v2 a2 => ∃ f : Int, r = some (.int (iI f)) ∧ fr [0, 1, 43] [] v a v2 a2 ∧ BX v2 a2 ∧ (EMA v a v2 q n1 f)) rq vq aq)) args s 0 0 A) h0 ad ln vb1 ab1 0 0 29 [(4, .int (iI k)), (3, .int (iI s1)), (0, .ref h0), (1, .int (iI q)), (2, .int (iI n1))] [] := by
        intro nn
        induction nn with
        | zero =>
          intro s1 k vb1 ab1 hm bxb1 fpb1 hs hk h43 hE
          exact absurd hm (by omega)
        | succ nn ih1 =>
          intro s1 k vb1 ab1 hm bxb1 fpb1 hs hk h43 hE
          refine m_iload (j := 0) C dX12_emboss_29 rfl ?_
          refine m_iload_n (j := 4) C dX12_emboss_31 rfl ?_
          refine m_icmp_ge (tgt := 142) C ⟨by omega, by omega⟩ ⟨by omega, by omega⟩ dX12_emboss_32 (by decide) (fun c3 => ?_) (fun c3 => ?_)
          · refine m_aload_n (j := 2) C dX12_emboss_142 rfl ?_
            refine m_iload_n (j := 1) C dX12_emboss_143 rfl ?_
            refine m_call (mc2 := 0) (ms2 := 0) (As := [.int (iI s1)]) (rest := []) C (B_fine (x := s1) bxb1 (by show -2147483648 ≤ s1 ∧ s1 ≤ 2147483647; omega)) dX12_emboss_144 kV_X12_158 rfl ck_13 rfl (Nat.le_of_ble_eq_true rfl) ⟨Nat.le_of_ble_eq_true rfl, Nat.le_of_ble_eq_true rfl⟩ ⟨Nat.le_of_ble_eq_true rfl, Nat.le_of_ble_eq_true rfl⟩ (fun rh1 vh1 ah1 h1 => ?_)
            obtain ⟨f1, rfl, fn1, bn1, ex1⟩ := h1
            refine hv2 (fpb1.call fn1 rfl rfl) (show f1 = s1 from ex1) (fun fq1 gf1 => ?_)
            refine m_st (st2 := [.int (iI f1)]) rfl ?_
            refine hv2 (show (-2147483648) ≤ vh1 43 ∧ vh1 43 ≤ 2147483647 from bn1.1 43) (show vh1 43 = vb1 43 from fn1.1 43 rfl) (fun rv1 ve1 => ?_)
            exact m_iret C dX12_emboss_147 rfl (Nat.le_of_ble_eq_true rfl) (Nat.le_of_ble_eq_true rfl) ⟨f1, rfl, fq1, bn1, (EMA.ok hE (by omega) ⟨by omega, by omega⟩ (by omega) (by rw [fn1.1 43 rfl]; exact h43))⟩
          · refine m_iload_n (j := 3) C dX12_emboss_35 rfl ?_
            refine m_i2l (w := lI q) C dX12_emboss_36 (lI_of ⟨by omega, by omega⟩) ?_
            refine m_iload (j := 0) C dX12_emboss_37 rfl ?_
            refine m_i2l (w := lI k) C dX12_emboss_39 (lI_of ⟨by omega, by omega⟩) ?_
            refine m_ladd (w := lI (q + k)) C dX12_emboss_40 (lI_add _ _) ?_
            refine m_lstore (lv2 := [(5, .long (lI (q + k))), (4, .int (iI k)), (3, .int (iI s1)), (0, .ref h0), (1, .int (iI q)), (2, .int (iI n1))]) C dX12_emboss_41 (by decide) rfl ?_
            refine m_aload_n (j := 3) C dX12_emboss_43 rfl ?_
            refine m_dup C dX12_emboss_44 rfl ?_
            have rv2 : (-2147483648) ≤ vb1 43 ∧ vb1 43 ≤ 2147483647 := bxb1.1 43
            refine m_get (k := 43) C dX12_emboss_45 w6_102 (by decide) rfl ?_
            refine m_iconst C dX12_emboss_48 ?_
            refine m_iadd C dX12_emboss_49 ?_
            obtain ⟨zz1, hzz1, ezz1⟩ := iI_of (iI ((vb1 43) + 1))
            refine m_st (st2 := [.int (iI zz1), .ref h0]) (by rw [ezz1]) ?_
            refine m_put (k := 43) (z := zz1) C dX12_emboss_50 w6_102 (by decide) rfl rfl rfl ?_
            refine hv2 (show BX (va_up vb1 43 zz1) ab1 from bxb1.put (k := 43) (z := zz1) (show (-2147483648) ≤ zz1 ∧ zz1 ≤ 2147483647 by omega)) (fpb1.put (k := 43) (z := zz1) rfl) (fun bq1 fq2 => ?_)
            refine m_lload (j := 0) C dX12_emboss_53 rfl ?_
            refine m_lconst (w := lI 0) C dX12_emboss_55 rfl ?_
            obtain ⟨lc1, hlc1, elc1⟩ := lcmp_c (x := (q + k)) (y := 0) ⟨by omega, by omega⟩ ⟨by omega, by omega⟩
            refine m_lcmp (w := iI lc1) C dX12_emboss_56 elc1 ?_
            refine m_if_lt (tgt := 71) C ⟨by omega, by omega⟩ dX12_emboss_57 (by decide) (fun c4 => ?_) (fun c4 => ?_)
            · refine m_aload_n (j := 3) C dX12_emboss_71 rfl ?_
              refine m_iconst C dX12_emboss_72 ?_
              refine m_call (mc2 := 0) (ms2 := 0) (As := [.int (iI 2)]) (rest := []) C (B_bad (x := 2) bq1 (by show -2147483648 ≤ (2 : Int) ∧ (2 : Int) ≤ 2147483647; omega)) dX12_emboss_73 kV_X12_154 rfl ck_13 rfl (Nat.le_of_ble_eq_true rfl) ⟨Nat.le_of_ble_eq_true rfl, Nat.le_of_ble_eq_true rfl⟩ ⟨Nat.le_of_ble_eq_true rfl, Nat.le_of_ble_eq_true rfl⟩ (fun rh2 vh2 ah2 h2 => ?_)
              obtain ⟨f2, rfl, fn2, bn2, ex2⟩ := h2
              refine hv2 (fq2.call fn2 rfl rfl) (show f2 = -1 from ex2) (fun fq3 gf2 => ?_)
              refine m_st (st2 := [.int (iI f2)]) rfl ?_
              refine hv2 (show (-2147483648) ≤ vh2 43 ∧ vh2 43 ≤ 2147483647 from bn2.1 43) (show vh2 43 = zz1 from fn2.1 43 rfl) (fun rv3 ve2 => ?_)
              exact m_iret C dX12_emboss_76 rfl (Nat.le_of_ble_eq_true rfl) (Nat.le_of_ble_eq_true rfl) ⟨f2, rfl, fq3, bn2, (EMA.stop hE ⟨by omega, by omega⟩ (by omega) (cnt_s h43 ezz1 ((fn2.1 43 rfl).trans (va_up_self _ _ _))) (by omega) (hB.1 31).1)⟩
            · refine m_lload (j := 0) C dX12_emboss_60 rfl ?_
              refine m_aload_n (j := 3) C dX12_emboss_62 rfl ?_
              refine hv2 (show 0 ≤ vb1 36 ∧ vb1 36 ≤ 200 from bq1.1 36) (show vb1 36 = v 36 from fpb1.1 36 rfl) (fun rv4 ve3 => ?_)
              refine m_get (k := 36) C dX12_emboss_63 w6_95 (by decide) rfl ?_
              refine m_st (st2 := [.int (iI (v 36)), .long (lI (q + k))]) (congrArg (fun z => Value.int (iI z) :: [.long (lI (q + k))]) (fq2.1 36 rfl)) ?_
              refine m_i2l (w := lI (v 36)) C dX12_emboss_66 (lI_of ⟨by omega, by omega⟩) ?_
              obtain ⟨lc2, hlc2, elc2⟩ := lcmp_c (x := (q + k)) (y := (v 36)) ⟨by omega, by omega⟩ ⟨by omega, by omega⟩
              refine m_lcmp (w := iI lc2) C dX12_emboss_67 elc2 ?_
              refine m_if_lt (tgt := 77) C ⟨by omega, by omega⟩ dX12_emboss_68 (by decide) (fun c5 => ?_) (fun c5 => ?_)
              · refine m_aload_n (j := 3) C dX12_emboss_77 rfl ?_
                refine m_geta (k := 34) C dX12_emboss_78 w6_93 (by decide) rfl ?_
                refine m_lload (j := 0) C dX12_emboss_81 rfl ?_
                refine m_l2i (w := iI (q + k)) C dX12_emboss_83 (lI_i _) ?_
                refine m_ald (k := 34) C dX12_emboss_84 rfl rfl (by decide) (by omega) (by show _ < ((_ : Nat) : Int); simp only [mlen]; omega) (by decide) ?_
                refine hv2 (show (-1) ≤ ab1 34 (q + k).toNat ∧ ab1 34 (q + k).toNat ≤ 200 from bq1.2 34 ((q + k).toNat)) (show ab1 34 ((q + k).toNat) = a 34 ((q + k).toNat) from congrFun (fpb1.2 34 rfl) ((q + k).toNat)) (fun ra1 ae1 => ?_)
                refine m_st (st2 := [.int (iI (a 34 (q + k).toNat))]) (congrArg (fun z => Value.int (iI z) :: []) (congrFun (fq2.2 34 rfl) ((q + k).toNat))) ?_
                refine m_istore (lv2 := [(7, .int (iI (a 34 (q + k).toNat))), (5, .long (lI (q + k))), (4, .int (iI k)), (3, .int (iI s1)), (0, .ref h0), (1, .int (iI q)), (2, .int (iI n1))]) C dX12_emboss_85 (by decide) rfl ?_
                refine m_iload (j := 0) C dX12_emboss_87 rfl ?_
                refine m_aload_n (j := 4) C dX12_emboss_89 rfl ?_
                refine hv2 (show 1 ≤ vb1 31 ∧ vb1 31 ≤ 100 from bq1.1 31) (show vb1 31 = v 31 from fpb1.1 31 rfl) (fun rv5 ve4 => ?_)
                refine m_get (k := 31) C dX12_emboss_90 w6_90 (by decide) rfl ?_
                refine m_st (st2 := [.int (iI (v 31)), .int (iI (a 34 (q + k).toNat))]) (congrArg (fun z => Value.int (iI z) :: [.int (iI (a 34 (q + k).toNat))]) (fq2.1 31 rfl)) ?_
                refine m_icmp_le (tgt := 99) C ⟨by omega, by omega⟩ (r32_c (lo := 1) (hi := 100) (Int.le_trans rv5.1 (Int.le_of_eq ve4)) (Int.le_trans (Int.le_of_eq ve4.symm) rv5.2) (by decide) (by decide)) dX12_emboss_93 (by decide) (fun c6 => ?_) (fun c6 => ?_)
                · refine m_iconst C dX12_emboss_99 ?_
                  refine m_istore (lv2 := [(8, .int (iI 0)), (7, .int (iI (a 34 (q + k).toNat))), (5, .long (lI (q + k))), (4, .int (iI k)), (3, .int (iI s1)), (0, .ref h0), (1, .int (iI q)), (2, .int (iI n1))]) C dX12_emboss_100 (by decide) rfl ?_
                  have Lp2 : ∀ (nn : Nat) (s2 i1 : Int) (vb2 : Nat → Int) (ab2 : Nat → Nat → Int), 201 - i1 < (nn : Int) → BX vb2 ab2 → fr [0, 1, 43] [] v a vb2 ab2 → (-2147483648 ≤ s2 ∧ s2 ≤ 2147483647) → (0 ≤ i1 ∧ i1 ≤ 200 ∧ (i1 = 0 ∨ i1 ≤ a 34 (q + k).toNat)) → (iI (vb2 43) = iI (v 43) + iI (k + 1)) → (EM2 v a q k i1 s2) → mw p l e (rmq 1 0 0) s m args below meth c G A 9 (MQ below (Qm G A (fun rq Lq Eq => ∃ (vq : Nat → Int) (aq : Nat → Nat → Int), mI G h0 ad ln vq aq Lq Eq ∧ (fun r v2 a2 => ∃ f : Int, r = some (.int (iI f)) ∧ fr [0, 1, 43] [] v a v2 a2 ∧ BX v2 a2 ∧ (EMA v a v2 q n1 f)) rq vq aq)) args s 0 0 A) h0 ad ln vb2 ab2 0 0 102 [(8, .int (iI i1)), (3, .int (iI s2)), (7, .int (iI (a 34 (q + k).toNat))), (5, .long (lI (q + k))), (4, .int (iI k)), (0, .ref h0), (1, .int (iI q)), (2, .int (iI n1))] [] := by
                    intro nn
                    induction nn with
                    | zero =>
                      intro s2 i1 vb2 ab2 hm bxb2 fpb2 hs2 hi h43b hD
                      exact absurd hm (by omega)
                    | succ nn ih2 =>
                      intro s2 i1 vb2 ab2 hm bxb2 fpb2 hs2 hi h43b hD
                      refine m_iload (j := 0) C dX12_emboss_102 rfl ?_
                      refine m_iload (j := 2) C dX12_emboss_104 rfl ?_
                      refine m_icmp_ge (tgt := 136) C (r32_c (lo := 0) (hi := 200) hi.1 hi.2.1 (by decide) (by decide)) ⟨by omega, by omega⟩ dX12_emboss_106 (by decide) (fun c7 => ?_) (fun c7 => ?_)
                      · refine m_iinc (z := k) (j := 4) (lv2 := [(4, .int (iI (k + 1))), (8, .int (iI i1)), (3, .int (iI s2)), (7, .int (iI (a 34 (q + k).toNat))), (5, .long (lI (q + k))), (0, .ref h0), (1, .int (iI q)), (2, .int (iI n1))]) C dX12_emboss_136 rfl (by decide) rfl ?_
                        refine m_goto (tgt := 29) C dX12_emboss_139 (by decide) ?_
                        have rv6 : (-2147483648) ≤ vb2 43 ∧ vb2 43 ≤ 2147483647 := bxb2.1 43
                        refine m_lv (lv2 := [(4, .int (iI (k + 1))), (3, .int (iI s2)), (0, .ref h0), (1, .int (iI q)), (2, .int (iI n1))]) [0, 2, 5, 6, 7] rfl ?_
                        exact ih1  s2 (k + 1) _ _ (by omega) bxb2 fpb2 (by omega) (by omega) h43b (EM2.fin hD (by omega) ⟨by omega, by omega⟩ (by omega) (by omega))
                      · refine m_iload_n (j := 1) C dX12_emboss_109 rfl ?_
                        refine m_aload_n (j := 5) C dX12_emboss_110 rfl ?_
                        refine m_geta (k := 35) C dX12_emboss_111 w6_94 (by decide) rfl ?_
                        refine m_sipush (z := 200) C dX12_emboss_114 (by decide) ?_
                        refine m_lload (j := 3) C dX12_emboss_117 rfl ?_
                        refine m_l2i (w := iI (q + k)) C dX12_emboss_119 (lI_i _) ?_
                        refine m_imul C dX12_emboss_120 ?_
                        refine m_iload (j := 0) C dX12_emboss_121 rfl ?_
                        refine m_iadd C dX12_emboss_123 ?_
                        refine m_ald (k := 35) C dX12_emboss_124 rfl rfl (by decide) (by omega) (by show _ < ((_ : Nat) : Int); simp only [mlen]; omega) (by decide) ?_
                        refine hv2 (show (-2147483648) ≤ ab2 35 ((200 * (q + k)) + i1).toNat ∧ ab2 35 ((200 * (q + k)) + i1).toNat ≤ 2147483647 from bxb2.2 35 (((200 * (q + k)) + i1).toNat)) (show ab2 35 (((200 * (q + k)) + i1).toNat) = a 35 (((200 * (q + k)) + i1).toNat) from congrFun (fpb2.2 35 rfl) (((200 * (q + k)) + i1).toNat)) (fun ra2 ae2 => ?_)
                        refine m_st (st2 := [.int (iI (a 35 ((200 * (q + k)) + i1).toNat)), .int (iI s2)]) (congrArg (fun z => Value.int (iI z) :: [.int (iI s2)]) (congrFun (fpb2.2 35 rfl) (((200 * (q + k)) + i1).toNat))) ?_
                        refine m_callS (As := [.int (iI (a 35 ((200 * (q + k)) + i1).toNat))]) (rest := [.int (iI s2)]) C (fun L E => s_bitCount (iI (a 35 ((200 * (q + k)) + i1).toNat))) dX12_emboss_125 kS_X12_309 rfl rfl (Nat.le_of_ble_eq_true rfl) ⟨Nat.le_of_ble_eq_true rfl, Nat.le_of_ble_eq_true rfl⟩ ⟨Nat.le_of_ble_eq_true rfl, Nat.le_of_ble_eq_true rfl⟩ ?_
                        obtain ⟨zz2, hzz2, ezz2⟩ := iI_of (bcn (iI (a 35 ((200 * (q + k)) + i1).toNat)))
                        · refine m_st (st2 := [.int (iI zz2), .int (iI s2)]) (by rw [ezz2]) ?_
                          refine m_iadd C dX12_emboss_128 ?_
                          obtain ⟨zz3, hzz3, ezz3⟩ := iI_of (iI (s2 + zz2))
                          refine m_st (st2 := [.int (iI zz3)]) (by rw [ezz3]) ?_
                          refine m_istore_n (lv2 := [(3, .int (iI zz3)), (8, .int (iI i1)), (7, .int (iI (a 34 (q + k).toNat))), (5, .long (lI (q + k))), (4, .int (iI k)), (0, .ref h0), (1, .int (iI q)), (2, .int (iI n1))]) C dX12_emboss_129 (by decide) rfl ?_
                          refine m_iinc (z := i1) (j := 1) (lv2 := [(8, .int (iI (i1 + 1))), (3, .int (iI zz3)), (7, .int (iI (a 34 (q + k).toNat))), (5, .long (lI (q + k))), (4, .int (iI k)), (0, .ref h0), (1, .int (iI q)), (2, .int (iI n1))]) C dX12_emboss_130 rfl (by decide) rfl ?_
                          refine m_goto (tgt := 102) C dX12_emboss_133 (by decide) ?_
                          have rv7 : (-2147483648) ≤ vb2 43 ∧ vb2 43 ≤ 2147483647 := bxb2.1 43
                          refine m_lv (lv2 := [(8, .int (iI (i1 + 1))), (3, .int (iI zz3)), (7, .int (iI (a 34 (q + k).toNat))), (5, .long (lI (q + k))), (4, .int (iI k)), (0, .ref h0), (1, .int (iI q)), (2, .int (iI n1))]) [0, 1, 2, 3, 4, 5, 6, 7] rfl ?_
                          exact ih2  zz3 (i1 + 1) _ _ (by omega) bxb2 fpb2 (by omega) (by omega) h43b (EM2.step hD (by omega) rfl ezz2 ezz3)
                  refine m_lv (lv2 := [(8, .int (iI 0)), (3, .int (iI s1)), (7, .int (iI (a 34 (q + k).toNat))), (5, .long (lI (q + k))), (4, .int (iI k)), (0, .ref h0), (1, .int (iI q)), (2, .int (iI n1))]) [0, 4, 1, 2, 3, 5, 6, 7] rfl ?_
                  exact Lp2 202 s1 0 _ _ (by omega) bq1 fq2 (by omega) (by omega) (cnt_s h43 ezz1 (va_up_self _ _ _)) (EM1.go hE rfl)
                · refine m_goto (tgt := 142) C dX12_emboss_96 (by decide) ?_
                  refine m_aload_n (j := 4) C dX12_emboss_142 rfl ?_
                  refine m_iload_n (j := 3) C dX12_emboss_143 rfl ?_
                  refine m_call (mc2 := 0) (ms2 := 0) (As := [.int (iI s1)]) (rest := []) C (B_fine (x := s1) bq1 (by show -2147483648 ≤ s1 ∧ s1 ≤ 2147483647; omega)) dX12_emboss_144 kV_X12_158 rfl ck_13 rfl (Nat.le_of_ble_eq_true rfl) ⟨Nat.le_of_ble_eq_true rfl, Nat.le_of_ble_eq_true rfl⟩ ⟨Nat.le_of_ble_eq_true rfl, Nat.le_of_ble_eq_true rfl⟩ (fun rh4 vh4 ah4 h4 => ?_)
                  obtain ⟨f3, rfl, fn3, bn3, ex3⟩ := h4
                  refine hv2 (fq2.call fn3 rfl rfl) (show f3 = s1 from ex3) (fun fq4 gf3 => ?_)
                  refine m_st (st2 := [.int (iI f3)]) rfl ?_
                  refine hv2 (show (-2147483648) ≤ vh4 43 ∧ vh4 43 ≤ 2147483647 from bn3.1 43) (show vh4 43 = zz1 from fn3.1 43 rfl) (fun rv8 ve5 => ?_)
                  exact m_iret C dX12_emboss_147 rfl (Nat.le_of_ble_eq_true rfl) (Nat.le_of_ble_eq_true rfl) ⟨f3, rfl, fq4, bn3, (EMA.stop hE ⟨by omega, by omega⟩ (by omega) (cnt_s h43 ezz1 ((fn3.1 43 rfl).trans (va_up_self _ _ _))) (by omega) (hB.1 31).1)⟩
              · refine m_aload_n (j := 3) C dX12_emboss_71 rfl ?_
                refine m_iconst C dX12_emboss_72 ?_
                refine m_call (mc2 := 0) (ms2 := 0) (As := [.int (iI 2)]) (rest := []) C (B_bad (x := 2) bq1 (by show -2147483648 ≤ (2 : Int) ∧ (2 : Int) ≤ 2147483647; omega)) dX12_emboss_73 kV_X12_154 rfl ck_13 rfl (Nat.le_of_ble_eq_true rfl) ⟨Nat.le_of_ble_eq_true rfl, Nat.le_of_ble_eq_true rfl⟩ ⟨Nat.le_of_ble_eq_true rfl, Nat.le_of_ble_eq_true rfl⟩ (fun rh5 vh5 ah5 h5 => ?_)
                obtain ⟨f4, rfl, fn4, bn4, ex4⟩ := h5
                refine hv2 (fq2.call fn4 rfl rfl) (show f4 = -1 from ex4) (fun fq5 gf4 => ?_)
                refine m_st (st2 := [.int (iI f4)]) rfl ?_
                refine hv2 (show (-2147483648) ≤ vh5 43 ∧ vh5 43 ≤ 2147483647 from bn4.1 43) (show vh5 43 = zz1 from fn4.1 43 rfl) (fun rv9 ve6 => ?_)
                exact m_iret C dX12_emboss_76 rfl (Nat.le_of_ble_eq_true rfl) (Nat.le_of_ble_eq_true rfl) ⟨f4, rfl, fq5, bn4, (EMA.stop hE ⟨by omega, by omega⟩ (by omega) (cnt_s h43 ezz1 ((fn4.1 43 rfl).trans (va_up_self _ _ _))) (by omega) (hB.1 31).1)⟩
      have rv10 : (-2147483648) ≤ v 43 ∧ v 43 ≤ 2147483647 := hB.1 43
      refine m_lv (lv2 := [(4, .int (iI 0)), (3, .int (iI 0)), (0, .ref h0), (1, .int (iI q)), (2, .int (iI n1))]) [0, 1, 2, 3, 4] rfl ?_
      exact Lp1 202 0 0 _ _ (by omega) hB fp0 (by omega) (by omega) (cnt_0 rfl) (EM1.zero rfl rfl)
    · refine m_aload_n (j := 0) C dX12_emboss_18 rfl ?_
      refine m_iconst C dX12_emboss_19 ?_
      refine m_call (mc2 := 0) (ms2 := 0) (As := [.int (iI 5)]) (rest := []) C (B_bad (x := 5) hB (by show -2147483648 ≤ (5 : Int) ∧ (5 : Int) ≤ 2147483647; omega)) dX12_emboss_20 kV_X12_154 rfl ck_13 rfl (Nat.le_of_ble_eq_true rfl) ⟨Nat.le_of_ble_eq_true rfl, Nat.le_of_ble_eq_true rfl⟩ ⟨Nat.le_of_ble_eq_true rfl, Nat.le_of_ble_eq_true rfl⟩ (fun rh6 vh6 ah6 h6 => ?_)
      obtain ⟨f5, rfl, fn5, bn5, ex5⟩ := h6
      refine hv2 (fp0.call fn5 rfl rfl) (show f5 = -1 from ex5) (fun fq6 gf5 => ?_)
      refine m_st (st2 := [.int (iI f5)]) rfl ?_
      refine hv2 (show (-2147483648) ≤ vh6 43 ∧ vh6 43 ≤ 2147483647 from bn5.1 43) (show vh6 43 = v 43 from fn5.1 43 rfl) (fun rv11 ve7 => ?_)
      exact m_iret C dX12_emboss_23 rfl (Nat.le_of_ble_eq_true rfl) (Nat.le_of_ble_eq_true rfl) ⟨f5, rfl, fq6, bn5, (EMA.bad (by omega) (by omega) (fn5.1 43 rfl))⟩
  · refine m_aload_n (j := 0) C dX12_emboss_7 rfl ?_
    refine m_bipush (z := 6) C dX12_emboss_8 (by decide) ?_
    refine m_call (mc2 := 0) (ms2 := 0) (As := [.int (iI 6)]) (rest := []) C (B_bad (x := 6) hB (by show -2147483648 ≤ (6 : Int) ∧ (6 : Int) ≤ 2147483647; omega)) dX12_emboss_10 kV_X12_154 rfl ck_13 rfl (Nat.le_of_ble_eq_true rfl) ⟨Nat.le_of_ble_eq_true rfl, Nat.le_of_ble_eq_true rfl⟩ ⟨Nat.le_of_ble_eq_true rfl, Nat.le_of_ble_eq_true rfl⟩ (fun rh7 vh7 ah7 h7 => ?_)
    obtain ⟨f6, rfl, fn6, bn6, ex6⟩ := h7
    refine hv2 (fp0.call fn6 rfl rfl) (show f6 = -1 from ex6) (fun fq7 gf6 => ?_)
    refine m_st (st2 := [.int (iI f6)]) rfl ?_
    refine hv2 (show (-2147483648) ≤ vh7 43 ∧ vh7 43 ≤ 2147483647 from bn6.1 43) (show vh7 43 = v 43 from fn6.1 43 rfl) (fun rv12 ve8 => ?_)
    exact m_iret C dX12_emboss_13 rfl (Nat.le_of_ble_eq_true rfl) (Nat.le_of_ble_eq_true rfl) ⟨f6, rfl, fq7, bn6, (EMA.bad (by omega) (by omega) (fn6.1 43 rfl))⟩
end
section
def rol (d : Int) : Int := if 0 ≤ d then 4 else (-1 - d) % 4
def SMR (a : Nat → Nat → Int) (d : Int) : Prop := 0 ≤ d ∧ 97 ≤ a 14 (8 * d).toNat ∧ a 14 (8 * d).toNat ≤ 122
def rlt (a : Nat → Nat → Int) (d h : Int) : Nat → List Int
  | 0 => []
  | n + 1 => rlt a d h n ++ [a 14 (8 * d + ((n : Nat) : Int)).toNat - (if h = 1 ∧ n = 0 then 32 else 0)]
def rout (a : Nat → Nat → Int) (d h : Int) : List Int := if 0 ≤ d then rlt a d h (a 12 d.toNat).toNat else if rol d = 2 then [60] else if rol d = 3 then [62] else []
def ngp (d g : Int) : Int := if rol d = 2 then 1 else if rol d = 3 then 0 else g
def ngh (d : Int) : Int := if rol d = 0 then 1 else 0
def STD (a : Nat → Nat → Int) (R : Nat → Int) (p d : Int) : Prop := ∀ k : Int, 0 ≤ k → k < rlen a d → dcl a d k = R (p + k).toNat
def BSI (a : Nat → Nat → Int) (R : Nat → Int) (p : Int) (l : List Int) (k x : Int) : Prop := (x = -1 ∧ ∀ (j : Nat) (d : Int), ((j : Nat) : Int) < k → l[j]? = some d → ¬ STD a R p d) ∨ ((0 ≤ x ∧ x < k) ∧ ∃ d, l[x.toNat]? = some d ∧ STD a R p d ∧ ∀ (j : Nat) (e : Int), ((j : Nat) : Int) < k → l[j]? = some e → STD a R p e → rlen a e ≤ rlen a d ∧ (rlen a e = rlen a d → x ≤ ((j : Nat) : Int)))
def BSQ (a : Nat → Nat → Int) (R : Nat → Int) (p : Int) (l : List Int) (o : Option Int) : Prop := ∃ x, BSI a R p l ((l.length : Nat) : Int) x ∧ ((x = -1 ∧ o = none) ∨ (0 ≤ x ∧ o = l[x.toNat]?))
def NZL (a : Nat → Nat → Int) (l : List Int) : Prop := ∀ (j : Nat) (d : Int), l[j]? = some d → (1 ≤ rlen a d ∧ rlen a d ≤ 4) ∧ ∀ k : Int, 0 ≤ k → k < rlen a d → dcl a d k ≠ 0
def mst (a : Nat → Nat → Int) (l0 l1 : List Int) (R : Nat → Int) (s s2 : Int × Int × Int × Int × Int) (o : List Int) : Prop := (s.2.2.2.2 = 0 ∧ R s.1.toNat = 0 ∧ s2 = (s.1 + 1, 0, 0, s.2.2.2.1, 0) ∧ o = []) ∨ (s.2.2.2.2 = 0 ∧ R s.1.toNat ≠ 0 ∧ s2 = (s.1, 0, 0, 1, 1) ∧ o = if s.2.2.2.1 = 1 then [32] else []) ∨ (s.2.2.2.2 = 1 ∧ R s.1.toNat ≠ 0 ∧ ∃ d, BSQ a R s.1 (if s.2.1 = 0 then l0 else l1) (some d) ∧ (s.2.2.1 = 1 → SMR a d) ∧ s2 = (s.1 + rlen a d, ngp d s.2.1, ngh d, s.2.2.2.1, 1) ∧ o = rout a d s.2.2.1) ∨ (s.2.2.2.2 = 1 ∧ R s.1.toNat = 0 ∧ s.2.2.1 ≠ 1 ∧ s2 = (s.1, 0, 0, s.2.2.2.1, 0) ∧ o = [])
def mrn (a : Nat → Nat → Int) (l0 l1 : List Int) (R : Nat → Int) : Nat → Int × Int × Int × Int × Int → Int × Int × Int × Int × Int → List Int → Prop
  | 0, s, s2, o => s = s2 ∧ o = []
  | k + 1, s, s2, o => ∃ s1 o1 o2, mst a l0 l1 R s s1 o1 ∧ mrn a l0 l1 R k s1 s2 o2 ∧ o = o1 ++ o2
def MSB (a : Nat → Nat → Int) (l0 l1 : List Int) (R : Nat → Int) (s : Int × Int × Int × Int × Int) : Prop := s.2.2.2.2 = 1 ∧ ((R s.1.toNat ≠ 0 ∧ (BSQ a R s.1 (if s.2.1 = 0 then l0 else l1) none ∨ (s.2.2.1 = 1 ∧ ∃ d, BSQ a R s.1 (if s.2.1 = 0 then l0 else l1) (some d) ∧ ¬ SMR a d))) ∨ (R s.1.toNat = 0 ∧ s.2.2.1 = 1))
def MFN (R : Nat → Int) (s : Int × Int × Int × Int × Int) : Prop := s.2.2.2.2 = 0 ∧ ∀ j : Nat, s.1.toNat ≤ j → R j = 0
def MRC (a : Nat → Nat → Int) (l0 l1 : List Int) (R : Nat → Int) (s : Int × Int × Int × Int × Int) (bs : List Int) : Prop := ∃ k, mrn a l0 l1 R k (0, 0, 0, 0, 0) s bs
def RFN (a : Nat → Nat → Int) (l0 l1 : List Int) (R : Nat → Int) (bs : List Int) : Prop := ∃ s, MRC a l0 l1 R s bs ∧ MFN R s
def RWG (a : Nat → Nat → Int) (l0 l1 : List Int) (R : Nat → Int) : Prop := ∃ s bs, MRC a l0 l1 R s bs ∧ MSB a l0 l1 R s
def ROV (a : Nat → Nat → Int) (l0 l1 : List Int) (R : Nat → Int) (m : Nat) : Prop := ∃ s bs, MRC a l0 l1 R s bs ∧ m < bs.length
def RDA (a : Nat → Nat → Int) (l0 l1 : List Int) (R : Nat → Int) (f : Int) (bs : List Int) : Prop := (RFN a l0 l1 R bs ∧ bs.length ≤ 4000 ∧ f = ((bs.length : Nat) : Int)) ∨ ((RWG a l0 l1 R ∨ ROV a l0 l1 R 4000) ∧ f = -1 ∧ bs = [])
section RSEM
variable {a a1 a2 : Nat → Nat → Int} {l l0 l1 : List Int} {R R1 : Nat → Int} {s s1 s2 : Int × Int × Int × Int × Int} {o o1 o2 bs b1 b2 : List Int} {p q k x y d e g h f f1 f2 : Int} {m n : Nat} {c c1 c2 : Option Int}
theorem BSI.uni (h1 : BSI a R p l k x) (h2 : BSI a R p l k y) : x = y := by
  rcases h1 with ⟨e1, g1⟩ | ⟨⟨e1, e2⟩, d, g1, g2, g3⟩ <;> rcases h2 with ⟨e3, g4⟩ | ⟨⟨e3, e4⟩, e, g4, g5, g6⟩
  · omega
  · exact absurd g5 (g1 y.toNat e (by omega) g4)
  · exact absurd g2 (g4 x.toNat d (by omega) g1)
  · have q1 := g3 y.toNat e (by omega) g4 g5
    have q2 := g6 x.toNat d (by omega) g1 g2
    have q3 := q1.2 (by omega)
    have q4 := q2.2 (by omega)
    omega
theorem BSQ.uni (h1 : BSQ a R p l c1) (h2 : BSQ a R p l c2) : c1 = c2 := by
  obtain ⟨x, g1, g2⟩ := h1
  obtain ⟨y, g3, g4⟩ := h2
  have e := BSI.uni g1 g3
  subst e
  rcases g2 with ⟨q1, q2⟩ | ⟨q1, q2⟩ <;> rcases g4 with ⟨q3, q4⟩ | ⟨q3, q4⟩
  · rw [q2, q4]
  · omega
  · omega
  · rw [q2, q4]
theorem BSI.zero : BSI a R p l 0 (-1) := Or.inl ⟨rfl, fun j d hj => absurd hj (by omega)⟩
theorem BSI.skip (h : BSI a R p l k x) (hk : 0 ≤ k) (hd : l[k.toNat]? = some d) (hn : ¬ STD a R p d) : BSI a R p l (k + 1) x := by
  rcases h with ⟨e1, g1⟩ | ⟨e1, e, g1, g2, g3⟩
  · refine Or.inl ⟨e1, fun j e hj he => ?_⟩
    by_cases q : ((j : Nat) : Int) < k
    · exact g1 j e q he
    · rw [show j = k.toNat by omega, hd] at he
      cases he
      exact hn
  · refine Or.inr ⟨⟨e1.1, by omega⟩, e, g1, g2, fun j e2 hj he hs => ?_⟩
    by_cases q : ((j : Nat) : Int) < k
    · exact g3 j e2 q he hs
    · rw [show j = k.toNat by omega, hd] at he
      cases he
      exact absurd hs hn
theorem BSI.less (h : BSI a R p l k x) (hk : 0 ≤ k) (hd : l[k.toNat]? = some d) (hx : 0 ≤ x) (he : l[x.toNat]? = some e) (hn : rlen a d ≤ rlen a e) : BSI a R p l (k + 1) x := by
  rcases h with ⟨e1, g1⟩ | ⟨e1, e3, g1, g2, g3⟩
  · omega
  · rw [he] at g1
    cases g1
    refine Or.inr ⟨⟨e1.1, by omega⟩, e, he, g2, fun j e2 hj he2 hs => ?_⟩
    by_cases q : ((j : Nat) : Int) < k
    · exact g3 j e2 q he2 hs
    · rw [show j = k.toNat by omega, hd] at he2
      cases he2
      exact ⟨hn, fun _ => by omega⟩
theorem BSI.take (h : BSI a R p l k x) (hk : 0 ≤ k) (hd : l[k.toNat]? = some d) (hs : STD a R p d) (hx : x = -1 ∨ ∃ e, l[x.toNat]? = some e ∧ rlen a e < rlen a d) : BSI a R p l (k + 1) k := by
  refine Or.inr ⟨⟨hk, by omega⟩, d, hd, hs, fun j e2 hj he2 hs2 => ?_⟩
  by_cases q : ((j : Nat) : Int) < k
  · rcases h with ⟨e1, g1⟩ | ⟨e1, e3, g1, g2, g3⟩
    · exact absurd hs2 (g1 j e2 q he2)
    · rcases hx with hx | ⟨e, hx1, hx2⟩
      · omega
      · rw [hx1] at g1
        cases g1
        have q2 := (g3 j e2 q he2 hs2).1
        exact ⟨by omega, fun q3 => by omega⟩
  · rw [show j = k.toNat by omega, hd] at he2
    cases he2
    exact ⟨Int.le_refl _, fun _ => by omega⟩
theorem BSI.some (h : BSI a R p l ((l.length : Nat) : Int) x) (hx : 0 ≤ x) (hd : l[x.toNat]? = some d) : BSQ a R p l (some d) := ⟨x, h, Or.inr ⟨hx, hd.symm⟩⟩
theorem BSI.none (h : BSI a R p l ((l.length : Nat) : Int) x) (hx : x < 0) : BSQ a R p l none := by
  refine ⟨x, h, Or.inl ⟨?_, rfl⟩⟩
  rcases h with ⟨e1, _⟩ | ⟨e1, _⟩ <;> omega
theorem BSQ.mem (h : BSQ a R p l (some d)) : ∃ j : Nat, l[j]? = some d ∧ STD a R p d := by
  obtain ⟨x, g1, g2⟩ := h
  rcases g2 with ⟨_, q⟩ | ⟨q1, q2⟩
  · cases q
  · rcases g1 with ⟨e1, _⟩ | ⟨_, e, g3, g4, _⟩
    · omega
    · rw [g3] at q2
      cases q2
      exact ⟨x.toNat, g3, g4⟩
theorem mst.uni (h1 : mst a l0 l1 R s s1 o1) (h2 : mst a l0 l1 R s s2 o2) : s1 = s2 ∧ o1 = o2 := by
  rcases h1 with ⟨p1, p2, p3, p4⟩ | ⟨p1, p2, p3, p4⟩ | ⟨p1, p2, d, p3, p4, p5, p6⟩ | ⟨p1, p2, p3, p4, p5⟩ <;> rcases h2 with ⟨q1, q2, q3, q4⟩ | ⟨q1, q2, q3, q4⟩ | ⟨q1, q2, e, q3, q4, q5, q6⟩ | ⟨q1, q2, q3, q4, q5⟩
  · exact ⟨p3.trans q3.symm, p4.trans q4.symm⟩
  · exact absurd p2 q2
  · omega
  · omega
  · exact absurd q2 p2
  · exact ⟨p3.trans q3.symm, p4.trans q4.symm⟩
  · omega
  · omega
  · omega
  · omega
  · have e2 := BSQ.uni p3 q3
    cases e2
    exact ⟨p5.trans q5.symm, p6.trans q6.symm⟩
  · exact absurd q2 p2
  · omega
  · omega
  · exact absurd p2 q2
  · exact ⟨p4.trans q4.symm, p5.trans q5.symm⟩
theorem mrn.snoc : ∀ {k : Nat} {s s1 s2 : Int × Int × Int × Int × Int} {o o1 : List Int}, mrn a l0 l1 R k s s1 o → mst a l0 l1 R s1 s2 o1 → mrn a l0 l1 R (k + 1) s s2 (o ++ o1) := by
  intro k
  induction k with
  | zero =>
    intro s s1 s2 o o1 h1 h2
    obtain ⟨e1, e2⟩ := h1
    subst e1
    subst e2
    exact ⟨s2, o1, [], h2, ⟨rfl, rfl⟩, by simp⟩
  | succ k ih =>
    intro s s1 s2 o o1 h1 h2
    obtain ⟨t, o3, o4, g1, g2, g3⟩ := h1
    refine ⟨t, o3, o4 ++ o1, g1, ih g2 h2, ?_⟩
    rw [g3, List.append_assoc]
theorem mrn.cut : ∀ {k : Nat} {s s1 s2 : Int × Int × Int × Int × Int} {o1 o2 : List Int} {m : Nat}, mrn a l0 l1 R k s s1 o1 → mrn a l0 l1 R (k + m) s s2 o2 → ∃ r, mrn a l0 l1 R m s1 s2 r ∧ o2 = o1 ++ r := by
  intro k
  induction k with
  | zero =>
    intro s s1 s2 o1 o2 m h1 h2
    obtain ⟨e1, e2⟩ := h1
    subst e1
    subst e2
    rw [Nat.zero_add] at h2
    exact ⟨o2, h2, rfl⟩
  | succ k ih =>
    intro s s1 s2 o1 o2 m h1 h2
    rw [show k + 1 + m = (k + m) + 1 by omega] at h2
    obtain ⟨t, o3, o4, g1, g2, g3⟩ := h1
    obtain ⟨u, o5, o6, g4, g5, g6⟩ := h2
    obtain ⟨e1, e2⟩ := mst.uni g1 g4
    subst e1
    subst e2
    obtain ⟨r, r1, r2⟩ := ih g2 g5
    refine ⟨r, r1, ?_⟩
    rw [g6, g3, r2, List.append_assoc]
theorem MFN.step (h1 : MFN R s) (h2 : mst a l0 l1 R s s2 o) (h0 : 0 ≤ s.1) : MFN R s2 ∧ o = [] ∧ 0 ≤ s2.1 := by
  obtain ⟨w1, w2⟩ := h1
  rcases h2 with ⟨p1, p2, p3, p4⟩ | ⟨p1, p2, p3, p4⟩ | ⟨p1, p2, d, p3, p4, p5, p6⟩ | ⟨p1, p2, p3, p4, p5⟩
  · subst p3
    exact ⟨⟨rfl, fun j hj => w2 j (by have q : (s.1 + 1).toNat ≤ j := hj; omega)⟩, p4, by show 0 ≤ s.1 + 1; omega⟩
  · exact absurd (w2 _ (Nat.le_refl _)) p2
  · omega
  · omega
theorem MFN.run : ∀ {k : Nat} {s s2 : Int × Int × Int × Int × Int} {o : List Int}, MFN R s → 0 ≤ s.1 → mrn a l0 l1 R k s s2 o → MFN R s2 ∧ o = [] := by
  intro k
  induction k with
  | zero =>
    intro s s2 o h1 _ h2
    obtain ⟨e1, e2⟩ := h2
    subst e1
    exact ⟨h1, e2⟩
  | succ k ih =>
    intro s s2 o h1 h0 h2
    obtain ⟨t, o3, o4, g1, g2, g3⟩ := h2
    obtain ⟨q1, q2, q3⟩ := MFN.step h1 g1 h0
    obtain ⟨q4, q5⟩ := ih q1 q3 g2
    exact ⟨q4, by rw [g3, q2, q5]; rfl⟩
theorem MSB.no (h1 : MSB a l0 l1 R s) (h2 : mst a l0 l1 R s s2 o) : False := by
  obtain ⟨w1, w2⟩ := h1
  rcases h2 with ⟨p1, p2, p3, p4⟩ | ⟨p1, p2, p3, p4⟩ | ⟨p1, p2, d, p3, p4, p5, p6⟩ | ⟨p1, p2, p3, p4, p5⟩
  · omega
  · omega
  · rcases w2 with ⟨_, w2 | ⟨w2, e, w3, w4⟩⟩ | ⟨w2, _⟩
    · have q := BSQ.uni w2 p3
      cases q
    · have q := BSQ.uni w3 p3
      cases q
      exact w4 (p4 w2)
    · exact p2 w2
  · rcases w2 with ⟨w2, _⟩ | ⟨_, w3⟩
    · exact w2 p2
    · exact p3 w3
theorem rlen_nn (h : NZL a l) (hd : l[n]? = some d) : 0 ≤ rlen a d := by
  have := (h n d hd).1
  omega
theorem mrn.nn (hz0 : NZL a l0) (hz1 : NZL a l1) : ∀ {k : Nat} {s s2 : Int × Int × Int × Int × Int} {o : List Int}, 0 ≤ s.1 → mrn a l0 l1 R k s s2 o → 0 ≤ s2.1 := by
  intro k
  induction k with
  | zero =>
    intro s s2 o h0 h2
    obtain ⟨e1, e2⟩ := h2
    subst e1
    exact h0
  | succ k ih =>
    intro s s2 o h0 h2
    obtain ⟨t, o3, o4, g1, g2, g3⟩ := h2
    refine ih ?_ g2
    rcases g1 with ⟨p1, p2, p3, p4⟩ | ⟨p1, p2, p3, p4⟩ | ⟨p1, p2, d, p3, p4, p5, p6⟩ | ⟨p1, p2, p3, p4, p5⟩
    · subst p3
      show 0 ≤ s.1 + 1
      omega
    · subst p3
      exact h0
    · subst p5
      obtain ⟨j, q1, _⟩ := BSQ.mem p3
      have q2 : 0 ≤ rlen a d := by
        by_cases c : s.2.1 = 0
        · rw [if_pos c] at q1
          exact rlen_nn hz0 q1
        · rw [if_neg c] at q1
          exact rlen_nn hz1 q1
      show 0 ≤ s.1 + rlen a d
      omega
    · subst p4
      exact h0
theorem RFN.uni (hz0 : NZL a l0) (hz1 : NZL a l1) (h1 : RFN a l0 l1 R b1) (h2 : RFN a l0 l1 R b2) : b1 = b2 := by
  obtain ⟨s, ⟨k, g1⟩, g2⟩ := h1
  obtain ⟨t, ⟨m, g3⟩, g4⟩ := h2
  refine hv2 (mrn.nn hz0 hz1 (Int.le_refl 0) g1) (mrn.nn hz0 hz1 (Int.le_refl 0) g3) (fun n1 n2 => ?_)
  by_cases c : k ≤ m
  · rw [show m = k + (m - k) by omega] at g3
    obtain ⟨r, r1, r2⟩ := mrn.cut g1 g3
    rw [(MFN.run g2 n1 r1).2] at r2
    rw [r2, List.append_nil]
  · rw [show k = m + (k - m) by omega] at g1
    obtain ⟨r, r1, r2⟩ := mrn.cut g3 g1
    rw [(MFN.run g4 n2 r1).2] at r2
    rw [r2, List.append_nil]
theorem RFN.nw (hz0 : NZL a l0) (hz1 : NZL a l1) (h1 : RFN a l0 l1 R b1) (h2 : RWG a l0 l1 R) : False := by
  obtain ⟨s, ⟨k, g1⟩, g2⟩ := h1
  obtain ⟨t, bs, ⟨m, g3⟩, g4⟩ := h2
  have n1 := mrn.nn hz0 hz1 (Int.le_refl 0) g1
  by_cases c : k ≤ m
  · rw [show m = k + (m - k) by omega] at g3
    obtain ⟨r, r1, r2⟩ := mrn.cut g1 g3
    refine hv2 ((MFN.run g2 n1 r1).1.1) (g4.1) (fun w w2 => ?_)
    omega
  · rw [show k = m + ((k - m - 1) + 1) by omega] at g1
    obtain ⟨r, r1, r2⟩ := mrn.cut g3 g1
    obtain ⟨u, o3, o4, q1, _, _⟩ := r1
    exact MSB.no g4 q1
theorem RFN.ov (hz0 : NZL a l0) (hz1 : NZL a l1) (h1 : RFN a l0 l1 R b1) (h2 : ROV a l0 l1 R n) : n < b1.length := by
  obtain ⟨s, ⟨k, g1⟩, g2⟩ := h1
  obtain ⟨t, bs, ⟨m, g3⟩, g4⟩ := h2
  have n1 := mrn.nn hz0 hz1 (Int.le_refl 0) g1
  by_cases c : k ≤ m
  · rw [show m = k + (m - k) by omega] at g3
    obtain ⟨r, r1, r2⟩ := mrn.cut g1 g3
    rw [(MFN.run g2 n1 r1).2, List.append_nil] at r2
    rw [← r2]
    exact g4
  · rw [show k = m + (k - m) by omega] at g1
    obtain ⟨r, r1, r2⟩ := mrn.cut g3 g1
    rw [r2, List.length_append]
    omega
theorem RDA.uni (hz0 : NZL a l0) (hz1 : NZL a l1) (h1 : RDA a l0 l1 R f1 b1) (h2 : RDA a l0 l1 R f2 b2) : f1 = f2 ∧ b1 = b2 := by
  rcases h1 with ⟨p1, p2, p3⟩ | ⟨p1, p2, p3⟩ <;> rcases h2 with ⟨q1, q2, q3⟩ | ⟨q1, q2, q3⟩
  · have e := RFN.uni hz0 hz1 p1 q1
    subst e
    exact ⟨p3.trans q3.symm, rfl⟩
  · rcases q1 with q1 | q1
    · exact (RFN.nw hz0 hz1 p1 q1).elim
    · have w := RFN.ov hz0 hz1 p1 q1
      omega
  · rcases p1 with p1 | p1
    · exact (RFN.nw hz0 hz1 q1 p1).elim
    · have w := RFN.ov hz0 hz1 q1 p1
      omega
  · exact ⟨p2.trans q2.symm, p3.trans q3.symm⟩
theorem MRC.zero : MRC a l0 l1 R (0, 0, 0, 0, 0) [] := ⟨0, rfl, rfl⟩
theorem MRC.step (h : MRC a l0 l1 R s o) (h2 : mst a l0 l1 R s s2 o1) : MRC a l0 l1 R s2 (o ++ o1) := by
  obtain ⟨k, g⟩ := h
  exact ⟨k + 1, g.snoc h2⟩
theorem MRC.blank (h : MRC a l0 l1 R (p, 0, 0, x, 0) o) (hp : R p.toNat = 0) : MRC a l0 l1 R (p + 1, 0, 0, x, 0) o := by
  have g := h.step (Or.inl ⟨rfl, hp, rfl, rfl⟩)
  rw [List.append_nil] at g
  exact g
theorem MRC.word (h : MRC a l0 l1 R (p, 0, 0, x, 0) o) (hp : R p.toNat ≠ 0) (ho : o2 = o ++ (if x = 1 then [32] else [])) : MRC a l0 l1 R (p, 0, 0, 1, 1) o2 := by
  rw [ho]
  exact h.step (Or.inr (Or.inl ⟨rfl, hp, rfl, rfl⟩))
theorem MRC.row (h : MRC a l0 l1 R (p, g, q, 1, 1) o) (hp : R p.toNat ≠ 0) (hb : BSQ a R p (if g = 0 then l0 else l1) (some d)) (hs : q = 1 → SMR a d) : MRC a l0 l1 R (p + rlen a d, ngp d g, ngh d, 1, 1) (o ++ rout a d q) := h.step (Or.inr (Or.inr (Or.inl ⟨rfl, hp, d, hb, hs, rfl, rfl⟩)))
theorem MRC.wend (h : MRC a l0 l1 R (p, g, q, 1, 1) o) (hp : R p.toNat = 0) (hq : q ≠ 1) : MRC a l0 l1 R (p, 0, 0, 1, 0) o := by
  have w := h.step (Or.inr (Or.inr (Or.inr ⟨rfl, hp, hq, rfl, rfl⟩)))
  rw [List.append_nil] at w
  exact w
theorem MRC.no (h : MRC a l0 l1 R (p, g, q, 1, 1) o) (hp : R p.toNat ≠ 0) (hb : BSQ a R p (if g = 0 then l0 else l1) none) : RWG a l0 l1 R := ⟨_, o, h, rfl, Or.inl ⟨hp, Or.inl hb⟩⟩
theorem MRC.ns (h : MRC a l0 l1 R (p, g, q, 1, 1) o) (hp : R p.toNat ≠ 0) (hb : BSQ a R p (if g = 0 then l0 else l1) (some d)) (hq : q = 1) (hs : ¬ SMR a d) : RWG a l0 l1 R := ⟨_, o, h, rfl, Or.inl ⟨hp, Or.inr ⟨hq, d, hb, hs⟩⟩⟩
theorem MRC.ge (h : MRC a l0 l1 R (p, g, q, 1, 1) o) (hp : R p.toNat = 0) (hq : q = 1) : RWG a l0 l1 R := ⟨_, o, h, rfl, Or.inr ⟨hp, hq⟩⟩
theorem MRC.fin (h : MRC a l0 l1 R (p, 0, 0, x, 0) o) (hp : ∀ j : Nat, p.toNat ≤ j → R j = 0) : RFN a l0 l1 R o := ⟨_, h, rfl, hp⟩
theorem MRC.ov (h : MRC a l0 l1 R s o) (hn : n < o.length) : ROV a l0 l1 R n := ⟨s, o, h, hn⟩
end RSEM
end
