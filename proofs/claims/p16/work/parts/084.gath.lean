def upc (r b : Nat → Int) : Nat → Int → Prop
  | 0, _ => True
  | n + 1, t => 0 ≤ t → r t.toNat = 1 ∧ upc r b n (b t.toNat)
def whl (v : Nat → Int) (a : Nat → Nat → Int) : Nat → Int → Prop
  | 0, _ => False
  | n + 1, t => (0 ≤ t ∧ t < v 4 ∧ a 5 t.toNat = 1) ∧ (a 6 t.toNat = 5 → whl v a n (a 8 t.toNat) ∧ whl v a n (a 9 t.toNat)) ∧ (1 ≤ a 6 t.toNat → a 6 t.toNat ≤ 3 → whl v a n (a 8 t.toNat))
def UPC (a : Nat → Nat → Int) (t : Int) : Prop := upc (a 5) (a 8) 31 t
def WHL (v : Nat → Int) (a : Nat → Nat → Int) (t : Int) : Prop := whl v a 31 t
def WHE (f : Int) (v : Nat → Int) (a : Nat → Nat → Int) (n : Nat) (t : Int) : Prop := f = 1 ↔ whl v a n t
section GATS
variable {v v2 : Nat → Int} {a a1 a2 a3 a4 : Nat → Nat → Int} {q x y z t b r d e w f f1 f2 k : Int} {n : Nat} {l : List Int}
theorem upc_s {r b : Nat → Int} (n : Nat) (t : Int) : upc r b (n + 1) t = (0 ≤ t → r t.toNat = 1 ∧ upc r b n (b t.toNat)) := rfl
theorem upc_fuel {r b : Nat → Int} {V : Int} (hb : ∀ t : Int, 0 ≤ t → t < V → b t.toNat < t) : ∀ (n m : Nat) (t : Int), t < V → t < (n : Int) → t < (m : Int) → (upc r b n t ↔ upc r b m t) := by
  intro n
  induction n with
  | zero =>
    intro m t h1 h2 h3
    cases m with
    | zero => exact Iff.rfl
    | succ m => rw [upc_s]; exact ⟨fun _ h => absurd h (by omega), fun _ => trivial⟩
  | succ n ih =>
    intro m t h1 h2 h3
    cases m with
    | zero => rw [upc_s]; exact ⟨fun _ => trivial, fun _ h => absurd h (by omega)⟩
    | succ m =>
      rw [upc_s, upc_s]
      refine ⟨fun h h0 => ?_, fun h h0 => ?_⟩
      · have h4 := hb t h0 h1
        exact ⟨(h h0).1, (ih m (b t.toNat) (by omega) (by omega) (by omega)).mp (h h0).2⟩
      · have h4 := hb t h0 h1
        exact ⟨(h h0).1, (ih m (b t.toNat) (by omega) (by omega) (by omega)).mpr (h h0).2⟩
theorem TBL.b8 (h : TBL v a) : ∀ t : Int, 0 ≤ t → t < v 4 → a 8 t.toNat < t := fun t h1 h2 => by
  have := h.1 t h1 h2
  omega
theorem UPC.s (h : TBL v a) (h30 : v 4 ≤ 30) (h0 : 0 ≤ t) (h4 : t < v 4) : UPC a t ↔ (a 5 t.toNat = 1 ∧ UPC a (a 8 t.toNat)) := by
  have h8 := h.b8 t h0 h4
  have e := upc_fuel (r := a 5) h.b8 30 31 (a 8 t.toNat) (by omega) (by omega) (by omega)
  show upc (a 5) (a 8) (30 + 1) t ↔ (a 5 t.toNat = 1 ∧ upc (a 5) (a 8) 31 (a 8 t.toNat))
  rw [← e, upc_s]
  exact ⟨fun h => h h0, fun h _ => h⟩
theorem UPC.neg0 (h0 : t < 0) : UPC a t := fun h => absurd h (by omega)
theorem whl_up (h : TBL v a) (h30 : v 4 ≤ 30) : ∀ (n : Nat) (t : Int), 0 ≤ t → t < v 4 → t < (n : Int) → a 6 t.toNat ≤ 4 → (whl v a n t ↔ UPC a t) := by
  intro n
  induction n with
  | zero => intro t h0 h4 hn; omega
  | succ n ih =>
    intro t h0 h4 hn h6
    have ht := h.1 t h0 h4
    rw [UPC.s h h30 h0 h4]
    show ((0 ≤ t ∧ t < v 4 ∧ a 5 t.toNat = 1) ∧ (a 6 t.toNat = 5 → whl v a n (a 8 t.toNat) ∧ whl v a n (a 9 t.toNat)) ∧ (1 ≤ a 6 t.toNat → a 6 t.toNat ≤ 3 → whl v a n (a 8 t.toNat))) ↔ _
    rcases ht with ⟨k1, k2⟩ | ⟨k1, k2, k3, k4, k5⟩ | ⟨k1, k2⟩
    · refine ⟨fun g => ⟨g.1.2.2, UPC.neg0 (by omega)⟩, fun g => ⟨⟨h0, h4, g.1⟩, fun e => absurd e (by omega), fun e1 e2 => absurd e1 (by omega)⟩⟩
    · have g1 := ih (a 8 t.toNat) k3 (by omega) (by omega) (by omega)
      exact ⟨fun g => ⟨g.1.2.2, g1.mp (g.2.2 k1 k2)⟩, fun g => ⟨⟨h0, h4, g.1⟩, fun e => absurd e (by omega), fun _ _ => g1.mpr g.2⟩⟩
    · exfalso; omega
theorem WHL.p (h : TBL v a) (h30 : v 4 ≤ 30) (h0 : 0 ≤ t) (h4 : t < v 4) (h6 : a 6 t.toNat ≠ 5) : WHL v a t ↔ UPC a t := by
  have ht := h.1 t h0 h4
  exact whl_up h h30 31 t h0 h4 (by omega) (by omega)
theorem WHL.j (h : TBL v a) (h30 : v 4 ≤ 30) (h0 : 0 ≤ t) (h4 : t < v 4) (h6 : a 6 t.toNat = 5) : WHL v a t ↔ (UPC a t ∧ UPC a (a 9 t.toNat)) := by
  have ht := h.1 t h0 h4
  rcases ht with ⟨k1, k2⟩ | ⟨k1, k2, k3, k4, k5⟩ | ⟨k1, k2, k3, k4, k5, k6, k7⟩
  · exfalso; omega
  · exfalso; omega
  · have g1 := whl_up h h30 30 (a 8 t.toNat) k2 (by omega) (by omega) (by omega)
    have g2 := whl_up h h30 30 (a 9 t.toNat) k5 (by omega) (by omega) (by omega)
    rw [UPC.s h h30 h0 h4]
    show ((0 ≤ t ∧ t < v 4 ∧ a 5 t.toNat = 1) ∧ (a 6 t.toNat = 5 → whl v a 30 (a 8 t.toNat) ∧ whl v a 30 (a 9 t.toNat)) ∧ (1 ≤ a 6 t.toNat → a 6 t.toNat ≤ 3 → whl v a 30 (a 8 t.toNat))) ↔ _
    exact ⟨fun g => ⟨⟨g.1.2.2, g1.mp (g.2.1 h6).1⟩, g2.mp (g.2.1 h6).2⟩, fun g => ⟨⟨h0, h4, g.1.1⟩, fun _ => ⟨g1.mpr g.1.2, g2.mpr g.2⟩, fun _ e => absurd e (by omega)⟩⟩
theorem WHL.tr (h : WHL v a t) : 0 ≤ t ∧ t < v 4 ∧ a 5 t.toNat = 1 := h.1
theorem WHE.no0 (h : ¬ (0 ≤ t ∧ t < v 4 ∧ a 5 t.toNat = 1)) : WHE 0 v a (n + 1) t := ⟨fun q => absurd q (by decide), fun q => absurd q.1 h⟩
theorem WHE.j11 (ht : 0 ≤ t ∧ t < v 4 ∧ a 5 t.toNat = 1) (h6 : a 6 t.toNat = 5) (h1 : WHE f1 v a n (a 8 t.toNat)) (h2 : WHE f2 v a n (a 9 t.toNat)) (e1 : f1 = 1) (e2 : f2 = 1) : WHE 1 v a (n + 1) t := ⟨fun _ => ⟨ht, fun _ => ⟨h1.mp e1, h2.mp e2⟩, fun _ q => absurd q (by omega)⟩, fun _ => rfl⟩
theorem WHE.j0 (h6 : a 6 t.toNat = 5) (h1 : WHE f1 v a n (a 8 t.toNat)) (e1 : f1 ≠ 1) : WHE 0 v a (n + 1) t := ⟨fun q => absurd q (by decide), fun q => absurd (h1.mpr (q.2.1 h6).1) e1⟩
theorem WHE.j10 (h6 : a 6 t.toNat = 5) (h2 : WHE f2 v a n (a 9 t.toNat)) (e2 : f2 ≠ 1) : WHE 0 v a (n + 1) t := ⟨fun q => absurd q (by decide), fun q => absurd (h2.mpr (q.2.1 h6).2) e2⟩
theorem WHE.p (ht : 0 ≤ t ∧ t < v 4 ∧ a 5 t.toNat = 1) (h6 : a 6 t.toNat < 1 ∨ a 6 t.toNat = 4) : WHE 1 v a (n + 1) t := ⟨fun _ => ⟨ht, fun q => absurd q (by omega), fun q1 q2 => absurd q1 (by omega)⟩, fun _ => rfl⟩
theorem WHE.b1 (ht : 0 ≤ t ∧ t < v 4 ∧ a 5 t.toNat = 1) (h6 : 1 ≤ a 6 t.toNat ∧ a 6 t.toNat ≤ 3) (h1 : WHE f1 v a n (a 8 t.toNat)) (e1 : f1 = 1) : WHE 1 v a (n + 1) t := ⟨fun _ => ⟨ht, fun q => absurd q (by omega), fun _ _ => h1.mp e1⟩, fun _ => rfl⟩
theorem WHE.b0 (h6 : 1 ≤ a 6 t.toNat ∧ a 6 t.toNat ≤ 3) (h1 : WHE f1 v a n (a 8 t.toNat)) (e1 : f1 ≠ 1) : WHE 0 v a (n + 1) t := ⟨fun q => absurd q (by decide), fun q => absurd (h1.mpr (q.2.2 h6.1 h6.2)) e1⟩
theorem gl_lt {r : Nat} (h : l[r]? = some d) : r < l.length := by
  by_cases e : r < l.length
  · exact e
  · rw [List.getElem?_eq_none (by omega)] at h; cases h
end GATS
def WholeE (l : Launch) (G : GT) (h0 : Nat) (ad ln : Nat → Nat) (d n : Nat) (t : Int) : Prop := ∀ (v : Nat → Int) (a : Nat → Nat → Int), BX v a → TBL v a → Mm l G yX12_isWhole cX12_isWhole 2 (some .boolean) d [.int (iI t)] h0 ad ln v a 0 0 (fun r v2 a2 => ∃ f : Int, r = some (.int (iI f)) ∧ fr [] [] v a v2 a2 ∧ BX v2 a2 ∧ ((f = 0 ∨ (f = 1 ∧ 0 ≤ t ∧ t < v 4)) ∧ WHE f v a n t))
set_option maxHeartbeats 4000000 in
set_option maxRecDepth 100000 in
theorem E_isWhole1 {l : Launch} {G : GT} {h0 : Nat} {ad ln : Nat → Nat} {v : Nat → Int} {a : Nat → Nat → Int} {d n : Nat} {t : Int} (hB : BX v a) (hT : TBL v a) (ht : -2147483648 ≤ t ∧ t ≤ 2147483647) (hd : 3 ≤ d) (hf : ∀ b : Int, 0 ≤ b → b < t → WholeE l G h0 ad ln d n b) : Mm l G yX12_isWhole cX12_isWhole 2 (some .boolean) (d + 1) [.int (iI t)] h0 ad ln v a 0 0 (fun r v2 a2 => ∃ f : Int, r = some (.int (iI f)) ∧ fr [] [] v a v2 a2 ∧ BX v2 a2 ∧ ((f = 0 ∨ (f = 1 ∧ 0 ≤ t ∧ t < v 4)) ∧ WHE f v a (n + 1) t)) := by
  refine Mm.mk (by decide) (Nat.le_of_ble_eq_true rfl) ?_
  intro p e s m args below meth c A C
  refine hv2 (show 0 ≤ v 4 ∧ v 4 ≤ 30 from hB.1 4) (show fr [] [] v a v a from fr.refl) (fun h30 fp0 => ?_)
  refine m_aload_n (j := 0) C dX12_isWhole_0 rfl ?_
  refine m_iload_n (j := 1) C dX12_isWhole_1 rfl ?_
  have rv1 : 0 ≤ v 4 ∧ v 4 ≤ 30 := hB.1 4
  refine m_call (mc2 := 0) (ms2 := 0) (As := [.int (iI t)]) (rest := []) C (B_isTable (t := t) hB (by show -2147483648 ≤ t ∧ t ≤ 2147483647; omega)) dX12_isWhole_2 kV_X12_167 rfl ck_13 rfl (Nat.le_of_ble_eq_true rfl) ⟨by dsimp only [rmq]; omega, by dsimp only [rmq]; omega⟩ ⟨Nat.le_of_ble_eq_true rfl, Nat.le_of_ble_eq_true rfl⟩ (fun rh1 vh1 ah1 h1 => ?_)
  obtain ⟨f1, rfl, fn1, bn1, ex1⟩ := h1
  obtain ⟨rfl, rfl⟩ := fn1.eq
  refine hv2 (show (f1 = 0 ∧ (t < 0 ∨ (v 4) ≤ t ∨ a 5 t.toNat = 0)) ∨ (f1 = 1 ∧ 0 ≤ t ∧ t < (v 4) ∧ a 5 t.toNat = 1) from ex1) (show 0 ≤ a 5 t.toNat ∧ a 5 t.toNat ≤ 1 from hB.2 5 (t.toNat)) (fun gf1 ra1 => ?_)
  refine m_st (st2 := [.int (iI f1)]) rfl ?_
  refine m_if_ne (tgt := 10) C (r32_pq gf1) dX12_isWhole_5 (by decide) (fun c1 => ?_) (fun c1 => ?_)
  · replace gf1 := (gf1.resolve_left (fun q => c1 q.1))
    have ht0 := hT.1 t (by omega) (by omega)
    refine m_aload_n (j := 0) C dX12_isWhole_10 rfl ?_
    refine m_geta (k := 6) C dX12_isWhole_11 w6_65 (by decide) rfl ?_
    refine m_iload_n (j := 1) C dX12_isWhole_14 rfl ?_
    refine m_ald (k := 6) C dX12_isWhole_15 rfl rfl (by decide) (by omega) (by show _ < ((_ : Nat) : Int); simp only [mlen]; omega) (by decide) ?_
    have ra2 : 0 ≤ a 6 t.toNat ∧ a 6 t.toNat ≤ 5 := hB.2 6 (t.toNat)
    refine m_iconst C dX12_isWhole_16 ?_
    refine m_icmp_ne (tgt := 52) C (r32_c (lo := 0) (hi := 5) ra2.1 ra2.2 (by decide) (by decide)) ⟨by decide, by decide⟩ dX12_isWhole_17 (by decide) (fun c2 => ?_) (fun c2 => ?_)
    · refine m_aload_n (j := 0) C dX12_isWhole_52 rfl ?_
      refine m_geta (k := 6) C dX12_isWhole_53 w6_65 (by decide) rfl ?_
      refine m_iload_n (j := 1) C dX12_isWhole_56 rfl ?_
      refine m_ald (k := 6) C dX12_isWhole_57 rfl rfl (by decide) (by omega) (by show _ < ((_ : Nat) : Int); simp only [mlen]; omega) (by decide) ?_
      refine m_iconst C dX12_isWhole_58 ?_
      refine m_icmp_lt (tgt := 85) C (r32_c (lo := 0) (hi := 5) ra2.1 ra2.2 (by decide) (by decide)) ⟨by decide, by decide⟩ dX12_isWhole_59 (by decide) (fun c3 => ?_) (fun c3 => ?_)
      · refine m_iconst C dX12_isWhole_85 ?_
        refine m_goto (tgt := 90) C dX12_isWhole_86 (by decide) ?_
        exact m_zret C dX12_isWhole_90 rfl (Or.inr rfl) (Nat.le_of_ble_eq_true rfl) (Nat.le_of_ble_eq_true rfl) ⟨1, rfl, fp0, hB, ⟨by omega, WHE.p (by omega) (by omega)⟩⟩
      · refine m_aload_n (j := 0) C dX12_isWhole_62 rfl ?_
        refine m_geta (k := 6) C dX12_isWhole_63 w6_65 (by decide) rfl ?_
        refine m_iload_n (j := 1) C dX12_isWhole_66 rfl ?_
        refine m_ald (k := 6) C dX12_isWhole_67 rfl rfl (by decide) (by omega) (by show _ < ((_ : Nat) : Int); simp only [mlen]; omega) (by decide) ?_
        refine m_iconst C dX12_isWhole_68 ?_
        refine m_icmp_gt (tgt := 85) C (r32_c (lo := 0) (hi := 5) ra2.1 ra2.2 (by decide) (by decide)) ⟨by decide, by decide⟩ dX12_isWhole_69 (by decide) (fun c4 => ?_) (fun c4 => ?_)
        · refine m_iconst C dX12_isWhole_85 ?_
          refine m_goto (tgt := 90) C dX12_isWhole_86 (by decide) ?_
          exact m_zret C dX12_isWhole_90 rfl (Or.inr rfl) (Nat.le_of_ble_eq_true rfl) (Nat.le_of_ble_eq_true rfl) ⟨1, rfl, fp0, hB, ⟨by omega, WHE.p (by omega) (by omega)⟩⟩
        · refine m_aload_n (j := 0) C dX12_isWhole_72 rfl ?_
          refine m_aload_n (j := 0) C dX12_isWhole_73 rfl ?_
          refine m_geta (k := 8) C dX12_isWhole_74 w6_67 (by decide) rfl ?_
          refine m_iload_n (j := 1) C dX12_isWhole_77 rfl ?_
          refine m_ald (k := 8) C dX12_isWhole_78 rfl rfl (by decide) (by omega) (by show _ < ((_ : Nat) : Int); simp only [mlen]; omega) (by decide) ?_
          have ra3 : (-1) ≤ a 8 t.toNat ∧ a 8 t.toNat ≤ 29 := hB.2 8 (t.toNat)
          refine m_call (mc2 := 0) (ms2 := 0) (As := [.int (iI (a 8 t.toNat))]) (rest := []) C (hf (a 8 t.toNat) (by omega) (by omega) _ _ hB hT) dX12_isWhole_79 kV_X12_171 rfl ck_13 rfl (Nat.le_of_ble_eq_true rfl) ⟨by dsimp only [rmq]; omega, by dsimp only [rmq]; omega⟩ ⟨Nat.le_of_ble_eq_true rfl, Nat.le_of_ble_eq_true rfl⟩ (fun rh2 vh2 ah2 h2 => ?_)
          obtain ⟨f2, rfl, fn2, _, ef2, we1⟩ := h2
          obtain ⟨rfl, rfl⟩ := fn2.eq
          refine m_st (st2 := [.int (iI f2)]) rfl ?_
          refine m_if_eq (tgt := 89) C ⟨by omega, by omega⟩ dX12_isWhole_82 (by decide) (fun c5 => ?_) (fun c5 => ?_)
          · refine m_iconst C dX12_isWhole_89 ?_
            exact m_zret C dX12_isWhole_90 rfl (Or.inl rfl) (Nat.le_of_ble_eq_true rfl) (Nat.le_of_ble_eq_true rfl) ⟨0, rfl, fp0, hB, ⟨by omega, WHE.b0 (by omega) we1 (by omega)⟩⟩
          · refine m_iconst C dX12_isWhole_85 ?_
            refine m_goto (tgt := 90) C dX12_isWhole_86 (by decide) ?_
            exact m_zret C dX12_isWhole_90 rfl (Or.inr rfl) (Nat.le_of_ble_eq_true rfl) (Nat.le_of_ble_eq_true rfl) ⟨1, rfl, fp0, hB, ⟨by omega, WHE.b1 (by omega) (by omega) we1 (by omega)⟩⟩
    · refine m_aload_n (j := 0) C dX12_isWhole_20 rfl ?_
      refine m_aload_n (j := 0) C dX12_isWhole_21 rfl ?_
      refine m_geta (k := 8) C dX12_isWhole_22 w6_67 (by decide) rfl ?_
      refine m_iload_n (j := 1) C dX12_isWhole_25 rfl ?_
      refine m_ald (k := 8) C dX12_isWhole_26 rfl rfl (by decide) (by omega) (by show _ < ((_ : Nat) : Int); simp only [mlen]; omega) (by decide) ?_
      have ra4 : (-1) ≤ a 8 t.toNat ∧ a 8 t.toNat ≤ 29 := hB.2 8 (t.toNat)
      refine m_call (mc2 := 0) (ms2 := 0) (As := [.int (iI (a 8 t.toNat))]) (rest := []) C (hf (a 8 t.toNat) (by omega) (by omega) _ _ hB hT) dX12_isWhole_27 kV_X12_171 rfl ck_13 rfl (Nat.le_of_ble_eq_true rfl) ⟨by dsimp only [rmq]; omega, by dsimp only [rmq]; omega⟩ ⟨Nat.le_of_ble_eq_true rfl, Nat.le_of_ble_eq_true rfl⟩ (fun rh3 vh3 ah3 h3 => ?_)
      obtain ⟨f3, rfl, fn3, _, ef3, we2⟩ := h3
      obtain ⟨rfl, rfl⟩ := fn3.eq
      refine m_st (st2 := [.int (iI f3)]) rfl ?_
      refine m_if_eq (tgt := 50) C ⟨by omega, by omega⟩ dX12_isWhole_30 (by decide) (fun c6 => ?_) (fun c6 => ?_)
      · refine m_iconst C dX12_isWhole_50 ?_
        exact m_zret C dX12_isWhole_51 rfl (Or.inl rfl) (Nat.le_of_ble_eq_true rfl) (Nat.le_of_ble_eq_true rfl) ⟨0, rfl, fp0, hB, ⟨by omega, WHE.j0 (by omega) we2 (by omega)⟩⟩
      · refine m_aload_n (j := 0) C dX12_isWhole_33 rfl ?_
        refine m_aload_n (j := 0) C dX12_isWhole_34 rfl ?_
        refine m_geta (k := 9) C dX12_isWhole_35 w6_68 (by decide) rfl ?_
        refine m_iload_n (j := 1) C dX12_isWhole_38 rfl ?_
        refine m_ald (k := 9) C dX12_isWhole_39 rfl rfl (by decide) (by omega) (by show _ < ((_ : Nat) : Int); simp only [mlen]; omega) (by decide) ?_
        have ra5 : (-1) ≤ a 9 t.toNat ∧ a 9 t.toNat ≤ 29 := hB.2 9 (t.toNat)
        refine m_call (mc2 := 0) (ms2 := 0) (As := [.int (iI (a 9 t.toNat))]) (rest := []) C (hf (a 9 t.toNat) (by omega) (by omega) _ _ hB hT) dX12_isWhole_40 kV_X12_171 rfl ck_13 rfl (Nat.le_of_ble_eq_true rfl) ⟨by dsimp only [rmq]; omega, by dsimp only [rmq]; omega⟩ ⟨Nat.le_of_ble_eq_true rfl, Nat.le_of_ble_eq_true rfl⟩ (fun rh4 vh4 ah4 h4 => ?_)
        obtain ⟨f4, rfl, fn4, _, ef4, we3⟩ := h4
        obtain ⟨rfl, rfl⟩ := fn4.eq
        refine m_st (st2 := [.int (iI f4)]) rfl ?_
        refine m_if_eq (tgt := 50) C ⟨by omega, by omega⟩ dX12_isWhole_43 (by decide) (fun c7 => ?_) (fun c7 => ?_)
        · refine m_iconst C dX12_isWhole_50 ?_
          exact m_zret C dX12_isWhole_51 rfl (Or.inl rfl) (Nat.le_of_ble_eq_true rfl) (Nat.le_of_ble_eq_true rfl) ⟨0, rfl, fp0, hB, ⟨by omega, WHE.j10 (by omega) we3 (by omega)⟩⟩
        · refine m_iconst C dX12_isWhole_46 ?_
          refine m_goto (tgt := 51) C dX12_isWhole_47 (by decide) ?_
          exact m_zret C dX12_isWhole_51 rfl (Or.inr rfl) (Nat.le_of_ble_eq_true rfl) (Nat.le_of_ble_eq_true rfl) ⟨1, rfl, fp0, hB, ⟨by omega, WHE.j11 (by omega) (by omega) we2 we3 (by omega) (by omega)⟩⟩
  · replace gf1 := (gf1.resolve_right (fun q => absurd (q.1.symm.trans c1) (by decide)))
    refine m_iconst C dX12_isWhole_8 ?_
    exact m_zret C dX12_isWhole_9 rfl (Or.inl rfl) (Nat.le_of_ble_eq_true rfl) (Nat.le_of_ble_eq_true rfl) ⟨0, rfl, fp0, hB, ⟨by omega, WHE.no0 (by omega)⟩⟩
theorem E_isWholeN {l : Launch} {G : GT} {h0 : Nat} {ad ln : Nat → Nat} : ∀ (n : Nat) (t : Int), 0 ≤ t → t < (n : Int) → n ≤ 30 → WholeE l G h0 ad ln (n + 3) n t := by
  intro n
  induction n with
  | zero => intro t h1 h2; omega
  | succ n ih =>
    intro t h1 h2 h3 v a hB hT
    exact E_isWhole1 (d := n + 3) (n := n) hB hT ⟨by omega, by omega⟩ (by omega) (fun b hb hb2 => ih b hb (by omega) (by omega))
set_option maxHeartbeats 4000000 in
set_option maxRecDepth 100000 in
theorem E_isWhole {l : Launch} {G : GT} {h0 : Nat} {ad ln : Nat → Nat} {v : Nat → Int} {a : Nat → Nat → Int}  {t : Int} (hB : BX v a) (hT : TBL v a) (ht : -2147483648 ≤ t ∧ t ≤ 2147483647) : Mm l G yX12_isWhole cX12_isWhole 2 (some .boolean) 34 [.int (iI t)] h0 ad ln v a 0 0 (fun r v2 a2 => ∃ f : Int, r = some (.int (iI f)) ∧ fr [] [] v a v2 a2 ∧ BX v2 a2 ∧ ((f = 0 ∨ (f = 1 ∧ 0 ≤ t ∧ t < v 4)) ∧ WHE f v a 31 t)) := by
  refine Mm.mk (by decide) (Nat.le_of_ble_eq_true rfl) ?_
  intro p e s m args below meth c A C
  refine hv2 (show 0 ≤ v 4 ∧ v 4 ≤ 30 from hB.1 4) (show fr [] [] v a v a from fr.refl) (fun h30 fp0 => ?_)
  refine m_aload_n (j := 0) C dX12_isWhole_0 rfl ?_
  refine m_iload_n (j := 1) C dX12_isWhole_1 rfl ?_
  have rv1 : 0 ≤ v 4 ∧ v 4 ≤ 30 := hB.1 4
  refine m_call (mc2 := 0) (ms2 := 0) (As := [.int (iI t)]) (rest := []) C (B_isTable (t := t) hB (by show -2147483648 ≤ t ∧ t ≤ 2147483647; omega)) dX12_isWhole_2 kV_X12_167 rfl ck_13 rfl (Nat.le_of_ble_eq_true rfl) ⟨Nat.le_of_ble_eq_true rfl, Nat.le_of_ble_eq_true rfl⟩ ⟨Nat.le_of_ble_eq_true rfl, Nat.le_of_ble_eq_true rfl⟩ (fun rh1 vh1 ah1 h1 => ?_)
  obtain ⟨f1, rfl, fn1, bn1, ex1⟩ := h1
  obtain ⟨rfl, rfl⟩ := fn1.eq
  refine hv2 (show (f1 = 0 ∧ (t < 0 ∨ (v 4) ≤ t ∨ a 5 t.toNat = 0)) ∨ (f1 = 1 ∧ 0 ≤ t ∧ t < (v 4) ∧ a 5 t.toNat = 1) from ex1) (show 0 ≤ a 5 t.toNat ∧ a 5 t.toNat ≤ 1 from hB.2 5 (t.toNat)) (fun gf1 ra1 => ?_)
  refine m_st (st2 := [.int (iI f1)]) rfl ?_
  refine m_if_ne (tgt := 10) C (r32_pq gf1) dX12_isWhole_5 (by decide) (fun c1 => ?_) (fun c1 => ?_)
  · replace gf1 := (gf1.resolve_left (fun q => c1 q.1))
    have ht0 := hT.1 t (by omega) (by omega)
    refine m_aload_n (j := 0) C dX12_isWhole_10 rfl ?_
    refine m_geta (k := 6) C dX12_isWhole_11 w6_65 (by decide) rfl ?_
    refine m_iload_n (j := 1) C dX12_isWhole_14 rfl ?_
    refine m_ald (k := 6) C dX12_isWhole_15 rfl rfl (by decide) (by omega) (by show _ < ((_ : Nat) : Int); simp only [mlen]; omega) (by decide) ?_
    have ra2 : 0 ≤ a 6 t.toNat ∧ a 6 t.toNat ≤ 5 := hB.2 6 (t.toNat)
    refine m_iconst C dX12_isWhole_16 ?_
    refine m_icmp_ne (tgt := 52) C (r32_c (lo := 0) (hi := 5) ra2.1 ra2.2 (by decide) (by decide)) ⟨by decide, by decide⟩ dX12_isWhole_17 (by decide) (fun c2 => ?_) (fun c2 => ?_)
    · refine m_aload_n (j := 0) C dX12_isWhole_52 rfl ?_
      refine m_geta (k := 6) C dX12_isWhole_53 w6_65 (by decide) rfl ?_
      refine m_iload_n (j := 1) C dX12_isWhole_56 rfl ?_
      refine m_ald (k := 6) C dX12_isWhole_57 rfl rfl (by decide) (by omega) (by show _ < ((_ : Nat) : Int); simp only [mlen]; omega) (by decide) ?_
      refine m_iconst C dX12_isWhole_58 ?_
      refine m_icmp_lt (tgt := 85) C (r32_c (lo := 0) (hi := 5) ra2.1 ra2.2 (by decide) (by decide)) ⟨by decide, by decide⟩ dX12_isWhole_59 (by decide) (fun c3 => ?_) (fun c3 => ?_)
      · refine m_iconst C dX12_isWhole_85 ?_
        refine m_goto (tgt := 90) C dX12_isWhole_86 (by decide) ?_
        exact m_zret C dX12_isWhole_90 rfl (Or.inr rfl) (Nat.le_of_ble_eq_true rfl) (Nat.le_of_ble_eq_true rfl) ⟨1, rfl, fp0, hB, ⟨by omega, WHE.p (by omega) (by omega)⟩⟩
      · refine m_aload_n (j := 0) C dX12_isWhole_62 rfl ?_
        refine m_geta (k := 6) C dX12_isWhole_63 w6_65 (by decide) rfl ?_
        refine m_iload_n (j := 1) C dX12_isWhole_66 rfl ?_
        refine m_ald (k := 6) C dX12_isWhole_67 rfl rfl (by decide) (by omega) (by show _ < ((_ : Nat) : Int); simp only [mlen]; omega) (by decide) ?_
        refine m_iconst C dX12_isWhole_68 ?_
        refine m_icmp_gt (tgt := 85) C (r32_c (lo := 0) (hi := 5) ra2.1 ra2.2 (by decide) (by decide)) ⟨by decide, by decide⟩ dX12_isWhole_69 (by decide) (fun c4 => ?_) (fun c4 => ?_)
        · refine m_iconst C dX12_isWhole_85 ?_
          refine m_goto (tgt := 90) C dX12_isWhole_86 (by decide) ?_
          exact m_zret C dX12_isWhole_90 rfl (Or.inr rfl) (Nat.le_of_ble_eq_true rfl) (Nat.le_of_ble_eq_true rfl) ⟨1, rfl, fp0, hB, ⟨by omega, WHE.p (by omega) (by omega)⟩⟩
        · refine m_aload_n (j := 0) C dX12_isWhole_72 rfl ?_
          refine m_aload_n (j := 0) C dX12_isWhole_73 rfl ?_
          refine m_geta (k := 8) C dX12_isWhole_74 w6_67 (by decide) rfl ?_
          refine m_iload_n (j := 1) C dX12_isWhole_77 rfl ?_
          refine m_ald (k := 8) C dX12_isWhole_78 rfl rfl (by decide) (by omega) (by show _ < ((_ : Nat) : Int); simp only [mlen]; omega) (by decide) ?_
          have ra3 : (-1) ≤ a 8 t.toNat ∧ a 8 t.toNat ≤ 29 := hB.2 8 (t.toNat)
          refine m_call (mc2 := 0) (ms2 := 0) (As := [.int (iI (a 8 t.toNat))]) (rest := []) C ((E_isWholeN 30 (a 8 t.toNat) (by omega) (by omega) (Nat.le_refl _)) _ _ hB hT) dX12_isWhole_79 kV_X12_171 rfl ck_13 rfl (Nat.le_of_ble_eq_true rfl) ⟨Nat.le_of_ble_eq_true rfl, Nat.le_of_ble_eq_true rfl⟩ ⟨Nat.le_of_ble_eq_true rfl, Nat.le_of_ble_eq_true rfl⟩ (fun rh2 vh2 ah2 h2 => ?_)
          obtain ⟨f2, rfl, fn2, _, ef2, we1⟩ := h2
          obtain ⟨rfl, rfl⟩ := fn2.eq
          refine m_st (st2 := [.int (iI f2)]) rfl ?_
          refine m_if_eq (tgt := 89) C ⟨by omega, by omega⟩ dX12_isWhole_82 (by decide) (fun c5 => ?_) (fun c5 => ?_)
          · refine m_iconst C dX12_isWhole_89 ?_
            exact m_zret C dX12_isWhole_90 rfl (Or.inl rfl) (Nat.le_of_ble_eq_true rfl) (Nat.le_of_ble_eq_true rfl) ⟨0, rfl, fp0, hB, ⟨by omega, WHE.b0 (by omega) we1 (by omega)⟩⟩
          · refine m_iconst C dX12_isWhole_85 ?_
            refine m_goto (tgt := 90) C dX12_isWhole_86 (by decide) ?_
            exact m_zret C dX12_isWhole_90 rfl (Or.inr rfl) (Nat.le_of_ble_eq_true rfl) (Nat.le_of_ble_eq_true rfl) ⟨1, rfl, fp0, hB, ⟨by omega, WHE.b1 (by omega) (by omega) we1 (by omega)⟩⟩
    · refine m_aload_n (j := 0) C dX12_isWhole_20 rfl ?_
      refine m_aload_n (j := 0) C dX12_isWhole_21 rfl ?_
      refine m_geta (k := 8) C dX12_isWhole_22 w6_67 (by decide) rfl ?_
      refine m_iload_n (j := 1) C dX12_isWhole_25 rfl ?_
      refine m_ald (k := 8) C dX12_isWhole_26 rfl rfl (by decide) (by omega) (by show _ < ((_ : Nat) : Int); simp only [mlen]; omega) (by decide) ?_
      have ra4 : (-1) ≤ a 8 t.toNat ∧ a 8 t.toNat ≤ 29 := hB.2 8 (t.toNat)
      refine m_call (mc2 := 0) (ms2 := 0) (As := [.int (iI (a 8 t.toNat))]) (rest := []) C ((E_isWholeN 30 (a 8 t.toNat) (by omega) (by omega) (Nat.le_refl _)) _ _ hB hT) dX12_isWhole_27 kV_X12_171 rfl ck_13 rfl (Nat.le_of_ble_eq_true rfl) ⟨Nat.le_of_ble_eq_true rfl, Nat.le_of_ble_eq_true rfl⟩ ⟨Nat.le_of_ble_eq_true rfl, Nat.le_of_ble_eq_true rfl⟩ (fun rh3 vh3 ah3 h3 => ?_)
      obtain ⟨f3, rfl, fn3, _, ef3, we2⟩ := h3
      obtain ⟨rfl, rfl⟩ := fn3.eq
      refine m_st (st2 := [.int (iI f3)]) rfl ?_
      refine m_if_eq (tgt := 50) C ⟨by omega, by omega⟩ dX12_isWhole_30 (by decide) (fun c6 => ?_) (fun c6 => ?_)
      · refine m_iconst C dX12_isWhole_50 ?_
        exact m_zret C dX12_isWhole_51 rfl (Or.inl rfl) (Nat.le_of_ble_eq_true rfl) (Nat.le_of_ble_eq_true rfl) ⟨0, rfl, fp0, hB, ⟨by omega, WHE.j0 (by omega) we2 (by omega)⟩⟩
      · refine m_aload_n (j := 0) C dX12_isWhole_33 rfl ?_
        refine m_aload_n (j := 0) C dX12_isWhole_34 rfl ?_
        refine m_geta (k := 9) C dX12_isWhole_35 w6_68 (by decide) rfl ?_
        refine m_iload_n (j := 1) C dX12_isWhole_38 rfl ?_
        refine m_ald (k := 9) C dX12_isWhole_39 rfl rfl (by decide) (by omega) (by show _ < ((_ : Nat) : Int); simp only [mlen]; omega) (by decide) ?_
        have ra5 : (-1) ≤ a 9 t.toNat ∧ a 9 t.toNat ≤ 29 := hB.2 9 (t.toNat)
        refine m_call (mc2 := 0) (ms2 := 0) (As := [.int (iI (a 9 t.toNat))]) (rest := []) C ((E_isWholeN 30 (a 9 t.toNat) (by omega) (by omega) (Nat.le_refl _)) _ _ hB hT) dX12_isWhole_40 kV_X12_171 rfl ck_13 rfl (Nat.le_of_ble_eq_true rfl) ⟨Nat.le_of_ble_eq_true rfl, Nat.le_of_ble_eq_true rfl⟩ ⟨Nat.le_of_ble_eq_true rfl, Nat.le_of_ble_eq_true rfl⟩ (fun rh4 vh4 ah4 h4 => ?_)
        obtain ⟨f4, rfl, fn4, _, ef4, we3⟩ := h4
        obtain ⟨rfl, rfl⟩ := fn4.eq
        refine m_st (st2 := [.int (iI f4)]) rfl ?_
        refine m_if_eq (tgt := 50) C ⟨by omega, by omega⟩ dX12_isWhole_43 (by decide) (fun c7 => ?_) (fun c7 => ?_)
        · refine m_iconst C dX12_isWhole_50 ?_
          exact m_zret C dX12_isWhole_51 rfl (Or.inl rfl) (Nat.le_of_ble_eq_true rfl) (Nat.le_of_ble_eq_true rfl) ⟨0, rfl, fp0, hB, ⟨by omega, WHE.j10 (by omega) we3 (by omega)⟩⟩
        · refine m_iconst C dX12_isWhole_46 ?_
          refine m_goto (tgt := 51) C dX12_isWhole_47 (by decide) ?_
          exact m_zret C dX12_isWhole_51 rfl (Or.inr rfl) (Nat.le_of_ble_eq_true rfl) (Nat.le_of_ble_eq_true rfl) ⟨1, rfl, fp0, hB, ⟨by omega, WHE.j11 (by omega) (by omega) we2 we3 (by omega) (by omega)⟩⟩
  · replace gf1 := (gf1.resolve_right (fun q => absurd (q.1.symm.trans c1) (by decide)))
    refine m_iconst C dX12_isWhole_8 ?_
    exact m_zret C dX12_isWhole_9 rfl (Or.inl rfl) (Nat.le_of_ble_eq_true rfl) (Nat.le_of_ble_eq_true rfl) ⟨0, rfl, fp0, hB, ⟨by omega, WHE.no0 (by omega)⟩⟩
