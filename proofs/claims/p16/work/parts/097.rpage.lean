def opg (h t : Int) : Int := if 0 < h ∧ 2 ≤ t then t - 1 else t
def PGS (v : Nat → Int) (f : Int) : Prop := f = (v 36 + opg (v 41) (v 32) - 1) / opg (v 41) (v 32)
section RPAG
variable {v v1 v2 : Nat → Int} {a a1 a2 : Nat → Nat → Int} {E : List (Option (List Int))} {h t p l i f f1 f2 g x y z o k : Int} {HD : Nat → Int}
theorem opg_of (ho : (0 < h ∧ 2 ≤ t ∧ o = t - 1) ∨ (¬ (0 < h ∧ 2 ≤ t) ∧ o = t)) : o = opg h t := by
  unfold opg
  split <;> omega
theorem PGS.mk (h : f = (v 36 + x - 1) / y) (g1 : (0 < v 41 ∧ 2 ≤ v 32 ∧ x = v 32 - 1) ∨ (¬ (0 < v 41 ∧ 2 ≤ v 32) ∧ x = v 32)) (g2 : (0 < v 41 ∧ 2 ≤ v 32 ∧ y = v 32 - 1) ∨ (¬ (0 < v 41 ∧ 2 ≤ v 32) ∧ y = v 32)) : PGS v f := by
  unfold PGS
  rw [h, opg_of g1, opg_of g2]
theorem PGS.le (hg : PGS v x) (hE : SHA v a E) : x = (((E.length : Nat) : Int) + opg (v 41) (v 32) - 1) / opg (v 41) (v 32) := by
  rw [← hE.1]
  exact hg
end RPAG
set_option maxHeartbeats 4000000 in
set_option maxRecDepth 100000 in
theorem E_hasHead {l : Launch} {G : GT} {h0 : Nat} {ad ln : Nat → Nat} {v : Nat → Int} {a : Nat → Nat → Int}  (hB : BX v a)  : Mm l G yX12_hasHead cX12_hasHead 1 (some .boolean) 0 [] h0 ad ln v a 0 0 (fun r v2 a2 => ∃ f : Int, r = some (.int (iI f)) ∧ fr [] [] v a v2 a2 ∧ BX v2 a2 ∧ ((f = 1 ∧ 0 < v 41 ∧ 2 ≤ v 32) ∨ (f = 0 ∧ ¬ (0 < v 41 ∧ 2 ≤ v 32)))) := by
  refine Mm.mk (by decide) (Nat.le_of_ble_eq_true rfl) ?_
  intro p e s m args below meth c A C
  have fp0 : fr [] [] v a v a := fr.refl
  refine m_aload_n (j := 0) C dX12_hasHead_0 rfl ?_
  have rv1 : 0 ≤ v 41 ∧ v 41 ≤ 200 := hB.1 41
  refine m_get (k := 41) C dX12_hasHead_1 w6_100 (by decide) rfl ?_
  refine m_if_le (tgt := 19) C (r32_c (lo := 0) (hi := 200) rv1.1 rv1.2 (by decide) (by decide)) dX12_hasHead_4 (by decide) (fun c1 => ?_) (fun c1 => ?_)
  · refine m_iconst C dX12_hasHead_19 ?_
    exact m_zret C dX12_hasHead_20 rfl (Or.inl rfl) (Nat.le_of_ble_eq_true rfl) (Nat.le_of_ble_eq_true rfl) ⟨0, rfl, fp0, hB, (by omega)⟩
  · refine m_aload_n (j := 0) C dX12_hasHead_7 rfl ?_
    have rv2 : 1 ≤ v 32 ∧ v 32 ≤ 50 := hB.1 32
    refine m_get (k := 32) C dX12_hasHead_8 w6_91 (by decide) rfl ?_
    refine m_iconst C dX12_hasHead_11 ?_
    refine m_icmp_lt (tgt := 19) C (r32_c (lo := 1) (hi := 50) rv2.1 rv2.2 (by decide) (by decide)) ⟨by decide, by decide⟩ dX12_hasHead_12 (by decide) (fun c2 => ?_) (fun c2 => ?_)
    · refine m_iconst C dX12_hasHead_19 ?_
      exact m_zret C dX12_hasHead_20 rfl (Or.inl rfl) (Nat.le_of_ble_eq_true rfl) (Nat.le_of_ble_eq_true rfl) ⟨0, rfl, fp0, hB, (by omega)⟩
    · refine m_iconst C dX12_hasHead_15 ?_
      refine m_goto (tgt := 20) C dX12_hasHead_16 (by decide) ?_
      exact m_zret C dX12_hasHead_20 rfl (Or.inr rfl) (Nat.le_of_ble_eq_true rfl) (Nat.le_of_ble_eq_true rfl) ⟨1, rfl, fp0, hB, (by omega)⟩
set_option maxHeartbeats 4000000 in
set_option maxRecDepth 100000 in
theorem E_onPage {l : Launch} {G : GT} {h0 : Nat} {ad ln : Nat → Nat} {v : Nat → Int} {a : Nat → Nat → Int}  (hB : BX v a)  : Mm l G yX12_onPage cX12_onPage 1 (some .int) 1 [] h0 ad ln v a 0 0 (fun r v2 a2 => ∃ f : Int, r = some (.int (iI f)) ∧ fr [] [] v a v2 a2 ∧ BX v2 a2 ∧ ((0 < v 41 ∧ 2 ≤ v 32 ∧ f = v 32 - 1) ∨ (¬ (0 < v 41 ∧ 2 ≤ v 32) ∧ f = v 32))) := by
  refine Mm.mk (by decide) (Nat.le_of_ble_eq_true rfl) ?_
  intro p e s m args below meth c A C
  have fp0 : fr [] [] v a v a := fr.refl
  refine m_aload_n (j := 0) C dX12_onPage_0 rfl ?_
  refine hv2 (show 0 ≤ v 41 ∧ v 41 ≤ 200 from hB.1 41) (show 1 ≤ v 32 ∧ v 32 ≤ 50 from hB.1 32) (fun rv1 rv2 => ?_)
  refine m_call (mc2 := 0) (ms2 := 0) (As := []) (rest := []) C (E_hasHead  hB ) dX12_onPage_1 kV_X12_288 rfl ck_13 rfl (Nat.le_of_ble_eq_true rfl) ⟨Nat.le_of_ble_eq_true rfl, Nat.le_of_ble_eq_true rfl⟩ ⟨Nat.le_of_ble_eq_true rfl, Nat.le_of_ble_eq_true rfl⟩ (fun rh1 vh1 ah1 h1 => ?_)
  obtain ⟨f1, rfl, fn1, bn1, ex1⟩ := h1
  obtain ⟨rfl, rfl⟩ := fn1.eq
  have gf1 : (f1 = 1 ∧ 0 < (v 41) ∧ 2 ≤ (v 32)) ∨ (f1 = 0 ∧ ¬ (0 < (v 41) ∧ 2 ≤ (v 32))) := ex1
  refine m_st (st2 := [.int (iI f1)]) rfl ?_
  refine m_if_eq (tgt := 16) C (r32_qp gf1) dX12_onPage_4 (by decide) (fun c1 => ?_) (fun c1 => ?_)
  · replace gf1 := (gf1.resolve_left (fun q => absurd (q.1.symm.trans c1) (by decide)))
    refine m_aload_n (j := 0) C dX12_onPage_16 rfl ?_
    refine m_get (k := 32) C dX12_onPage_17 w6_91 (by decide) rfl ?_
    exact m_iret C dX12_onPage_20 rfl (Nat.le_of_ble_eq_true rfl) (Nat.le_of_ble_eq_true rfl) ⟨(v 32), rfl, fp0, hB, (by omega)⟩
  · replace gf1 := (gf1.resolve_right (fun q => c1 q.1))
    refine m_aload_n (j := 0) C dX12_onPage_7 rfl ?_
    refine m_get (k := 32) C dX12_onPage_8 w6_91 (by decide) rfl ?_
    refine m_iconst C dX12_onPage_11 ?_
    refine m_isub C dX12_onPage_12 ?_
    refine m_goto (tgt := 20) C dX12_onPage_13 (by decide) ?_
    exact m_iret C dX12_onPage_20 rfl (Nat.le_of_ble_eq_true rfl) (Nat.le_of_ble_eq_true rfl) ⟨((v 32) - 1), rfl, fp0, hB, (by omega)⟩
set_option maxHeartbeats 4000000 in
set_option maxRecDepth 100000 in
theorem E_pages {l : Launch} {G : GT} {h0 : Nat} {ad ln : Nat → Nat} {v : Nat → Int} {a : Nat → Nat → Int}  (hB : BX v a)  : Mm l G yX12_pages cX12_pages 1 (some .int) 2 [] h0 ad ln v a 0 0 (fun r v2 a2 => ∃ f : Int, r = some (.int (iI f)) ∧ fr [] [] v a v2 a2 ∧ BX v2 a2 ∧ ((0 ≤ f ∧ f ≤ 249) ∧ PGS v f)) := by
  refine Mm.mk (by decide) (Nat.le_of_ble_eq_true rfl) ?_
  intro p e s m args below meth c A C
  refine hv3 (show 1 ≤ v 32 ∧ v 32 ≤ 50 from hB.1 32) (show 0 ≤ v 36 ∧ v 36 ≤ 200 from hB.1 36) (show fr [] [] v a v a from fr.refl) (fun r32 r36 fp0 => ?_)
  refine m_aload_n (j := 0) C dX12_pages_0 rfl ?_
  have rv1 : 0 ≤ v 36 ∧ v 36 ≤ 200 := hB.1 36
  refine m_get (k := 36) C dX12_pages_1 w6_95 (by decide) rfl ?_
  refine m_aload_n (j := 0) C dX12_pages_4 rfl ?_
  refine hv2 (show 0 ≤ v 41 ∧ v 41 ≤ 200 from hB.1 41) (show 1 ≤ v 32 ∧ v 32 ≤ 50 from hB.1 32) (fun rv2 rv3 => ?_)
  refine m_call (mc2 := 0) (ms2 := 0) (As := []) (rest := [.int (iI (v 36))]) C (E_onPage  hB ) dX12_pages_5 kV_X12_291 rfl ck_13 rfl (Nat.le_of_ble_eq_true rfl) ⟨Nat.le_of_ble_eq_true rfl, Nat.le_of_ble_eq_true rfl⟩ ⟨Nat.le_of_ble_eq_true rfl, Nat.le_of_ble_eq_true rfl⟩ (fun rh1 vh1 ah1 h1 => ?_)
  obtain ⟨f1, rfl, fn1, bn1, ex1⟩ := h1
  obtain ⟨rfl, rfl⟩ := fn1.eq
  have gf1 : (0 < (v 41) ∧ 2 ≤ (v 32) ∧ f1 = (v 32) - 1) ∨ (¬ (0 < (v 41) ∧ 2 ≤ (v 32)) ∧ f1 = (v 32)) := ex1
  refine m_st (st2 := [.int (iI f1), .int (iI (v 36))]) rfl ?_
  refine m_iadd C dX12_pages_8 ?_
  refine m_iconst C dX12_pages_9 ?_
  refine m_isub C dX12_pages_10 ?_
  refine m_aload_n (j := 0) C dX12_pages_11 rfl ?_
  refine m_call (mc2 := 0) (ms2 := 0) (As := []) (rest := [.int (iI (((v 36) + f1) - 1))]) C (E_onPage  hB ) dX12_pages_12 kV_X12_291 rfl ck_13 rfl (Nat.le_of_ble_eq_true rfl) ⟨Nat.le_of_ble_eq_true rfl, Nat.le_of_ble_eq_true rfl⟩ ⟨Nat.le_of_ble_eq_true rfl, Nat.le_of_ble_eq_true rfl⟩ (fun rh2 vh2 ah2 h2 => ?_)
  obtain ⟨f2, rfl, fn2, bn2, ex2⟩ := h2
  obtain ⟨rfl, rfl⟩ := fn2.eq
  have gf2 : (0 < (v 41) ∧ 2 ≤ (v 32) ∧ f2 = (v 32) - 1) ∨ (¬ (0 < (v 41) ∧ 2 ≤ (v 32)) ∧ f2 = (v 32)) := ex2
  refine m_st (st2 := [.int (iI f2), .int (iI (((v 36) + f1) - 1))]) rfl ?_
  obtain ⟨dq1, hdq1⟩ : ∃ q : Int, q = (((v 36) + f1) - 1) / f2 := ⟨_, rfl⟩
  have rdq1 := ediv_r (x := ((v 36) + f1) - 1) (y := f2) (by omega) (by omega)
  rw [← hdq1] at rdq1
  refine m_idiv (w := iI dq1) C dX12_pages_15 (iI_ne0 ⟨by omega, by omega⟩) (by rw [hdq1]; exact iI_div ⟨by omega, by omega⟩ ⟨by omega, by omega⟩) ?_
  exact m_iret C dX12_pages_16 rfl (Nat.le_of_ble_eq_true rfl) (Nat.le_of_ble_eq_true rfl) ⟨dq1, rfl, fp0, hB, ⟨by omega, PGS.mk hdq1 gf1 gf2⟩⟩
def HD4 (v : Nat → Int) (a : Nat → Nat → Int) (v1 : Nat → Int) (a1 : Nat → Nat → Int) (t : Int) : Prop := ∃ cs, SWC a (a 2) (v 3) t cs ∧ MDH v1 a1 cs
def HD5 (v : Nat → Int) (a : Nat → Nat → Int) (v1 : Nat → Int) (a1 : Nat → Nat → Int) (t k : Int) : Prop := ∃ cs, SWC a (a 2) (v 3) t cs ∧ MDH v1 a1 cs ∧ ((((cs.length : Nat) : Int) ≤ v 31 ∧ v1 41 = ((cs.length : Nat) : Int)) ∨ (v 31 < ((cs.length : Nat) : Int) ∧ v1 41 = v 31)) ∧ ∀ j : Nat, ((j : Nat) : Int) < k → a1 40 j = (cs[j]?).getD 0
def HDT (v : Nat → Int) (a : Nat → Nat → Int) (v2 : Nat → Int) (a2 : Nat → Nat → Int) (t f : Int) : Prop := (f = -1 ∧ v2 41 = v 41 ∧ a2 40 = a 40) ∨ (0 ≤ f ∧ v2 41 = f ∧ ∃ cs, SWC a (a 2) (v 3) t cs ∧ ∀ j : Nat, ((j : Nat) : Int) < f → a2 40 j = (cs[j]?).getD 0)
section HED4
variable {v v1 v2 v3 : Nat → Int} {a a1 a2 a3 : Nat → Nat → Int} {t k f n z y : Int} {i : Nat}
theorem HD4.set (hs : SWT v1 a1 v2 a2 t f) (e : f = 1) (hE : TBE a1 a) (hw : WDK (a1 20) (a 2) n) (hn : n = v 3) (h23 : v1 23 = v 3) (h12 : ∀ i, 0 ≤ a 12 i) : HD4 v a v2 a2 t := by
  subst hn
  obtain ⟨cs, g1, g2⟩ := hs.2.1 e
  rw [h23] at g1
  exact ⟨cs, SWC_w hw h12 (SWC_cg hE g1), g2⟩
theorem HD4.nil (hT : TBL v a) (ht : 0 ≤ t ∧ t < v 4) (hn : v 3 = 0) (hm : v1 25 = 0) : HD4 v a v1 a1 t := ⟨[], by rw [hn]; exact SWC.nil hT ht, hm, fun j x e => by simp at e⟩
theorem HD4.go (h : HD4 v a v1 a1 t) (hm : z = v1 25) (hz : (y = z ∧ z ≤ v 31) ∨ (y = v 31 ∧ v 31 < z)) (h41 : v2 41 = y) (h25 : v2 25 = v1 25) (h24 : a2 24 = a1 24) : HD5 v a v2 a2 t 0 := by
  obtain ⟨cs, h1, h2⟩ := h
  have e := h2.1
  refine ⟨cs, h1, h2.fr h25 h24, by omega, fun j hj => absurd hj (by omega)⟩
theorem HD5.step (h : HD5 v a v1 a1 t k) (hk : 0 ≤ k ∧ k < v1 41) : HD5 v a v1 (up2 a1 40 k.toNat (a1 24 k.toNat)) t (k + 1) := by
  obtain ⟨cs, h1, h2, h3, h4⟩ := h
  have e := h2.1
  refine ⟨cs, h1, h2.fr rfl (funext fun _ => up2_k (by decide)), h3, fun j hj => ?_⟩
  by_cases c : ((j : Nat) : Int) < k
  · rw [up2_j (by omega)]
    exact h4 j c
  · rw [show j = k.toNat by omega, up2_s]
    exact h2.g (by omega)
theorem HDT.ok (h : HD5 v a v1 a1 t k) (hk : v1 41 ≤ k) (hf : f = v1 41) (h31 : 0 ≤ v 31) (h41 : v2 41 = v1 41) (h40 : a2 40 = a1 40) : HDT v a v2 a2 t f := by
  obtain ⟨cs, h1, h2, h3, h4⟩ := h
  refine Or.inr ⟨by omega, by omega, cs, h1, fun j hj => ?_⟩
  rw [h40]
  exact h4 j (by omega)
theorem HD5.hdr (h : HD5 v a v1 a1 t k) : HDR v a t (v1 41) := by
  obtain ⟨cs, h1, h2, h3, h4⟩ := h
  exact ⟨cs, h1, by omega⟩
end HED4
set_option maxHeartbeats 4000000 in
set_option maxRecDepth 100000 in
theorem N3_head {l : Launch} {G : GT} {h0 : Nat} {ad ln : Nat → Nat} {v : Nat → Int} {a : Nat → Nat → Int}  {t : Int} (hB : BX v a) (hT : TBL v a) (ht : -2147483648 ≤ t ∧ t ≤ 2147483647) : Mm l G yX12_head cX12_head 5 (some .int) 66 [.int (iI t)] h0 ad ln v a 0 0 (fun r v2 a2 => ∃ f : Int, r = some (.int (iI f)) ∧ fr [0, 1, 3, 23, 25, 28, 41] [20, 21, 24, 26, 27, 40] v a v2 a2 ∧ BX v2 a2 ∧ ((v2 3 = 0) ∧ HDS v a t f ∧ HDT v a v2 a2 t f)) := by
  refine Mm.mk (by decide) (Nat.le_of_ble_eq_true rfl) ?_
  intro p e s m args below meth c A C
  refine hv3 (show 0 ≤ v 4 ∧ v 4 ≤ 30 from hB.1 4) (show 1 ≤ v 31 ∧ v 31 ≤ 100 from hB.1 31) (show fr [0, 1, 3, 23, 25, 28, 41] [20, 21, 24, 26, 27, 40] v a v a from fr.refl) (fun h30 r31 fp0 => ?_)
  refine m_aload_n (j := 0) C dX12_head_0 rfl ?_
  have rv1 : 0 ≤ v 3 ∧ v 3 ≤ 3000 := hB.1 3
  refine m_call (mc2 := 0) (ms2 := 0) (As := []) (rest := []) C (B_taken  hB ) dX12_head_1 kV_X12_192 rfl ck_13 rfl (Nat.le_of_ble_eq_true rfl) ⟨Nat.le_of_ble_eq_true rfl, Nat.le_of_ble_eq_true rfl⟩ ⟨Nat.le_of_ble_eq_true rfl, Nat.le_of_ble_eq_true rfl⟩ (fun rh1 vh1 ah1 h1 => ?_)
  obtain ⟨f1, rfl, fn1, bn1, ex1⟩ := h1
  refine hv3 (fp0.call fn1 rfl rfl) (show 0 ≤ vh1 3 ∧ vh1 3 ≤ 3000 from bn1.1 3) (show f1 = (v 3) ∧ (vh1 3) = 0 from ex1) (fun fq1 rv2 gf1 => ?_)
  refine m_st (st2 := [.int (iI f1)]) rfl ?_
  refine m_istore_n (lv2 := [(2, .int (iI f1)), (0, .ref h0), (1, .int (iI t))]) C dX12_head_4 (by decide) rfl ?_
  refine m_iload_n (j := 0) C dX12_head_5 rfl ?_
  refine m_bipush (z := 40) C dX12_head_6 (by decide) ?_
  have J1 : ∀ (g : Int) (vb1 : Nat → Int) (ab1 : Nat → Nat → Int), BX vb1 ab1 → fr [0, 1, 3, 23, 25, 28, 41] [20, 21, 24, 26, 27, 40] v a vb1 ab1 → (g = 0 ∨ (g = 1 ∧ f1 ≤ 40)) → (vb1 3 = 0) → (g = 1 ↔ f1 ≤ 40) → (vb1 41 = v 41 ∧ ab1 40 = a 40) → mw p l e (rmq 66 0 0) s m args below meth c G A 5 (MQ below (Qm G A (fun rq Lq Eq => ∃ (vq : Nat → Int) (aq : Nat → Nat → Int), mI G h0 ad ln vq aq Lq Eq ∧ (fun r v2 a2 => ∃ f : Int, r = some (.int (iI f)) ∧ fr [0, 1, 3, 23, 25, 28, 41] [20, 21, 24, 26, 27, 40] v a v2 a2 ∧ BX v2 a2 ∧ ((v2 3 = 0) ∧ HDS v a t f ∧ HDT v a v2 a2 t f)) rq vq aq)) args s 0 0 A) h0 ad ln vb1 ab1 0 0 16 [(2, .int (iI f1)), (0, .ref h0), (1, .int (iI t))] [.int (iI g)] := by
    intro g vb1 ab1 bxb1 fpb1 hg hz31 hgi hK16
    refine m_istore_n (lv2 := [(3, .int (iI g)), (2, .int (iI f1)), (0, .ref h0), (1, .int (iI t))]) C dX12_head_16 (by decide) rfl ?_
    refine m_iconst C dX12_head_17 ?_
    refine m_istore (lv2 := [(4, .int (iI 0)), (3, .int (iI g)), (2, .int (iI f1)), (0, .ref h0), (1, .int (iI t))]) C dX12_head_18 (by decide) rfl ?_
    have Lp1 : ∀ (nn : Nat) (g1 k : Int) (vb2 : Nat → Int) (ab2 : Nat → Nat → Int), 3001 - k < (nn : Int) → BX vb2 ab2 → fr [0, 1, 3, 23, 25, 28, 41] [20, 21, 24, 26, 27, 40] v a vb2 ab2 → (g1 = 0 ∨ (g1 = 1 ∧ f1 ≤ 40)) → (0 ≤ k ∧ k ≤ f1) → (vb2 3 = 0) → (TLG (a 2) f1 k g1) → (vb2 41 = v 41 ∧ ab2 40 = a 40) → mw p l e (rmq 66 0 0) s m args below meth c G A 5 (MQ below (Qm G A (fun rq Lq Eq => ∃ (vq : Nat → Int) (aq : Nat → Nat → Int), mI G h0 ad ln vq aq Lq Eq ∧ (fun r v2 a2 => ∃ f : Int, r = some (.int (iI f)) ∧ fr [0, 1, 3, 23, 25, 28, 41] [20, 21, 24, 26, 27, 40] v a v2 a2 ∧ BX v2 a2 ∧ ((v2 3 = 0) ∧ HDS v a t f ∧ HDT v a v2 a2 t f)) rq vq aq)) args s 0 0 A) h0 ad ln vb2 ab2 0 0 20 [(4, .int (iI k)), (3, .int (iI g1)), (2, .int (iI f1)), (0, .ref h0), (1, .int (iI t))] [] := by
      intro nn
      induction nn with
      | zero =>
        intro g1 k vb2 ab2 hm bxb2 fpb2 hg1 hk hz32 hL hK20
        exact absurd hm (by omega)
      | succ nn ih1 =>
        intro g1 k vb2 ab2 hm bxb2 fpb2 hg1 hk hz32 hL hK20
        refine m_iload (j := 0) C dX12_head_20 rfl ?_
        refine m_iload_n (j := 2) C dX12_head_22 rfl ?_
        refine m_icmp_ge (tgt := 47) C ⟨by omega, by omega⟩ ⟨by omega, by omega⟩ dX12_head_23 (by decide) (fun c1 => ?_) (fun c1 => ?_)
        · refine m_iload_n (j := 1) C dX12_head_47 rfl ?_
          refine m_if_ne (tgt := 58) C ⟨by omega, by omega⟩ dX12_head_48 (by decide) (fun c2 => ?_) (fun c2 => ?_)
          · replace hg1 := (hg1.resolve_left c2)
            refine m_aload_n (j := 3) C dX12_head_58 rfl ?_
            refine m_iload_n (j := 4) C dX12_head_59 rfl ?_
            refine hv2 (show 0 ≤ vb2 4 ∧ vb2 4 ≤ 30 from bxb2.1 4) (show vb2 4 = v 4 from fpb2.1 4 rfl) (fun rv3 ve1 => ?_)
            refine m_call (mc2 := 0) (ms2 := 0) (As := [.int (iI t)]) (rest := []) C (E_isWhole (t := t) bxb2 (hT.fr fpb2 rfl rfl) (by show -2147483648 ≤ t ∧ t ≤ 2147483647; omega)) dX12_head_60 kV_X12_171 rfl ck_13 rfl (Nat.le_of_ble_eq_true rfl) ⟨Nat.le_of_ble_eq_true rfl, Nat.le_of_ble_eq_true rfl⟩ ⟨Nat.le_of_ble_eq_true rfl, Nat.le_of_ble_eq_true rfl⟩ (fun rh2 vh2 ah2 h2 => ?_)
            obtain ⟨f2, rfl, fn2, bn2, ex2⟩ := h2
            obtain ⟨rfl, rfl⟩ := fn2.eq
            obtain ⟨ex2, tl1⟩ := ex2
            have gf2 : f2 = 0 ∨ (f2 = 1 ∧ 0 ≤ t ∧ t < (vb2 4)) := ex2
            refine m_st (st2 := [.int (iI f2)]) rfl ?_
            refine m_if_ne (tgt := 72) C (r32_0p gf2) dX12_head_63 (by decide) (fun c3 => ?_) (fun c3 => ?_)
            · replace gf2 := (gf2.resolve_left c3)
              refine m_aload_n (j := 3) C dX12_head_72 rfl ?_
              refine m_iload_n (j := 2) C dX12_head_73 rfl ?_
              refine m_put (k := 23) (z := f1) C dX12_head_74 w6_82 (by decide) rfl rfl rfl ?_
              refine hv2 (show BX (va_up vb2 23 f1) ab2 from bxb2.put (k := 23) (z := f1) (show 0 ≤ f1 ∧ f1 ≤ 500 by omega)) (fpb2.put (k := 23) (z := f1) rfl) (fun bq1 fq3 => ?_)
              refine m_iconst C dX12_head_77 ?_
              refine m_istore (lv2 := [(4, .int (iI 0)), (3, .int (iI g1)), (2, .int (iI f1)), (0, .ref h0), (1, .int (iI t))]) C dX12_head_78 (by decide) rfl ?_
              have Lp2 : ∀ (nn : Nat) (k1 : Int) (vb3 : Nat → Int) (ab3 : Nat → Nat → Int), 41 - k1 < (nn : Int) → BX vb3 ab3 → fr [0, 1, 3, 23, 25, 28, 41] [20, 21, 24, 26, 27, 40] v a vb3 ab3 → (0 ≤ k1 ∧ k1 ≤ f1) → (vb3 3 = 0) → (vb3 23 = v 3) → (WDK (ab3 20) (a 2) k1) → (vb3 41 = v 41 ∧ ab3 40 = a 40) → mw p l e (rmq 66 0 0) s m args below meth c G A 5 (MQ below (Qm G A (fun rq Lq Eq => ∃ (vq : Nat → Int) (aq : Nat → Nat → Int), mI G h0 ad ln vq aq Lq Eq ∧ (fun r v2 a2 => ∃ f : Int, r = some (.int (iI f)) ∧ fr [0, 1, 3, 23, 25, 28, 41] [20, 21, 24, 26, 27, 40] v a v2 a2 ∧ BX v2 a2 ∧ ((v2 3 = 0) ∧ HDS v a t f ∧ HDT v a v2 a2 t f)) rq vq aq)) args s 0 0 A) h0 ad ln vb3 ab3 0 0 80 [(4, .int (iI k1)), (3, .int (iI g1)), (2, .int (iI f1)), (0, .ref h0), (1, .int (iI t))] [] := by
                intro nn
                induction nn with
                | zero =>
                  intro k1 vb3 ab3 hm bxb3 fpb3 hk1 hz33 hz23 hD hK80
                  exact absurd hm (by omega)
                | succ nn ih2 =>
                  intro k1 vb3 ab3 hm bxb3 fpb3 hk1 hz33 hz23 hD hK80
                  refine m_iload (j := 0) C dX12_head_80 rfl ?_
                  refine m_iload_n (j := 2) C dX12_head_82 rfl ?_
                  refine m_icmp_ge (tgt := 115) C ⟨by omega, by omega⟩ ⟨by omega, by omega⟩ dX12_head_83 (by decide) (fun c4 => ?_) (fun c4 => ?_)
                  · refine m_iload_n (j := 2) C dX12_head_115 rfl ?_
                    have J2 : ∀ (vb4 : Nat → Int) (ab4 : Nat → Nat → Int), BX vb4 ab4 → fr [0, 1, 3, 23, 25, 28, 41] [20, 21, 24, 26, 27, 40] v a vb4 ab4 → (vb4 25 ≤ 200) → (vb4 3 = 0) → (HD4 v a vb4 ab4 t) → mw p l e (rmq 66 0 0) s m args below meth c G A 5 (MQ below (Qm G A (fun rq Lq Eq => ∃ (vq : Nat → Int) (aq : Nat → Nat → Int), mI G h0 ad ln vq aq Lq Eq ∧ (fun r v2 a2 => ∃ f : Int, r = some (.int (iI f)) ∧ fr [0, 1, 3, 23, 25, 28, 41] [20, 21, 24, 26, 27, 40] v a v2 a2 ∧ BX v2 a2 ∧ ((v2 3 = 0) ∧ HDS v a t f ∧ HDT v a v2 a2 t f)) rq vq aq)) args s 0 0 A) h0 ad ln vb4 ab4 0 0 140 [(4, .int (iI k1)), (3, .int (iI g1)), (2, .int (iI f1)), (0, .ref h0), (1, .int (iI t))] [] := by
                      intro  vb4 ab4 bxb4 fpb4 hm hz34 hC
                      refine m_aload_n (j := 3) C dX12_head_140 rfl ?_
                      refine m_aload_n (j := 3) C dX12_head_141 rfl ?_
                      have rv4 : 0 ≤ vb4 25 ∧ vb4 25 ≤ 208 := bxb4.1 25
                      refine m_get (k := 25) C dX12_head_142 w6_84 (by decide) rfl ?_
                      refine m_aload_n (j := 3) C dX12_head_145 rfl ?_
                      refine hv2 (show 1 ≤ vb4 31 ∧ vb4 31 ≤ 100 from bxb4.1 31) (show vb4 31 = v 31 from fpb4.1 31 rfl) (fun rv5 ve2 => ?_)
                      refine m_get (k := 31) C dX12_head_146 w6_90 (by decide) rfl ?_
                      refine m_st (st2 := [.int (iI (v 31)), .int (iI (vb4 25)), .ref h0]) (congrArg (fun z => Value.int (iI z) :: [.int (iI (vb4 25)), .ref h0]) (fpb4.1 31 rfl)) ?_
                      obtain ⟨mn1, hmn1, emn1⟩ := mmin_c (x := vb4 25) (y := v 31) ⟨by omega, by omega⟩ ⟨by omega, by omega⟩
                      refine m_mmin (w := iI mn1) C dX12_head_149 w7_189 w2_129 w1_14 w2_130 ⟨Nat.le_of_ble_eq_true rfl, Nat.le_of_ble_eq_true rfl⟩ ⟨Nat.le_of_ble_eq_true rfl, Nat.le_of_ble_eq_true rfl⟩ (Nat.le_of_ble_eq_true rfl) emn1 ?_
                      refine m_put (k := 41) (z := mn1) C dX12_head_152 w6_100 (by decide) rfl rfl rfl ?_
                      refine hv2 (show BX (va_up vb4 41 mn1) ab4 from bxb4.put (k := 41) (z := mn1) (show 0 ≤ mn1 ∧ mn1 ≤ 200 by omega)) (fpb4.put (k := 41) (z := mn1) rfl) (fun bq2 fq4 => ?_)
                      refine m_iconst C dX12_head_155 ?_
                      refine m_istore (lv2 := [(4, .int (iI 0)), (3, .int (iI g1)), (2, .int (iI f1)), (0, .ref h0), (1, .int (iI t))]) C dX12_head_156 (by decide) rfl ?_
                      have Lp3 : ∀ (nn : Nat) (k2 : Int) (vb5 : Nat → Int) (ab5 : Nat → Nat → Int), 201 - k2 < (nn : Int) → BX vb5 ab5 → fr [0, 1, 3, 23, 25, 28, 41] [20, 21, 24, 26, 27, 40] v a vb5 ab5 → (0 ≤ k2 ∧ k2 ≤ 200) → (vb5 3 = 0) → (HD5 v a vb5 ab5 t k2) → mw p l e (rmq 66 0 0) s m args below meth c G A 5 (MQ below (Qm G A (fun rq Lq Eq => ∃ (vq : Nat → Int) (aq : Nat → Nat → Int), mI G h0 ad ln vq aq Lq Eq ∧ (fun r v2 a2 => ∃ f : Int, r = some (.int (iI f)) ∧ fr [0, 1, 3, 23, 25, 28, 41] [20, 21, 24, 26, 27, 40] v a v2 a2 ∧ BX v2 a2 ∧ ((v2 3 = 0) ∧ HDS v a t f ∧ HDT v a v2 a2 t f)) rq vq aq)) args s 0 0 A) h0 ad ln vb5 ab5 0 0 158 [(4, .int (iI k2)), (3, .int (iI g1)), (2, .int (iI f1)), (0, .ref h0), (1, .int (iI t))] [] := by
                        intro nn
                        induction nn with
                        | zero =>
                          intro k2 vb5 ab5 hm bxb5 fpb5 hk2 hz35 hR2
                          exact absurd hm (by omega)
                        | succ nn ih3 =>
                          intro k2 vb5 ab5 hm bxb5 fpb5 hk2 hz35 hR2
                          refine m_iload (j := 0) C dX12_head_158 rfl ?_
                          refine m_aload_n (j := 3) C dX12_head_160 rfl ?_
                          have rv6 : 0 ≤ vb5 41 ∧ vb5 41 ≤ 200 := bxb5.1 41
                          refine m_get (k := 41) C dX12_head_161 w6_100 (by decide) rfl ?_
                          refine m_icmp_ge (tgt := 187) C (r32_c (lo := 0) (hi := 200) hk2.1 hk2.2 (by decide) (by decide)) (r32_c (lo := 0) (hi := 200) rv6.1 rv6.2 (by decide) (by decide)) dX12_head_164 (by decide) (fun c5 => ?_) (fun c5 => ?_)
                          · refine m_aload_n (j := 3) C dX12_head_187 rfl ?_
                            refine m_aload_n (j := 3) C dX12_head_188 rfl ?_
                            refine m_get (k := 41) C dX12_head_189 w6_100 (by decide) rfl ?_
                            refine m_call (mc2 := 0) (ms2 := 0) (As := [.int (iI (vb5 41))]) (rest := []) C (B_fine (x := vb5 41) bxb5 (by show -2147483648 ≤ (vb5 41) ∧ (vb5 41) ≤ 2147483647; omega)) dX12_head_192 kV_X12_158 rfl ck_13 rfl (Nat.le_of_ble_eq_true rfl) ⟨Nat.le_of_ble_eq_true rfl, Nat.le_of_ble_eq_true rfl⟩ ⟨Nat.le_of_ble_eq_true rfl, Nat.le_of_ble_eq_true rfl⟩ (fun rh3 vh3 ah3 h3 => ?_)
                            obtain ⟨f3, rfl, fn3, bn3, ex3⟩ := h3
                            refine hv2 (fpb5.call fn3 rfl rfl) (show f3 = (vb5 41) from ex3) (fun fq5 gf3 => ?_)
                            refine m_st (st2 := [.int (iI f3)]) rfl ?_
                            refine hv2 (show 0 ≤ vh3 3 ∧ vh3 3 ≤ 3000 from bn3.1 3) (show vh3 3 = vb5 3 from fn3.1 3 rfl) (fun rv7 ve3 => ?_)
                            exact m_iret C dX12_head_195 rfl (Nat.le_of_ble_eq_true rfl) (Nat.le_of_ble_eq_true rfl) ⟨f3, rfl, fq5, bn3, ⟨(by show (vh3 3) = 0; omega), HDS.ok (by have q := hL.yes (by omega) (by omega); rw [show f1 = v 3 by omega] at q; exact q) ((tl1.cg (fpb2.1 4 rfl) (fpb2.2 5 rfl) (fpb2.2 6 rfl) (fpb2.2 8 rfl) (fpb2.2 9 rfl)).mp (by omega)) hR2.hdr (by omega), HDT.ok hR2 (by omega) (by omega) (by omega) (fn3.1 41 rfl) (fn3.2 40 rfl)⟩⟩
                          · refine m_aload_n (j := 3) C dX12_head_167 rfl ?_
                            refine m_geta (k := 40) C dX12_head_168 w6_99 (by decide) rfl ?_
                            refine m_iload (j := 0) C dX12_head_171 rfl ?_
                            refine m_aload_n (j := 3) C dX12_head_173 rfl ?_
                            refine m_geta (k := 24) C dX12_head_174 w6_83 (by decide) rfl ?_
                            refine m_iload (j := 0) C dX12_head_177 rfl ?_
                            refine m_ald (k := 24) C dX12_head_179 rfl rfl (by decide) hk2.1 (Int.lt_of_le_of_lt hk2.2 (by decide)) (by decide) ?_
                            have ra1 : (-2147483648) ≤ ab5 24 k2.toNat ∧ ab5 24 k2.toNat ≤ 2147483647 := bxb5.2 24 (k2.toNat)
                            refine m_ast (k := 40) C dX12_head_180 rfl rfl (by decide) (by omega) (by show _ < ((_ : Nat) : Int); simp only [mlen]; omega) (by decide) ?_
                            refine hv2 (show BX vb5 (up2 ab5 40 k2.toNat (ab5 24 k2.toNat)) from bxb5.set (k := 40) (i := k2.toNat) (z := ab5 24 k2.toNat) (show (-2147483648) ≤ (ab5 24 k2.toNat) ∧ (ab5 24 k2.toNat) ≤ 2147483647 by omega)) (fpb5.set (k := 40) (i := k2.toNat) (z := ab5 24 k2.toNat) rfl) (fun bq3 fq6 => ?_)
                            refine m_iinc (z := k2) (j := 0) (lv2 := [(4, .int (iI (k2 + 1))), (3, .int (iI g1)), (2, .int (iI f1)), (0, .ref h0), (1, .int (iI t))]) C dX12_head_181 rfl (by decide) rfl ?_
                            refine m_goto (tgt := 158) C dX12_head_184 (by decide) ?_
                            have rv8 : 0 ≤ vb5 3 ∧ vb5 3 ≤ 3000 := bq3.1 3
                            refine m_lv (lv2 := [(4, .int (iI (k2 + 1))), (3, .int (iI g1)), (2, .int (iI f1)), (0, .ref h0), (1, .int (iI t))]) [0, 1, 2, 3, 4] rfl ?_
                            exact ih3  (k2 + 1) _ _ (by omega) bq3 fq6 (by omega) (by show (vb5 3) = 0; omega) (hR2.step ⟨by omega, by omega⟩)
                      have rv9 : 0 ≤ vb4 3 ∧ vb4 3 ≤ 3000 := bq2.1 3
                      refine m_lv (lv2 := [(4, .int (iI 0)), (3, .int (iI g1)), (2, .int (iI f1)), (0, .ref h0), (1, .int (iI t))]) [0, 1, 2, 3, 4] rfl ?_
                      exact Lp3 202 0 _ _ (by omega) bq2 fq4 (by omega) (by show (vb4 3) = 0; omega) (hC.go (z := (vb4 25)) (y := mn1) rfl (by show (mn1 = (vb4 25) ∧ (vb4 25) ≤ v 31) ∨ (mn1 = v 31 ∧ v 31 < (vb4 25)); omega) rfl rfl rfl)
                    refine m_if_ne (tgt := 127) C ⟨by omega, by omega⟩ dX12_head_116 (by decide) (fun c6 => ?_) (fun c6 => ?_)
                    · refine m_aload_n (j := 3) C dX12_head_127 rfl ?_
                      refine m_iload_n (j := 4) C dX12_head_128 rfl ?_
                      refine hv2 (show 0 ≤ vb3 4 ∧ vb3 4 ≤ 30 from bxb3.1 4) (show vb3 4 = v 4 from fpb3.1 4 rfl) (fun rv10 ve4 => ?_)
                      refine m_call (mc2 := 0) (ms2 := 0) (As := [.int (iI t)]) (rest := []) C (E_setWord (t := t) bxb3 (hT.fr fpb3 rfl rfl) (by show 0 ≤ t ∧ t < (vb3 4); omega)) dX12_head_129 kV_X12_267 rfl ck_13 rfl (Nat.le_of_ble_eq_true rfl) ⟨Nat.le_of_ble_eq_true rfl, Nat.le_of_ble_eq_true rfl⟩ ⟨Nat.le_of_ble_eq_true rfl, Nat.le_of_ble_eq_true rfl⟩ (fun rh4 vh4 ah4 h4 => ?_)
                      obtain ⟨f4, rfl, fn4, bn4, ex4⟩ := h4
                      have fq7 := fpb3.call fn4 rfl rfl
                      obtain ⟨ex4, tl2⟩ := ex4
                      refine hv2 (show 0 ≤ vh4 25 ∧ vh4 25 ≤ 208 from bn4.1 25) (show f4 = 0 ∨ (f4 = 1 ∧ (vh4 25) ≤ 200) from ex4) (fun rv11 gf4 => ?_)
                      refine m_st (st2 := [.int (iI f4)]) rfl ?_
                      refine m_if_ne (tgt := 140) C (r32_0p gf4) dX12_head_132 (by decide) (fun c7 => ?_) (fun c7 => ?_)
                      · replace gf4 := (gf4.resolve_left c7)
                        refine hv2 (show 0 ≤ vh4 3 ∧ vh4 3 ≤ 3000 from bn4.1 3) (show vh4 3 = vb3 3 from fn4.1 3 rfl) (fun rv12 ve5 => ?_)
                        refine m_lv (lv2 := [(4, .int (iI k1)), (3, .int (iI g1)), (2, .int (iI f1)), (0, .ref h0), (1, .int (iI t))]) [0, 1, 2, 3, 4] rfl ?_
                        exact J2   _ _  bn4 fq7 (by show (vh4 25) ≤ 200; omega) (by show (vh4 3) = 0; omega) (HD4.set tl2.1 (by omega) (TBE.fr fpb3 rfl) hD (by omega) hz23 (fun i => (hB.2 12 i).1))
                      · clear gf4
                        refine m_aload_n (j := 3) C dX12_head_135 rfl ?_
                        refine m_call (mc2 := 0) (ms2 := 0) (As := []) (rest := []) C (B_notSet  bn4 ) dX12_head_136 kV_X12_270 rfl ck_13 rfl (Nat.le_of_ble_eq_true rfl) ⟨Nat.le_of_ble_eq_true rfl, Nat.le_of_ble_eq_true rfl⟩ ⟨Nat.le_of_ble_eq_true rfl, Nat.le_of_ble_eq_true rfl⟩ (fun rh5 vh5 ah5 h5 => ?_)
                        obtain ⟨f5, rfl, fn5, bn5, ex5⟩ := h5
                        refine hv2 (fq7.call fn5 rfl rfl) (show f5 = -1 from ex5) (fun fq8 gf5 => ?_)
                        refine m_st (st2 := [.int (iI f5)]) rfl ?_
                        refine hv6 (show 0 ≤ vh5 3 ∧ vh5 3 ≤ 3000 from bn5.1 3) (show vh5 3 = vh4 3 from fn5.1 3 rfl) (show vh4 3 = vb3 3 from fn4.1 3 rfl) (show 0 ≤ vh5 41 ∧ vh5 41 ≤ 200 from bn5.1 41) (show vh5 41 = vh4 41 from fn5.1 41 rfl) (show vh4 41 = vb3 41 from fn4.1 41 rfl) (fun rv13 ve6 ve7 rv14 ve8 ve9 => ?_)
                        exact m_iret C dX12_head_139 rfl (Nat.le_of_ble_eq_true rfl) (Nat.le_of_ble_eq_true rfl) ⟨f5, rfl, fq8, bn5, ⟨(by show (vh5 3) = 0; omega), HDS.ns (HDC.no tl2.1 (by omega) (TBE.fr fpb3 rfl) hD (by omega) hz23 (fun i => (bxb3.2 12 i).1)) (by omega), Or.inl ⟨by omega, ⟨by show (vh5 41) = v 41; have q := hK80.1; omega, (Eq.trans (show ah5 40 = ah4 40 from fn5.2 40 rfl) (Eq.trans (show ah4 40 = ab3 40 from fn4.2 40 rfl) hK80.2))⟩⟩⟩⟩
                    · refine m_aload_n (j := 3) C dX12_head_119 rfl ?_
                      refine m_iconst C dX12_head_120 ?_
                      refine m_put (k := 25) (z := 0) C dX12_head_121 w6_84 (by decide) rfl rfl rfl ?_
                      refine hv2 (show BX (va_up vb3 25 0) ab3 from bxb3.put (k := 25) (z := 0) ⟨by decide, by decide⟩) (fpb3.put (k := 25) (z := 0) rfl) (fun bq4 fq9 => ?_)
                      refine m_goto (tgt := 140) C dX12_head_124 (by decide) ?_
                      have rv15 : 0 ≤ vb3 3 ∧ vb3 3 ≤ 3000 := bq4.1 3
                      refine m_lv (lv2 := [(4, .int (iI k1)), (3, .int (iI g1)), (2, .int (iI f1)), (0, .ref h0), (1, .int (iI t))]) [0, 1, 2, 3, 4] rfl ?_
                      exact J2   _ _  bq4 fq9 (by show 0 ≤ 200; omega) (by show (vb3 3) = 0; omega) (HD4.nil hT (by omega) (by omega) (by show 0 = 0; omega))
                  · refine m_aload_n (j := 3) C dX12_head_86 rfl ?_
                    refine m_geta (k := 20) C dX12_head_87 w6_79 (by decide) rfl ?_
                    refine m_iload (j := 0) C dX12_head_90 rfl ?_
                    refine m_aload_n (j := 3) C dX12_head_92 rfl ?_
                    refine m_geta (k := 2) C dX12_head_93 w6_61 (by decide) rfl ?_
                    refine m_iload (j := 0) C dX12_head_96 rfl ?_
                    refine m_ald (k := 2) C dX12_head_98 rfl rfl (by decide) (by omega) (by show _ < ((_ : Nat) : Int); simp only [mlen]; omega) (by decide) ?_
                    refine hv2 (show (-2147483648) ≤ ab3 2 k1.toNat ∧ ab3 2 k1.toNat ≤ 2147483647 from bxb3.2 2 (k1.toNat)) (show ab3 2 (k1.toNat) = a 2 (k1.toNat) from congrFun (fpb3.2 2 rfl) (k1.toNat)) (fun ra2 ae1 => ?_)
                    refine m_st (st2 := [.int (iI (a 2 k1.toNat)), .int (iI k1), .ref (ad 20)]) (congrArg (fun z => Value.int (iI z) :: [.int (iI k1), .ref (ad 20)]) (congrFun (fpb3.2 2 rfl) (k1.toNat))) ?_
                    refine m_ast (k := 20) C dX12_head_99 rfl rfl (by decide) (by omega) (by show _ < ((_ : Nat) : Int); simp only [mlen]; omega) (by decide) ?_
                    refine hv2 (show BX vb3 (up2 ab3 20 k1.toNat (a 2 k1.toNat)) from bxb3.set (k := 20) (i := k1.toNat) (z := a 2 k1.toNat) (show (-2147483648) ≤ (a 2 k1.toNat) ∧ (a 2 k1.toNat) ≤ 2147483647 by omega)) (fpb3.set (k := 20) (i := k1.toNat) (z := a 2 k1.toNat) rfl) (fun bq5 fq10 => ?_)
                    refine m_aload_n (j := 3) C dX12_head_100 rfl ?_
                    refine m_geta (k := 21) C dX12_head_101 w6_80 (by decide) rfl ?_
                    refine m_iload (j := 0) C dX12_head_104 rfl ?_
                    refine m_iload (j := 0) C dX12_head_106 rfl ?_
                    refine m_ast (k := 21) C dX12_head_108 rfl rfl (by decide) (by omega) (by show _ < ((_ : Nat) : Int); simp only [mlen]; omega) (by decide) ?_
                    refine hv2 (show BX vb3 (up2 (up2 ab3 20 k1.toNat (a 2 k1.toNat)) 21 k1.toNat k1) from bq5.set (k := 21) (i := k1.toNat) (z := k1) (show (-2147483648) ≤ k1 ∧ k1 ≤ 2147483647 by omega)) (fq10.set (k := 21) (i := k1.toNat) (z := k1) rfl) (fun bq6 fq11 => ?_)
                    refine m_iinc (z := k1) (j := 0) (lv2 := [(4, .int (iI (k1 + 1))), (3, .int (iI g1)), (2, .int (iI f1)), (0, .ref h0), (1, .int (iI t))]) C dX12_head_109 rfl (by decide) rfl ?_
                    refine m_goto (tgt := 80) C dX12_head_112 (by decide) ?_
                    refine hv3 (show 0 ≤ vb3 3 ∧ vb3 3 ≤ 3000 from bq6.1 3) (show 0 ≤ vb3 23 ∧ vb3 23 ≤ 500 from bq6.1 23) (show 0 ≤ vb3 41 ∧ vb3 41 ≤ 200 from bq6.1 41) (fun rv16 rv17 rv18 => ?_)
                    refine m_lv (lv2 := [(4, .int (iI (k1 + 1))), (3, .int (iI g1)), (2, .int (iI f1)), (0, .ref h0), (1, .int (iI t))]) [0, 1, 2, 3, 4] rfl ?_
                    exact ih2  (k1 + 1) _ _ (by omega) bq6 fq11 (by omega) (by show (vb3 3) = 0; omega) (by show (vb3 23) = v 3; omega) (hD.step (by omega) rfl ((funext fun _ => up2_k (by decide)))) ⟨by show (vb3 41) = v 41; have q := hK80.1; omega, (Eq.trans (show (up2 (up2 ab3 20 k1.toNat (a 2 k1.toNat)) 21 k1.toNat k1) 40 = ab3 40 from rfl) hK80.2)⟩
              refine hv2 (show 0 ≤ vb2 3 ∧ vb2 3 ≤ 3000 from bq1.1 3) (show 0 ≤ vb2 41 ∧ vb2 41 ≤ 200 from bq1.1 41) (fun rv19 rv20 => ?_)
              refine m_lv (lv2 := [(4, .int (iI 0)), (3, .int (iI g1)), (2, .int (iI f1)), (0, .ref h0), (1, .int (iI t))]) [0, 1, 2, 3, 4] rfl ?_
              exact Lp2 42 0 _ _ (by omega) bq1 fq3 (by omega) (by show (vb2 3) = 0; omega) (by show f1 = v 3; omega) WDK.zero ⟨by show (vb2 41) = v 41; have q := hK20.1; omega, hK20.2⟩
            · clear gf2
              refine m_aload_n (j := 3) C dX12_head_66 rfl ?_
              refine m_iconst C dX12_head_67 ?_
              refine m_call (mc2 := 0) (ms2 := 0) (As := [.int (iI 3)]) (rest := []) C (B_bad (x := 3) bxb2 (by show -2147483648 ≤ (3 : Int) ∧ (3 : Int) ≤ 2147483647; omega)) dX12_head_68 kV_X12_154 rfl ck_13 rfl (Nat.le_of_ble_eq_true rfl) ⟨Nat.le_of_ble_eq_true rfl, Nat.le_of_ble_eq_true rfl⟩ ⟨Nat.le_of_ble_eq_true rfl, Nat.le_of_ble_eq_true rfl⟩ (fun rh6 vh6 ah6 h6 => ?_)
              obtain ⟨f6, rfl, fn6, bn6, ex6⟩ := h6
              refine hv2 (fpb2.call fn6 rfl rfl) (show f6 = -1 from ex6) (fun fq12 gf6 => ?_)
              refine m_st (st2 := [.int (iI f6)]) rfl ?_
              refine hv4 (show 0 ≤ vh6 3 ∧ vh6 3 ≤ 3000 from bn6.1 3) (show vh6 3 = vb2 3 from fn6.1 3 rfl) (show 0 ≤ vh6 41 ∧ vh6 41 ≤ 200 from bn6.1 41) (show vh6 41 = vb2 41 from fn6.1 41 rfl) (fun rv21 ve10 rv22 ve11 => ?_)
              exact m_iret C dX12_head_71 rfl (Nat.le_of_ble_eq_true rfl) (Nat.le_of_ble_eq_true rfl) ⟨f6, rfl, fq12, bn6, ⟨(by show (vh6 3) = 0; omega), HDS.nw (fun q => absurd ((tl1.cg (fpb2.1 4 rfl) (fpb2.2 5 rfl) (fpb2.2 6 rfl) (fpb2.2 8 rfl) (fpb2.2 9 rfl)).mpr q) (by omega)) (by omega), Or.inl ⟨by omega, ⟨by show (vh6 41) = v 41; have q := hK20.1; omega, (Eq.trans (show ah6 40 = ab2 40 from fn6.2 40 rfl) hK20.2)⟩⟩⟩⟩
          · clear hg1
            refine m_aload_n (j := 3) C dX12_head_51 rfl ?_
            refine m_bipush (z := 6) C dX12_head_52 (by decide) ?_
            refine m_call (mc2 := 0) (ms2 := 0) (As := [.int (iI 6)]) (rest := []) C (B_bad (x := 6) bxb2 (by show -2147483648 ≤ (6 : Int) ∧ (6 : Int) ≤ 2147483647; omega)) dX12_head_54 kV_X12_154 rfl ck_13 rfl (Nat.le_of_ble_eq_true rfl) ⟨Nat.le_of_ble_eq_true rfl, Nat.le_of_ble_eq_true rfl⟩ ⟨Nat.le_of_ble_eq_true rfl, Nat.le_of_ble_eq_true rfl⟩ (fun rh7 vh7 ah7 h7 => ?_)
            obtain ⟨f7, rfl, fn7, bn7, ex7⟩ := h7
            refine hv2 (fpb2.call fn7 rfl rfl) (show f7 = -1 from ex7) (fun fq13 gf7 => ?_)
            refine m_st (st2 := [.int (iI f7)]) rfl ?_
            refine hv4 (show 0 ≤ vh7 3 ∧ vh7 3 ≤ 3000 from bn7.1 3) (show vh7 3 = vb2 3 from fn7.1 3 rfl) (show 0 ≤ vh7 41 ∧ vh7 41 ≤ 200 from bn7.1 41) (show vh7 41 = vb2 41 from fn7.1 41 rfl) (fun rv23 ve12 rv24 ve13 => ?_)
            exact m_iret C dX12_head_57 rfl (Nat.le_of_ble_eq_true rfl) (Nat.le_of_ble_eq_true rfl) ⟨f7, rfl, fq13, bn7, ⟨(by show (vh7 3) = 0; omega), HDS.bad (by have q := hL.no (by omega) (by omega); rw [show f1 = v 3 by omega] at q; exact q) (by omega), Or.inl ⟨by omega, ⟨by show (vh7 41) = v 41; have q := hK20.1; omega, (Eq.trans (show ah7 40 = ab2 40 from fn7.2 40 rfl) hK20.2)⟩⟩⟩⟩
        · refine m_iload_n (j := 1) C dX12_head_26 rfl ?_
          refine m_if_eq (tgt := 47) C ⟨by omega, by omega⟩ dX12_head_27 (by decide) (fun c8 => ?_) (fun c8 => ?_)
          · clear hg1
            refine m_iload_n (j := 1) C dX12_head_47 rfl ?_
            refine m_if_ne (tgt := 58) C ⟨by omega, by omega⟩ dX12_head_48 (by decide) (fun z => absurd z (by omega)) (fun _ => ?_)
            refine m_aload_n (j := 3) C dX12_head_51 rfl ?_
            refine m_bipush (z := 6) C dX12_head_52 (by decide) ?_
            refine m_call (mc2 := 0) (ms2 := 0) (As := [.int (iI 6)]) (rest := []) C (B_bad (x := 6) bxb2 (by show -2147483648 ≤ (6 : Int) ∧ (6 : Int) ≤ 2147483647; omega)) dX12_head_54 kV_X12_154 rfl ck_13 rfl (Nat.le_of_ble_eq_true rfl) ⟨Nat.le_of_ble_eq_true rfl, Nat.le_of_ble_eq_true rfl⟩ ⟨Nat.le_of_ble_eq_true rfl, Nat.le_of_ble_eq_true rfl⟩ (fun rh8 vh8 ah8 h8 => ?_)
            obtain ⟨f8, rfl, fn8, bn8, ex8⟩ := h8
            refine hv2 (fpb2.call fn8 rfl rfl) (show f8 = -1 from ex8) (fun fq14 gf8 => ?_)
            refine m_st (st2 := [.int (iI f8)]) rfl ?_
            refine hv4 (show 0 ≤ vh8 3 ∧ vh8 3 ≤ 3000 from bn8.1 3) (show vh8 3 = vb2 3 from fn8.1 3 rfl) (show 0 ≤ vh8 41 ∧ vh8 41 ≤ 200 from bn8.1 41) (show vh8 41 = vb2 41 from fn8.1 41 rfl) (fun rv25 ve14 rv26 ve15 => ?_)
            exact m_iret C dX12_head_57 rfl (Nat.le_of_ble_eq_true rfl) (Nat.le_of_ble_eq_true rfl) ⟨f8, rfl, fq14, bn8, ⟨(by show (vh8 3) = 0; omega), HDS.bad (by have q := hL.no (by omega) (by omega); rw [show f1 = v 3 by omega] at q; exact q) (by omega), Or.inl ⟨by omega, ⟨by show (vh8 41) = v 41; have q := hK20.1; omega, (Eq.trans (show ah8 40 = ab2 40 from fn8.2 40 rfl) hK20.2)⟩⟩⟩⟩
          · replace hg1 := (hg1.resolve_left c8)
            refine m_aload_n (j := 3) C dX12_head_30 rfl ?_
            refine m_geta (k := 2) C dX12_head_31 w6_61 (by decide) rfl ?_
            refine m_iload (j := 0) C dX12_head_34 rfl ?_
            refine m_ald (k := 2) C dX12_head_36 rfl rfl (by decide) (by omega) (by show _ < ((_ : Nat) : Int); simp only [mlen]; omega) (by decide) ?_
            refine hv2 (show (-2147483648) ≤ ab2 2 k.toNat ∧ ab2 2 k.toNat ≤ 2147483647 from bxb2.2 2 (k.toNat)) (show ab2 2 (k.toNat) = a 2 (k.toNat) from congrFun (fpb2.2 2 rfl) (k.toNat)) (fun ra3 ae2 => ?_)
            refine m_st (st2 := [.int (iI (a 2 k.toNat))]) (congrArg (fun z => Value.int (iI z) :: []) (congrFun (fpb2.2 2 rfl) (k.toNat))) ?_
            refine m_callS (As := [.int (iI (a 2 k.toNat))]) (rest := []) C (fun L E => s_isLetter (iI (a 2 k.toNat))) dX12_head_37 kS_X12_199 rfl rfl (Nat.le_of_ble_eq_true rfl) ⟨Nat.le_of_ble_eq_true rfl, Nat.le_of_ble_eq_true rfl⟩ ⟨Nat.le_of_ble_eq_true rfl, Nat.le_of_ble_eq_true rfl⟩ ?_
            rcases inn_c (x := a 2 k.toNat) (lo := 33) (hi := 125) ⟨by omega, by omega⟩ ⟨by decide, by decide⟩ ⟨by decide, by decide⟩ with ⟨h9a, h9b, h9e⟩ | ⟨h9a, h9e⟩
            · refine m_st (st2 := [.int (iI 1)]) (by rw [show inn (iI (a 2 k.toNat)) 33 125 = iI 1 from h9e]) ?_
              refine m_istore_n (lv2 := [(3, .int (iI 1)), (4, .int (iI k)), (2, .int (iI f1)), (0, .ref h0), (1, .int (iI t))]) C dX12_head_40 (by decide) rfl ?_
              refine m_iinc (z := k) (j := 1) (lv2 := [(4, .int (iI (k + 1))), (3, .int (iI 1)), (2, .int (iI f1)), (0, .ref h0), (1, .int (iI t))]) C dX12_head_41 rfl (by decide) rfl ?_
              refine m_goto (tgt := 20) C dX12_head_44 (by decide) ?_
              refine hv2 (show 0 ≤ vb2 3 ∧ vb2 3 ≤ 3000 from bxb2.1 3) (show 0 ≤ vb2 41 ∧ vb2 41 ≤ 200 from bxb2.1 41) (fun rv27 rv28 => ?_)
              refine m_lv (lv2 := [(4, .int (iI (k + 1))), (3, .int (iI 1)), (2, .int (iI f1)), (0, .ref h0), (1, .int (iI t))]) [0, 1, 2, 3, 4] rfl ?_
              exact ih1  1 (k + 1) _ _ (by omega) bxb2 fpb2 (by omega) (by omega) (by show (vb2 3) = 0; omega) (hL.step1 (by omega) (by omega)) ⟨by show (vb2 41) = v 41; have q := hK20.1; omega, hK20.2⟩
            · refine m_st (st2 := [.int (iI 0)]) (by rw [show inn (iI (a 2 k.toNat)) 33 125 = iI 0 from h9e]) ?_
              refine m_istore_n (lv2 := [(3, .int (iI 0)), (4, .int (iI k)), (2, .int (iI f1)), (0, .ref h0), (1, .int (iI t))]) C dX12_head_40 (by decide) rfl ?_
              refine m_iinc (z := k) (j := 1) (lv2 := [(4, .int (iI (k + 1))), (3, .int (iI 0)), (2, .int (iI f1)), (0, .ref h0), (1, .int (iI t))]) C dX12_head_41 rfl (by decide) rfl ?_
              refine m_goto (tgt := 20) C dX12_head_44 (by decide) ?_
              refine hv2 (show 0 ≤ vb2 3 ∧ vb2 3 ≤ 3000 from bxb2.1 3) (show 0 ≤ vb2 41 ∧ vb2 41 ≤ 200 from bxb2.1 41) (fun rv29 rv30 => ?_)
              refine m_lv (lv2 := [(4, .int (iI (k + 1))), (3, .int (iI 0)), (2, .int (iI f1)), (0, .ref h0), (1, .int (iI t))]) [0, 1, 2, 3, 4] rfl ?_
              exact ih1  0 (k + 1) _ _ (by omega) bxb2 fpb2 (by omega) (by omega) (by show (vb2 3) = 0; omega) (TLG.step0 (by omega) (by omega)) ⟨by show (vb2 41) = v 41; have q := hK20.1; omega, hK20.2⟩
    refine hv2 (show 0 ≤ vb1 3 ∧ vb1 3 ≤ 3000 from bxb1.1 3) (show 0 ≤ vb1 41 ∧ vb1 41 ≤ 200 from bxb1.1 41) (fun rv31 rv32 => ?_)
    refine m_lv (lv2 := [(4, .int (iI 0)), (3, .int (iI g)), (2, .int (iI f1)), (0, .ref h0), (1, .int (iI t))]) [0, 1, 2, 3, 4] rfl ?_
    exact Lp1 3002 g 0 _ _ (by omega) bxb1 fpb1 (by omega) (by omega) (by show (vb1 3) = 0; omega) (TLG.init (by omega)) ⟨by show (vb1 41) = v 41; have q := hK16.1; omega, hK16.2⟩
  refine m_icmp_gt (tgt := 15) C ⟨by omega, by omega⟩ ⟨by decide, by decide⟩ dX12_head_8 (by decide) (fun c9 => ?_) (fun c9 => ?_)
  · refine m_iconst C dX12_head_15 ?_
    refine hv2 (show 0 ≤ vh1 41 ∧ vh1 41 ≤ 200 from bn1.1 41) (show vh1 41 = v 41 from fn1.1 41 rfl) (fun rv33 ve16 => ?_)
    refine m_lv (lv2 := [(2, .int (iI f1)), (0, .ref h0), (1, .int (iI t))]) [0, 1, 2] rfl ?_
    exact J1  0 _ _  bn1 fq1 (by omega) (by show (vh1 3) = 0; omega) (by omega) ⟨by show (vh1 41) = v 41; omega, (show ah1 40 = a 40 from fn1.2 40 rfl)⟩
  · refine m_iconst C dX12_head_11 ?_
    refine m_goto (tgt := 16) C dX12_head_12 (by decide) ?_
    refine hv2 (show 0 ≤ vh1 41 ∧ vh1 41 ≤ 200 from bn1.1 41) (show vh1 41 = v 41 from fn1.1 41 rfl) (fun rv34 ve17 => ?_)
    refine m_lv (lv2 := [(2, .int (iI f1)), (0, .ref h0), (1, .int (iI t))]) [0, 1, 2] rfl ?_
    exact J1  1 _ _  bn1 fq1 (by omega) (by show (vh1 3) = 0; omega) (by omega) ⟨by show (vh1 41) = v 41; omega, (show ah1 40 = a 40 from fn1.2 40 rfl)⟩
