def PGT (iv : Nat → Nat → Int) (rv : Nat → Nat → Option Nat) (sk : Nat → Nat) (h0 : Nat) (f : Int) : Prop := ∀ sA, rv h0 9 = some sA → f = (iv sA 1 + opg (iv (sk 5) 2) (iv h0 12) - 1) / opg (iv (sk 5) 2) (iv h0 12)
section PPAG
variable {sk : Nat → Nat} {iv : Nat → Nat → Int} {rv : Nat → Nat → Option Nat} {h0 sA : Nat} {p l i f x y z o k : Int} {E : List (Option (List Int))}
theorem PGT.mk (hA : rv h0 9 = some sA) (hd : f = (iv sA 1 + x - 1) / x) (g1 : (0 < iv (sk 5) 2 ∧ 2 ≤ iv h0 12 ∧ x = iv h0 12 - 1) ∨ (¬ (0 < iv (sk 5) 2 ∧ 2 ≤ iv h0 12) ∧ x = iv h0 12)) : PGT iv rv sk h0 f := fun sA' e => by
  rw [hA] at e; cases e
  rw [hd, opg_of g1]
theorem PGT.le (hg : PGT iv rv sk h0 x) (hA : rv h0 9 = some sA) (hE : SHT iv rv sA E) : x = (((E.length : Nat) : Int) + opg (iv (sk 5) 2) (iv h0 12) - 1) / opg (iv (sk 5) 2) (iv h0 12) := by
  rw [← hE.1]
  exact hg sA hA
end PPAG
set_option maxHeartbeats 4000000 in
set_option maxRecDepth 100000 in
theorem G_hasHeader {l : Launch} {G : GT} {mi : Nat} {sk : Nat → Nat} {L : List Nat} {cl ln : Nat → Nat} {iv : Nat → Nat → Int} {rv : Nat → Nat → Option Nat}  {a0 : Nat} (hW : WT (g0 G) sk L cl ln iv rv) (hS : SKL sk L cl) (t_a0 : ty L cl a0 1)  : Mc l G mi (Phi (g0 G) sk) PHM yX11_pagesHaveHeader cX11_pagesHaveHeader 1 (some .boolean) 0 [.ref a0] L cl ln iv rv 0 (fun v L2 cl2 ln2 iv2 rv2 => ∃ f : Int, v = some (.int (iI f)) ∧ L = L2 ∧ cl = cl2 ∧ ln = ln2 ∧ iv = iv2 ∧ rv = rv2 ∧ (f = 0 ∨ f = 1) ∧ ((f = 1 ∧ 0 < iv (sk 5) 2 ∧ 2 ≤ iv a0 12) ∨ (f = 0 ∧ ¬ (0 < iv (sk 5) 2 ∧ 2 ≤ iv a0 12)))) := by
  refine Mc.mk (by decide) (Nat.le_of_ble_eq_true rfl) ?_
  intro p e s m args below meth c A C hM
  refine hv15 (Phi.le hW hS) (show ty L cl (sk 2) 2 from ⟨(hS 2 rfl).1, by rw [(hS 2 rfl).2]; rfl⟩) (show ty L cl (sk 3) 3 from ⟨(hS 3 rfl).1, by rw [(hS 3 rfl).2]; rfl⟩) (show ty L cl (sk 4) 4 from ⟨(hS 4 rfl).1, by rw [(hS 4 rfl).2]; rfl⟩) (show ty L cl (sk 5) 5 from ⟨(hS 5 rfl).1, by rw [(hS 5 rfl).2]; rfl⟩) (show ty L cl (sk 13) 13 from ⟨(hS 13 rfl).1, by rw [(hS 13 rfl).2]; rfl⟩) (show ty L cl (sk 14) 14 from ⟨(hS 14 rfl).1, by rw [(hS 14 rfl).2]; rfl⟩) (show ty L cl (sk 15) 15 from ⟨(hS 15 rfl).1, by rw [(hS 15 rfl).2]; rfl⟩) (show ty L cl (sk 16) 16 from ⟨(hS 16 rfl).1, by rw [(hS 16 rfl).2]; rfl⟩) (show ty L cl (sk 17) 17 from ⟨(hS 17 rfl).1, by rw [(hS 17 rfl).2]; rfl⟩) (show ty L cl (sk 22) 22 from ⟨(hS 22 rfl).1, by rw [(hS 22 rfl).2]; rfl⟩) (show ty L cl (sk 23) 23 from ⟨(hS 23 rfl).1, by rw [(hS 23 rfl).2]; rfl⟩) (show XT L cl ln L cl ln from XT.refl) (show fT [] L cl iv rv iv rv from fT.refl) (show 1 ≤ iv a0 12 ∧ iv a0 12 ≤ 50 from hW.int t_a0 12) (fun hph tsk2 tsk3 tsk4 tsk5 tsk13 tsk14 tsk15 tsk16 tsk17 tsk22 tsk23 hX0 hF0 ri2 => ?_)
  have ri1 : 0 ≤ iv (sk 5) 2 ∧ iv (sk 5) 2 ≤ 200 := hW.int tsk5 2
  refine c_aload_n (j := 0) (x := a0) C dX11_pagesHaveHeader_0 rfl ?_
  obtain ⟨rb1, rq1, trb1⟩ := hW.ref t_a0 3 rfl rfl rfl
  have erb1 := hW.sk trb1 (by decide) rfl
  subst erb1
  refine c_getr (k := 3) C ck_12 dX11_pagesHaveHeader_1 w2_47 (by decide) t_a0 rfl rfl (by decide) rfl rq1 ?_
  refine c_st (st2 := [.ref (sk 5)]) rfl ?_
  refine c_get (k := 2) C ck_2 dX11_pagesHaveHeader_4 w1_44 (by decide) tsk5 rfl rfl (by decide) rfl ?_
  refine c_if_le (tgt := 22) C (r32_c (lo := 0) (hi := 200) ri1.1 ri1.2 (by decide) (by decide)) dX11_pagesHaveHeader_7 (by decide) (fun c1 => ?_) (fun c1 => ?_)
  · refine c_iconst C dX11_pagesHaveHeader_22 ?_
    exact c_zret C dX11_pagesHaveHeader_23 rfl (Or.inl rfl) (by decide) (rom0 hph hph (by decide)) ⟨0, rfl, rfl, rfl, rfl, rfl, rfl, (Or.inl rfl), (by omega)⟩
  · refine c_aload_n (j := 0) (x := a0) C dX11_pagesHaveHeader_10 rfl ?_
    refine c_get (k := 12) C ck_12 dX11_pagesHaveHeader_11 w2_56 (by decide) t_a0 rfl rfl (by decide) rfl ?_
    refine c_iconst C dX11_pagesHaveHeader_14 ?_
    refine c_icmp_lt (tgt := 22) C (r32_c (lo := 1) (hi := 50) ri2.1 ri2.2 (by decide) (by decide)) ⟨by decide, by decide⟩ dX11_pagesHaveHeader_15 (by decide) (fun c2 => ?_) (fun c2 => ?_)
    · refine c_iconst C dX11_pagesHaveHeader_22 ?_
      exact c_zret C dX11_pagesHaveHeader_23 rfl (Or.inl rfl) (by decide) (rom0 hph hph (by decide)) ⟨0, rfl, rfl, rfl, rfl, rfl, rfl, (Or.inl rfl), (by omega)⟩
    · refine c_iconst C dX11_pagesHaveHeader_18 ?_
      refine c_goto (tgt := 23) C dX11_pagesHaveHeader_19 (by decide) ?_
      exact c_zret C dX11_pagesHaveHeader_23 rfl (Or.inr rfl) (by decide) (rom0 hph hph (by decide)) ⟨1, rfl, rfl, rfl, rfl, rfl, rfl, (Or.inr rfl), (by omega)⟩
set_option maxHeartbeats 4000000 in
set_option maxRecDepth 100000 in
theorem G_linesOfPage {l : Launch} {G : GT} {mi : Nat} {sk : Nat → Nat} {L : List Nat} {cl ln : Nat → Nat} {iv : Nat → Nat → Int} {rv : Nat → Nat → Option Nat}  {a0 : Nat} (hW : WT (g0 G) sk L cl ln iv rv) (hS : SKL sk L cl) (t_a0 : ty L cl a0 1)  : Mc l G mi (Phi (g0 G) sk) PHM yX11_linesOfPage cX11_linesOfPage 1 (some .int) 1 [.ref a0] L cl ln iv rv 0 (fun v L2 cl2 ln2 iv2 rv2 => ∃ f : Int, v = some (.int (iI f)) ∧ L = L2 ∧ cl = cl2 ∧ ln = ln2 ∧ iv = iv2 ∧ rv = rv2 ∧ (-2147483648 ≤ f ∧ f ≤ 2147483647) ∧ ((0 < iv (sk 5) 2 ∧ 2 ≤ iv a0 12 ∧ f = iv a0 12 - 1) ∨ (¬ (0 < iv (sk 5) 2 ∧ 2 ≤ iv a0 12) ∧ f = iv a0 12))) := by
  refine Mc.mk (by decide) (Nat.le_of_ble_eq_true rfl) ?_
  intro p e s m args below meth c A C hM
  refine hv15 (Phi.le hW hS) (show ty L cl (sk 2) 2 from ⟨(hS 2 rfl).1, by rw [(hS 2 rfl).2]; rfl⟩) (show ty L cl (sk 3) 3 from ⟨(hS 3 rfl).1, by rw [(hS 3 rfl).2]; rfl⟩) (show ty L cl (sk 4) 4 from ⟨(hS 4 rfl).1, by rw [(hS 4 rfl).2]; rfl⟩) (show ty L cl (sk 5) 5 from ⟨(hS 5 rfl).1, by rw [(hS 5 rfl).2]; rfl⟩) (show ty L cl (sk 13) 13 from ⟨(hS 13 rfl).1, by rw [(hS 13 rfl).2]; rfl⟩) (show ty L cl (sk 14) 14 from ⟨(hS 14 rfl).1, by rw [(hS 14 rfl).2]; rfl⟩) (show ty L cl (sk 15) 15 from ⟨(hS 15 rfl).1, by rw [(hS 15 rfl).2]; rfl⟩) (show ty L cl (sk 16) 16 from ⟨(hS 16 rfl).1, by rw [(hS 16 rfl).2]; rfl⟩) (show ty L cl (sk 17) 17 from ⟨(hS 17 rfl).1, by rw [(hS 17 rfl).2]; rfl⟩) (show ty L cl (sk 22) 22 from ⟨(hS 22 rfl).1, by rw [(hS 22 rfl).2]; rfl⟩) (show ty L cl (sk 23) 23 from ⟨(hS 23 rfl).1, by rw [(hS 23 rfl).2]; rfl⟩) (show XT L cl ln L cl ln from XT.refl) (show fT [] L cl iv rv iv rv from fT.refl) (show 1 ≤ iv a0 12 ∧ iv a0 12 ≤ 50 from hW.int t_a0 12) (fun hph tsk2 tsk3 tsk4 tsk5 tsk13 tsk14 tsk15 tsk16 tsk17 tsk22 tsk23 hX0 hF0 ri2 => ?_)
  have ri1 : 0 ≤ iv (sk 5) 2 ∧ iv (sk 5) 2 ≤ 200 := hW.int tsk5 2
  refine c_iconst C dX11_linesOfPage_0 ?_
  refine c_aload_n (j := 0) (x := a0) C dX11_linesOfPage_1 rfl ?_
  refine d_callV (As := []) (rest := [.int (iI 1)]) C hM (G_hasHeader (a0 := a0) hW hS t_a0  ) dX11_linesOfPage_2 kV_X11_285 rfl t_a0 rfl rfl (by decide) ck_12 rfl (Nat.le_of_ble_eq_true rfl) ⟨(Nat.le_of_ble_eq_true rfl), (Nat.le_of_ble_eq_true rfl)⟩ hph hph (show 0 + 0 = 0 from rfl) (by decide) (fun rh1 Lh1 clh1 lnh1 ivh1 rvh1 h1 => ?_)
  obtain ⟨f1, rfl, rfl, rfl, rfl, rfl, rfl, rgf1, exf1⟩ := h1
  refine c_st (st2 := [.int (iI f1), .int (iI 1)]) rfl ?_
  have gf1 : (f1 = 1 ∧ 0 < iv (sk 5) 2 ∧ 2 ≤ iv a0 12) ∨ (f1 = 0 ∧ ¬ (0 < iv (sk 5) 2 ∧ 2 ≤ iv a0 12)) := exf1
  refine c_if_eq (tgt := 17) C (r32_qp gf1) dX11_linesOfPage_5 (by decide) (fun c1 => ?_) (fun c1 => ?_)
  · replace gf1 := (gf1.resolve_left (fun q => absurd (q.1.symm.trans c1) (by decide)))
    refine c_aload_n (j := 0) (x := a0) C dX11_linesOfPage_17 rfl ?_
    refine c_get (k := 12) C ck_12 dX11_linesOfPage_18 w2_56 (by decide) t_a0 rfl rfl (by decide) rfl ?_
    obtain ⟨mn1, hmn1, emn1⟩ := mmax_c (x := 1) (y := iv a0 12) ⟨by decide, by decide⟩ (r32_c (lo := 1) (hi := 50) ri2.1 ri2.2 (by decide) (by decide))
    refine c_mmax (w := iI mn1) C dX11_linesOfPage_21 w3_93 w2_148 w1_14 w2_149 (by decide) (rom0 hph hph (by decide)) (Nat.le_of_ble_eq_true rfl) emn1 ?_
    exact c_iret C dX11_linesOfPage_24 rfl (by decide) (rom0 hph hph (by decide)) ⟨mn1, rfl, rfl, rfl, rfl, rfl, rfl, ⟨by omega, by omega⟩, (by omega)⟩
  · replace gf1 := (gf1.resolve_right (fun q => c1 q.1))
    refine c_aload_n (j := 0) (x := a0) C dX11_linesOfPage_8 rfl ?_
    refine c_get (k := 12) C ck_12 dX11_linesOfPage_9 w2_56 (by decide) t_a0 rfl rfl (by decide) rfl ?_
    refine c_iconst C dX11_linesOfPage_12 ?_
    refine c_isub C dX11_linesOfPage_13 ?_
    refine c_goto (tgt := 21) C dX11_linesOfPage_14 (by decide) ?_
    obtain ⟨mn2, hmn2, emn2⟩ := mmax_c (x := 1) (y := (iv a0 12) - 1) ⟨by decide, by decide⟩ ⟨by omega, by omega⟩
    refine c_mmax (w := iI mn2) C dX11_linesOfPage_21 w3_93 w2_148 w1_14 w2_149 (by decide) (rom0 hph hph (by decide)) (Nat.le_of_ble_eq_true rfl) emn2 ?_
    exact c_iret C dX11_linesOfPage_24 rfl (by decide) (rom0 hph hph (by decide)) ⟨mn2, rfl, rfl, rfl, rfl, rfl, rfl, ⟨by omega, by omega⟩, (by omega)⟩
set_option maxHeartbeats 4000000 in
set_option maxRecDepth 100000 in
theorem G_pages {l : Launch} {G : GT} {mi : Nat} {sk : Nat → Nat} {L : List Nat} {cl ln : Nat → Nat} {iv : Nat → Nat → Int} {rv : Nat → Nat → Option Nat}  {a0 : Nat} (hW : WT (g0 G) sk L cl ln iv rv) (hS : SKL sk L cl) (t_a0 : ty L cl a0 1)  : Mc l G mi (Phi (g0 G) sk) PHM yX11_pages cX11_pages 2 (some .int) 2 [.ref a0] L cl ln iv rv 0 (fun v L2 cl2 ln2 iv2 rv2 => ∃ f : Int, v = some (.int (iI f)) ∧ L = L2 ∧ cl = cl2 ∧ ln = ln2 ∧ iv = iv2 ∧ rv = rv2 ∧ (-2147483648 ≤ f ∧ f ≤ 2147483647) ∧ ((0 ≤ f ∧ f ≤ 249) ∧ PGT iv rv sk a0 f)) := by
  refine Mc.mk (by decide) (Nat.le_of_ble_eq_true rfl) ?_
  intro p e s m args below meth c A C hM
  refine hv15 (Phi.le hW hS) (show ty L cl (sk 2) 2 from ⟨(hS 2 rfl).1, by rw [(hS 2 rfl).2]; rfl⟩) (show ty L cl (sk 3) 3 from ⟨(hS 3 rfl).1, by rw [(hS 3 rfl).2]; rfl⟩) (show ty L cl (sk 4) 4 from ⟨(hS 4 rfl).1, by rw [(hS 4 rfl).2]; rfl⟩) (show ty L cl (sk 5) 5 from ⟨(hS 5 rfl).1, by rw [(hS 5 rfl).2]; rfl⟩) (show ty L cl (sk 13) 13 from ⟨(hS 13 rfl).1, by rw [(hS 13 rfl).2]; rfl⟩) (show ty L cl (sk 14) 14 from ⟨(hS 14 rfl).1, by rw [(hS 14 rfl).2]; rfl⟩) (show ty L cl (sk 15) 15 from ⟨(hS 15 rfl).1, by rw [(hS 15 rfl).2]; rfl⟩) (show ty L cl (sk 16) 16 from ⟨(hS 16 rfl).1, by rw [(hS 16 rfl).2]; rfl⟩) (show ty L cl (sk 17) 17 from ⟨(hS 17 rfl).1, by rw [(hS 17 rfl).2]; rfl⟩) (show ty L cl (sk 22) 22 from ⟨(hS 22 rfl).1, by rw [(hS 22 rfl).2]; rfl⟩) (show ty L cl (sk 23) 23 from ⟨(hS 23 rfl).1, by rw [(hS 23 rfl).2]; rfl⟩) (show XT L cl ln L cl ln from XT.refl) (show fT [] L cl iv rv iv rv from fT.refl) (show 1 ≤ iv a0 12 ∧ iv a0 12 ≤ 50 from hW.int t_a0 12) (fun hph tsk2 tsk3 tsk4 tsk5 tsk13 tsk14 tsk15 tsk16 tsk17 tsk22 tsk23 hX0 hF0 ri2 => ?_)
  have ri1 : 0 ≤ iv (sk 5) 2 ∧ iv (sk 5) 2 ≤ 200 := hW.int tsk5 2
  refine c_aload_n (j := 0) (x := a0) C dX11_pages_0 rfl ?_
  refine d_callV (As := []) (rest := []) C hM (G_linesOfPage (a0 := a0) hW hS t_a0  ) dX11_pages_1 kV_X11_282 rfl t_a0 rfl rfl (by decide) ck_12 rfl (Nat.le_of_ble_eq_true rfl) ⟨(Nat.le_of_ble_eq_true rfl), (Nat.le_of_ble_eq_true rfl)⟩ hph hph (show 0 + 0 = 0 from rfl) (by decide) (fun rh1 Lh1 clh1 lnh1 ivh1 rvh1 h1 => ?_)
  obtain ⟨f1, rfl, rfl, rfl, rfl, rfl, rfl, rgf1, exf1⟩ := h1
  refine c_st (st2 := [.int (iI f1)]) rfl ?_
  have gf1 : (0 < iv (sk 5) 2 ∧ 2 ≤ iv a0 12 ∧ f1 = iv a0 12 - 1) ∨ (¬ (0 < iv (sk 5) 2 ∧ 2 ≤ iv a0 12) ∧ f1 = iv a0 12) := exf1
  refine c_istore_n (lv2 := [(1, .int (iI f1)), (0, .ref a0)]) C dX11_pages_4 (by decide) rfl ?_
  refine c_aload_n (j := 1) (x := a0) C dX11_pages_5 rfl ?_
  obtain ⟨rb1, rq1, trb1⟩ := hW.ref t_a0 9 rfl rfl rfl
  refine c_getr (k := 9) C ck_12 dX11_pages_6 w2_53 (by decide) t_a0 rfl rfl (by decide) rfl rq1 ?_
  refine c_st (st2 := [.ref rb1]) rfl ?_
  have ri3 : 0 ≤ iv rb1 1 ∧ iv rb1 1 ≤ 200 := hW.int trb1 1
  refine c_get (k := 1) C ck_8 dX11_pages_9 w2_35 (by decide) trb1 rfl rfl (by decide) rfl ?_
  refine c_iload_n (j := 0) C dX11_pages_12 rfl ?_
  refine c_iadd C dX11_pages_13 ?_
  refine c_iconst C dX11_pages_14 ?_
  refine c_isub C dX11_pages_15 ?_
  refine c_iload_n (j := 0) C dX11_pages_16 rfl ?_
  obtain ⟨dq1, hdq1⟩ : ∃ q : Int, q = (((iv rb1 1) + f1) - 1) / f1 := ⟨_, rfl⟩
  have rdq1 := ediv_r (x := ((iv rb1 1) + f1) - 1) (y := f1) (by omega) (by omega)
  rw [← hdq1] at rdq1
  refine c_idiv (w := iI dq1) C dX11_pages_17 (iI_ne0 ⟨by omega, by omega⟩) (by rw [hdq1]; exact iI_div ⟨by omega, by omega⟩ ⟨by omega, by omega⟩) ?_
  exact c_iret C dX11_pages_18 rfl (by decide) (rom0 hph hph (by decide)) ⟨dq1, rfl, rfl, rfl, rfl, rfl, rfl, ⟨by omega, by omega⟩, ⟨by omega, PGT.mk rq1 hdq1 gf1⟩⟩
