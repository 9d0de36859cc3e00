section
def CLI (iv : Nat → Nat → Int) (rv : Nat → Nat → Option Nat) (h0 : Nat) (sk : Nat → Nat) (iv1 : Nat → Nat → Int) (rv1 : Nat → Nat → Option Nat) (hy i n k : Int) : Prop := ∀ sA, rv h0 9 = some sA → ∀ E : List (Option (List Int)), SHT iv rv sA E → ROK E i n → E.length ≤ 200 → ∃ xs, CEL iv1 rv1 (sk 8) xs ∧ ((xs.length : Nat) : Int) ≤ 201 * k ∧ (k < n → xs = chl E hy i k.toNat) ∧ (chl E hy i k.toNat = xs ∨ chl E hy i k.toNat = xs ++ [0])
def CLX (iv : Nat → Nat → Int) (rv : Nat → Nat → Option Nat) (h0 : Nat) (sk : Nat → Nat) (iv2 : Nat → Nat → Int) (rv2 : Nat → Nat → Option Nat) (hy i n : Int) : Prop := ∀ sA, rv h0 9 = some sA → ∀ E : List (Option (List Int)), SHT iv rv sA E → ROK E i n → E.length ≤ 200 → ∃ xs, CEL iv2 rv2 (sk 8) xs ∧ RR0 xs = RR0 (chl E hy i n.toNat)
section CLIN
variable {h : Nat} {sk : Nat → Nat} {L L1 : List Nat} {cl ln cl1 ln1 : Nat → Nat} {iv iv1 iv2 : Nat → Nat → Int} {rv rv1 rv2 : Nat → Nat → Option Nat} {h0 sA r : Nat} {x z f k hy la i n : Int} {xs ys : List Int} {E : List (Option (List Int))} {ls : List Nat} {o : Option Nat}
theorem ROK.rng (hr : ROK E i n) (hk : 0 ≤ k ∧ k < n) : 0 ≤ i + k ∧ i + k < ((E.length : Nat) : Int) := by
  obtain ⟨xs, e⟩ := hr k hk.1 hk.2
  unfold rwe at e
  by_cases c : 0 ≤ i + k
  · rw [if_pos c] at e
    have := gl3 e
    omega
  · rw [if_neg c] at e
    cases e
theorem ROK.len (hr : ROK E i n) (hE : E.length ≤ 200) (hn : 0 ≤ n) : n ≤ 200 := by
  by_cases c : n ≤ 0
  · omega
  · have a1 := hr.rng (k := 0) ⟨by omega, by omega⟩
    have a2 := hr.rng (k := n - 1) ⟨by omega, by omega⟩
    omega
theorem RR0.app0 : RR0 (xs ++ [0]) = RR0 xs := by
  funext j
  unfold RR0
  by_cases c : j < xs.length
  · rw [List.getElem?_append_left c]
  · rw [List.getElem?_append_right (by omega), List.getElem?_eq_none (l := xs) (by omega)]
    by_cases c2 : j - xs.length = 0
    · rw [c2]
      rfl
    · rw [List.getElem?_eq_none (by show 1 ≤ j - xs.length; omega)]
theorem CLI.init (h8 : iv1 (sk 8) 2 = 0) : CLI iv rv h0 sk iv1 rv1 hy i n 0 := fun _ _ E _ _ _ => ⟨[], CEL.nil h8, by show (0 : Int) ≤ 201 * 0; omega, fun _ => rfl, Or.inl rfl⟩
theorem CLI.none (hI : CLI iv rv h0 sk iv1 rv1 hy i n k) (hA : rv h0 9 = some sA) (hW : WT h sk L cl ln iv rv) (ts : ty L cl sA 18) (hF : fT ls L cl iv rv iv1 rv1) (a18 : ls.contains 18 = false) (a19 : ls.contains 19 = false) (a64 : ls.contains 64 = false) (a67 : ls.contains 67 = false) (hx : SATX iv1 rv1 sA z none) (hz : iI (i + k) = iI z) (hzr : -2147483648 ≤ z ∧ z ≤ 2147483647) (hk : 0 ≤ k ∧ k < n) : CLI iv rv h0 sk iv1 rv1 hy i n (k + 1) := fun sA' e E hE hr hl => by
  rw [hA] at e; cases e
  refine hv2 (hr.rng hk) (hE.sam (SAM.frm hW ts hF a18 a19 a64 a67)) (fun rg hE1 => ?_)
  refine hv2 (iI_ij hz ⟨by omega, by omega⟩ hzr) (hE1.nul hx) (fun e2 g => ?_)
  obtain ⟨ys, e3⟩ := hr k hk.1 hk.2
  rw [← e2, e3] at g
  cases g
theorem CLI.step (hI : CLI iv rv h0 sk iv1 rv1 hy i n k) (hA : rv h0 9 = some sA) (hW : WT h sk L cl ln iv rv) (ts : ty L cl sA 18) (hF : fT ls L cl iv rv iv1 rv1) (a18 : ls.contains 18 = false) (a19 : ls.contains 19 = false) (a64 : ls.contains 64 = false) (a67 : ls.contains 67 = false) (hx : SATX iv1 rv1 sA z (some r)) (hz : iI (i + k) = iI z) (hzr : -2147483648 ≤ z ∧ z ≤ 2147483647) (hk : 0 ≤ k ∧ k < n) (hc : CHX iv1 rv1 sk iv2 rv2 r x la) (hxy : x = hy) (hla : (la = 1 ∧ k = n - 1) ∨ (la = 0 ∧ k ≠ n - 1)) (h200 : iv1 r 1 ≤ 200) : CLI iv rv h0 sk iv2 rv2 hy i n (k + 1) := fun sA' e E hE hr hl => by
  obtain ⟨xs, g1, g2, g3, _⟩ := hI sA' e E hE hr hl
  rw [hA] at e; cases e
  refine hv2 (hr.rng hk) (hE.sam (SAM.frm hW ts hF a18 a19 a64 a67)) (fun rg hE1 => ?_)
  have e2 := iI_ij hz ⟨by omega, by omega⟩ hzr
  obtain ⟨ys, e3⟩ := hr k hk.1 hk.2
  obtain ⟨y, y1, y2⟩ := hE1.smt hx
  rw [← e2, e3] at y1
  cases y1
  have n2 := hr.len hl (by omega)
  subst hxy
  rcases y2 with ⟨y2, _⟩ | ⟨ys', y2, _, y3⟩
  · cases y2
  · cases y2
    refine hv2 (y3.1) (g3 hk.2) (fun yl ex => ?_)
    have w := hc xs ys g1 y3 (by omega) (by omega)
    have ck : chl E x i (k + 1).toNat = xs ++ segl x ys := by
      rw [show (k + 1).toNat = k.toNat + 1 by omega]
      show chl E x i k.toNat ++ segl x (rwx E (i + ((k.toNat : Nat) : Int))) = _
      rw [show ((k.toNat : Nat) : Int) = k by omega, rwx_of e3, ← ex]
    have ln : (sgp x la ys).length ≤ 201 := by
      unfold sgp
      split
      · rw [List.length_take]
        omega
      · split
        · omega
        · rw [len1]
          omega
    refine ⟨_, w, by rw [List.length_append]; push_cast; omega, fun c => ?_, ?_⟩
    · rw [ck]
      unfold sgp segl
      by_cases c2 : 0 < ys.length ∧ gd0 ys (ys.length - 1) = x
      · rw [if_pos c2, if_pos c2]
      · rw [if_neg c2, if_neg c2, if_neg (by omega)]
    · rw [ck]
      unfold sgp segl
      by_cases c2 : 0 < ys.length ∧ gd0 ys (ys.length - 1) = x
      · rw [if_pos c2, if_pos c2]
        exact Or.inl rfl
      · rw [if_neg c2, if_neg c2]
        by_cases c3 : la = 1
        · rw [if_pos c3, List.append_assoc]
          exact Or.inr rfl
        · rw [if_neg c3]
          exact Or.inl rfl
theorem CLI.fin (hI : CLI iv rv h0 sk iv1 rv1 hy i n k) (hk : k = n) : CLX iv rv h0 sk iv1 rv1 hy i n := fun sA e E hE hr hl => by
  subst hk
  obtain ⟨xs, g1, g2, g3, g4⟩ := hI sA e E hE hr hl
  refine ⟨xs, g1, ?_⟩
  rcases g4 with g | g
  · rw [g]
  · rw [g, RR0.app0]
end CLIN
set_option maxHeartbeats 4000000 in
set_option maxRecDepth 100000 in
theorem G_chainLines {l : Launch} {G : GT} {mi : Nat} {sk : Nat → Nat} {L : List Nat} {cl ln : Nat → Nat} {iv : Nat → Nat → Int} {rv : Nat → Nat → Option Nat}  {a0 : Nat} {i : Int} {n : Int} (hW : WT (g0 G) sk L cl ln iv rv) (hS : SKL sk L cl) (t_a0 : ty L cl a0 1) (h_i : -2147483648 ≤ i ∧ i ≤ 2147483647) (h_n : -2147483648 ≤ n ∧ n ≤ 2147483647) (hn : 0 ≤ n) : Mc l G mi (Phi (g0 G) sk) PHM yX11_chainLines cX11_chainLines 5 none 5 [.ref a0, .int (iI i), .int (iI n)] L cl ln iv rv 0 (fun v L2 cl2 ln2 iv2 rv2 => v = none ∧ XT L cl ln L2 cl2 ln2 ∧ fT [8, 38, 9, 39] L cl iv rv iv2 rv2 ∧ WT (g0 G) sk L2 cl2 ln2 iv2 rv2 ∧ (CLX iv rv a0 sk iv2 rv2 (iv a0 13) i n)) := by
  refine Mc.mk (by decide) (Nat.le_of_ble_eq_true rfl) ?_
  intro p e s m args below meth c A C hM
  refine hv21 (Phi.le hW hS) (show ty L cl (sk 2) 2 from ⟨(hS 2 rfl).1, by rw [(hS 2 rfl).2]; rfl⟩) (show ty L cl (sk 3) 3 from ⟨(hS 3 rfl).1, by rw [(hS 3 rfl).2]; rfl⟩) (show ty L cl (sk 4) 4 from ⟨(hS 4 rfl).1, by rw [(hS 4 rfl).2]; rfl⟩) (show ty L cl (sk 5) 5 from ⟨(hS 5 rfl).1, by rw [(hS 5 rfl).2]; rfl⟩) (show ty L cl (sk 6) 6 from ⟨(hS 6 rfl).1, by rw [(hS 6 rfl).2]; rfl⟩) (show ty L cl (sk 7) 7 from ⟨(hS 7 rfl).1, by rw [(hS 7 rfl).2]; rfl⟩) (show ty L cl (sk 8) 8 from ⟨(hS 8 rfl).1, by rw [(hS 8 rfl).2]; rfl⟩) (show ty L cl (sk 9) 9 from ⟨(hS 9 rfl).1, by rw [(hS 9 rfl).2]; rfl⟩) (show ty L cl (sk 10) 10 from ⟨(hS 10 rfl).1, by rw [(hS 10 rfl).2]; rfl⟩) (show ty L cl (sk 13) 13 from ⟨(hS 13 rfl).1, by rw [(hS 13 rfl).2]; rfl⟩) (show ty L cl (sk 14) 14 from ⟨(hS 14 rfl).1, by rw [(hS 14 rfl).2]; rfl⟩) (show ty L cl (sk 15) 15 from ⟨(hS 15 rfl).1, by rw [(hS 15 rfl).2]; rfl⟩) (show ty L cl (sk 16) 16 from ⟨(hS 16 rfl).1, by rw [(hS 16 rfl).2]; rfl⟩) (show ty L cl (sk 17) 17 from ⟨(hS 17 rfl).1, by rw [(hS 17 rfl).2]; rfl⟩) (show ty L cl (sk 22) 22 from ⟨(hS 22 rfl).1, by rw [(hS 22 rfl).2]; rfl⟩) (show ty L cl (sk 23) 23 from ⟨(hS 23 rfl).1, by rw [(hS 23 rfl).2]; rfl⟩) (show ty L cl (sk 24) 24 from ⟨(hS 24 rfl).1, by rw [(hS 24 rfl).2]; rfl⟩) (show ty L cl (sk 25) 25 from ⟨(hS 25 rfl).1, by rw [(hS 25 rfl).2]; rfl⟩) (show XT L cl ln L cl ln from XT.refl) (show fT [8, 38, 9, 39] L cl iv rv iv rv from fT.refl) (fun hph tsk2 tsk3 tsk4 tsk5 tsk6 tsk7 tsk8 tsk9 tsk10 tsk13 tsk14 tsk15 tsk16 tsk17 tsk22 tsk23 tsk24 tsk25 hX0 hF0 => ?_)
  obtain ⟨sA, hsA, tsA⟩ := hW.ref t_a0 9 rfl rfl rfl
  have ri1 : (-2147483648) ≤ iv a0 13 ∧ iv a0 13 ≤ 2147483647 := hW.int t_a0 13
  refine c_aload_n (j := 0) (x := a0) C dX11_chainLines_0 rfl ?_
  obtain ⟨rb1, rq1, trb1⟩ := hW.ref t_a0 7 rfl rfl rfl
  have erb1 := hW.sk trb1 (by decide) rfl
  subst erb1
  refine c_getr (k := 7) C ck_12 dX11_chainLines_1 w2_51 (by decide) t_a0 rfl rfl (by decide) rfl rq1 ?_
  refine c_st (st2 := [.ref (sk 16)]) rfl ?_
  refine d_callV (As := []) (rest := []) C hM (C_clearCells (a0 := (sk 16)) hW hS tsk16  ) dX11_chainLines_4 kV_X11_344 rfl tsk16 rfl rfl (by decide) ck_4 rfl (Nat.le_of_ble_eq_true rfl) ⟨(Nat.le_of_ble_eq_true rfl), (Nat.le_of_ble_eq_true rfl)⟩ hph hph (show 0 + 0 = 0 from rfl) (by decide) (fun rh1 Lh1 clh1 lnh1 ivh1 rvh1 h1 => ?_)
  obtain ⟨rfl, rfl, rfl, rfl, rfl, fl1, W1, exf1⟩ := h1
  have F1 := hF0.call hX0 fl1 rfl
  refine c_st (st2 := []) rfl ?_
  refine hv2 (show 0 ≤ ivh1 (sk 8) 2 ∧ ivh1 (sk 8) 2 ≤ 40200 from W1.int tsk8 2) (show ivh1 (sk 8) 2 = 0 from exf1) (fun ri2 gf1 => ?_)
  refine c_iconst C dX11_chainLines_7 ?_
  refine c_istore_n (lv2 := [(3, .int (iI 0)), (0, .ref a0), (1, .int (iI i)), (2, .int (iI n))]) C dX11_chainLines_8 (by decide) rfl ?_
  have Lp1 : ∀ (nn : Nat) (k : Int) (Lb1 : List Nat) (clb1 lnb1 : Nat → Nat) (ivb1 : Nat → Nat → Int) (rvb1 : Nat → Nat → Option Nat) , n + 1 - k < (nn : Int) → XT L cl ln Lb1 clb1 lnb1 → WT (g0 G) sk Lb1 clb1 lnb1 ivb1 rvb1 → fT [8, 38, 9, 39] L cl iv rv ivb1 rvb1 → (0 ≤ k ∧ k ≤ n) → (CLI iv rv a0 sk ivb1 rvb1 (iv a0 13) i n k) → cw p l e 5 ((PHM) + 0 - ((Phi (g0 G) sk) ln rv)) s m args below meth c G A 5 (MQ below (Qu G A (Qp G (Phi (g0 G) sk) ((Phi (g0 G) sk) ln rv) 0 (fun v L2 cl2 ln2 iv2 rv2 => v = none ∧ XT L cl ln L2 cl2 ln2 ∧ fT [8, 38, 9, 39] L cl iv rv iv2 rv2 ∧ WT (g0 G) sk L2 cl2 ln2 iv2 rv2 ∧ (CLX iv rv a0 sk iv2 rv2 (iv a0 13) i n)))) args s (((PHM) + 0 - ((Phi (g0 G) sk) ln rv)) / 16) ((PHM) + 0 - ((Phi (g0 G) sk) ln rv)) A) (Phi (g0 G) sk) ((Phi (g0 G) sk) ln rv) Lb1 clb1 lnb1 ivb1 rvb1 0 9 [(3, .int (iI k)), (0, .ref a0), (1, .int (iI i)), (2, .int (iI n))] [] := by
    intro nn
    induction nn with
    | zero =>
      intro  k Lb1 clb1 lnb1 ivb1 rvb1 hm Xb1 Wb1 Fb1  hk hI
      have skb1 := Xb1.skl hS
      exact absurd hm (by omega)
    | succ nn ih1 =>
      intro  k Lb1 clb1 lnb1 ivb1 rvb1 hm Xb1 Wb1 Fb1  hk hI
      have skb1 := Xb1.skl hS
      refine c_iload_n (j := 0) C dX11_chainLines_9 rfl ?_
      refine c_iload_n (j := 3) C dX11_chainLines_10 rfl ?_
      refine c_icmp_ge (tgt := 65) C ⟨by omega, by omega⟩ ⟨by omega, by omega⟩ dX11_chainLines_11 (by decide) (fun c1 => ?_) (fun c1 => ?_)
      · have pl1 := Phi.le Wb1 skb1
        exact c_vret C dX11_chainLines_65 rfl (by decide) (rom0 hph pl1 (by decide)) ⟨rfl, Xb1, Fb1, Wb1, (hI.fin (by omega))⟩
      · refine c_aload_n (j := 1) (x := a0) C dX11_chainLines_14 rfl ?_
        refine hv2 (Xb1.ty t_a0) (show rvb1 a0 9 = rv a0 9 from (Fb1.r t_a0 rfl 9)) (fun ty1 re1 => ?_)
        rw [hsA] at re1
        refine c_getr (k := 9) C ck_12 dX11_chainLines_15 w2_53 (by decide) ty1 rfl rfl (by decide) rfl re1 ?_
        refine c_st (st2 := [.ref sA]) rfl ?_
        refine c_iload_n (j := 2) C dX11_chainLines_18 rfl ?_
        refine c_iload_n (j := 0) C dX11_chainLines_19 rfl ?_
        refine c_iadd C dX11_chainLines_20 ?_
        obtain ⟨zz1, hzz1, ezz1⟩ := iI_of (iI (i + k))
        refine c_st (st2 := [.int (iI zz1), .ref sA]) (by rw [ezz1]) ?_
        refine hv2 (Xb1.ty tsA) (Phi.le Wb1 skb1) (fun ty2 pl2 => ?_)
        refine d_callV (As := [.int (iI zz1)]) (rest := []) C hM (G_sat (a0 := sA) (i := zz1) Wb1 skb1 ty2 (by omega) ) dX11_chainLines_21 kV_X11_308 rfl ty2 rfl rfl (by decide) ck_8 rfl (Nat.le_of_ble_eq_true rfl) ⟨(Nat.le_of_ble_eq_true rfl), (Nat.le_of_ble_eq_true rfl)⟩ hph pl2 (show 0 + 0 = 0 from rfl) (by decide) (fun rh2 Lh2 clh2 lnh2 ivh2 rvh2 h2 => ?_)
        obtain ⟨f2, rfl, rfl, rfl, rfl, rfl, rfl, rgf2, exf2⟩ := h2
        refine c_st (st2 := [(va_rf f2)]) rfl ?_
        have gf2 : SATX ivb1 rvb1 sA zz1 f2 := exf2
        refine c_astorer (r := f2) (lv2 := [(4, (va_rf f2)), (3, .int (iI k)), (0, .ref a0), (1, .int (iI i)), (2, .int (iI n))]) C dX11_chainLines_24 (by decide) rfl ?_
        refine c_aloadr (j := 0) (r := f2) C dX11_chainLines_26 rfl ?_
        refine c_ifnull (r := f2) (tgt := 59) C dX11_chainLines_28 (by decide) (fun oq1 => ?_) (fun ob1 oq1 => ?_)
        · subst oq1
          refine c_lv (lv2 := [(4, .null), (3, .int (iI k)), (0, .ref a0), (1, .int (iI i)), (2, .int (iI n))]) [0, 1, 2, 3, 4] rfl ?_
          refine c_st (st2 := []) rfl ?_
          refine c_iinc (z := k) (j := 1) (lv2 := [(3, .int (iI (k + 1))), (4, .null), (0, .ref a0), (1, .int (iI i)), (2, .int (iI n))]) C dX11_chainLines_59 rfl (by decide) rfl ?_
          refine c_goto (tgt := 9) C dX11_chainLines_62 (by decide) ?_
          refine hv3 (Xb1.ty tsk8) (show (-2147483648) ≤ ivb1 a0 13 ∧ ivb1 a0 13 ≤ 2147483647 from Wb1.int ty1 13) (show ivb1 a0 13 = iv a0 13 from Fb1.i t_a0 rfl 13) (fun ty3 ri4 ie3 => ?_)
          have ri3 : 0 ≤ ivb1 (sk 8) 2 ∧ ivb1 (sk 8) 2 ≤ 40200 := Wb1.int ty3 2
          refine c_lv (lv2 := [(3, .int (iI (k + 1))), (0, .ref a0), (1, .int (iI i)), (2, .int (iI n))]) [0, 2, 3, 4] rfl ?_
          exact ih1  (k + 1) _ _ _ _ _ (by omega) Xb1 Wb1 Fb1  (by omega) (hI.none hsA hW tsA Fb1 rfl rfl rfl rfl gf2 ezz1 ⟨by omega, by omega⟩ ⟨by omega, by omega⟩)
        · subst oq1
          refine hv2 (rgf2 ob1 rfl) (gf2) (fun tob1 sqob1 => ?_)
          refine c_lv (lv2 := [(4, .ref ob1), (3, .int (iI k)), (0, .ref a0), (1, .int (iI i)), (2, .int (iI n))]) [0, 1, 2, 3, 4] rfl ?_
          refine c_st (st2 := []) rfl ?_
          refine c_aload_n (j := 2) (x := a0) C dX11_chainLines_31 rfl ?_
          have re2 : rvb1 a0 7 = rv a0 7 := (Fb1.r t_a0 rfl 7)
          rw [rq1] at re2
          refine c_getr (k := 7) C ck_12 dX11_chainLines_32 w2_51 (by decide) ty1 rfl rfl (by decide) rfl re2 ?_
          refine c_st (st2 := [.ref (sk 16)]) rfl ?_
          refine c_aload (j := 0) (x := ob1) C dX11_chainLines_35 rfl ?_
          refine c_iload_n (j := 3) C dX11_chainLines_37 rfl ?_
          refine c_iload_n (j := 1) C dX11_chainLines_38 rfl ?_
          refine c_iadd C dX11_chainLines_39 ?_
          obtain ⟨zz2, hzz2, ezz2⟩ := iI_of (iI (i + k))
          refine c_st (st2 := [.int (iI zz2), .ref ob1, .ref (sk 16)]) (by rw [ezz2]) ?_
          refine c_aload_n (j := 2) (x := a0) C dX11_chainLines_40 rfl ?_
          refine hv2 (show (-2147483648) ≤ ivb1 a0 13 ∧ ivb1 a0 13 ≤ 2147483647 from Wb1.int ty1 13) (show ivb1 a0 13 = iv a0 13 from Fb1.i t_a0 rfl 13) (fun ri5 ie4 => ?_)
          refine c_get (k := 13) C ck_12 dX11_chainLines_41 w2_57 (by decide) ty1 rfl rfl (by decide) rfl ?_
          refine c_iload_n (j := 1) C dX11_chainLines_44 rfl ?_
          refine c_iload_n (j := 4) C dX11_chainLines_45 rfl ?_
          refine c_iconst C dX11_chainLines_46 ?_
          refine c_isub C dX11_chainLines_47 ?_
          refine c_icmp_ne (tgt := 55) C ⟨by omega, by omega⟩ ⟨by omega, by omega⟩ dX11_chainLines_48 (by decide) (fun c2 => ?_) (fun c2 => ?_)
          · refine c_iconst C dX11_chainLines_55 ?_
            refine hv2 (show 0 ≤ ivb1 ob1 1 ∧ ivb1 ob1 1 ≤ 200 from Wb1.int tob1 1) (Xb1.ty tsk16) (fun ri6 ty4 => ?_)
            refine d_callV (As := [.ref ob1, .int (iI zz2), .int (iI (ivb1 a0 13)), .int (iI 0)]) (rest := []) C hM (G_chain (a0 := (sk 16)) (a1 := ob1) (x := zz2) (y := ivb1 a0 13) (g := 0) Wb1 skb1 ty4 tob1 (by omega) (by omega) ⟨by decide, by decide⟩ (by show (0 : Int) = 0 ∨ (0 : Int) = 1; omega)) dX11_chainLines_56 kV_X11_347 rfl ty4 rfl rfl (by decide) ck_4 rfl (Nat.le_of_ble_eq_true rfl) ⟨(Nat.le_of_ble_eq_true rfl), (Nat.le_of_ble_eq_true rfl)⟩ hph pl2 (show 0 + 0 = 0 from rfl) (by decide) (fun rh3 Lh3 clh3 lnh3 ivh3 rvh3 h3 => ?_)
            obtain ⟨rfl, xl3, fl3, W3, exf3⟩ := h3
            refine hv20 (Fb1.call Xb1 fl3 rfl) (Xb1.ty tsk2) (Xb1.ty tsk3) (Xb1.ty tsk4) (Xb1.ty tsk5) (Xb1.ty tsk6) (Xb1.ty tsk7) (Xb1.ty tsk8) (Xb1.ty tsk9) (Xb1.ty tsk10) (Xb1.ty tsk13) (Xb1.ty tsk14) (Xb1.ty tsk15) (Xb1.ty tsk17) (Xb1.ty tsk22) (Xb1.ty tsk23) (Xb1.ty tsk24) (Xb1.ty tsk25) (Xb1.trans xl3) (xl3.skl skb1) (fun F2 ty5 ty6 ty7 ty8 ty9 ty10 ty11 ty12 ty13 ty14 ty15 ty16 ty17 ty18 ty19 ty20 ty21 X1 sk1 => ?_)
            refine c_st (st2 := []) rfl ?_
            have gf3 : CHX ivb1 rvb1 sk ivh3 rvh3 ob1 (ivb1 a0 13) (0 : Int) := exf3
            refine c_iinc (z := k) (j := 1) (lv2 := [(3, .int (iI (k + 1))), (4, .ref ob1), (0, .ref a0), (1, .int (iI i)), (2, .int (iI n))]) C dX11_chainLines_59 rfl (by decide) rfl ?_
            refine c_goto (tgt := 9) C dX11_chainLines_62 (by decide) ?_
            refine hv3 (xl3.ty ty11) (xl3.ty ty1) (show ivh3 a0 13 = ivb1 a0 13 from fl3.i ty1 rfl 13) (fun ty22 ty23 ie7 => ?_)
            refine hv2 (show 0 ≤ ivh3 (sk 8) 2 ∧ ivh3 (sk 8) 2 ≤ 40200 from W3.int ty22 2) (show (-2147483648) ≤ ivh3 a0 13 ∧ ivh3 a0 13 ≤ 2147483647 from W3.int ty23 13) (fun ri7 ri8 => ?_)
            refine c_lv (lv2 := [(3, .int (iI (k + 1))), (0, .ref a0), (1, .int (iI i)), (2, .int (iI n))]) [0, 2, 3, 4] rfl ?_
            exact ih1  (k + 1) _ _ _ _ _ (by omega) X1 W3 F2  (by omega) (hI.step hsA hW tsA Fb1 rfl rfl rfl rfl sqob1 ezz1 ⟨by omega, by omega⟩ ⟨by omega, by omega⟩ gf3 (by omega) (by omega) (by omega))
          · refine c_iconst C dX11_chainLines_51 ?_
            refine c_goto (tgt := 56) C dX11_chainLines_52 (by decide) ?_
            refine hv2 (show 0 ≤ ivb1 ob1 1 ∧ ivb1 ob1 1 ≤ 200 from Wb1.int tob1 1) (Xb1.ty tsk16) (fun ri9 ty24 => ?_)
            refine d_callV (As := [.ref ob1, .int (iI zz2), .int (iI (ivb1 a0 13)), .int (iI 1)]) (rest := []) C hM (G_chain (a0 := (sk 16)) (a1 := ob1) (x := zz2) (y := ivb1 a0 13) (g := 1) Wb1 skb1 ty24 tob1 (by omega) (by omega) ⟨by decide, by decide⟩ (by show (1 : Int) = 0 ∨ (1 : Int) = 1; omega)) dX11_chainLines_56 kV_X11_347 rfl ty24 rfl rfl (by decide) ck_4 rfl (Nat.le_of_ble_eq_true rfl) ⟨(Nat.le_of_ble_eq_true rfl), (Nat.le_of_ble_eq_true rfl)⟩ hph pl2 (show 0 + 0 = 0 from rfl) (by decide) (fun rh4 Lh4 clh4 lnh4 ivh4 rvh4 h4 => ?_)
            obtain ⟨rfl, xl4, fl4, W4, exf4⟩ := h4
            refine hv20 (Fb1.call Xb1 fl4 rfl) (Xb1.ty tsk2) (Xb1.ty tsk3) (Xb1.ty tsk4) (Xb1.ty tsk5) (Xb1.ty tsk6) (Xb1.ty tsk7) (Xb1.ty tsk8) (Xb1.ty tsk9) (Xb1.ty tsk10) (Xb1.ty tsk13) (Xb1.ty tsk14) (Xb1.ty tsk15) (Xb1.ty tsk17) (Xb1.ty tsk22) (Xb1.ty tsk23) (Xb1.ty tsk24) (Xb1.ty tsk25) (Xb1.trans xl4) (xl4.skl skb1) (fun F3 ty25 ty26 ty27 ty28 ty29 ty30 ty31 ty32 ty33 ty34 ty35 ty36 ty37 ty38 ty39 ty40 ty41 X2 sk2 => ?_)
            refine c_st (st2 := []) rfl ?_
            have gf4 : CHX ivb1 rvb1 sk ivh4 rvh4 ob1 (ivb1 a0 13) (1 : Int) := exf4
            refine c_iinc (z := k) (j := 1) (lv2 := [(3, .int (iI (k + 1))), (4, .ref ob1), (0, .ref a0), (1, .int (iI i)), (2, .int (iI n))]) C dX11_chainLines_59 rfl (by decide) rfl ?_
            refine c_goto (tgt := 9) C dX11_chainLines_62 (by decide) ?_
            refine hv3 (xl4.ty ty31) (xl4.ty ty1) (show ivh4 a0 13 = ivb1 a0 13 from fl4.i ty1 rfl 13) (fun ty42 ty43 ie10 => ?_)
            refine hv2 (show 0 ≤ ivh4 (sk 8) 2 ∧ ivh4 (sk 8) 2 ≤ 40200 from W4.int ty42 2) (show (-2147483648) ≤ ivh4 a0 13 ∧ ivh4 a0 13 ≤ 2147483647 from W4.int ty43 13) (fun ri10 ri11 => ?_)
            refine c_lv (lv2 := [(3, .int (iI (k + 1))), (0, .ref a0), (1, .int (iI i)), (2, .int (iI n))]) [0, 2, 3, 4] rfl ?_
            exact ih1  (k + 1) _ _ _ _ _ (by omega) X2 W4 F3  (by omega) (hI.step hsA hW tsA Fb1 rfl rfl rfl rfl sqob1 ezz1 ⟨by omega, by omega⟩ ⟨by omega, by omega⟩ gf4 (by omega) (by omega) (by omega))
  refine hv2 (show (-2147483648) ≤ ivh1 a0 13 ∧ ivh1 a0 13 ≤ 2147483647 from W1.int t_a0 13) (show ivh1 a0 13 = iv a0 13 from fl1.i t_a0 rfl 13) (fun ri12 ie11 => ?_)
  refine c_lv (lv2 := [(3, .int (iI 0)), (0, .ref a0), (1, .int (iI i)), (2, .int (iI n))]) [0, 1, 2, 3] rfl ?_
  exact Lp1 2147483650 0 _ _ _ _ _ (by omega) hX0 W1 F1  (by omega) (CLI.init (by omega))
end
section
def OKD (a : Nat → Nat → Int) (d : Int) : Prop := ((1 ≤ rlen a d ∧ rlen a d ≤ 4) ∧ ∀ k : Int, 0 ≤ k → k < rlen a d → dcl a d k ≠ 0) ∧ (0 ≤ d → 1 ≤ a 12 d.toNat)
section NZGS
variable {sk : Nat → Nat} {ln : Nat → Nat} {iv : Nat → Nat → Int} {rv : Nat → Nat → Option Nat} {v : Nat → Int} {a : Nat → Nat → Int} {t d : Int} {i r : Nat}
theorem rng_mem : ∀ (n : Nat) (x : Int) (j : Nat) (d : Int), (rng n x)[j]? = some d → x ≤ d ∧ d < x + ((n : Nat) : Int) := by
  intro n
  induction n with
  | zero => intro x j d e; simp [rng] at e
  | succ n ih =>
    intro x j d e
    cases j with
    | zero =>
      have e2 : some x = some d := e
      cases e2
      omega
    | succ j =>
      have g := ih (x + 1) j d e
      omega
theorem rwl_mem {R b : Nat → Int} {V : Int} (hb : ∀ t : Int, 0 ≤ t → t < V → b t.toNat < t) : ∀ (n : Nat) (t : Int) (j : Nat) (d : Int), t < V → (rwl R b n t)[j]? = some d → ∃ i : Nat, ((i : Nat) : Int) < V ∧ 200 * ((i : Nat) : Int) ≤ d ∧ d < 200 * ((i : Nat) : Int) + (((R i).toNat : Nat) : Int) := by
  intro n
  induction n with
  | zero => intro t j d _ e; simp [rwl] at e
  | succ n ih =>
    intro t j d ht e
    rw [rwl_s] at e
    by_cases c : 0 ≤ t
    · rw [if_pos c] at e
      rcases app_or e with ⟨m, e⟩ | ⟨m, e⟩
      · have g := rng_mem _ _ _ _ e
        exact ⟨t.toNat, by omega, by omega, by omega⟩
      · have h1 := hb t c ht
        exact ih _ _ _ (by omega) e
    · rw [if_neg c] at e
      simp at e
theorem TRL.okr (hR : TRL sk ln iv rv v a) (hi : (i : Int) < v 4) (hr : 200 * (i : Int) ≤ d ∧ d < 200 * (i : Int) + a 10 i) : OKD a d := by
  obtain ⟨t, ht⟩ := hR.smt hi
  obtain ⟨_, _, q, n, _, h1, _⟩ := hR.tab hi ht
  obtain ⟨w, _, w2⟩ := h1 (d - 200 * (i : Int)).toNat (by omega)
  have e : 200 * i + (d - 200 * (i : Int)).toNat = d.toNat := by omega
  rw [e] at w2
  obtain ⟨_, _, l, c, _, _, q3, q4, _, q6⟩ := w2
  have tb := hR.2.2.1.2 (i : Int) d (by omega) hi (by omega) (by rw [Int.toNat_natCast]; omega)
  have e1 : rlen a d = a 13 d.toNat := if_pos (by omega)
  refine ⟨⟨by rw [e1]; omega, fun k k1 k2 => ?_⟩, fun _ => by omega⟩
  rw [e1] at k2
  have g := q6 k.toNat (by omega)
  have e2 : dcl a d k = a 15 (4 * d + k).toNat := if_pos (by omega)
  rw [e2, show (4 * d + k).toNat = 4 * d.toNat + k.toNat by omega, ← g.1]
  omega
theorem TRL.oki (hR : TRL sk ln iv rv v a) (h16 : ∀ j, a 16 j ≤ 4) (hi : (i : Int) < v 4) (hr : r < 4) (hn : 0 < a 16 (4 * i + r)) (hd : d = -1 - (4 * (i : Int) + (r : Int))) : OKD a d := by
  obtain ⟨t, ht⟩ := hR.smt hi
  obtain ⟨_, _, q, n, _, _, h1⟩ := hR.tab hi ht
  have en : (-1 - d).toNat = 4 * i + r := by omega
  have e1 : rlen a d = a 16 (4 * i + r) := by
    unfold rlen
    rw [if_neg (by omega), en]
  have b := h16 (4 * i + r)
  rcases h1 r hr with ⟨_, z⟩ | ⟨b', c, _, _, _, q4, q5, q6⟩
  · omega
  · refine ⟨⟨by rw [e1]; omega, fun k k1 k2 => ?_⟩, fun e => absurd e (by omega)⟩
    rw [e1] at k2
    have g := q6 k.toNat (by omega)
    have e2 : dcl a d k = a 17 (4 * (4 * i + r) + k.toNat) := by
      unfold dcl
      rw [if_neg (by omega)]
      exact congrArg (a 17) (by omega)
    have g2 : iv c k.toNat = a 17 (4 * (4 * i + r) + k.toNat) := g.1
    rw [e2, ← g2]
    omega
theorem TRL.okl (hR : TRL sk ln iv rv v a) (h16 : ∀ j, a 16 j ≤ 4) {I : Int} {j : Nat} (hI : 0 ≤ I ∧ I < 4 * v 4) (e : (indl a I)[j]? = some d) : OKD a d := by
  unfold indl at e
  by_cases c : 0 < a 16 I.toNat
  · rw [if_pos c] at e
    cases j with
    | zero =>
      have e2 : some (-1 - I) = some d := e
      cases e2
      exact hR.oki h16 (i := (I / 4).toNat) (r := (I % 4).toNat) (by omega) (by omega) (by rw [show 4 * (I / 4).toNat + (I % 4).toNat = I.toNat by omega]; exact c) (by omega)
    | succ j => simp at e
  · rw [if_neg c] at e
    simp at e
theorem TRL.okw (hR : TRL sk ln iv rv v a) (h16 : ∀ j, a 16 j ≤ 4) {j : Nat} (ht : t < v 4) (h0 : 0 ≤ t) (e : (rws1 a t)[j]? = some d) : OKD a d := by
  unfold rws1 at e
  rcases app_or e with ⟨m, e⟩ | ⟨m, e⟩
  · rcases app_or e with ⟨m, e⟩ | ⟨m, e⟩
    · obtain ⟨i, i1, i2, i3⟩ := rwl_mem hR.2.2.1.b8 _ _ _ _ ht e
      have b := (hR.2.2.1.1 (i : Int) (by omega) i1)
      obtain ⟨tt, hh⟩ := hR.smt i1
      have b2 := (hR.tab i1 hh).1.2.2.2
      exact hR.okr i1 ⟨i2, by omega⟩
    · exact hR.okl h16 ⟨by omega, by omega⟩ e
  · exact hR.okl h16 ⟨by omega, by omega⟩ e
theorem TRL.okg (hR : TRL sk ln iv rv v a) (h16 : ∀ j, a 16 j ≤ 4) (h0 : 0 ≤ t) (ht : t < v 4) : (∀ (j : Nat) (d : Int), (gat0 a t)[j]? = some d → OKD a d) ∧ ∀ (j : Nat) (d : Int), (gat1 a t)[j]? = some d → OKD a d := by
  have tb := hR.2.2.1.1 t h0 ht
  refine ⟨fun j d e => ?_, fun j d e => ?_⟩
  · unfold gat0 at e
    by_cases c : a 6 t.toNat = 5
    · rw [if_pos c] at e
      rcases app_or e with ⟨m, e⟩ | ⟨m, e⟩
      · exact hR.okw h16 (by omega) (by omega) e
      · exact hR.okl h16 ⟨by omega, by omega⟩ e
    · rw [if_neg c] at e
      exact hR.okw h16 ht h0 e
  · unfold gat1 at e
    by_cases c : a 6 t.toNat = 5
    · rw [if_pos c] at e
      rcases app_or e with ⟨m, e⟩ | ⟨m, e⟩
      · exact hR.okw h16 (by omega) (by omega) e
      · exact hR.okl h16 ⟨by omega, by omega⟩ e
    · rw [if_neg c] at e
      simp at e
theorem TRL.nzl (hR : TRL sk ln iv rv v a) (h16 : ∀ j, a 16 j ≤ 4) (h0 : 0 ≤ t) (ht : t < v 4) : (NZL a (gat0 a t) ∧ NZL a (gat1 a t)) ∧ (LTP a (gat0 a t) ∧ LTP a (gat1 a t)) := by
  obtain ⟨g0, g1⟩ := hR.okg h16 h0 ht
  exact ⟨⟨fun j d e => (g0 j d e).1, fun j d e => (g1 j d e).1⟩, fun j d e => (g0 j d e).2, fun j d e => (g1 j d e).2⟩
end NZGS
end
section
set_option maxHeartbeats 4000000 in
set_option maxRecDepth 100000 in
theorem G_copyOf_4 {l : Launch} {G : GT} {mi : Nat} {sk : Nat → Nat} {L : List Nat} {cl ln : Nat → Nat} {iv : Nat → Nat → Int} {rv : Nat → Nat → Option Nat}  {a0 : Nat} {n : Int} (hW : WT (g0 G) sk L cl ln iv rv) (hS : SKL sk L cl) (t_a0 : ty L cl a0 34) (h_n : -2147483648 ≤ n ∧ n ≤ 2147483647) (hn : ((ln a0 : Nat) : Int) < n ∧ 16 ≤ n ∧ n ≤ 8000) : Mc l G mi zPf 0 yJ7_copyOf_59c91 cJ7_copyOf_59c91 3 (some (.array .int)) 1 [.ref a0, .int (iI n)] L cl ln iv rv (16 + n.toNat) (fun v L2 cl2 ln2 iv2 rv2 => ∃ f : Nat, v = some (.ref f) ∧ XT L cl ln L2 cl2 ln2 ∧ fT [34] L cl iv rv iv2 rv2 ∧ WT (g0 G) sk L2 cl2 ln2 iv2 rv2 ∧ ty L2 cl2 f 34 ∧ (ln2 f = n.toNat ∧ ∀ j : Nat, j < ln a0 → iv2 f j = iv a0 j)) := by
  refine Mc.mk (by decide) (Nat.le_of_ble_eq_true rfl) ?_
  intro p e s m args below meth c A C hM
  refine hv3 ((show zPf ln rv ≤ 0 from Nat.le_refl 0)) (show XT L cl ln L cl ln from XT.refl) (show fT [34] L cl iv rv iv rv from fT.refl) (fun hph hX0 hF0 => ?_)
  refine c_iload_n (j := 1) C dJ7_copyOf_59c91_0 rfl ?_
  refine c_aload_n (j := 0) (x := a0) C dJ7_copyOf_59c91_1 rfl ?_
  have ll1 : 16 ≤ ln a0 ∧ ln a0 ≤ 8000 := hW.len t_a0 rfl
  refine c_alenI C dJ7_copyOf_59c91_2 t_a0 rfl ?_
  refine c_icmp_ne (tgt := 14) C ⟨by omega, by omega⟩ ⟨by omega, by omega⟩ dJ7_copyOf_59c91_3 (by decide) (fun _ => ?_) (fun z => absurd z (by omega))
  refine c_iload_n (j := 1) C dJ7_copyOf_59c91_14 rfl ?_
  refine c_newaI (z := n) (N := n.toNat) C 34 dJ7_copyOf_59c91_15 w1_57 rfl (by omega) (by omega) (rom2 hph hph (by omega)) (fun qn1 cln1 lnn1 ivn1 rvn1 hqn1 hcn1 hln1 hin1 hrn1 => ⟨(0 + (16 + n.toNat)), (z_in (by omega)), ?_⟩)
  refine c_g0 C (fun hg1 => ?_)
  refine hv5 (show ∀ b, b ≠ qn1 → lnn1 b = ln b from (fun b hb => by rw [hln1]; exact va_up_ne _ _ hb)) (show lnn1 qn1 = n.toNat from by rw [hln1]; exact va_up_self _ _ _) (hF0.new hX0 hqn1 hin1 hrn1) (show ty (L ++ [qn1]) cln1 qn1 34 from ty_new hcn1) (show qn1 ∉ L from fun h => hqn1 ((hX0 qn1 h).1)) (fun hxn1 lqn1 F1 tqn1 h0qn1 => ?_)
  refine hv2 (hW.new (ln2 := lnn1) hqn1 (hg1 qn1 (List.mem_append_right _ List.mem_cons_self)) hcn1 hxn1 hin1 hrn1 (fun _ => ⟨(show (-2147483648 : Int) ≤ 0 by decide), (show (0 : Int) ≤ 2147483647 by decide)⟩) (Or.inr (fun _ => rfl)) (fun _ => by show 16 ≤ lnn1 qn1 ∧ lnn1 qn1 ≤ 8000; omega) rfl rfl) (XT.new hqn1 hcn1 hxn1) (fun W1 xl1 => ?_)
  refine hv2 (hX0.trans xl1) (xl1.skl hS) (fun X1 sk1 => ?_)
  refine c_astore_n (lv2 := [(2, .ref qn1), (0, .ref a0), (1, .int (iI n))]) C dJ7_copyOf_59c91_17 (by decide) rfl ?_
  refine c_aload_n (j := 1) (x := a0) C dJ7_copyOf_59c91_18 rfl ?_
  refine c_iconst C dJ7_copyOf_59c91_19 ?_
  refine c_aload_n (j := 0) (x := qn1) C dJ7_copyOf_59c91_20 rfl ?_
  refine c_iconst C dJ7_copyOf_59c91_21 ?_
  refine c_aload_n (j := 1) (x := a0) C dJ7_copyOf_59c91_22 rfl ?_
  have ty1 := xl1.ty t_a0
  have ll2 : 16 ≤ lnn1 a0 ∧ lnn1 a0 ≤ 8000 := W1.len ty1 rfl
  refine c_alenI C dJ7_copyOf_59c91_23 ty1 rfl ?_
  refine c_iload_n (j := 2) C dJ7_copyOf_59c91_24 rfl ?_
  obtain ⟨mn1, hmn1, emn1⟩ := mmin_c (x := ((lnn1 a0 : Nat) : Int)) (y := n) ⟨by omega, by omega⟩ ⟨by omega, by omega⟩
  refine c_mmin (w := iI mn1) C dJ7_copyOf_59c91_25 w2_128 w2_129 w1_14 w2_130 (by decide) (rom0 hph (Nat.le_refl 0) (by omega)) (Nat.le_of_ble_eq_true rfl) emn1 ?_
  have ll3 : 16 ≤ lnn1 qn1 ∧ lnn1 qn1 ≤ 8000 := W1.len tqn1 rfl
  refine c_copyi (sp := 0) (dp := 0) (n := mn1) C dJ7_copyOf_59c91_28 w2_131 w2_133 w2_132 w1_15 ty1 rfl tqn1 rfl (by omega) (by omega) (by omega) (by omega) (by omega) (by omega) (by omega) (by decide) (Nat.le_of_ble_eq_true rfl) (fun iv1 pq1 => ?_)
  refine hv2 (W1.copy pq1 tqn1 ty1 (fun _ => rfl) (fun _ => rfl) (fun _ => rfl) (fun _ => rfl) rfl) (F1.copy X1 pq1 tqn1 rfl) (fun W2 F2 => ?_)
  refine c_aload_n (j := 0) (x := qn1) C dJ7_copyOf_59c91_31 rfl ?_
  have le1 : lnn1 a0 = ln a0 := (xl1 a0 t_a0.1).2.2
  exact c_aret (x := some qn1) C dJ7_copyOf_59c91_32 rfl (Or.inr ⟨_, rfl⟩) (by omega) (rom0 hph (Nat.le_refl 0) (by omega)) ⟨qn1, rfl, X1, F2, W2, tqn1, ⟨lqn1, fun j hj => by
      rw [pq1]
      show (if qn1 = qn1 then (if (0 : Int).toNat ≤ j ∧ j < (0 : Int).toNat + mn1.toNat then ivn1 a0 ((0 : Int).toNat + (j - (0 : Int).toNat)) else ivn1 qn1 j) else ivn1 qn1 j) = _
      rw [if_pos rfl, if_pos ⟨by omega, by omega⟩, hin1, congrFun (up0_a (ne_in t_a0.1 hqn1)) _]
      exact congrArg (iv a0) (by omega)⟩⟩
set_option maxHeartbeats 4000000 in
set_option maxRecDepth 100000 in
theorem G_add_4 {l : Launch} {G : GT} {mi : Nat} {sk : Nat → Nat} {L : List Nat} {cl ln : Nat → Nat} {iv : Nat → Nat → Int} {rv : Nat → Nat → Option Nat}  {a0 : Nat} {x : Int} (hW : WT (g0 G) sk L cl ln iv rv) (hS : SKL sk L cl) (t_a0 : ty L cl a0 4) (h_x : -2147483648 ≤ x ∧ x ≤ 2147483647)  : Mc l G mi (Phi (g0 G) sk) PHM yX1_add cX1_add 2 none 2 [.ref a0, .int (iI x)] L cl ln iv rv 0 (fun v L2 cl2 ln2 iv2 rv2 => v = none ∧ XT L cl ln L2 cl2 ln2 ∧ fT [4, 34] L cl iv rv iv2 rv2 ∧ WT (g0 G) sk L2 cl2 ln2 iv2 rv2 ∧ (((iv2 a0 2 = iv a0 2 ∧ iv a0 2 = 4000) ∨ (iv2 a0 2 = iv a0 2 + 1 ∧ iv a0 2 < 4000)) ∧ (∀ ss, CT iv rv a0 ss → iv a0 2 < 4000 → CT iv2 rv2 a0 (va_up ss (iv a0 2).toNat x)) ∧ (iv a0 2 = 4000 → ∀ ss, CT iv rv a0 ss → CT iv2 rv2 a0 ss))) := by
  refine Mc.mk (by decide) (Nat.le_of_ble_eq_true rfl) ?_
  intro p e s m args below meth c A C hM
  refine hv3 (Phi.le hW hS) (show XT L cl ln L cl ln from XT.refl) (show fT [4, 34] L cl iv rv iv rv from fT.refl) (fun hph hX0 hF0 => ?_)
  refine c_aload_n (j := 0) (x := a0) C dX1_add_0 rfl ?_
  have ri1 : 0 ≤ iv a0 2 ∧ iv a0 2 ≤ 4000 := hW.int t_a0 2
  refine c_get (k := 2) C ck_2 dX1_add_1 w1_43 (by decide) t_a0 rfl rfl (by decide) rfl ?_
  refine c_aload_n (j := 0) (x := a0) C dX1_add_4 rfl ?_
  have ri2 : 4000 ≤ iv a0 0 ∧ iv a0 0 ≤ 4000 := hW.int t_a0 0
  refine c_get (k := 0) C ck_2 dX1_add_5 w1_38 (by decide) t_a0 rfl rfl (by decide) rfl ?_
  refine c_icmp_lt (tgt := 12) C (r32_c (lo := 0) (hi := 4000) ri1.1 ri1.2 (by decide) (by decide)) (r32_c (lo := 4000) (hi := 4000) ri2.1 ri2.2 (by decide) (by decide)) dX1_add_8 (by decide) (fun c1 => ?_) (fun c1 => ?_)
  · refine c_aload_n (j := 0) (x := a0) C dX1_add_12 rfl ?_
    refine c_get (k := 2) C ck_2 dX1_add_13 w1_43 (by decide) t_a0 rfl rfl (by decide) rfl ?_
    refine c_aload_n (j := 0) (x := a0) C dX1_add_16 rfl ?_
    obtain ⟨rb1, rq1, trb1⟩ := hW.ref t_a0 1 rfl rfl rfl
    refine hv2 (show 16 ≤ ln rb1 ∧ ln rb1 ≤ 8000 from hW.len trb1 rfl) (hW.isz t_a0 rfl rfl rq1) (fun lnrb1 szrb1 => ?_)
    refine c_getr (k := 1) C ck_2 dX1_add_17 w1_39 (by decide) t_a0 rfl rfl (by decide) rfl rq1 ?_
    refine c_st (st2 := [.ref rb1, .int (iI (iv a0 2))]) rfl ?_
    have ll1 : 16 ≤ ln rb1 ∧ ln rb1 ≤ 8000 := hW.len trb1 rfl
    refine c_alenI C dX1_add_20 trb1 rfl ?_
    refine c_icmp_lt (tgt := 42) C (r32_c (lo := 0) (hi := 4000) ri1.1 ri1.2 (by decide) (by decide)) ⟨by omega, by omega⟩ dX1_add_21 (by decide) (fun c2 => ?_) (fun c2 => ?_)
    · refine c_aload_n (j := 0) (x := a0) C dX1_add_42 rfl ?_
      refine c_getr (k := 1) C ck_2 dX1_add_43 w1_39 (by decide) t_a0 rfl rfl (by decide) rfl rq1 ?_
      refine c_st (st2 := [.ref rb1]) rfl ?_
      refine c_aload_n (j := 0) (x := a0) C dX1_add_46 rfl ?_
      refine c_get (k := 2) C ck_2 dX1_add_47 w1_43 (by decide) t_a0 rfl rfl (by decide) rfl ?_
      refine c_iload_n (j := 1) C dX1_add_50 rfl ?_
      refine c_iast (x := x) C dX1_add_51 trb1 rfl (by omega) (by omega) (by omega) (fun iv1 pq1 => ?_)
      refine hv2 (hW.puti pq1 trb1 (show (-2147483648) ≤ x ∧ x ≤ 2147483647 by omega) rfl) (hF0.puti hX0 pq1 trb1 rfl) (fun W1 F1 => ?_)
      refine c_aload_n (j := 0) (x := a0) C dX1_add_52 rfl ?_
      refine c_dup C dX1_add_53 rfl ?_
      refine hv2 (show 0 ≤ iv1 a0 2 ∧ iv1 a0 2 ≤ 4000 from W1.int t_a0 2) (show iv1 a0 2 = iv a0 2 from by rw [pq1]; exact up2_k (ne_ty t_a0 trb1 (by decide))) (fun ri3 ie1 => ?_)
      refine c_get (k := 2) C ck_2 dX1_add_54 w1_43 (by decide) t_a0 rfl rfl (by decide) rfl ?_
      refine c_iconst C dX1_add_57 ?_
      refine c_iadd C dX1_add_58 ?_
      refine c_put (z := (iv1 a0 2) + 1) (k := 2) C ck_2 dX1_add_59 w1_43 (by decide) rfl t_a0 rfl rfl (by decide) rfl (by rfl) (by rfl) (fun iv2 pq2 => ?_)
      refine hv3 (W1.isz_put pq2 t_a0 (show 0 ≤ ((iv1 a0 2) + 1) ∧ ((iv1 a0 2) + 1) ≤ 4000 by omega) rfl rfl rq1 (show ((iv1 a0 2) + 1) ≤ ((ln rb1 : Nat) : Int) by omega)) (F1.puti hX0 pq2 t_a0 rfl) (show iv2 a0 2 = (iv1 a0 2) + 1 from by rw [pq2]; exact up2_s) (fun W2 F2 ie2 => ?_)
      have ri4 : 0 ≤ iv2 a0 2 ∧ iv2 a0 2 ≤ 4000 := W2.int t_a0 2
      exact c_vret C dX1_add_62 rfl (by decide) (rom0 hph hph (by decide)) ⟨rfl, hX0, F2, W2, ⟨by omega, (fun ss hs hq b2 hb j hj => by
          rw [rq1] at hb
          cases hb
          rw [pq2, up2_k (ne_ty trb1 t_a0 (by decide)), pq1]
          by_cases e : j = (iv a0 2).toNat
          · subst e; rw [up2_s, va_up_self]
          · rw [up2_j e, va_up_ne _ _ e]; exact hs _ rq1 j (by omega)), (fun e => absurd e (by omega))⟩⟩
    · refine c_aload_n (j := 0) (x := a0) C dX1_add_24 rfl ?_
      refine c_aload_n (j := 0) (x := a0) C dX1_add_25 rfl ?_
      refine c_getr (k := 1) C ck_2 dX1_add_26 w1_39 (by decide) t_a0 rfl rfl (by decide) rfl rq1 ?_
      refine c_st (st2 := [.ref rb1, .ref a0]) rfl ?_
      refine c_aload_n (j := 0) (x := a0) C dX1_add_29 rfl ?_
      refine c_getr (k := 1) C ck_2 dX1_add_30 w1_39 (by decide) t_a0 rfl rfl (by decide) rfl rq1 ?_
      refine c_st (st2 := [.ref rb1, .ref rb1, .ref a0]) rfl ?_
      refine c_alenI C dX1_add_33 trb1 rfl ?_
      refine c_iconst C dX1_add_34 ?_
      refine c_imul C dX1_add_35 ?_
      refine c_g0 C (fun hg0 => ?_)
      refine hv2 (hW.sk t_a0 (by decide) rfl) (cap_of (ln := ln) rq1 (hg0 rb1 trb1.1)) (fun ask0 cp0 => ?_)
      have sl0 := Phi.slack (t := 4) (n := ln rb1) hW hS ⟨by decide, by decide⟩ (by rw [← ask0]; exact cp0) (by show ln rb1 ≤ 4000; omega)
      refine c_callS (As := [.ref rb1, .int (iI (((ln rb1 : Nat) : Int) * 2))]) (rest := [.ref a0]) C hM (G_copyOf_4 (a0 := rb1) (n := ((ln rb1 : Nat) : Int) * 2) hW hS trb1 (by omega) (by show ((ln rb1 : Nat) : Int) < (((ln rb1 : Nat) : Int) * 2) ∧ 16 ≤ (((ln rb1 : Nat) : Int) * 2) ∧ (((ln rb1 : Nat) : Int) * 2) ≤ 8000; omega)) dX1_add_36 kS_X1_20 rfl rfl (Nat.le_of_ble_eq_true rfl) ⟨(Nat.le_of_ble_eq_true rfl), (Nat.le_of_ble_eq_true rfl)⟩ (by unfold zPf; omega) (fun rh1 Lh1 clh1 lnh1 ivh1 rvh1 h1 => ⟨(0 + (16 + (((ln rb1 : Nat) : Int) * 2).toNat)), (zk1 (by obtain ⟨_, _, xlh1x, flh1x, Wh1x, _⟩ := h1; exact Phi.fr hW hS xlh1x flh1x rfl)), ?_⟩)
      obtain ⟨f1, rfl, xl1, fl1, W3, rgf1, exf1⟩ := h1
      refine hv3 (hF0.call hX0 fl1 rfl) (hX0.trans xl1) (xl1.skl hS) (fun F3 X1 sk1 => ?_)
      refine c_st (st2 := [.ref f1, .ref a0]) rfl ?_
      refine hv3 (show lnh1 f1 = (((ln rb1 : Nat) : Int) * 2).toNat ∧ ∀ j : Nat, j < ln rb1 → ivh1 f1 j = iv rb1 j from exf1) (xl1.ty t_a0) (show rvh1 a0 1 = rv a0 1 from (fl1.r t_a0 rfl 1)) (fun gf1 ty1 re1 => ?_)
      rw [rq1] at re1
      refine hv4 (show 0 ≤ ivh1 a0 2 ∧ ivh1 a0 2 ≤ 4000 from W3.int ty1 2) (show ivh1 a0 2 = iv a0 2 from fl1.i t_a0 rfl 2) (xl1.ty trb1) (show lnh1 rb1 = ln rb1 from (xl1 rb1 trb1.1).2.2) (fun ri5 ie3 ty2 le1 => ?_)
      refine c_g0 C (fun hg1 => ?_)
      refine hv2 (W3.sk ty1 (by decide) rfl) (cap_of (ln := lnh1) re1 (hg1 rb1 ty2.1)) (fun ask cpo => ?_)
      refine c_putr (x := (some f1)) (k := 1) C ck_2 dX1_add_39 w1_39 (by decide) rfl ty1 rfl rfl (by decide) rfl (by rfl) (by rfl) (fun rv1 pq3 => ⟨0, (by have gr := Phi.grow (g := g0 G) (rv2 := rv1) (rv := rvh1) (b := f1) (ln := lnh1) (t := 4) sk1 (by rw [← ask]; exact pq3) (hg1 f1 rgf1.1) (Or.inl ⟨by decide, by decide⟩); rw [← ask] at gr; have gr2 : Phi (g0 G) sk lnh1 rv1 + 3 * cap (g0 G) lnh1 rvh1 a0 = Phi (g0 G) sk lnh1 rvh1 + 3 * lnh1 f1 := gr; omega), ?_⟩)
      refine hv2 (W3.putit pq3 ty1 rfl rfl rgf1 (by omega)) (F3.putr X1 pq3 ty1 rfl) (fun W4 F4 => ?_)
      refine c_aload_n (j := 0) (x := a0) C dX1_add_42 rfl ?_
      have rp1 : rv1 a0 1 = (some f1) := by rw [pq3]; exact upr_s
      refine c_getr (k := 1) C ck_2 dX1_add_43 w1_39 (by decide) ty1 rfl rfl (by decide) rfl rp1 ?_
      refine c_st (st2 := [.ref f1]) rfl ?_
      refine c_aload_n (j := 0) (x := a0) C dX1_add_46 rfl ?_
      refine c_get (k := 2) C ck_2 dX1_add_47 w1_43 (by decide) ty1 rfl rfl (by decide) rfl ?_
      refine c_iload_n (j := 1) C dX1_add_50 rfl ?_
      have ll2 : 16 ≤ lnh1 f1 ∧ lnh1 f1 ≤ 8000 := W4.len rgf1 rfl
      refine c_iast (x := x) C dX1_add_51 rgf1 rfl (by omega) (by omega) (by omega) (fun iv3 pq4 => ?_)
      refine hv2 (W4.puti pq4 rgf1 (show (-2147483648) ≤ x ∧ x ≤ 2147483647 by omega) rfl) (F4.puti X1 pq4 rgf1 rfl) (fun W5 F5 => ?_)
      refine c_aload_n (j := 0) (x := a0) C dX1_add_52 rfl ?_
      refine c_dup C dX1_add_53 rfl ?_
      refine hv2 (show 0 ≤ iv3 a0 2 ∧ iv3 a0 2 ≤ 4000 from W5.int ty1 2) (show iv3 a0 2 = ivh1 a0 2 from by rw [pq4]; exact up2_k (ne_ty ty1 rgf1 (by decide))) (fun ri6 ie4 => ?_)
      refine c_get (k := 2) C ck_2 dX1_add_54 w1_43 (by decide) ty1 rfl rfl (by decide) rfl ?_
      refine c_iconst C dX1_add_57 ?_
      refine c_iadd C dX1_add_58 ?_
      refine c_put (z := (iv3 a0 2) + 1) (k := 2) C ck_2 dX1_add_59 w1_43 (by decide) rfl ty1 rfl rfl (by decide) rfl (by rfl) (by rfl) (fun iv4 pq5 => ?_)
      refine hv3 (W5.isz_put pq5 ty1 (show 0 ≤ ((iv3 a0 2) + 1) ∧ ((iv3 a0 2) + 1) ≤ 4000 by omega) rfl rfl rp1 (show ((iv3 a0 2) + 1) ≤ ((lnh1 f1 : Nat) : Int) by omega)) (F5.puti X1 pq5 ty1 rfl) (show iv4 a0 2 = (iv3 a0 2) + 1 from by rw [pq5]; exact up2_s) (fun W6 F6 ie5 => ?_)
      refine hv2 (show 0 ≤ iv4 a0 2 ∧ iv4 a0 2 ≤ 4000 from W6.int ty1 2) (Phi.le W6 sk1) (fun ri7 pl1 => ?_)
      exact c_vret C dX1_add_62 rfl (by decide) (rom0 hph pl1 (by decide)) ⟨rfl, X1, F6, W6, ⟨by omega, (fun ss hs hq b2 hb j hj => by
          rw [rp1] at hb
          cases hb
          rw [pq5, up2_k (ne_ty rgf1 ty1 (by decide)), pq4]
          by_cases e : j = (iv a0 2).toNat
          · subst e; rw [show (iv a0 2).toNat = (ivh1 a0 2).toNat from congrArg Int.toNat (by omega), up2_s, va_up_self]
          · rw [up2_j (fun e2 => e (e2.trans (congrArg Int.toNat (by omega)))), va_up_ne _ _ e, gf1.2 j (by omega)]; exact hs _ rq1 j (by omega)), (fun e => absurd e (by omega))⟩⟩
  · exact c_vret C dX1_add_11 rfl (by decide) (rom0 hph hph (by decide)) ⟨rfl, hX0, hF0, hW, ⟨by omega, (fun ss hs hq => absurd hq (by omega)), fun _ ss hs => hs⟩⟩
def AAI (iv : Nat → Nat → Int) (rv : Nat → Nat → Option Nat) (iv1 : Nat → Nat → Int) (rv1 : Nat → Nat → Option Nat) (q r : Nat) (k : Int) : Prop := ∀ bs, iv q 2 = 0 → BYT iv rv r 4001 bs → bs.length ≤ 4000 → iv1 q 2 = k ∧ CT iv1 rv1 q (fun j => (bs[j]?).getD 0)
def AAQ (iv : Nat → Nat → Int) (rv : Nat → Nat → Option Nat) (iv2 : Nat → Nat → Int) (rv2 : Nat → Nat → Option Nat) (q r : Nat) : Prop := ∀ bs, iv q 2 = 0 → BYT iv rv r 4001 bs → bs.length ≤ 4000 → iv2 q 2 = ((bs.length : Nat) : Int) ∧ CT iv2 rv2 q (fun j => (bs[j]?).getD 0)
def RKP (iv : Nat → Nat → Int) (rv : Nat → Nat → Option Nat) (h0 : Nat) (x k : Int) : Prop := ∀ sA, rv h0 9 = some sA → ∀ E : List (Option (List Int)), SHT iv rv sA E → ROK E x k
def PRD (sk ln : Nat → Nat) (iv : Nat → Nat → Int) (rv : Nat → Nat → Option Nat) (iv2 : Nat → Nat → Int) (rv2 : Nat → Nat → Option Nat) (h0 : Nat) (hy t x n f : Int) : Prop := ∀ v a, TRL sk ln iv rv v a → hy = v 33 → (∀ j, a 16 j ≤ 4) → ∀ sA, rv h0 9 = some sA → ∀ E : List (Option (List Int)), SHT iv rv sA E → E.length ≤ 200 → (¬ OKR v a E t x n ∧ f = -1 ∧ iv2 (sk 4) 2 = iv (sk 4) 2 ∧ ∀ ss, CT iv rv (sk 4) ss → CT iv2 rv2 (sk 4) ss) ∨ (OKR v a E t x n ∧ ∃ bs, RDA a (gat0 a t) (gat1 a t) (RR0 (chl E (v 33) x n.toNat)) f bs ∧ iv2 (sk 4) 2 = ((bs.length : Nat) : Int) ∧ CT iv2 rv2 (sk 4) (fun j => (bs[j]?).getD 0))
section RDPS
variable {h : Nat} {sk : Nat → Nat} {L L1 : List Nat} {cl ln cl1 ln1 : Nat → Nat} {iv iv1 iv2 : Nat → Nat → Int} {rv rv1 rv2 : Nat → Nat → Option Nat} {q r b h0 sA w : Nat} {x y z k f n t hy : Int} {E : List (Option (List Int))} {ls : List Nat} {bs : List Int}
theorem AAI.init : AAI iv rv iv rv q r 0 := fun bs h1 _ _ => ⟨h1, CT.zero h1⟩
theorem AAI.step (hI : AAI iv rv iv1 rv1 q r k) (hb : rv r 1 = some b) (hk : 0 ≤ k ∧ k < iv r 2) (hx : x = iv b k.toNat) (g : ∀ ss, CT iv1 rv1 q ss → iv1 q 2 < 4000 → CT iv2 rv2 q (va_up ss (iv1 q 2).toNat x)) (hs : (iv2 q 2 = iv1 q 2 ∧ iv1 q 2 = 4000) ∨ (iv2 q 2 = iv1 q 2 + 1 ∧ iv1 q 2 < 4000)) : AAI iv rv iv2 rv2 q r (k + 1) := fun bs h1 h2 h3 => by
  obtain ⟨g1, g2⟩ := hI bs h1 h2 h3
  have e := h2.1
  have w := g _ g2 (by omega)
  refine ⟨by omega, ?_⟩
  have lt : k.toNat < bs.length := by omega
  have e2 := List.getElem?_eq_getElem lt
  have e3 := h2.2 b hb k.toNat _ (by omega) e2
  have ee : va_up (fun j => (bs[j]?).getD 0) (iv1 q 2).toNat x = fun j => (bs[j]?).getD 0 := by
    funext j
    unfold va_up
    split
    · rename_i ej
      rw [ej, show (iv1 q 2).toNat = k.toNat by omega, e2, hx, e3]
      rfl
    · rfl
  rw [ee] at w
  exact w
theorem AAI.fin (hI : AAI iv rv iv1 rv1 q r k) (hk : k = iv r 2) : AAQ iv rv iv1 rv1 q r := fun bs h1 h2 h3 => by
  obtain ⟨g1, g2⟩ := hI bs h1 h2 h3
  have e := h2.1
  exact ⟨by omega, g2⟩
theorem wrp2 (e : iI (x + k) = iI z) (hz : -2147483648 ≤ z ∧ z ≤ 2147483647) (hx : -2147483648 ≤ x ∧ x ≤ 2147483647) (hk : 0 ≤ k ∧ k ≤ 2147483647) : z = x + k ∨ (2147483647 < x + k ∧ z < 0) := by
  by_cases c : x + k ≤ 2147483647
  · exact Or.inl (iI_ij e ⟨by omega, by omega⟩ hz).symm
  · refine Or.inr ⟨by omega, ?_⟩
    have e1 : iI (x + k) = iI (x + k - 4294967296) := by
      show Int32.ofInt (x + k) = Int32.ofInt (x + k - 4294967296)
      rw [Int32.ofInt_sub, show Int32.ofInt 4294967296 = 0 from by decide, Int32.sub_zero]
    rw [e1] at e
    have e3 := iI_ij e ⟨by omega, by omega⟩ hz
    omega
theorem RKP.zero : RKP iv rv h0 x 0 := fun _ _ _ _ i h1 h2 => absurd h1 (by omega)
theorem RKP.step (hI : RKP iv rv h0 x k) (hA : rv h0 9 = some sA) (hS : SAM iv rv iv1 rv1 sA) (hx : PRX iv1 rv1 sA z (some w)) (hz : iI (x + k) = iI z) (hzr : -2147483648 ≤ z ∧ z ≤ 2147483647) (hxr : -2147483648 ≤ x ∧ x ≤ 2147483647) (hk : 0 ≤ k ∧ k ≤ 2147483647) : RKP iv rv h0 x (k + 1) := fun sA' e E hE i h1 h2 => by
  by_cases c : i < k
  · exact hI sA' e E hE i h1 c
  · rw [hA] at e; cases e
    obtain ⟨s1, s2⟩ := hx.smt
    obtain ⟨xs, p1, _⟩ := (hE.sam hS).prs s1 s2
    have z0 : 0 ≤ z := by
      rcases s1 with ⟨⟨q, _⟩, _⟩ | ⟨_, q⟩
      · exact q
      · cases q
    rw [show i = k by omega]
    rcases wrp2 hz hzr hxr hk with e2 | ⟨_, e2⟩
    · rw [← e2]
      exact ⟨xs, p1⟩
    · omega
theorem RKP.bad (hA : rv h0 9 = some sA) (hS : SAM iv rv iv1 rv1 sA) (hx : PRX iv1 rv1 sA z none) (hz : iI (x + k) = iI z) (hzr : -2147483648 ≤ z ∧ z ≤ 2147483647) (hxr : -2147483648 ≤ x ∧ x ≤ 2147483647) (hk : 0 ≤ k ∧ k < n ∧ n ≤ 2147483647) (hE : SHT iv rv sA E) (hl : E.length ≤ 200) : ¬ ROK E x n := fun hr => by
  refine hv2 ((hx.non (hE.sam hS))) (hr.rng (k := k) ⟨hk.1, hk.2.1⟩) (fun g rg => ?_)
  obtain ⟨xs, e⟩ := hr k hk.1 hk.2.1
  rcases wrp2 hz hzr hxr ⟨hk.1, by omega⟩ with e2 | ⟨e2, _⟩
  · rw [← e2] at e
    exact g ⟨xs, e⟩
  · omega
end RDPS
set_option maxHeartbeats 4000000 in
set_option maxRecDepth 100000 in
theorem G_addAll {l : Launch} {G : GT} {mi : Nat} {sk : Nat → Nat} {L : List Nat} {cl ln : Nat → Nat} {iv : Nat → Nat → Int} {rv : Nat → Nat → Option Nat}  {a0 : Nat} {a1 : Nat} (hW : WT (g0 G) sk L cl ln iv rv) (hS : SKL sk L cl) (t_a0 : ty L cl a0 4) (t_a1 : ty L cl a1 10)  : Mc l G mi (Phi (g0 G) sk) PHM yX1_addAll cX1_addAll 3 none 3 [.ref a0, .ref a1] L cl ln iv rv 0 (fun v L2 cl2 ln2 iv2 rv2 => v = none ∧ XT L cl ln L2 cl2 ln2 ∧ fT [4, 34] L cl iv rv iv2 rv2 ∧ WT (g0 G) sk L2 cl2 ln2 iv2 rv2 ∧ (AAQ iv rv iv2 rv2 a0 a1)) := by
  refine Mc.mk (by decide) (Nat.le_of_ble_eq_true rfl) ?_
  intro p e s m args below meth c A C hM
  refine hv5 (Phi.le hW hS) (show XT L cl ln L cl ln from XT.refl) (show fT [4, 34] L cl iv rv iv rv from fT.refl) (show 0 ≤ iv a0 2 ∧ iv a0 2 ≤ 4000 from hW.int t_a0 2) (show 0 ≤ iv a1 2 ∧ iv a1 2 ≤ 4001 from hW.int t_a1 2) (fun hph hX0 hF0 ri1 ri2 => ?_)
  obtain ⟨b9, hb9, tb9⟩ := hW.ref t_a1 1 rfl rfl rfl
  have ll9 := hW.isz t_a1 rfl rfl hb9
  refine c_iconst C dX1_addAll_0 ?_
  refine c_istore_n (lv2 := [(2, .int (iI 0)), (0, .ref a0), (1, .ref a1)]) C dX1_addAll_1 (by decide) rfl ?_
  have Lp1 : ∀ (nn : Nat) (k : Int) (Lb1 : List Nat) (clb1 lnb1 : Nat → Nat) (ivb1 : Nat → Nat → Int) (rvb1 : Nat → Nat → Option Nat) , 4002 - k < (nn : Int) → XT L cl ln Lb1 clb1 lnb1 → WT (g0 G) sk Lb1 clb1 lnb1 ivb1 rvb1 → fT [4, 34] L cl iv rv ivb1 rvb1 → (0 ≤ k ∧ k ≤ iv a1 2) → (AAI iv rv ivb1 rvb1 a0 a1 k) → cw p l e 3 ((PHM) + 0 - ((Phi (g0 G) sk) ln rv)) s m args below meth c G A 3 (MQ below (Qu G A (Qp G (Phi (g0 G) sk) ((Phi (g0 G) sk) ln rv) 0 (fun v L2 cl2 ln2 iv2 rv2 => v = none ∧ XT L cl ln L2 cl2 ln2 ∧ fT [4, 34] L cl iv rv iv2 rv2 ∧ WT (g0 G) sk L2 cl2 ln2 iv2 rv2 ∧ (AAQ iv rv iv2 rv2 a0 a1)))) args s (((PHM) + 0 - ((Phi (g0 G) sk) ln rv)) / 16) ((PHM) + 0 - ((Phi (g0 G) sk) ln rv)) A) (Phi (g0 G) sk) ((Phi (g0 G) sk) ln rv) Lb1 clb1 lnb1 ivb1 rvb1 0 2 [(2, .int (iI k)), (0, .ref a0), (1, .ref a1)] [] := by
    intro nn
    induction nn with
    | zero =>
      intro  k Lb1 clb1 lnb1 ivb1 rvb1 hm Xb1 Wb1 Fb1  hk hI
      have skb1 := Xb1.skl hS
      exact absurd hm (by omega)
    | succ nn ih1 =>
      intro  k Lb1 clb1 lnb1 ivb1 rvb1 hm Xb1 Wb1 Fb1  hk hI
      have skb1 := Xb1.skl hS
      refine c_iload_n (j := 0) C dX1_addAll_2 rfl ?_
      refine c_aload_n (j := 2) (x := a1) C dX1_addAll_3 rfl ?_
      refine hv2 (Xb1.ty t_a1) (show ivb1 a1 2 = iv a1 2 from Fb1.i t_a1 rfl 2) (fun ty1 ie1 => ?_)
      have ri3 : 0 ≤ ivb1 a1 2 ∧ ivb1 a1 2 ≤ 4001 := Wb1.int ty1 2
      refine c_get (k := 2) C ck_2 dX1_addAll_4 w1_43 (by decide) ty1 rfl rfl (by decide) rfl ?_
      refine c_icmp_ge (tgt := 26) C ⟨by omega, by omega⟩ (r32_c (lo := 0) (hi := 4001) ri3.1 ri3.2 (by decide) (by decide)) dX1_addAll_7 (by decide) (fun c1 => ?_) (fun c1 => ?_)
      · have pl1 := Phi.le Wb1 skb1
        exact c_vret C dX1_addAll_26 rfl (by decide) (rom0 hph pl1 (by decide)) ⟨rfl, Xb1, Fb1, Wb1, (hI.fin (by omega))⟩
      · refine c_aload_n (j := 1) (x := a0) C dX1_addAll_10 rfl ?_
        refine c_aload_n (j := 2) (x := a1) C dX1_addAll_11 rfl ?_
        have re1 : rvb1 a1 1 = rv a1 1 := (Fb1.r t_a1 rfl 1)
        rw [hb9] at re1
        refine c_getr (k := 1) C ck_2 dX1_addAll_12 w1_39 (by decide) ty1 rfl rfl (by decide) rfl re1 ?_
        refine c_st (st2 := [.ref b9, .ref a0]) rfl ?_
        refine c_iload_n (j := 0) C dX1_addAll_15 rfl ?_
        refine hv2 (Xb1.ty tb9) (show lnb1 b9 = ln b9 from (Xb1 b9 tb9.1).2.2) (fun ty2 le1 => ?_)
        have ll1 : 16 ≤ lnb1 b9 ∧ lnb1 b9 ≤ 8002 := Wb1.len ty2 rfl
        refine c_iald C dX1_addAll_16 ty2 rfl (by omega) (by omega) (by omega) ?_
        refine hv4 (show (-2147483648) ≤ ivb1 b9 k.toNat ∧ ivb1 b9 k.toNat ≤ 2147483647 from Wb1.int ty2 k.toNat) (show ivb1 b9 k.toNat = iv b9 k.toNat from Fb1.i tb9 rfl k.toNat) (Xb1.ty t_a0) (Phi.le Wb1 skb1) (fun ri4 ie2 ty3 pl2 => ?_)
        have ri5 : 0 ≤ ivb1 a0 2 ∧ ivb1 a0 2 ≤ 4000 := Wb1.int ty3 2
        refine d_callV (As := [.int (iI (ivb1 b9 k.toNat))]) (rest := []) C hM (G_add_4 (a0 := a0) (x := ivb1 b9 k.toNat) Wb1 skb1 ty3 (by omega) ) dX1_addAll_17 kV_X1_26 rfl ty3 rfl rfl (by decide) ck_2 rfl (Nat.le_of_ble_eq_true rfl) ⟨(Nat.le_of_ble_eq_true rfl), (Nat.le_of_ble_eq_true rfl)⟩ hph pl2 (show 0 + 0 = 0 from rfl) (by decide) (fun rh1 Lh1 clh1 lnh1 ivh1 rvh1 h1 => ?_)
        obtain ⟨rfl, xl1, fl1, W1, exf1⟩ := h1
        refine hv3 (Fb1.call Xb1 fl1 rfl) (Xb1.trans xl1) (xl1.skl skb1) (fun F1 X1 sk1 => ?_)
        refine c_st (st2 := []) rfl ?_
        refine hv2 (xl1.ty ty3) (show ((ivh1 a0 2 = ivb1 a0 2 ∧ ivb1 a0 2 = 4000) ∨ (ivh1 a0 2 = ivb1 a0 2 + 1 ∧ ivb1 a0 2 < 4000)) ∧ (∀ ss, CT ivb1 rvb1 a0 ss → ivb1 a0 2 < 4000 → CT ivh1 rvh1 a0 (va_up ss (ivb1 a0 2).toNat (ivb1 b9 k.toNat))) ∧ (ivb1 a0 2 = 4000 → ∀ ss, CT ivb1 rvb1 a0 ss → CT ivh1 rvh1 a0 ss) from exf1) (fun ty4 gf1 => ?_)
        have ri6 : 0 ≤ ivh1 a0 2 ∧ ivh1 a0 2 ≤ 4000 := W1.int ty4 2
        refine c_iinc (z := k) (j := 0) (lv2 := [(2, .int (iI (k + 1))), (0, .ref a0), (1, .ref a1)]) C dX1_addAll_20 rfl (by decide) rfl ?_
        refine c_goto (tgt := 2) C dX1_addAll_23 (by decide) ?_
        refine hv2 (xl1.ty ty1) (show ivh1 a1 2 = ivb1 a1 2 from fl1.i ty1 rfl 2) (fun ty5 ie5 => ?_)
        have ri7 : 0 ≤ ivh1 a1 2 ∧ ivh1 a1 2 ≤ 4001 := W1.int ty5 2
        refine c_lv (lv2 := [(2, .int (iI (k + 1))), (0, .ref a0), (1, .ref a1)]) [0, 1, 2] rfl ?_
        exact ih1  (k + 1) _ _ _ _ _ (by omega) X1 W1 F1  (by omega) (hI.step hb9 ⟨by omega, by omega⟩ (Fb1.i tb9 rfl k.toNat) gf1.2.1 gf1.1)
  refine c_lv (lv2 := [(2, .int (iI 0)), (0, .ref a0), (1, .ref a1)]) [0, 1, 2] rfl ?_
  exact Lp1 4003 0 _ _ _ _ _ (by omega) hX0 hW hF0  (by omega) AAI.init
end
section
def DFN (sk ln : Nat → Nat) (iv : Nat → Nat → Int) (rv : Nat → Nat → Option Nat) (iv4 : Nat → Nat → Int) (rv4 : Nat → Nat → Option Nat) (sA : Nat) (hy t x n f : Int) : Prop := ∀ v a, TRL sk ln iv rv v a → hy = v 33 → (∀ j, a 16 j ≤ 4) → ∀ E : List (Option (List Int)), SHT iv rv sA E → E.length ≤ 200 → OKR v a E t x n ∧ ((f = 0 ∧ RWG a (gat0 a t) (gat1 a t) (RR0 (chl E (v 33) x n.toNat))) ∨ (f = 1 ∧ ∃ bs, RFN a (gat0 a t) (gat1 a t) (RR0 (chl E (v 33) x n.toNat)) bs ∧ BYT iv4 rv4 (sk 10) 4001 bs))
section DFNS
variable {h : Nat} {sk : Nat → Nat} {L L1 L2 L3 L4 : List Nat} {cl ln cl1 ln1 cl2 ln2 cl3 ln3 cl4 ln4 : Nat → Nat} {iv iv1 iv2 iv3 iv4 iv5 iv6 iv7 : Nat → Nat → Int} {rv rv1 rv2 rv3 rv4 rv5 rv6 rv7 : Nat → Nat → Option Nat} {b h0 sA : Nat} {x f f0 n t hy hy1 : Int} {ls ls3 : List Nat}
theorem DFN.mk (hw : WOX sk ln iv rv t (some b)) (hA : rv h0 9 = some sA) (hK : RKP iv rv h0 x n) (hn : 0 ≤ n) (hS1 : SAM iv rv iv1 rv1 sA) (hA1 : rv1 h0 9 = some sA) (hc : CLX iv1 rv1 h0 sk iv2 rv2 hy1 x n) (hh : hy1 = hy) (hq2 : QT h sk L cl ln iv rv L2 cl2 ln2 iv2 rv2) (hg : GLQ sk ln2 iv2 rv2 b L3 cl3 ln3 iv3 rv3 (sk 24) gat0 ∧ GLQ sk ln2 iv2 rv2 b L3 cl3 ln3 iv3 rv3 (sk 25) gat1) (hb : GBQ sk ln2 iv2 rv2 b iv3 rv3 (sk 24) (sk 6) gat0 ∧ GBQ sk ln2 iv2 rv2 b iv3 rv3 (sk 25) (sk 7) gat1) (hW2 : WT h sk L2 cl2 ln2 iv2 rv2) (t8 : ty L2 cl2 (sk 8) 8) (hF3 : fT ls3 L2 cl2 iv2 rv2 iv3 rv3) (k8 : ls3.contains 8 = false) (k38 : ls3.contains 38 = false) (hd : DEX L3 cl3 ln3 iv3 rv3 sk iv4 rv4 f) : DFN sk ln iv rv iv4 rv4 sA hy t x n f := fun v a hR h33 h16 E hE hl => by
  have hR2 := hR.qq hq2
  obtain ⟨p1, p2, p3⟩ := hw.smt hR
  have ok : OKR v a E t x n := ⟨p3, hn, hK sA hA E hE⟩
  obtain ⟨xs, c1, c2⟩ := hc sA hA1 E (hE.sam hS1) ok.2.2 hl
  rw [hh, h33] at c2
  refine hv2 (hR.nzl h16 p1.1 p1.2) (show ((t.toNat : Nat) : Int) = t from Int.toNat_of_nonneg p1.1) (fun nz ti => ?_)
  have e2 := (hq2.el hR (i := t.toNat) (by omega)).trans p2
  have g0 := hg.1 v a hR2 t.toNat (by omega) e2
  have g1 := hg.2 v a hR2 t.toNat (by omega) e2
  have b0 := hb.1 v a hR2 t.toNat (by omega) e2
  have b1 := hb.2 v a hR2 t.toNat (by omega) e2
  rw [ti] at g0 g1 b0 b1
  have dc : DCX L3 cl3 ln3 iv3 rv3 sk a (gat0 a t) (gat1 a t) (RR0 xs) := ⟨⟨g0, g1⟩, nz.1, nz.2, ⟨b0 nz.1.1, b1 nz.1.2⟩, (c1.fr hW2 t8 hF3 k8 k38).rct⟩
  have w := hd a _ _ _ dc
  rw [c2] at w
  exact ⟨ok, w⟩
theorem PRD.nw (hw : WOX sk ln iv rv t none) (hf : f = -1) (h4 : iv2 (sk 4) 2 = iv (sk 4) 2 ∧ ∀ ss, CT iv rv (sk 4) ss → CT iv2 rv2 (sk 4) ss) : PRD sk ln iv rv iv2 rv2 h0 hy t x n f := fun v a hR _ _ _ _ E _ _ => Or.inl ⟨(fun w => by
  rcases hw v a hR with ⟨_, q⟩ | ⟨b, q, _⟩
  · exact q w.1
  · cases q), hf, h4.1, h4.2⟩
theorem PRD.neg (hn : n < 0) (hf : f = -1) (h4 : iv2 (sk 4) 2 = iv (sk 4) 2 ∧ ∀ ss, CT iv rv (sk 4) ss → CT iv2 rv2 (sk 4) ss) : PRD sk ln iv rv iv2 rv2 h0 hy t x n f := fun v a hR _ _ _ _ E _ _ => Or.inl ⟨fun w => by
  have := w.2.1
  omega, hf, h4.1, h4.2⟩
theorem PRD.bad (hb : ∀ E : List (Option (List Int)), SHT iv rv sA E → E.length ≤ 200 → ¬ ROK E x n) (hA : rv h0 9 = some sA) (hf : f = -1) (h4 : iv2 (sk 4) 2 = iv (sk 4) 2 ∧ ∀ ss, CT iv rv (sk 4) ss → CT iv2 rv2 (sk 4) ss) : PRD sk ln iv rv iv2 rv2 h0 hy t x n f := fun v a hR _ _ sA' e E hE hl => by
  rw [hA] at e; cases e
  exact Or.inl ⟨fun w => hb E hE hl w.2.2, hf, h4.1, h4.2⟩
theorem PRD.wrong (hD : DFN sk ln iv rv iv4 rv4 sA hy t x n f0) (hA : rv h0 9 = some sA) (h0f : f0 = 0) (hf : f = -1) (h4 : iv2 (sk 4) 2 = 0) : PRD sk ln iv rv iv2 rv2 h0 hy t x n f := fun v a hR h33 h16 sA' e E hE hl => by
  rw [hA] at e; cases e
  obtain ⟨ok, g⟩ := hD v a hR h33 h16 E hE hl
  rcases g with ⟨_, g⟩ | ⟨g, _⟩
  · exact Or.inr ⟨ok, [], Or.inr ⟨Or.inl g, hf, rfl⟩, by rw [h4]; rfl, CT.zero h4⟩
  · omega
theorem PRD.many (hD : DFN sk ln iv rv iv4 rv4 sA hy t x n f0) (hA : rv h0 9 = some sA) (h0f : f0 ≠ 0) (hm : 4000 < iv4 (sk 10) 2) (hf : f = -1) (h4 : iv2 (sk 4) 2 = 0) : PRD sk ln iv rv iv2 rv2 h0 hy t x n f := fun v a hR h33 h16 sA' e E hE hl => by
  rw [hA] at e; cases e
  obtain ⟨ok, g⟩ := hD v a hR h33 h16 E hE hl
  rcases g with ⟨g, _⟩ | ⟨_, bs, ⟨s, g1, _⟩, g3⟩
  · exact absurd g h0f
  · have e2 := g3.1
    exact Or.inr ⟨ok, [], Or.inr ⟨Or.inr (g1.ov (by omega)), hf, rfl⟩, by rw [h4]; rfl, CT.zero h4⟩
theorem PRD.ok (hD : DFN sk ln iv rv iv4 rv4 sA hy t x n f0) (hA : rv h0 9 = some sA) (h0f : f0 ≠ 0) (hm : iv4 (sk 10) 2 ≤ 4000) (hB : ∀ bs, BYT iv4 rv4 (sk 10) 4001 bs → BYT iv5 rv5 (sk 10) 4001 bs) (h5 : iv5 (sk 4) 2 = 0) (ha : AAQ iv5 rv5 iv6 rv6 (sk 4) (sk 10)) (hf : f = iv6 (sk 4) 2) (h2 : iv2 (sk 4) 2 = iv6 (sk 4) 2) (hC : ∀ ss, CT iv6 rv6 (sk 4) ss → CT iv2 rv2 (sk 4) ss) : PRD sk ln iv rv iv2 rv2 h0 hy t x n f := fun v a hR h33 h16 sA' e E hE hl => by
  rw [hA] at e; cases e
  obtain ⟨ok, g⟩ := hD v a hR h33 h16 E hE hl
  rcases g with ⟨g, _⟩ | ⟨_, bs, g1, g3⟩
  · exact absurd g h0f
  · have e2 := g3.1
    obtain ⟨q1, q2⟩ := ha bs h5 (hB bs g3) (by omega)
    exact Or.inr ⟨ok, bs, Or.inl ⟨g1, by omega, by omega⟩, by omega, hC _ q2⟩
end DFNS
set_option maxHeartbeats 4000000 in
set_option maxRecDepth 100000 in
theorem G_read {l : Launch} {G : GT} {mi : Nat} {sk : Nat → Nat} {L : List Nat} {cl ln : Nat → Nat} {iv : Nat → Nat → Int} {rv : Nat → Nat → Option Nat}  {a0 : Nat} {i : Int} {x : Int} {n : Int} (hW : WT (g0 G) sk L cl ln iv rv) (hS : SKL sk L cl) (t_a0 : ty L cl a0 1) (h_i : -2147483648 ≤ i ∧ i ≤ 2147483647) (h_x : -2147483648 ≤ x ∧ x ≤ 2147483647) (h_n : -2147483648 ≤ n ∧ n ≤ 2147483647) (hmr : MRK sk cl iv rv) : Mc l G mi (Phi (g0 G) sk) PHM yX11_read cX11_read 6 (some .int) 10 [.ref a0, .int (iI i), .int (iI x), .int (iI n)] L cl ln iv rv 0 (fun v L2 cl2 ln2 iv2 rv2 => ∃ f : Int, v = some (.int (iI f)) ∧ XT L cl ln L2 cl2 ln2 ∧ fT [1, 4, 34, 8, 38, 9, 39, 16, 10, 40, 24, 1002, 25, 1003, 6, 36, 7, 37] L cl iv rv iv2 rv2 ∧ WT (g0 G) sk L2 cl2 ln2 iv2 rv2 ∧ (-2147483648 ≤ f ∧ f ≤ 2147483647) ∧ (True) ∧ iv2 a0 11 = iv a0 11 ∧ iv2 a0 12 = iv a0 12 ∧ iv2 a0 13 = iv a0 13 ∧ iv2 a0 14 = iv a0 14 ∧ iv2 a0 15 = iv a0 15 ∧ iv2 a0 16 = iv a0 16 ∧ (PRD sk ln iv rv iv2 rv2 a0 (iv a0 13) i x n f) ∧ rv2 a0 9 = rv a0 9 ∧ rv2 a0 10 = rv a0 10) := by
  refine Mc.mk (by decide) (Nat.le_of_ble_eq_true rfl) ?_
  intro p e s m args below meth c A C hM
  refine hv21 (Phi.le hW hS) (show ty L cl (sk 2) 2 from ⟨(hS 2 rfl).1, by rw [(hS 2 rfl).2]; rfl⟩) (show ty L cl (sk 3) 3 from ⟨(hS 3 rfl).1, by rw [(hS 3 rfl).2]; rfl⟩) (show ty L cl (sk 4) 4 from ⟨(hS 4 rfl).1, by rw [(hS 4 rfl).2]; rfl⟩) (show ty L cl (sk 5) 5 from ⟨(hS 5 rfl).1, by rw [(hS 5 rfl).2]; rfl⟩) (show ty L cl (sk 6) 6 from ⟨(hS 6 rfl).1, by rw [(hS 6 rfl).2]; rfl⟩) (show ty L cl (sk 7) 7 from ⟨(hS 7 rfl).1, by rw [(hS 7 rfl).2]; rfl⟩) (show ty L cl (sk 8) 8 from ⟨(hS 8 rfl).1, by rw [(hS 8 rfl).2]; rfl⟩) (show ty L cl (sk 9) 9 from ⟨(hS 9 rfl).1, by rw [(hS 9 rfl).2]; rfl⟩) (show ty L cl (sk 10) 10 from ⟨(hS 10 rfl).1, by rw [(hS 10 rfl).2]; rfl⟩) (show ty L cl (sk 13) 13 from ⟨(hS 13 rfl).1, by rw [(hS 13 rfl).2]; rfl⟩) (show ty L cl (sk 14) 14 from ⟨(hS 14 rfl).1, by rw [(hS 14 rfl).2]; rfl⟩) (show ty L cl (sk 15) 15 from ⟨(hS 15 rfl).1, by rw [(hS 15 rfl).2]; rfl⟩) (show ty L cl (sk 16) 16 from ⟨(hS 16 rfl).1, by rw [(hS 16 rfl).2]; rfl⟩) (show ty L cl (sk 17) 17 from ⟨(hS 17 rfl).1, by rw [(hS 17 rfl).2]; rfl⟩) (show ty L cl (sk 22) 22 from ⟨(hS 22 rfl).1, by rw [(hS 22 rfl).2]; rfl⟩) (show ty L cl (sk 23) 23 from ⟨(hS 23 rfl).1, by rw [(hS 23 rfl).2]; rfl⟩) (show ty L cl (sk 24) 24 from ⟨(hS 24 rfl).1, by rw [(hS 24 rfl).2]; rfl⟩) (show ty L cl (sk 25) 25 from ⟨(hS 25 rfl).1, by rw [(hS 25 rfl).2]; rfl⟩) (show XT L cl ln L cl ln from XT.refl) (show fT [1, 4, 34, 8, 38, 9, 39, 16, 10, 40, 24, 1002, 25, 1003, 6, 36, 7, 37] L cl iv rv iv rv from fT.refl) (fun hph tsk2 tsk3 tsk4 tsk5 tsk6 tsk7 tsk8 tsk9 tsk10 tsk13 tsk14 tsk15 tsk16 tsk17 tsk22 tsk23 tsk24 tsk25 hX0 hF0 => ?_)
  obtain ⟨sA, hsA, tsA⟩ := hW.ref t_a0 9 rfl rfl rfl
  refine hv2 (show (-2147483648) ≤ iv a0 13 ∧ iv a0 13 ≤ 2147483647 from hW.int t_a0 13) (show 0 ≤ iv (sk 4) 2 ∧ iv (sk 4) 2 ≤ 4000 from hW.int tsk4 2) (fun ri1 ri2 => ?_)
  refine c_aload_n (j := 0) (x := a0) C dX11_read_0 rfl ?_
  obtain ⟨rb1, rq1, trb1⟩ := hW.ref t_a0 4 rfl rfl rfl
  have erb1 := hW.sk trb1 (by decide) rfl
  subst erb1
  refine c_getr (k := 4) C ck_12 dX11_read_1 w2_48 (by decide) t_a0 rfl rfl (by decide) rfl rq1 ?_
  refine c_st (st2 := [.ref (sk 13)]) rfl ?_
  refine c_iload_n (j := 1) C dX11_read_4 rfl ?_
  refine d_callV (As := [.int (iI i)]) (rest := []) C hM (G_whole (a0 := (sk 13)) (i := i) hW hS tsk13 (by omega) hmr) dX11_read_5 kV_X11_231 rfl tsk13 rfl rfl (by decide) ck_11 rfl (Nat.le_of_ble_eq_true rfl) ⟨(Nat.le_of_ble_eq_true rfl), (Nat.le_of_ble_eq_true rfl)⟩ hph hph (show 0 + 0 = 0 from rfl) (by decide) (fun rh1 Lh1 clh1 lnh1 ivh1 rvh1 h1 => ?_)
  obtain ⟨f1, rfl, rfl, rfl, rfl, rfl, rfl, rgf1, exf1⟩ := h1
  refine c_st (st2 := [(va_rf f1)]) rfl ?_
  have gf1 : WOX sk ln iv rv i f1 := exf1
  refine c_astorer (r := f1) (lv2 := [(4, (va_rf f1)), (0, .ref a0), (1, .int (iI i)), (2, .int (iI x)), (3, .int (iI n))]) C dX11_read_8 (by decide) rfl ?_
  refine c_aloadr (j := 0) (r := f1) C dX11_read_10 rfl ?_
  refine c_ifnonnull (r := f1) (tgt := 21) C dX11_read_12 (by decide) (fun ob1 oq1 => ?_) (fun oq1 => ?_)
  · subst oq1
    refine hv2 (rgf1 ob1 rfl) (gf1) (fun tob1 wkob1 => ?_)
    refine c_lv (lv2 := [(4, .ref ob1), (0, .ref a0), (1, .int (iI i)), (2, .int (iI x)), (3, .int (iI n))]) [0, 1, 2, 3, 4] rfl ?_
    refine c_st (st2 := []) rfl ?_
    refine c_iload_n (j := 4) C dX11_read_21 rfl ?_
    refine c_if_ge (tgt := 31) C ⟨by omega, by omega⟩ dX11_read_22 (by decide) (fun c1 => ?_) (fun c1 => ?_)
    · refine c_iconst C dX11_read_31 ?_
      refine c_istore (lv2 := [(5, .int (iI 0)), (4, .ref ob1), (0, .ref a0), (1, .int (iI i)), (2, .int (iI x)), (3, .int (iI n))]) C dX11_read_32 (by decide) rfl ?_
      have Lp1 : ∀ (nn : Nat) (k : Int) (Lb1 : List Nat) (clb1 lnb1 : Nat → Nat) (ivb1 : Nat → Nat → Int) (rvb1 : Nat → Nat → Option Nat) , n + 1 - k < (nn : Int) → XT L cl ln Lb1 clb1 lnb1 → WT (g0 G) sk Lb1 clb1 lnb1 ivb1 rvb1 → fT [1, 4, 34, 8, 38, 9, 39, 16, 10, 40, 24, 1002, 25, 1003, 6, 36, 7, 37] L cl iv rv ivb1 rvb1 → (0 ≤ k ∧ k ≤ n) → (RKP iv rv a0 x k) → (ivb1 (sk 4) 2 = iv (sk 4) 2) → (∀ ss, CT iv rv (sk 4) ss → CT ivb1 rvb1 (sk 4) ss) → (ivb1 a0 11 = iv a0 11) → (ivb1 a0 12 = iv a0 12) → (ivb1 a0 13 = iv a0 13) → (ivb1 a0 14 = iv a0 14) → (ivb1 a0 15 = iv a0 15) → (ivb1 a0 16 = iv a0 16) → (rvb1 a0 9 = rv a0 9) → (rvb1 a0 10 = rv a0 10) → cw p l e 10 ((PHM) + 0 - ((Phi (g0 G) sk) ln rv)) s m args below meth c G A 6 (MQ below (Qu G A (Qp G (Phi (g0 G) sk) ((Phi (g0 G) sk) ln rv) 0 (fun v L2 cl2 ln2 iv2 rv2 => ∃ f : Int, v = some (.int (iI f)) ∧ XT L cl ln L2 cl2 ln2 ∧ fT [1, 4, 34, 8, 38, 9, 39, 16, 10, 40, 24, 1002, 25, 1003, 6, 36, 7, 37] L cl iv rv iv2 rv2 ∧ WT (g0 G) sk L2 cl2 ln2 iv2 rv2 ∧ (-2147483648 ≤ f ∧ f ≤ 2147483647) ∧ (True) ∧ iv2 a0 11 = iv a0 11 ∧ iv2 a0 12 = iv a0 12 ∧ iv2 a0 13 = iv a0 13 ∧ iv2 a0 14 = iv a0 14 ∧ iv2 a0 15 = iv a0 15 ∧ iv2 a0 16 = iv a0 16 ∧ (PRD sk ln iv rv iv2 rv2 a0 (iv a0 13) i x n f) ∧ rv2 a0 9 = rv a0 9 ∧ rv2 a0 10 = rv a0 10))) args s (((PHM) + 0 - ((Phi (g0 G) sk) ln rv)) / 16) ((PHM) + 0 - ((Phi (g0 G) sk) ln rv)) A) (Phi (g0 G) sk) ((Phi (g0 G) sk) ln rv) Lb1 clb1 lnb1 ivb1 rvb1 0 34 [(5, .int (iI k)), (4, .ref ob1), (0, .ref a0), (1, .int (iI i)), (2, .int (iI x)), (3, .int (iI n))] [] := by
        intro nn
        induction nn with
        | zero =>
          intro  k Lb1 clb1 lnb1 ivb1 rvb1 hm Xb1 Wb1 Fb1  hk hK9 h4s hC4 hkp11 hkp12 hkp13 hkp14 hkp15 hkp16 hkr9 hkr10
          have skb1 := Xb1.skl hS
          exact absurd hm (by omega)
        | succ nn ih1 =>
          intro  k Lb1 clb1 lnb1 ivb1 rvb1 hm Xb1 Wb1 Fb1  hk hK9 h4s hC4 hkp11 hkp12 hkp13 hkp14 hkp15 hkp16 hkr9 hkr10
          refine hv2 (Xb1.skl hS) (MRK.call hmr hW hS Xb1 Fb1 rfl rfl) (fun skb1 mrb1 => ?_)
          refine c_iload (j := 0) C dX11_read_34 rfl ?_
          refine c_iload_n (j := 5) C dX11_read_36 rfl ?_
          refine c_icmp_ge (tgt := 76) C ⟨by omega, by omega⟩ ⟨by omega, by omega⟩ dX11_read_37 (by decide) (fun c2 => ?_) (fun c2 => ?_)
          · refine c_aload_n (j := 2) (x := a0) C dX11_read_76 rfl ?_
            refine c_iload_n (j := 4) C dX11_read_77 rfl ?_
            refine c_iload_n (j := 5) C dX11_read_78 rfl ?_
            refine hv2 (Xb1.ty t_a0) (Phi.le Wb1 skb1) (fun ty1 pl1 => ?_)
            have ri3 : (-2147483648) ≤ ivb1 a0 13 ∧ ivb1 a0 13 ≤ 2147483647 := Wb1.int ty1 13
            refine d_callV (As := [.int (iI x), .int (iI n)]) (rest := []) C hM (G_chainLines (a0 := a0) (i := x) (n := n) Wb1 skb1 ty1 (by omega) (by omega) (by show 0 ≤ n; omega)) dX11_read_79 kV_X11_328 rfl ty1 rfl rfl (by decide) ck_12 rfl (Nat.le_of_ble_eq_true rfl) ⟨(Nat.le_of_ble_eq_true rfl), (Nat.le_of_ble_eq_true rfl)⟩ hph pl1 (show 0 + 0 = 0 from rfl) (by decide) (fun rh2 Lh2 clh2 lnh2 ivh2 rvh2 h2 => ?_)
            obtain ⟨rfl, xl2, fl2, W2, exf2⟩ := h2
            refine hv24 (Fb1.call Xb1 fl2 rfl) (MRK.call mrb1 Wb1 skb1 xl2 fl2 rfl rfl) (Xb1.ty tsk2) (Xb1.ty tsk3) (Xb1.ty tsk4) (Xb1.ty tsk5) (Xb1.ty tsk6) (Xb1.ty tsk7) (Xb1.ty tsk8) (Xb1.ty tsk9) (Xb1.ty tsk10) (Xb1.ty tsk13) (Xb1.ty tsk14) (Xb1.ty tsk15) (Xb1.ty tsk16) (Xb1.ty tsk17) (Xb1.ty tsk22) (Xb1.ty tsk23) (Xb1.ty tsk24) (Xb1.ty tsk25) (Xb1.ty tsA) (Xb1.ty tob1) (Xb1.trans xl2) (xl2.skl skb1) (fun F1 mr1 ty2 ty3 ty4 ty5 ty6 ty7 ty8 ty9 ty10 ty11 ty12 ty13 ty14 ty15 ty16 ty17 ty18 ty19 ty20 ty21 X1 sk1 => ?_)
            refine c_st (st2 := []) rfl ?_
            have gf2 : CLX ivb1 rvb1 a0 sk ivh2 rvh2 (ivb1 a0 13) x n := exf2
            refine c_aload_n (j := 2) (x := a0) C dX11_read_82 rfl ?_
            have ty22 := xl2.ty ty1
            obtain ⟨rb2, rq2, trb2⟩ := W2.ref ty22 7 rfl rfl rfl
            have erb2 := W2.sk trb2 (by decide) rfl
            subst erb2
            refine c_getr (k := 7) C ck_12 dX11_read_83 w2_51 (by decide) ty22 rfl rfl (by decide) rfl rq2 ?_
            refine c_st (st2 := [.ref (sk 16)]) rfl ?_
            refine c_aload (j := 1) (x := ob1) C dX11_read_86 rfl ?_
            refine hv4 (xl2.ty ty8) (xl2.ty ty14) (xl2.ty ty21) (Phi.le W2 sk1) (fun ty23 ty24 ty25 pl2 => ?_)
            refine d_callV (As := [.ref ob1]) (rest := []) C hM (G_gather2 (a0 := (sk 16)) (a1 := ob1) W2 sk1 ty24 ty25  ) dX11_read_88 kV_X11_331 rfl ty24 rfl rfl (by decide) ck_4 rfl (Nat.le_of_ble_eq_true rfl) ⟨(Nat.le_of_ble_eq_true rfl), (Nat.le_of_ble_eq_true rfl)⟩ hph pl2 (show 0 + 0 = 0 from rfl) (by decide) (fun rh3 Lh3 clh3 lnh3 ivh3 rvh3 h3 => ?_)
            obtain ⟨rfl, xl3, fl3, W3, exf3, gaxf3, gbxf3⟩ := h3
            refine hv21 (F1.call X1 fl3 rfl) (MRK.call mr1 W2 sk1 xl3 fl3 rfl rfl) (xl2.ty ty2) (xl2.ty ty3) (xl2.ty ty4) (xl2.ty ty5) (xl2.ty ty6) (xl2.ty ty7) (xl2.ty ty9) (xl2.ty ty10) (xl2.ty ty11) (xl2.ty ty12) (xl2.ty ty13) (xl2.ty ty15) (xl2.ty ty16) (xl2.ty ty17) (xl2.ty ty18) (xl2.ty ty19) (xl2.ty ty20) (X1.trans xl3) (xl3.skl sk1) (fun F2 mr2 ty26 ty27 ty28 ty29 ty30 ty31 ty32 ty33 ty34 ty35 ty36 ty37 ty38 ty39 ty40 ty41 ty42 X2 sk2 => ?_)
            refine c_st (st2 := []) rfl ?_
            refine c_aload_n (j := 2) (x := a0) C dX11_read_91 rfl ?_
            refine hv2 (xl3.ty ty22) (show rvh3 a0 7 = rvh2 a0 7 from (fl3.r ty22 rfl 7)) (fun ty43 re1 => ?_)
            rw [rq2] at re1
            refine c_getr (k := 7) C ck_12 dX11_read_92 w2_51 (by decide) ty43 rfl rfl (by decide) rfl re1 ?_
            refine c_st (st2 := [.ref (sk 16)]) rfl ?_
            refine hv2 (xl3.ty ty24) (Phi.le W3 sk2) (fun ty44 pl3 => ?_)
            refine d_callV (As := []) (rest := []) C hM (G_decode (a0 := (sk 16)) W3 sk2 ty44  ) dX11_read_95 kV_X11_335 rfl ty44 rfl rfl (by decide) ck_4 rfl (Nat.le_of_ble_eq_true rfl) ⟨(Nat.le_of_ble_eq_true rfl), (Nat.le_of_ble_eq_true rfl)⟩ hph pl3 (show 0 + 0 = 0 from rfl) (by decide) (fun rh4 Lh4 clh4 lnh4 ivh4 rvh4 h4 => ?_)
            obtain ⟨f4, rfl, xl4, fl4, W4, rgf4, exf4⟩ := h4
            refine hv23 (F2.call X2 fl4 rfl) (MRK.call mr2 W3 sk2 xl4 fl4 rfl rfl) (xl3.ty ty26) (xl3.ty ty27) (xl3.ty ty28) (xl3.ty ty29) (xl3.ty ty30) (xl3.ty ty31) (xl3.ty ty23) (xl3.ty ty32) (xl3.ty ty33) (xl3.ty ty34) (xl3.ty ty35) (xl3.ty ty36) (xl3.ty ty37) (xl3.ty ty38) (xl3.ty ty39) (xl3.ty ty40) (xl3.ty ty41) (xl3.ty ty42) (xl3.ty ty25) (X2.trans xl4) (xl4.skl sk2) (fun F3 mr3 ty45 ty46 ty47 ty48 ty49 ty50 ty51 ty52 ty53 ty54 ty55 ty56 ty57 ty58 ty59 ty60 ty61 ty62 ty63 X3 sk3 => ?_)
            refine c_st (st2 := [.int (iI f4)]) rfl ?_
            refine hv3 (show DEX Lh3 clh3 lnh3 ivh3 rvh3 sk ivh4 rvh4 f4 from exf4) (show rvb1 a0 9 = some sA from Eq.trans (show rvb1 a0 9 = rv a0 9 from hkr9) hsA) (xl4.ty ty53) (fun gf4 hA1 ty64 => ?_)
            refine hv2 (DFN.mk (hy := iv a0 13) wkob1 hsA (by have q := hK9; rw [show k = n by omega] at q; exact q) (by omega) (SAM.frm hW tsA Fb1 rfl rfl rfl rfl) hA1 gf2 (by omega) (QT.of hW hS X1 F1 rfl rfl rfl rfl rfl) gaxf3 gbxf3 W2 ty23 fl3 rfl rfl gf4) (show 0 ≤ ivh4 (sk 10) 2 ∧ ivh4 (sk 10) 2 ≤ 4001 from W4.int ty64 2) (fun hD9 ri4 => ?_)
            refine c_istore (lv2 := [(5, .int (iI f4)), (4, .ref ob1), (0, .ref a0), (1, .int (iI i)), (2, .int (iI x)), (3, .int (iI n))]) C dX11_read_98 (by decide) rfl ?_
            refine c_aload_n (j := 2) (x := a0) C dX11_read_100 rfl ?_
            have ty65 := xl4.ty ty43
            obtain ⟨rb3, rq3, trb3⟩ := W4.ref ty65 2 rfl rfl rfl
            have erb3 := W4.sk trb3 (by decide) rfl
            subst erb3
            refine c_getr (k := 2) C ck_12 dX11_read_101 w2_46 (by decide) ty65 rfl rfl (by decide) rfl rq3 ?_
            refine c_st (st2 := [.ref (sk 4)]) rfl ?_
            refine hv2 (xl4.ty ty47) (Phi.le W4 sk3) (fun ty66 pl4 => ?_)
            refine d_callV (As := []) (rest := []) C hM (C_clear_4 (a0 := (sk 4)) W4 sk3 ty66  ) dX11_read_104 kV_X11_164 rfl ty66 rfl rfl (by decide) ck_2 rfl (Nat.le_of_ble_eq_true rfl) ⟨(Nat.le_of_ble_eq_true rfl), (Nat.le_of_ble_eq_true rfl)⟩ hph pl4 (show 0 + 0 = 0 from rfl) (by decide) (fun rh5 Lh5 clh5 lnh5 ivh5 rvh5 h5 => ?_)
            obtain ⟨rfl, rfl, rfl, rfl, rfl, fl5, W5, exf5⟩ := h5
            refine hv2 (F3.call X3 fl5 rfl) (MRK.call mr3 W4 sk3 XT.refl fl5 rfl rfl) (fun F4 mr4 => ?_)
            refine c_st (st2 := []) rfl ?_
            refine hv2 (show 0 ≤ ivh5 (sk 4) 2 ∧ ivh5 (sk 4) 2 ≤ 4000 from W5.int ty66 2) (show ivh5 (sk 4) 2 = 0 from exf5) (fun ri5 gf5 => ?_)
            refine c_iload (j := 0) C dX11_read_107 rfl ?_
            refine c_if_ne (tgt := 126) C ⟨by omega, by omega⟩ dX11_read_109 (by decide) (fun c3 => ?_) (fun c3 => ?_)
            · refine c_aload_n (j := 2) (x := a0) C dX11_read_126 rfl ?_
              have re2 : rvh4 a0 7 = rvh3 a0 7 := (fl4.r ty43 rfl 7)
              rw [re1] at re2
              refine c_getr (k := 7) C ck_12 dX11_read_127 w2_51 (by decide) ty65 rfl rfl (by decide) rfl re2 ?_
              refine c_st (st2 := [.ref (sk 16)]) rfl ?_
              have ty67 := xl4.ty ty44
              obtain ⟨rb4, rq4, trb4⟩ := W5.ref ty67 6 rfl rfl rfl
              have erb4 := W5.sk trb4 (by decide) rfl
              subst erb4
              refine c_getr (k := 6) C ck_4 dX11_read_130 w1_201 (by decide) ty67 rfl rfl (by decide) rfl rq4 ?_
              refine c_st (st2 := [.ref (sk 10)]) rfl ?_
              refine hv2 (show 0 ≤ ivh5 (sk 10) 2 ∧ ivh5 (sk 10) 2 ≤ 4001 from W5.int ty64 2) (show ivh5 (sk 10) 2 = ivh4 (sk 10) 2 from fl5.i ty64 rfl 2) (fun ri6 ie4 => ?_)
              refine c_get (k := 2) C ck_2 dX11_read_133 w1_44 (by decide) ty64 rfl rfl (by decide) rfl ?_
              refine c_sipush (z := 4000) C dX11_read_136 (by decide) ?_
              refine c_icmp_le (tgt := 149) C (r32_c (lo := 0) (hi := 4001) ri6.1 ri6.2 (by decide) (by decide)) ⟨by decide, by decide⟩ dX11_read_139 (by decide) (fun c4 => ?_) (fun c4 => ?_)
              · refine c_aload_n (j := 2) (x := a0) C dX11_read_149 rfl ?_
                refine c_getr (k := 2) C ck_12 dX11_read_150 w2_46 (by decide) ty65 rfl rfl (by decide) rfl rq3 ?_
                refine c_st (st2 := [.ref (sk 4)]) rfl ?_
                refine c_aload_n (j := 2) (x := a0) C dX11_read_153 rfl ?_
                refine c_getr (k := 7) C ck_12 dX11_read_154 w2_51 (by decide) ty65 rfl rfl (by decide) rfl re2 ?_
                refine c_st (st2 := [.ref (sk 16), .ref (sk 4)]) rfl ?_
                refine c_getr (k := 6) C ck_4 dX11_read_157 w1_201 (by decide) ty67 rfl rfl (by decide) rfl rq4 ?_
                refine c_st (st2 := [.ref (sk 10), .ref (sk 4)]) rfl ?_
                refine d_callV (As := [.ref (sk 10)]) (rest := []) C hM (G_addAll (a0 := (sk 4)) (a1 := (sk 10)) W5 sk3 ty66 ty64  ) dX11_read_160 kV_X11_227 rfl ty66 rfl rfl (by decide) ck_2 rfl (Nat.le_of_ble_eq_true rfl) ⟨(Nat.le_of_ble_eq_true rfl), (Nat.le_of_ble_eq_true rfl)⟩ hph pl4 (show 0 + 0 = 0 from rfl) (by decide) (fun rh6 Lh6 clh6 lnh6 ivh6 rvh6 h6 => ?_)
                obtain ⟨rfl, xl6, fl6, W6, exf6⟩ := h6
                refine hv21 (F4.call X3 fl6 rfl) (MRK.call mr4 W5 sk3 xl6 fl6 rfl rfl) (xl4.ty ty45) (xl4.ty ty46) (xl4.ty ty48) (xl4.ty ty49) (xl4.ty ty50) (xl4.ty ty51) (xl4.ty ty52) (xl4.ty ty54) (xl4.ty ty55) (xl4.ty ty56) (xl4.ty ty57) (xl4.ty ty58) (xl4.ty ty59) (xl4.ty ty60) (xl4.ty ty61) (xl4.ty ty62) (xl4.ty ty63) (X3.trans xl6) (xl6.skl sk3) (fun F5 mr5 ty68 ty69 ty70 ty71 ty72 ty73 ty74 ty75 ty76 ty77 ty78 ty79 ty80 ty81 ty82 ty83 ty84 X4 sk4 => ?_)
                refine c_st (st2 := []) rfl ?_
                have gf6 : AAQ ivh5 rvh4 ivh6 rvh6 (sk 4) (sk 10) := exf6
                refine c_aload_n (j := 2) (x := a0) C dX11_read_163 rfl ?_
                refine c_aload_n (j := 2) (x := a0) C dX11_read_164 rfl ?_
                refine hv2 (xl6.ty ty65) (show rvh6 a0 2 = rvh4 a0 2 from (fl6.r ty65 rfl 2)) (fun ty85 re3 => ?_)
                rw [rq3] at re3
                refine c_getr (k := 2) C ck_12 dX11_read_165 w2_46 (by decide) ty85 rfl rfl (by decide) rfl re3 ?_
                refine c_st (st2 := [.ref (sk 4), .ref a0]) rfl ?_
                have ty86 := xl6.ty ty66
                have ri7 : 0 ≤ ivh6 (sk 4) 2 ∧ ivh6 (sk 4) 2 ≤ 4000 := W6.int ty86 2
                refine c_get (k := 2) C ck_2 dX11_read_168 w1_44 (by decide) ty86 rfl rfl (by decide) rfl ?_
                have pl5 := Phi.le W6 sk4
                refine d_callV (As := [.int (iI (ivh6 (sk 4) 2))]) (rest := []) C hM (C_done (a0 := a0) (x := ivh6 (sk 4) 2) W6 sk4 ty85 (by omega) ) dX11_read_171 kV_X11_109 rfl ty85 rfl rfl (by decide) ck_12 rfl (Nat.le_of_ble_eq_true rfl) ⟨(Nat.le_of_ble_eq_true rfl), (Nat.le_of_ble_eq_true rfl)⟩ hph pl5 (show 0 + 0 = 0 from rfl) (by decide) (fun rh7 Lh7 clh7 lnh7 ivh7 rvh7 h7 => ?_)
                obtain ⟨f7, rfl, rfl, rfl, rfl, rfl, fl7, W7, rgf7, exf7, kp11f7, kp12f7, kp13f7, kp14f7, kp15f7, kp16f7⟩ := h7
                refine hv38 (show 1 ≤ ivh6 a0 11 ∧ ivh6 a0 11 ≤ 100 from W6.int ty85 11) (show ivh6 a0 11 = ivh5 a0 11 from fl6.i ty65 rfl 11) (show ivh5 a0 11 = ivh4 a0 11 from fl5.i ty65 rfl 11) (show ivh4 a0 11 = ivh3 a0 11 from fl4.i ty43 rfl 11) (show ivh3 a0 11 = ivh2 a0 11 from fl3.i ty22 rfl 11) (show ivh2 a0 11 = ivb1 a0 11 from fl2.i ty1 rfl 11) (show 1 ≤ ivh6 a0 12 ∧ ivh6 a0 12 ≤ 50 from W6.int ty85 12) (show ivh6 a0 12 = ivh5 a0 12 from fl6.i ty65 rfl 12) (show ivh5 a0 12 = ivh4 a0 12 from fl5.i ty65 rfl 12) (show ivh4 a0 12 = ivh3 a0 12 from fl4.i ty43 rfl 12) (show ivh3 a0 12 = ivh2 a0 12 from fl3.i ty22 rfl 12) (show ivh2 a0 12 = ivb1 a0 12 from fl2.i ty1 rfl 12) (show (-2147483648) ≤ ivh6 a0 13 ∧ ivh6 a0 13 ≤ 2147483647 from W6.int ty85 13) (show ivh6 a0 13 = ivh5 a0 13 from fl6.i ty65 rfl 13) (show ivh5 a0 13 = ivh4 a0 13 from fl5.i ty65 rfl 13) (show ivh4 a0 13 = ivh3 a0 13 from fl4.i ty43 rfl 13) (show ivh3 a0 13 = ivh2 a0 13 from fl3.i ty22 rfl 13) (show ivh2 a0 13 = ivb1 a0 13 from fl2.i ty1 rfl 13) (show (-2147483648) ≤ ivh6 a0 14 ∧ ivh6 a0 14 ≤ 2147483647 from W6.int ty85 14) (show ivh6 a0 14 = ivh5 a0 14 from fl6.i ty65 rfl 14) (show ivh5 a0 14 = ivh4 a0 14 from fl5.i ty65 rfl 14) (show ivh4 a0 14 = ivh3 a0 14 from fl4.i ty43 rfl 14) (show ivh3 a0 14 = ivh2 a0 14 from fl3.i ty22 rfl 14) (show ivh2 a0 14 = ivb1 a0 14 from fl2.i ty1 rfl 14) (show (-2147483648) ≤ ivh6 a0 15 ∧ ivh6 a0 15 ≤ 2147483647 from W6.int ty85 15) (show ivh6 a0 15 = ivh5 a0 15 from fl6.i ty65 rfl 15) (show ivh5 a0 15 = ivh4 a0 15 from fl5.i ty65 rfl 15) (show ivh4 a0 15 = ivh3 a0 15 from fl4.i ty43 rfl 15) (show ivh3 a0 15 = ivh2 a0 15 from fl3.i ty22 rfl 15) (show ivh2 a0 15 = ivb1 a0 15 from fl2.i ty1 rfl 15) (show (-2147483648) ≤ ivh6 a0 16 ∧ ivh6 a0 16 ≤ 2147483647 from W6.int ty85 16) (show ivh6 a0 16 = ivh5 a0 16 from fl6.i ty65 rfl 16) (show ivh5 a0 16 = ivh4 a0 16 from fl5.i ty65 rfl 16) (show ivh4 a0 16 = ivh3 a0 16 from fl4.i ty43 rfl 16) (show ivh3 a0 16 = ivh2 a0 16 from fl3.i ty22 rfl 16) (show ivh2 a0 16 = ivb1 a0 16 from fl2.i ty1 rfl 16) (F5.call X4 fl7 rfl) (MRK.call mr5 W6 sk4 XT.refl fl7 rfl rfl) (fun ri8 ie6 ie7 ie8 ie9 ie10 ri9 ie12 ie13 ie14 ie15 ie16 ri10 ie18 ie19 ie20 ie21 ie22 ri11 ie23 ie24 ie25 ie26 ie27 ri12 ie29 ie30 ie31 ie32 ie33 ri13 ie35 ie36 ie37 ie38 ie39 F6 mr6 => ?_)
                refine c_st (st2 := [.int (iI f7)]) rfl ?_
                refine hv17 (show ivh7 a0 11 = ivh6 a0 11 from kp11f7) (show ivh7 a0 12 = ivh6 a0 12 from kp12f7) (show ivh7 a0 13 = ivh6 a0 13 from kp13f7) (show ivh7 a0 14 = ivh6 a0 14 from kp14f7) (show ivh7 a0 15 = ivh6 a0 15 from kp15f7) (show ivh7 a0 16 = ivh6 a0 16 from kp16f7) (show f7 = (ivh6 (sk 4) 2) from exf7) (show 1 ≤ ivh7 a0 11 ∧ ivh7 a0 11 ≤ 100 from W7.int ty85 11) (show 1 ≤ ivh7 a0 12 ∧ ivh7 a0 12 ≤ 50 from W7.int ty85 12) (show (-2147483648) ≤ ivh7 a0 13 ∧ ivh7 a0 13 ≤ 2147483647 from W7.int ty85 13) (show (-2147483648) ≤ ivh7 a0 14 ∧ ivh7 a0 14 ≤ 2147483647 from W7.int ty85 14) (show (-2147483648) ≤ ivh7 a0 15 ∧ ivh7 a0 15 ≤ 2147483647 from W7.int ty85 15) (show (-2147483648) ≤ ivh7 a0 16 ∧ ivh7 a0 16 ≤ 2147483647 from W7.int ty85 16) (show 0 ≤ ivh7 (sk 4) 2 ∧ ivh7 (sk 4) 2 ≤ 4000 from W7.int ty86 2) (show ivh7 (sk 4) 2 = ivh6 (sk 4) 2 from fl7.i ty86 rfl 2) (xl6.ty ty64) (show ivh6 (sk 10) 2 = ivh5 (sk 10) 2 from fl6.i ty64 rfl 2) (fun gk11f7 gk12f7 gk13f7 gk14f7 gk15f7 gk16f7 gf7 ri14 ri15 ri16 ri17 ri18 ri19 ri20 ie47 ty87 ie49 => ?_)
                refine hv2 (show 0 ≤ ivh7 (sk 10) 2 ∧ ivh7 (sk 10) 2 ≤ 4001 from W7.int ty87 2) (show ivh7 (sk 10) 2 = ivh6 (sk 10) 2 from fl7.i ty87 rfl 2) (fun ri21 ie48 => ?_)
                exact c_iret C dX11_read_174 rfl (by decide) (rom0 hph pl5 (by decide)) ⟨f7, rfl, X4, F6, W7, ⟨by omega, by omega⟩, trivial, (gk11f7.trans (ie6.trans (ie7.trans (ie8.trans (ie9.trans (ie10.trans hkp11)))))), (gk12f7.trans (ie12.trans (ie13.trans (ie14.trans (ie15.trans (ie16.trans hkp12)))))), (gk13f7.trans (ie18.trans (ie19.trans (ie20.trans (ie21.trans (ie22.trans hkp13)))))), (gk14f7.trans (ie23.trans (ie24.trans (ie25.trans (ie26.trans (ie27.trans hkp14)))))), (gk15f7.trans (ie29.trans (ie30.trans (ie31.trans (ie32.trans (ie33.trans hkp15)))))), (gk16f7.trans (ie35.trans (ie36.trans (ie37.trans (ie38.trans (ie39.trans hkp16)))))), (PRD.ok hD9 hsA (by omega) (by omega) (fun bs hb => (BYT.fr hb W4 ty64 fl5 rfl rfl)) (by omega) gf6 (by omega) (by omega) (fun ss hc => (CT.fr hc W6 ty86 fl7 rfl rfl rfl rfl rfl))), (Eq.trans (show rvh6 a0 9 = rvh4 a0 9 from (fl6.r ty65 rfl 9)) (Eq.trans (show rvh4 a0 9 = rvh3 a0 9 from (fl4.r ty43 rfl 9)) (Eq.trans (show rvh3 a0 9 = rvh2 a0 9 from (fl3.r ty22 rfl 9)) (Eq.trans (show rvh2 a0 9 = rvb1 a0 9 from (fl2.r ty1 rfl 9)) (show rvb1 a0 9 = rv a0 9 from hkr9))))), (Eq.trans (show rvh6 a0 10 = rvh4 a0 10 from (fl6.r ty65 rfl 10)) (Eq.trans (show rvh4 a0 10 = rvh3 a0 10 from (fl4.r ty43 rfl 10)) (Eq.trans (show rvh3 a0 10 = rvh2 a0 10 from (fl3.r ty22 rfl 10)) (Eq.trans (show rvh2 a0 10 = rvb1 a0 10 from (fl2.r ty1 rfl 10)) (show rvb1 a0 10 = rv a0 10 from hkr10)))))⟩
              · refine c_aload_n (j := 2) (x := a0) C dX11_read_142 rfl ?_
                refine c_bipush (z := 6) C dX11_read_143 (by decide) ?_
                refine d_callV (As := [.int (iI 6)]) (rest := []) C hM (C_refuse (a0 := a0) (x := 6) W5 sk3 ty65 ⟨by decide, by decide⟩ ) dX11_read_145 kV_X11_102 rfl ty65 rfl rfl (by decide) ck_12 rfl (Nat.le_of_ble_eq_true rfl) ⟨(Nat.le_of_ble_eq_true rfl), (Nat.le_of_ble_eq_true rfl)⟩ hph pl4 (show 0 + 0 = 0 from rfl) (by decide) (fun rh8 Lh8 clh8 lnh8 ivh8 rvh8 h8 => ?_)
                obtain ⟨f8, rfl, rfl, rfl, rfl, rfl, fl8, W8, rgf8, exf8, kp11f8, kp12f8, kp13f8, kp14f8, kp15f8, kp16f8⟩ := h8
                refine hv32 (show 1 ≤ ivh5 a0 11 ∧ ivh5 a0 11 ≤ 100 from W5.int ty65 11) (show ivh5 a0 11 = ivh4 a0 11 from fl5.i ty65 rfl 11) (show ivh4 a0 11 = ivh3 a0 11 from fl4.i ty43 rfl 11) (show ivh3 a0 11 = ivh2 a0 11 from fl3.i ty22 rfl 11) (show ivh2 a0 11 = ivb1 a0 11 from fl2.i ty1 rfl 11) (show 1 ≤ ivh5 a0 12 ∧ ivh5 a0 12 ≤ 50 from W5.int ty65 12) (show ivh5 a0 12 = ivh4 a0 12 from fl5.i ty65 rfl 12) (show ivh4 a0 12 = ivh3 a0 12 from fl4.i ty43 rfl 12) (show ivh3 a0 12 = ivh2 a0 12 from fl3.i ty22 rfl 12) (show ivh2 a0 12 = ivb1 a0 12 from fl2.i ty1 rfl 12) (show (-2147483648) ≤ ivh5 a0 13 ∧ ivh5 a0 13 ≤ 2147483647 from W5.int ty65 13) (show ivh5 a0 13 = ivh4 a0 13 from fl5.i ty65 rfl 13) (show ivh4 a0 13 = ivh3 a0 13 from fl4.i ty43 rfl 13) (show ivh3 a0 13 = ivh2 a0 13 from fl3.i ty22 rfl 13) (show ivh2 a0 13 = ivb1 a0 13 from fl2.i ty1 rfl 13) (show (-2147483648) ≤ ivh5 a0 14 ∧ ivh5 a0 14 ≤ 2147483647 from W5.int ty65 14) (show ivh5 a0 14 = ivh4 a0 14 from fl5.i ty65 rfl 14) (show ivh4 a0 14 = ivh3 a0 14 from fl4.i ty43 rfl 14) (show ivh3 a0 14 = ivh2 a0 14 from fl3.i ty22 rfl 14) (show ivh2 a0 14 = ivb1 a0 14 from fl2.i ty1 rfl 14) (show (-2147483648) ≤ ivh5 a0 15 ∧ ivh5 a0 15 ≤ 2147483647 from W5.int ty65 15) (show ivh5 a0 15 = ivh4 a0 15 from fl5.i ty65 rfl 15) (show ivh4 a0 15 = ivh3 a0 15 from fl4.i ty43 rfl 15) (show ivh3 a0 15 = ivh2 a0 15 from fl3.i ty22 rfl 15) (show ivh2 a0 15 = ivb1 a0 15 from fl2.i ty1 rfl 15) (show (-2147483648) ≤ ivh5 a0 16 ∧ ivh5 a0 16 ≤ 2147483647 from W5.int ty65 16) (show ivh5 a0 16 = ivh4 a0 16 from fl5.i ty65 rfl 16) (show ivh4 a0 16 = ivh3 a0 16 from fl4.i ty43 rfl 16) (show ivh3 a0 16 = ivh2 a0 16 from fl3.i ty22 rfl 16) (show ivh2 a0 16 = ivb1 a0 16 from fl2.i ty1 rfl 16) (F4.call X3 fl8 rfl) (MRK.call mr4 W5 sk3 XT.refl fl8 rfl rfl) (fun ri22 ie50 ie51 ie52 ie53 ri23 ie55 ie56 ie57 ie58 ri24 ie60 ie61 ie62 ie63 ri25 ie64 ie65 ie66 ie67 ri26 ie69 ie70 ie71 ie72 ri27 ie74 ie75 ie76 ie77 F7 mr7 => ?_)
                refine c_st (st2 := [.int (iI f8)]) rfl ?_
                refine hv17 (show ivh8 a0 11 = ivh5 a0 11 from kp11f8) (show ivh8 a0 12 = ivh5 a0 12 from kp12f8) (show ivh8 a0 13 = ivh5 a0 13 from kp13f8) (show ivh8 a0 14 = ivh5 a0 14 from kp14f8) (show ivh8 a0 15 = ivh5 a0 15 from kp15f8) (show ivh8 a0 16 = ivh5 a0 16 from kp16f8) (show f8 = -1 from exf8) (show 1 ≤ ivh8 a0 11 ∧ ivh8 a0 11 ≤ 100 from W8.int ty65 11) (show 1 ≤ ivh8 a0 12 ∧ ivh8 a0 12 ≤ 50 from W8.int ty65 12) (show (-2147483648) ≤ ivh8 a0 13 ∧ ivh8 a0 13 ≤ 2147483647 from W8.int ty65 13) (show (-2147483648) ≤ ivh8 a0 14 ∧ ivh8 a0 14 ≤ 2147483647 from W8.int ty65 14) (show (-2147483648) ≤ ivh8 a0 15 ∧ ivh8 a0 15 ≤ 2147483647 from W8.int ty65 15) (show (-2147483648) ≤ ivh8 a0 16 ∧ ivh8 a0 16 ≤ 2147483647 from W8.int ty65 16) (show 0 ≤ ivh8 (sk 4) 2 ∧ ivh8 (sk 4) 2 ≤ 4000 from W8.int ty66 2) (show ivh8 (sk 4) 2 = ivh5 (sk 4) 2 from fl8.i ty66 rfl 2) (show 0 ≤ ivh8 (sk 10) 2 ∧ ivh8 (sk 10) 2 ≤ 4001 from W8.int ty64 2) (show ivh8 (sk 10) 2 = ivh5 (sk 10) 2 from fl8.i ty64 rfl 2) (fun gk11f8 gk12f8 gk13f8 gk14f8 gk15f8 gk16f8 gf8 ri28 ri29 ri30 ri31 ri32 ri33 ri34 ie85 ri35 ie86 => ?_)
                exact c_iret C dX11_read_148 rfl (by decide) (rom0 hph pl4 (by decide)) ⟨f8, rfl, X3, F7, W8, ⟨by omega, by omega⟩, trivial, (gk11f8.trans (ie50.trans (ie51.trans (ie52.trans (ie53.trans hkp11))))), (gk12f8.trans (ie55.trans (ie56.trans (ie57.trans (ie58.trans hkp12))))), (gk13f8.trans (ie60.trans (ie61.trans (ie62.trans (ie63.trans hkp13))))), (gk14f8.trans (ie64.trans (ie65.trans (ie66.trans (ie67.trans hkp14))))), (gk15f8.trans (ie69.trans (ie70.trans (ie71.trans (ie72.trans hkp15))))), (gk16f8.trans (ie74.trans (ie75.trans (ie76.trans (ie77.trans hkp16))))), (PRD.many hD9 hsA (by omega) (by omega) (by omega) (by omega)), (Eq.trans (show rvh4 a0 9 = rvh3 a0 9 from (fl4.r ty43 rfl 9)) (Eq.trans (show rvh3 a0 9 = rvh2 a0 9 from (fl3.r ty22 rfl 9)) (Eq.trans (show rvh2 a0 9 = rvb1 a0 9 from (fl2.r ty1 rfl 9)) (show rvb1 a0 9 = rv a0 9 from hkr9)))), (Eq.trans (show rvh4 a0 10 = rvh3 a0 10 from (fl4.r ty43 rfl 10)) (Eq.trans (show rvh3 a0 10 = rvh2 a0 10 from (fl3.r ty22 rfl 10)) (Eq.trans (show rvh2 a0 10 = rvb1 a0 10 from (fl2.r ty1 rfl 10)) (show rvb1 a0 10 = rv a0 10 from hkr10))))⟩
            · refine c_aload_n (j := 2) (x := a0) C dX11_read_112 rfl ?_
              refine c_bipush (z := 9) C dX11_read_113 (by decide) ?_
              refine c_aload_n (j := 2) (x := a0) C dX11_read_115 rfl ?_
              have re4 : rvh4 a0 7 = rvh3 a0 7 := (fl4.r ty43 rfl 7)
              rw [re1] at re4
              refine c_getr (k := 7) C ck_12 dX11_read_116 w2_51 (by decide) ty65 rfl rfl (by decide) rfl re4 ?_
              refine c_st (st2 := [.ref (sk 16), .int (iI 9), .ref a0]) rfl ?_
              have ty88 := xl4.ty ty44
              refine d_callV (As := []) (rest := [.int (iI 9), .ref a0]) C hM (C_placeOfWrong (a0 := (sk 16)) W5 sk3 ty88  ) dX11_read_119 kV_X11_338 rfl ty88 rfl rfl (by decide) ck_4 rfl (Nat.le_of_ble_eq_true rfl) ⟨(Nat.le_of_ble_eq_true rfl), (Nat.le_of_ble_eq_true rfl)⟩ hph pl4 (show 0 + 0 = 0 from rfl) (by decide) (fun rh9 Lh9 clh9 lnh9 ivh9 rvh9 h9 => ?_)
              obtain ⟨f9, rfl, rfl, rfl, rfl, rfl, rfl, rgf9, exf9⟩ := h9
              refine c_st (st2 := [.int (iI f9), .int (iI 9), .ref a0]) rfl ?_
              refine d_callV (As := [.int (iI 9), .int (iI f9)]) (rest := []) C hM (C_refuseAt (a0 := a0) (x := 9) (y := f9) W5 sk3 ty65 ⟨by decide, by decide⟩ (by omega) ) dX11_read_122 kV_X11_266 rfl ty65 rfl rfl (by decide) ck_12 rfl (Nat.le_of_ble_eq_true rfl) ⟨(Nat.le_of_ble_eq_true rfl), (Nat.le_of_ble_eq_true rfl)⟩ hph pl4 (show 0 + 0 = 0 from rfl) (by decide) (fun rh10 Lh10 clh10 lnh10 ivh10 rvh10 h10 => ?_)
              obtain ⟨f10, rfl, rfl, rfl, rfl, rfl, fl10, W10, rgf10, exf10, kp11f10, kp12f10, kp13f10, kp14f10, kp15f10, kp16f10⟩ := h10
              refine hv32 (show 1 ≤ ivh5 a0 11 ∧ ivh5 a0 11 ≤ 100 from W5.int ty65 11) (show ivh5 a0 11 = ivh4 a0 11 from fl5.i ty65 rfl 11) (show ivh4 a0 11 = ivh3 a0 11 from fl4.i ty43 rfl 11) (show ivh3 a0 11 = ivh2 a0 11 from fl3.i ty22 rfl 11) (show ivh2 a0 11 = ivb1 a0 11 from fl2.i ty1 rfl 11) (show 1 ≤ ivh5 a0 12 ∧ ivh5 a0 12 ≤ 50 from W5.int ty65 12) (show ivh5 a0 12 = ivh4 a0 12 from fl5.i ty65 rfl 12) (show ivh4 a0 12 = ivh3 a0 12 from fl4.i ty43 rfl 12) (show ivh3 a0 12 = ivh2 a0 12 from fl3.i ty22 rfl 12) (show ivh2 a0 12 = ivb1 a0 12 from fl2.i ty1 rfl 12) (show (-2147483648) ≤ ivh5 a0 13 ∧ ivh5 a0 13 ≤ 2147483647 from W5.int ty65 13) (show ivh5 a0 13 = ivh4 a0 13 from fl5.i ty65 rfl 13) (show ivh4 a0 13 = ivh3 a0 13 from fl4.i ty43 rfl 13) (show ivh3 a0 13 = ivh2 a0 13 from fl3.i ty22 rfl 13) (show ivh2 a0 13 = ivb1 a0 13 from fl2.i ty1 rfl 13) (show (-2147483648) ≤ ivh5 a0 14 ∧ ivh5 a0 14 ≤ 2147483647 from W5.int ty65 14) (show ivh5 a0 14 = ivh4 a0 14 from fl5.i ty65 rfl 14) (show ivh4 a0 14 = ivh3 a0 14 from fl4.i ty43 rfl 14) (show ivh3 a0 14 = ivh2 a0 14 from fl3.i ty22 rfl 14) (show ivh2 a0 14 = ivb1 a0 14 from fl2.i ty1 rfl 14) (show (-2147483648) ≤ ivh5 a0 15 ∧ ivh5 a0 15 ≤ 2147483647 from W5.int ty65 15) (show ivh5 a0 15 = ivh4 a0 15 from fl5.i ty65 rfl 15) (show ivh4 a0 15 = ivh3 a0 15 from fl4.i ty43 rfl 15) (show ivh3 a0 15 = ivh2 a0 15 from fl3.i ty22 rfl 15) (show ivh2 a0 15 = ivb1 a0 15 from fl2.i ty1 rfl 15) (show (-2147483648) ≤ ivh5 a0 16 ∧ ivh5 a0 16 ≤ 2147483647 from W5.int ty65 16) (show ivh5 a0 16 = ivh4 a0 16 from fl5.i ty65 rfl 16) (show ivh4 a0 16 = ivh3 a0 16 from fl4.i ty43 rfl 16) (show ivh3 a0 16 = ivh2 a0 16 from fl3.i ty22 rfl 16) (show ivh2 a0 16 = ivb1 a0 16 from fl2.i ty1 rfl 16) (F4.call X3 fl10 rfl) (MRK.call mr4 W5 sk3 XT.refl fl10 rfl rfl) (fun ri36 ie87 ie88 ie89 ie90 ri37 ie92 ie93 ie94 ie95 ri38 ie97 ie98 ie99 ie100 ri39 ie101 ie102 ie103 ie104 ri40 ie106 ie107 ie108 ie109 ri41 ie111 ie112 ie113 ie114 F8 mr8 => ?_)
              refine c_st (st2 := [.int (iI f10)]) rfl ?_
              refine hv15 (show ivh10 a0 11 = ivh5 a0 11 from kp11f10) (show ivh10 a0 12 = ivh5 a0 12 from kp12f10) (show ivh10 a0 13 = ivh5 a0 13 from kp13f10) (show ivh10 a0 14 = ivh5 a0 14 from kp14f10) (show ivh10 a0 15 = ivh5 a0 15 from kp15f10) (show ivh10 a0 16 = ivh5 a0 16 from kp16f10) (show f10 = -1 from exf10) (show 1 ≤ ivh10 a0 11 ∧ ivh10 a0 11 ≤ 100 from W10.int ty65 11) (show 1 ≤ ivh10 a0 12 ∧ ivh10 a0 12 ≤ 50 from W10.int ty65 12) (show (-2147483648) ≤ ivh10 a0 13 ∧ ivh10 a0 13 ≤ 2147483647 from W10.int ty65 13) (show (-2147483648) ≤ ivh10 a0 14 ∧ ivh10 a0 14 ≤ 2147483647 from W10.int ty65 14) (show (-2147483648) ≤ ivh10 a0 15 ∧ ivh10 a0 15 ≤ 2147483647 from W10.int ty65 15) (show (-2147483648) ≤ ivh10 a0 16 ∧ ivh10 a0 16 ≤ 2147483647 from W10.int ty65 16) (show 0 ≤ ivh10 (sk 4) 2 ∧ ivh10 (sk 4) 2 ≤ 4000 from W10.int ty66 2) (show ivh10 (sk 4) 2 = ivh5 (sk 4) 2 from fl10.i ty66 rfl 2) (fun gk11f10 gk12f10 gk13f10 gk14f10 gk15f10 gk16f10 gf10 ri42 ri43 ri44 ri45 ri46 ri47 ri48 ie122 => ?_)
              exact c_iret C dX11_read_125 rfl (by decide) (rom0 hph pl4 (by decide)) ⟨f10, rfl, X3, F8, W10, ⟨by omega, by omega⟩, trivial, (gk11f10.trans (ie87.trans (ie88.trans (ie89.trans (ie90.trans hkp11))))), (gk12f10.trans (ie92.trans (ie93.trans (ie94.trans (ie95.trans hkp12))))), (gk13f10.trans (ie97.trans (ie98.trans (ie99.trans (ie100.trans hkp13))))), (gk14f10.trans (ie101.trans (ie102.trans (ie103.trans (ie104.trans hkp14))))), (gk15f10.trans (ie106.trans (ie107.trans (ie108.trans (ie109.trans hkp15))))), (gk16f10.trans (ie111.trans (ie112.trans (ie113.trans (ie114.trans hkp16))))), (PRD.wrong hD9 hsA (by omega) (by omega) (by omega)), (Eq.trans (show rvh4 a0 9 = rvh3 a0 9 from (fl4.r ty43 rfl 9)) (Eq.trans (show rvh3 a0 9 = rvh2 a0 9 from (fl3.r ty22 rfl 9)) (Eq.trans (show rvh2 a0 9 = rvb1 a0 9 from (fl2.r ty1 rfl 9)) (show rvb1 a0 9 = rv a0 9 from hkr9)))), (Eq.trans (show rvh4 a0 10 = rvh3 a0 10 from (fl4.r ty43 rfl 10)) (Eq.trans (show rvh3 a0 10 = rvh2 a0 10 from (fl3.r ty22 rfl 10)) (Eq.trans (show rvh2 a0 10 = rvb1 a0 10 from (fl2.r ty1 rfl 10)) (show rvb1 a0 10 = rv a0 10 from hkr10))))⟩
          · refine c_aload_n (j := 2) (x := a0) C dX11_read_40 rfl ?_
            have ty89 := Xb1.ty t_a0
            refine c_getr (k := 9) C ck_12 dX11_read_41 w2_53 (by decide) ty89 rfl rfl (by decide) rfl (hkr9.trans hsA) ?_
            refine c_st (st2 := [.ref sA]) rfl ?_
            refine c_iload_n (j := 4) C dX11_read_44 rfl ?_
            refine c_iload (j := 0) C dX11_read_45 rfl ?_
            refine c_iadd C dX11_read_47 ?_
            obtain ⟨zz1, hzz1, ezz1⟩ := iI_of (iI (x + k))
            refine c_st (st2 := [.int (iI zz1), .ref sA]) (by rw [ezz1]) ?_
            refine hv2 (Xb1.ty tsA) (Phi.le Wb1 skb1) (fun ty90 pl6 => ?_)
            refine d_callV (As := [.int (iI zz1)]) (rest := []) C hM (G_present (a0 := sA) (i := zz1) Wb1 skb1 ty90 (by omega) ) dX11_read_48 kV_X11_288 rfl ty90 rfl rfl (by decide) ck_8 rfl (Nat.le_of_ble_eq_true rfl) ⟨(Nat.le_of_ble_eq_true rfl), (Nat.le_of_ble_eq_true rfl)⟩ hph pl6 (show 0 + 0 = 0 from rfl) (by decide) (fun rh11 Lh11 clh11 lnh11 ivh11 rvh11 h11 => ?_)
            obtain ⟨f11, rfl, rfl, rfl, rfl, rfl, rfl, rgf11, exf11⟩ := h11
            refine c_st (st2 := [(va_rf f11)]) rfl ?_
            have gf11 : PRX ivb1 rvb1 sA zz1 f11 := exf11
            refine c_ifnonnull (r := f11) (tgt := 70) C dX11_read_51 (by decide) (fun ob2 oq2 => ?_) (fun oq2 => ?_)
            · subst oq2
              have tob2 := rgf11 ob2 rfl
              refine c_lv (lv2 := [(5, .int (iI k)), (4, .ref ob1), (0, .ref a0), (1, .int (iI i)), (2, .int (iI x)), (3, .int (iI n))]) [0, 1, 2, 3, 4, 5] rfl ?_
              refine c_st (st2 := []) rfl ?_
              refine c_iinc (z := k) (j := 0) (lv2 := [(5, .int (iI (k + 1))), (4, .ref ob1), (0, .ref a0), (1, .int (iI i)), (2, .int (iI x)), (3, .int (iI n))]) C dX11_read_70 rfl (by decide) rfl ?_
              refine c_goto (tgt := 34) C dX11_read_73 (by decide) ?_
              refine hv7 (Xb1.ty tsk4) (show 1 ≤ ivb1 a0 11 ∧ ivb1 a0 11 ≤ 100 from Wb1.int ty89 11) (show 1 ≤ ivb1 a0 12 ∧ ivb1 a0 12 ≤ 50 from Wb1.int ty89 12) (show (-2147483648) ≤ ivb1 a0 13 ∧ ivb1 a0 13 ≤ 2147483647 from Wb1.int ty89 13) (show (-2147483648) ≤ ivb1 a0 14 ∧ ivb1 a0 14 ≤ 2147483647 from Wb1.int ty89 14) (show (-2147483648) ≤ ivb1 a0 15 ∧ ivb1 a0 15 ≤ 2147483647 from Wb1.int ty89 15) (show (-2147483648) ≤ ivb1 a0 16 ∧ ivb1 a0 16 ≤ 2147483647 from Wb1.int ty89 16) (fun ty91 ri50 ri51 ri52 ri53 ri54 ri55 => ?_)
              have ri49 : 0 ≤ ivb1 (sk 4) 2 ∧ ivb1 (sk 4) 2 ≤ 4000 := Wb1.int ty91 2
              refine c_lv (lv2 := [(5, .int (iI (k + 1))), (4, .ref ob1), (0, .ref a0), (1, .int (iI i)), (2, .int (iI x)), (3, .int (iI n))]) [0, 1, 2, 3, 4, 5] rfl ?_
              exact ih1  (k + 1) _ _ _ _ _ (by omega) Xb1 Wb1 Fb1  (by omega) (hK9.step hsA (SAM.frm hW tsA Fb1 rfl rfl rfl rfl) gf11 ezz1 ⟨by omega, by omega⟩ ⟨by omega, by omega⟩ ⟨by omega, by omega⟩) h4s hC4 hkp11 hkp12 hkp13 hkp14 hkp15 hkp16 (show rvb1 a0 9 = rv a0 9 from hkr9) (show rvb1 a0 10 = rv a0 10 from hkr10)
            · subst oq2
              refine c_lv (lv2 := [(5, .int (iI k)), (4, .ref ob1), (0, .ref a0), (1, .int (iI i)), (2, .int (iI x)), (3, .int (iI n))]) [0, 1, 2, 3, 4, 5] rfl ?_
              refine c_st (st2 := []) rfl ?_
              refine c_aload_n (j := 2) (x := a0) C dX11_read_54 rfl ?_
              refine c_aload_n (j := 2) (x := a0) C dX11_read_55 rfl ?_
              refine c_getr (k := 9) C ck_12 dX11_read_56 w2_53 (by decide) ty89 rfl rfl (by decide) rfl (hkr9.trans hsA) ?_
              refine c_st (st2 := [.ref sA, .ref a0]) rfl ?_
              refine c_iload_n (j := 4) C dX11_read_59 rfl ?_
              refine c_iload (j := 0) C dX11_read_60 rfl ?_
              refine c_iadd C dX11_read_62 ?_
              obtain ⟨zz2, hzz2, ezz2⟩ := iI_of (iI (x + k))
              refine c_st (st2 := [.int (iI zz2), .ref sA, .ref a0]) (by rw [ezz2]) ?_
              refine d_callV (As := [.int (iI zz2)]) (rest := [.ref a0]) C hM (C_whyNone (a0 := sA) (i := zz2) Wb1 skb1 ty90 (by omega) ) dX11_read_63 kV_X11_292 rfl ty90 rfl rfl (by decide) ck_8 rfl (Nat.le_of_ble_eq_true rfl) ⟨(Nat.le_of_ble_eq_true rfl), (Nat.le_of_ble_eq_true rfl)⟩ hph pl6 (show 0 + 0 = 0 from rfl) (by decide) (fun rh12 Lh12 clh12 lnh12 ivh12 rvh12 h12 => ?_)
              obtain ⟨f12, rfl, rfl, rfl, rfl, rfl, rfl, rgf12, exf12⟩ := h12
              refine c_st (st2 := [.int (iI f12), .ref a0]) rfl ?_
              have gf12 : f12 = 1 ∨ f12 = 2 := exf12
              refine d_callV (As := [.int (iI f12)]) (rest := []) C hM (C_refuse (a0 := a0) (x := f12) Wb1 skb1 ty89 (by omega) ) dX11_read_66 kV_X11_102 rfl ty89 rfl rfl (by decide) ck_12 rfl (Nat.le_of_ble_eq_true rfl) ⟨(Nat.le_of_ble_eq_true rfl), (Nat.le_of_ble_eq_true rfl)⟩ hph pl6 (show 0 + 0 = 0 from rfl) (by decide) (fun rh13 Lh13 clh13 lnh13 ivh13 rvh13 h13 => ?_)
              obtain ⟨f13, rfl, rfl, rfl, rfl, rfl, fl13, W13, rgf13, exf13, kp11f13, kp12f13, kp13f13, kp14f13, kp15f13, kp16f13⟩ := h13
              refine hv8 (show 1 ≤ ivb1 a0 11 ∧ ivb1 a0 11 ≤ 100 from Wb1.int ty89 11) (show 1 ≤ ivb1 a0 12 ∧ ivb1 a0 12 ≤ 50 from Wb1.int ty89 12) (show (-2147483648) ≤ ivb1 a0 13 ∧ ivb1 a0 13 ≤ 2147483647 from Wb1.int ty89 13) (show (-2147483648) ≤ ivb1 a0 14 ∧ ivb1 a0 14 ≤ 2147483647 from Wb1.int ty89 14) (show (-2147483648) ≤ ivb1 a0 15 ∧ ivb1 a0 15 ≤ 2147483647 from Wb1.int ty89 15) (show (-2147483648) ≤ ivb1 a0 16 ∧ ivb1 a0 16 ≤ 2147483647 from Wb1.int ty89 16) (Fb1.call Xb1 fl13 rfl) (MRK.call mrb1 Wb1 skb1 XT.refl fl13 rfl rfl) (fun ri56 ri57 ri58 ri59 ri60 ri61 F9 mr9 => ?_)
              refine c_st (st2 := [.int (iI f13)]) rfl ?_
              refine hv14 (show ivh13 a0 11 = ivb1 a0 11 from kp11f13) (show ivh13 a0 12 = ivb1 a0 12 from kp12f13) (show ivh13 a0 13 = ivb1 a0 13 from kp13f13) (show ivh13 a0 14 = ivb1 a0 14 from kp14f13) (show ivh13 a0 15 = ivb1 a0 15 from kp15f13) (show ivh13 a0 16 = ivb1 a0 16 from kp16f13) (show f13 = -1 from exf13) (show 1 ≤ ivh13 a0 11 ∧ ivh13 a0 11 ≤ 100 from W13.int ty89 11) (show 1 ≤ ivh13 a0 12 ∧ ivh13 a0 12 ≤ 50 from W13.int ty89 12) (show (-2147483648) ≤ ivh13 a0 13 ∧ ivh13 a0 13 ≤ 2147483647 from W13.int ty89 13) (show (-2147483648) ≤ ivh13 a0 14 ∧ ivh13 a0 14 ≤ 2147483647 from W13.int ty89 14) (show (-2147483648) ≤ ivh13 a0 15 ∧ ivh13 a0 15 ≤ 2147483647 from W13.int ty89 15) (show (-2147483648) ≤ ivh13 a0 16 ∧ ivh13 a0 16 ≤ 2147483647 from W13.int ty89 16) (Xb1.ty tsk4) (fun gk11f13 gk12f13 gk13f13 gk14f13 gk15f13 gk16f13 gf13 ri62 ri63 ri64 ri65 ri66 ri67 ty92 => ?_)
              refine hv2 (show 0 ≤ ivh13 (sk 4) 2 ∧ ivh13 (sk 4) 2 ≤ 4000 from W13.int ty92 2) (show ivh13 (sk 4) 2 = ivb1 (sk 4) 2 from fl13.i ty92 rfl 2) (fun ri68 ie142 => ?_)
              exact c_iret C dX11_read_69 rfl (by decide) (rom0 hph pl6 (by decide)) ⟨f13, rfl, Xb1, F9, W13, ⟨by omega, by omega⟩, trivial, (gk11f13.trans hkp11), (gk12f13.trans hkp12), (gk13f13.trans hkp13), (gk14f13.trans hkp14), (gk15f13.trans hkp15), (gk16f13.trans hkp16), (PRD.bad (fun E hE hl => RKP.bad hsA (SAM.frm hW tsA Fb1 rfl rfl rfl rfl) gf11 ezz1 ⟨by omega, by omega⟩ ⟨by omega, by omega⟩ ⟨by omega, by omega, by omega⟩ hE hl) hsA (by omega) ⟨by omega, fun ss hs => (CT.fr (hC4 ss hs) Wb1 ty92 fl13 rfl rfl rfl rfl rfl)⟩), (show rvb1 a0 9 = rv a0 9 from hkr9), (show rvb1 a0 10 = rv a0 10 from hkr10)⟩
      refine hv5 (show 1 ≤ iv a0 11 ∧ iv a0 11 ≤ 100 from hW.int t_a0 11) (show 1 ≤ iv a0 12 ∧ iv a0 12 ≤ 50 from hW.int t_a0 12) (show (-2147483648) ≤ iv a0 14 ∧ iv a0 14 ≤ 2147483647 from hW.int t_a0 14) (show (-2147483648) ≤ iv a0 15 ∧ iv a0 15 ≤ 2147483647 from hW.int t_a0 15) (show (-2147483648) ≤ iv a0 16 ∧ iv a0 16 ≤ 2147483647 from hW.int t_a0 16) (fun ri69 ri70 ri71 ri72 ri73 => ?_)
      refine c_lv (lv2 := [(5, .int (iI 0)), (4, .ref ob1), (0, .ref a0), (1, .int (iI i)), (2, .int (iI x)), (3, .int (iI n))]) [0, 1, 2, 3, 4, 5] rfl ?_
      exact Lp1 2147483650 0 _ _ _ _ _ (by omega) hX0 hW hF0  (by omega) RKP.zero rfl (fun ss hs => hs) rfl rfl rfl rfl rfl rfl rfl rfl
    · refine c_aload_n (j := 1) (x := a0) C dX11_read_25 rfl ?_
      refine c_iconst C dX11_read_26 ?_
      refine d_callV (As := [.int (iI 5)]) (rest := []) C hM (C_refuse (a0 := a0) (x := 5) hW hS t_a0 ⟨by decide, by decide⟩ ) dX11_read_27 kV_X11_102 rfl t_a0 rfl rfl (by decide) ck_12 rfl (Nat.le_of_ble_eq_true rfl) ⟨(Nat.le_of_ble_eq_true rfl), (Nat.le_of_ble_eq_true rfl)⟩ hph hph (show 0 + 0 = 0 from rfl) (by decide) (fun rh14 Lh14 clh14 lnh14 ivh14 rvh14 h14 => ?_)
      obtain ⟨f14, rfl, rfl, rfl, rfl, rfl, fl14, W14, rgf14, exf14, kp11f14, kp12f14, kp13f14, kp14f14, kp15f14, kp16f14⟩ := h14
      refine hv7 (show 1 ≤ iv a0 11 ∧ iv a0 11 ≤ 100 from hW.int t_a0 11) (show 1 ≤ iv a0 12 ∧ iv a0 12 ≤ 50 from hW.int t_a0 12) (show (-2147483648) ≤ iv a0 14 ∧ iv a0 14 ≤ 2147483647 from hW.int t_a0 14) (show (-2147483648) ≤ iv a0 15 ∧ iv a0 15 ≤ 2147483647 from hW.int t_a0 15) (show (-2147483648) ≤ iv a0 16 ∧ iv a0 16 ≤ 2147483647 from hW.int t_a0 16) (hF0.call hX0 fl14 rfl) (MRK.call hmr hW hS XT.refl fl14 rfl rfl) (fun ri74 ri75 ri76 ri77 ri78 F10 mr10 => ?_)
      refine c_st (st2 := [.int (iI f14)]) rfl ?_
      refine hv15 (show ivh14 a0 11 = iv a0 11 from kp11f14) (show ivh14 a0 12 = iv a0 12 from kp12f14) (show ivh14 a0 13 = iv a0 13 from kp13f14) (show ivh14 a0 14 = iv a0 14 from kp14f14) (show ivh14 a0 15 = iv a0 15 from kp15f14) (show ivh14 a0 16 = iv a0 16 from kp16f14) (show f14 = -1 from exf14) (show 1 ≤ ivh14 a0 11 ∧ ivh14 a0 11 ≤ 100 from W14.int t_a0 11) (show 1 ≤ ivh14 a0 12 ∧ ivh14 a0 12 ≤ 50 from W14.int t_a0 12) (show (-2147483648) ≤ ivh14 a0 13 ∧ ivh14 a0 13 ≤ 2147483647 from W14.int t_a0 13) (show (-2147483648) ≤ ivh14 a0 14 ∧ ivh14 a0 14 ≤ 2147483647 from W14.int t_a0 14) (show (-2147483648) ≤ ivh14 a0 15 ∧ ivh14 a0 15 ≤ 2147483647 from W14.int t_a0 15) (show (-2147483648) ≤ ivh14 a0 16 ∧ ivh14 a0 16 ≤ 2147483647 from W14.int t_a0 16) (show 0 ≤ ivh14 (sk 4) 2 ∧ ivh14 (sk 4) 2 ≤ 4000 from W14.int tsk4 2) (show ivh14 (sk 4) 2 = iv (sk 4) 2 from fl14.i tsk4 rfl 2) (fun gk11f14 gk12f14 gk13f14 gk14f14 gk15f14 gk16f14 gf14 ri79 ri80 ri81 ri82 ri83 ri84 ri85 ie150 => ?_)
      exact c_iret C dX11_read_30 rfl (by decide) (rom0 hph hph (by decide)) ⟨f14, rfl, hX0, F10, W14, ⟨by omega, by omega⟩, trivial, gk11f14, gk12f14, gk13f14, gk14f14, gk15f14, gk16f14, (PRD.neg (by omega) (by omega) ⟨by omega, fun ss hs => (CT.fr hs hW tsk4 fl14 rfl rfl rfl rfl rfl)⟩), rfl, rfl⟩
  · subst oq1
    refine c_lv (lv2 := [(4, .null), (0, .ref a0), (1, .int (iI i)), (2, .int (iI x)), (3, .int (iI n))]) [0, 1, 2, 3, 4] rfl ?_
    refine c_st (st2 := []) rfl ?_
    refine c_aload_n (j := 1) (x := a0) C dX11_read_15 rfl ?_
    refine c_iconst C dX11_read_16 ?_
    refine d_callV (As := [.int (iI 3)]) (rest := []) C hM (C_refuse (a0 := a0) (x := 3) hW hS t_a0 ⟨by decide, by decide⟩ ) dX11_read_17 kV_X11_102 rfl t_a0 rfl rfl (by decide) ck_12 rfl (Nat.le_of_ble_eq_true rfl) ⟨(Nat.le_of_ble_eq_true rfl), (Nat.le_of_ble_eq_true rfl)⟩ hph hph (show 0 + 0 = 0 from rfl) (by decide) (fun rh15 Lh15 clh15 lnh15 ivh15 rvh15 h15 => ?_)
    obtain ⟨f15, rfl, rfl, rfl, rfl, rfl, fl15, W15, rgf15, exf15, kp11f15, kp12f15, kp13f15, kp14f15, kp15f15, kp16f15⟩ := h15
    refine hv7 (show 1 ≤ iv a0 11 ∧ iv a0 11 ≤ 100 from hW.int t_a0 11) (show 1 ≤ iv a0 12 ∧ iv a0 12 ≤ 50 from hW.int t_a0 12) (show (-2147483648) ≤ iv a0 14 ∧ iv a0 14 ≤ 2147483647 from hW.int t_a0 14) (show (-2147483648) ≤ iv a0 15 ∧ iv a0 15 ≤ 2147483647 from hW.int t_a0 15) (show (-2147483648) ≤ iv a0 16 ∧ iv a0 16 ≤ 2147483647 from hW.int t_a0 16) (hF0.call hX0 fl15 rfl) (MRK.call hmr hW hS XT.refl fl15 rfl rfl) (fun ri86 ri87 ri88 ri89 ri90 F11 mr11 => ?_)
    refine c_st (st2 := [.int (iI f15)]) rfl ?_
    refine hv15 (show ivh15 a0 11 = iv a0 11 from kp11f15) (show ivh15 a0 12 = iv a0 12 from kp12f15) (show ivh15 a0 13 = iv a0 13 from kp13f15) (show ivh15 a0 14 = iv a0 14 from kp14f15) (show ivh15 a0 15 = iv a0 15 from kp15f15) (show ivh15 a0 16 = iv a0 16 from kp16f15) (show f15 = -1 from exf15) (show 1 ≤ ivh15 a0 11 ∧ ivh15 a0 11 ≤ 100 from W15.int t_a0 11) (show 1 ≤ ivh15 a0 12 ∧ ivh15 a0 12 ≤ 50 from W15.int t_a0 12) (show (-2147483648) ≤ ivh15 a0 13 ∧ ivh15 a0 13 ≤ 2147483647 from W15.int t_a0 13) (show (-2147483648) ≤ ivh15 a0 14 ∧ ivh15 a0 14 ≤ 2147483647 from W15.int t_a0 14) (show (-2147483648) ≤ ivh15 a0 15 ∧ ivh15 a0 15 ≤ 2147483647 from W15.int t_a0 15) (show (-2147483648) ≤ ivh15 a0 16 ∧ ivh15 a0 16 ≤ 2147483647 from W15.int t_a0 16) (show 0 ≤ ivh15 (sk 4) 2 ∧ ivh15 (sk 4) 2 ≤ 4000 from W15.int tsk4 2) (show ivh15 (sk 4) 2 = iv (sk 4) 2 from fl15.i tsk4 rfl 2) (fun gk11f15 gk12f15 gk13f15 gk14f15 gk15f15 gk16f15 gf15 ri91 ri92 ri93 ri94 ri95 ri96 ri97 ie157 => ?_)
    exact c_iret C dX11_read_20 rfl (by decide) (rom0 hph hph (by decide)) ⟨f15, rfl, hX0, F11, W15, ⟨by omega, by omega⟩, trivial, gk11f15, gk12f15, gk13f15, gk14f15, gk15f15, gk16f15, (PRD.nw gf1 (by omega) ⟨by omega, fun ss hs => (CT.fr hs hW tsk4 fl15 rfl rfl rfl rfl rfl)⟩), rfl, rfl⟩
end
section
theorem PO2_read {l : Launch} {G : GT} {mi h0 : Nat} {i : Int} {x : Int} {n : Int} (h_i : -2147483648 ≤ i ∧ i ≤ 2147483647) (h_x : -2147483648 ≤ x ∧ x ≤ 2147483647) (h_n : -2147483648 ≤ n ∧ n ≤ 2147483647) : PressOp l G mi yX11_read cX11_read 6 (some .int) 10 [.int (iI i), .int (iI x), .int (iI n)] h0 (fun sk L cl ln iv rv L2 cl2 ln2 iv2 rv2 f => ((PRD sk ln iv rv iv2 rv2 h0 (iv h0 13) i x n f) ∧ (KSQ h0 iv rv iv2 rv2 ∧ KSC h0 iv rv iv2 rv2 ∧ iv2 h0 15 = iv h0 15 ∧ iv2 h0 16 = iv h0 16 ∧ (iv2 (sk 5) 2 = iv (sk 5) 2 ∧ ∀ ss, CT iv rv (sk 5) ss → CT iv2 rv2 (sk 5) ss) ∧ True ∧ FKP sk iv rv iv2 rv2)) ∧ (iv2 h0 14 = iv h0 14 ∧ iv2 h0 11 = iv h0 11 ∧ iv2 h0 12 = iv h0 12 ∧ iv2 h0 13 = iv h0 13) ∧ (iv2 (sk 2) 2 = iv (sk 2) 2 ∧ (∀ ss, CT iv rv (sk 2) ss → CT iv2 rv2 (sk 2) ss)) ∧ (iv2 (sk 3) 2 = iv (sk 3) 2 ∧ (∀ tt, CT iv rv (sk 3) tt → CT iv2 rv2 (sk 3) tt)) ∧ PSAME sk iv rv iv2 rv2 ∧ (∃ g, WT g sk L cl ln iv rv ∧ WT g sk L2 cl2 ln2 iv2 rv2) ∧ SKL sk L cl ∧ XT L cl ln L2 cl2 ln2 ∧ (KP L cl (fun _ => False) (fun _ => False) (fun _ => False) (fun _ => False) (fun _ _ => False) iv rv iv2 rv2)) := by
  intro n L cl ln iv rv sk hn hp
  obtain ⟨hW, hS, hm, h23, ht⟩ := hp
  refine hv3 (show ty L cl (sk 23) 23 from ⟨(hS 23 rfl).1, by rw [(hS 23 rfl).2]; rfl⟩) (show ty L cl (sk 2) 2 from ⟨(hS 2 rfl).1, by rw [(hS 2 rfl).2]; rfl⟩) (show ty L cl (sk 3) 3 from ⟨(hS 3 rfl).1, by rw [(hS 3 rfl).2]; rfl⟩) (fun t23 t2 t3 => ?_)
  refine ⟨0, _, by decide, G_read hW hS ht h_i h_x h_n hm, fun v L2 cl2 ln2 iv2 rv2 h => ?_⟩
  obtain ⟨f, rfl, hX, hF, hW2, rg, ex, kp11, kp12, kp13, kp14, kp15, kp16, prd, kr9, kr10⟩ := h
  exact ⟨f, rfl, by omega, hX, hW2, (MRK.call hm hW hS hX hF rfl rfl), (by have q := hF.i t23 rfl 2; omega), ⟨⟨prd, ⟨(KSQ.fr hW ht hF kr9 kr10 rfl rfl rfl), (KSC.fr hW ht hF kr9 kr10 rfl rfl rfl rfl), kp15, kp16, ⟨hF.i (tysq (t := 5) hS rfl rfl) rfl 2, fun ss hs => CT.fr hs hW (tysq (t := 5) hS rfl rfl) hF rfl rfl rfl rfl rfl⟩, trivial, (FKP.fr hW hS hF rfl rfl rfl rfl)⟩⟩, ⟨kp14, kp11, kp12, kp13⟩, ⟨hF.i t2 rfl 2, fun ss hs => CT.fr hs hW t2 hF rfl rfl rfl rfl rfl⟩, ⟨hF.i t3 rfl 2, fun tt ht => CT.fr ht hW t3 hF rfl rfl rfl rfl rfl⟩, (PSAME.fr hW hS hF rfl rfl rfl rfl rfl rfl rfl), ⟨⟨_, hW, hW2⟩, hS, hX, (KP.fr hW hF rfl)⟩⟩⟩
theorem MO2_read {l : Launch} {G : GT} {mm : Nat} {x1 : Int} {x2 : Int} {x3 : Int} (h_x1 : -2147483648 ≤ x1 ∧ x1 ≤ 2147483647) (h_x2 : -2147483648 ≤ x2 ∧ x2 ≤ 2147483647) (h_x3 : -2147483648 ≤ x3 ∧ x3 ≤ 2147483647) : ModelOp l G yX12_read cX12_read 11 (some .int) 36 [.int (iI x1), .int (iI x2), .int (iI x3)] mm 0 0 (fun v a v2 a2 f => (((RDR v a v2 a2 x1 x2 x3 f ∧ TBL v a ∧ (∀ j, a 16 j ≤ 4) ∧ v 36 ≤ 200)) ∧ (v2 36 = v 36 ∧ KSA v a v2 a2 ∧ v2 42 = v 42 ∧ v2 43 = v 43 ∧ (v2 41 = v 41 ∧ a2 40 = a 40) ∧ True ∧ (v2 60 = v 60 ∧ v2 61 = v 61 ∧ a2 58 = a 58 ∧ a2 59 = a 59))) ∧ (v2 56 = v 56 ∧ v2 31 = v 31 ∧ v2 32 = v 32 ∧ v2 33 = v 33) ∧ (v2 3 = v 3 ∧ a2 2 = a 2) ∧ (v2 30 = v 30 ∧ a2 29 = a 29) ∧ TSAME v a v2 a2) := by
  intro n ad ln v a L E hn hV hI
  obtain ⟨hB, hT, hS, hR, h19⟩ := hV
  refine ⟨_, N2_read (t := x1) (q := x2) (n1 := x3) hB hT hR h_x1 h_x2 h_x3 L E hI, fun r L2 E2 h => ?_⟩
  obtain ⟨v2, a2, hI2, f, rfl, hf, hB2, hx⟩ := h
  exact ⟨f, ad, ln, v2, a2, rfl, hI2, ⟨hB2, (hT.fr hf rfl rfl), (hS.fr hf rfl rfl), hx.1, (by have q := hf.1 19 rfl; push_cast; omega)⟩, ⟨⟨⟨hx.2, hT, fun j => (hB.2 16 j).2, (hB.1 36).2⟩, ⟨hf.1 36 rfl, ⟨hf.1 36 rfl, hf.2 34 rfl, hf.2 35 rfl⟩, hf.1 42 rfl, hf.1 43 rfl, ⟨hf.1 41 rfl, hf.2 40 rfl⟩, trivial, ⟨hf.1 60 rfl, hf.1 61 rfl, hf.2 58 rfl, hf.2 59 rfl⟩⟩⟩, ⟨hf.1 56 rfl, hf.1 31 rfl, hf.1 32 rfl, hf.1 33 rfl⟩, ⟨hf.1 3 rfl, hf.2 2 rfl⟩, ⟨hf.1 30 rfl, hf.2 29 rfl⟩, ⟨hf.1 4 rfl, hf.2 5 rfl, hf.2 6 rfl, hf.2 7 rfl, hf.2 10 rfl, hf.1 19 rfl, hf.2 18 rfl, hf.2 11 rfl, hf.2 8 rfl, hf.2 9 rfl, hf.2 12 rfl, hf.2 13 rfl, hf.2 14 rfl, hf.2 15 rfl, hf.2 16 rfl, hf.2 17 rfl⟩⟩⟩
end
section
def HLX (iv : Nat → Nat → Int) (rv : Nat → Nat → Option Nat) (s q : Nat) (f : Int) : Prop := ∀ bs ws, BYT iv rv q 4001 bs → LTW iv rv s (RR0 ws) 0 (iv s 4) → iv s 4 = ((ws.length : Nat) : Int) → ws.length ≤ 500 → (f = 1 ↔ bs = ws)
def HLI (iv : Nat → Nat → Int) (rv : Nat → Nat → Option Nat) (s q : Nat) (k : Int) : Prop := iv q 2 = iv s 4 ∧ ∀ bs ws, BYT iv rv q 4001 bs → LTW iv rv s (RR0 ws) 0 (iv s 4) → iv s 4 = ((ws.length : Nat) : Int) → ws.length ≤ 500 → ∀ j : Nat, ((j : Nat) : Int) < k → bs[j]? = ws[j]?
def WWI (iv : Nat → Nat → Int) (rv : Nat → Nat → Option Nat) (iv1 : Nat → Nat → Int) (rv1 : Nat → Nat → Option Nat) (s q : Nat) (k : Int) : Prop := ∀ ws, iv q 2 = 0 → LTW iv rv s (RR0 ws) 0 (iv s 4) → iv s 4 = ((ws.length : Nat) : Int) → ws.length ≤ 500 → iv1 q 2 = k ∧ CT iv1 rv1 q (fun j => (ws[j]?).getD 0)
def WWQ (iv : Nat → Nat → Int) (rv : Nat → Nat → Option Nat) (iv2 : Nat → Nat → Int) (rv2 : Nat → Nat → Option Nat) (s q : Nat) : Prop := ∀ ws, iv q 2 = 0 → LTW iv rv s (RR0 ws) 0 (iv s 4) → iv s 4 = ((ws.length : Nat) : Int) → ws.length ≤ 500 → iv2 q 2 = ((ws.length : Nat) : Int) ∧ CT iv2 rv2 q (fun j => (ws[j]?).getD 0)
section ULET
variable {iv iv1 iv2 : Nat → Nat → Int} {rv rv1 rv2 : Nat → Nat → Option Nat} {s q b : Nat} {x y k f : Int}
theorem HLX.len (h : ¬ iv q 2 = iv s 4) (hf : f = 0) : HLX iv rv s q f := fun bs ws h1 _ h3 h4 => ⟨fun e => by omega, fun e => by
  subst e
  have g := h1.1
  omega⟩
theorem HLI.init (h : iv q 2 = iv s 4) : HLI iv rv s q 0 := ⟨h, fun _ _ _ _ _ _ j hj => absurd hj (by omega)⟩
theorem HLI.both (h : HLI iv rv s q k) (hb : rv s 0 = some b) (hk : 0 ≤ k ∧ k < iv s 4) (hx : ∀ ss, CT iv rv q ss → x = ss k.toNat) {bs ws : List Int} (h1 : BYT iv rv q 4001 bs) (h2 : LTW iv rv s (RR0 ws) 0 (iv s 4)) (h3 : iv s 4 = ((ws.length : Nat) : Int)) (h4 : ws.length ≤ 500) : bs[k.toNat]? = some x ∧ ws[k.toNat]? = some (iv b k.toNat) := by
  refine hv2 (h.1) (h1.1) (fun e g => ?_)
  have lt : k.toNat < bs.length := by omega
  have lt2 : k.toNat < ws.length := by omega
  have e1 := List.getElem?_eq_getElem lt
  have e2 := List.getElem?_eq_getElem lt2
  refine hv2 (hx _ h1.ct) (h2 b hb k hk.1 hk.2) (fun w1 w2 => ?_)
  rw [RR0_at e2] at w2
  refine ⟨?_, by rw [e2, w2]⟩
  rw [e1, w1]
  show _ = some ((bs[k.toNat]?).getD 0)
  rw [e1]
  rfl
theorem HLI.step (h : HLI iv rv s q k) (hb : rv s 0 = some b) (hk : 0 ≤ k ∧ k < iv s 4) (hx : ∀ ss, CT iv rv q ss → x = ss k.toNat) (he : x = iv b k.toNat) : HLI iv rv s q (k + 1) := ⟨h.1, fun bs ws h1 h2 h3 h4 j hj => by
  by_cases c : j = k.toNat
  · obtain ⟨g1, g2⟩ := h.both hb hk hx h1 h2 h3 h4
    rw [c, g1, g2, he]
  · exact h.2 bs ws h1 h2 h3 h4 j (by omega)⟩
theorem HLI.bad (h : HLI iv rv s q k) (hb : rv s 0 = some b) (hk : 0 ≤ k ∧ k < iv s 4) (hx : ∀ ss, CT iv rv q ss → x = ss k.toNat) (he : ¬ x = iv b k.toNat) (hf : f = 0) : HLX iv rv s q f := fun bs ws h1 h2 h3 h4 => ⟨fun e => by omega, fun e => by
  obtain ⟨g1, g2⟩ := h.both hb hk hx h1 h2 h3 h4
  subst e
  rw [g1] at g2
  cases g2
  exact absurd rfl he⟩
theorem HLI.fin (h : HLI iv rv s q k) (hk : iv s 4 ≤ k) (hf : f = 1) : HLX iv rv s q f := fun bs ws h1 h2 h3 h4 => ⟨fun _ => by
  refine hv2 (h.1) (h1.1) (fun e g => ?_)
  apply List.ext_getElem?
  intro j
  by_cases c : ((j : Nat) : Int) < k
  · exact h.2 bs ws h1 h2 h3 h4 j c
  · rw [List.getElem?_eq_none (by omega), List.getElem?_eq_none (by omega)], fun _ => hf⟩
theorem WWI.init : WWI iv rv iv rv s q 0 := fun _ h1 _ _ _ => ⟨h1, CT.zero h1⟩
theorem WWI.step (hI : WWI iv rv iv1 rv1 s q k) (hb : rv s 0 = some b) (hk : 0 ≤ k ∧ k < iv s 4) (hx : x = iv b k.toNat) (g : ∀ ss, CT iv1 rv1 q ss → iv1 q 2 < 4000 → CT iv2 rv2 q (va_up ss (iv1 q 2).toNat x)) (hs : (iv2 q 2 = iv1 q 2 ∧ iv1 q 2 = 4000) ∨ (iv2 q 2 = iv1 q 2 + 1 ∧ iv1 q 2 < 4000)) : WWI iv rv iv2 rv2 s q (k + 1) := fun ws h1 h2 h3 h4 => by
  obtain ⟨g1, g2⟩ := hI ws h1 h2 h3 h4
  have w := g _ g2 (by omega)
  refine ⟨by omega, ?_⟩
  have lt : k.toNat < ws.length := by omega
  have e2 := List.getElem?_eq_getElem lt
  have e3 := h2 b hb k hk.1 hk.2
  rw [RR0_at e2] at e3
  have ee : va_up (fun j => (ws[j]?).getD 0) (iv1 q 2).toNat x = fun j => (ws[j]?).getD 0 := by
    funext j
    unfold va_up
    split
    · rename_i ej
      rw [ej, show (iv1 q 2).toNat = k.toNat by omega, e2, hx, e3]
      rfl
    · rfl
  rw [ee] at w
  exact w
theorem WWI.fin (hI : WWI iv rv iv1 rv1 s q k) (hk : k = iv s 4) : WWQ iv rv iv1 rv1 s q := fun ws h1 h2 h3 h4 => by
  obtain ⟨g1, g2⟩ := hI ws h1 h2 h3 h4
  exact ⟨by omega, g2⟩
end ULET
set_option maxHeartbeats 4000000 in
set_option maxRecDepth 100000 in
theorem G_hasLetters {l : Launch} {G : GT} {mi : Nat} {sk : Nat → Nat} {L : List Nat} {cl ln : Nat → Nat} {iv : Nat → Nat → Int} {rv : Nat → Nat → Option Nat}  {a0 : Nat} {a1 : Nat} (hW : WT (g0 G) sk L cl ln iv rv) (hS : SKL sk L cl) (t_a0 : ty L cl a0 15) (t_a1 : ty L cl a1 10)  : Mc l G mi (Phi (g0 G) sk) PHM yX6_hasLetters cX6_hasLetters 3 (some .boolean) 1 [.ref a0, .ref a1] L cl ln iv rv 0 (fun v L2 cl2 ln2 iv2 rv2 => ∃ f : Int, v = some (.int (iI f)) ∧ L = L2 ∧ cl = cl2 ∧ ln = ln2 ∧ iv = iv2 ∧ rv = rv2 ∧ (f = 0 ∨ f = 1) ∧ (HLX iv rv a0 a1 f)) := by
  refine Mc.mk (by decide) (Nat.le_of_ble_eq_true rfl) ?_
  intro p e s m args below meth c A C hM
  refine hv5 (Phi.le hW hS) (show XT L cl ln L cl ln from XT.refl) (show fT [] L cl iv rv iv rv from fT.refl) (show 0 ≤ iv a0 4 ∧ iv a0 4 ≤ 500 from hW.int t_a0 4) (show 0 ≤ iv a1 2 ∧ iv a1 2 ≤ 4001 from hW.int t_a1 2) (fun hph hX0 hF0 ri1 ri2 => ?_)
  obtain ⟨b9, hb9, tb9⟩ := hW.ref t_a0 0 rfl rfl rfl
  refine c_aload_n (j := 1) (x := a1) C dX6_hasLetters_0 rfl ?_
  refine c_get (k := 2) C ck_2 dX6_hasLetters_1 w1_47 (by decide) t_a1 rfl rfl (by decide) rfl ?_
  refine c_aload_n (j := 0) (x := a0) C dX6_hasLetters_4 rfl ?_
  refine c_get (k := 4) C ck_7 dX6_hasLetters_5 w1_140 (by decide) t_a0 rfl rfl (by decide) rfl ?_
  refine c_icmp_eq (tgt := 13) C (r32_c (lo := 0) (hi := 4001) ri2.1 ri2.2 (by decide) (by decide)) (r32_c (lo := 0) (hi := 500) ri1.1 ri1.2 (by decide) (by decide)) dX6_hasLetters_8 (by decide) (fun c1 => ?_) (fun c1 => ?_)
  · refine c_iconst C dX6_hasLetters_13 ?_
    refine c_istore_n (lv2 := [(2, .int (iI 0)), (0, .ref a0), (1, .ref a1)]) C dX6_hasLetters_14 (by decide) rfl ?_
    have Lp1 : ∀ (nn : Nat) (k : Int) , 501 - k < (nn : Int) → (0 ≤ k ∧ k ≤ iv a0 4) → (HLI iv rv a0 a1 k) → cw p l e 1 ((PHM) + 0 - ((Phi (g0 G) sk) ln rv)) s m args below meth c G A 3 (MQ below (Qu G A (Qp G (Phi (g0 G) sk) ((Phi (g0 G) sk) ln rv) 0 (fun v L2 cl2 ln2 iv2 rv2 => ∃ f : Int, v = some (.int (iI f)) ∧ L = L2 ∧ cl = cl2 ∧ ln = ln2 ∧ iv = iv2 ∧ rv = rv2 ∧ (f = 0 ∨ f = 1) ∧ (HLX iv rv a0 a1 f)))) args s (((PHM) + 0 - ((Phi (g0 G) sk) ln rv)) / 16) ((PHM) + 0 - ((Phi (g0 G) sk) ln rv)) A) (Phi (g0 G) sk) ((Phi (g0 G) sk) ln rv) L cl ln iv rv 0 15 [(2, .int (iI k)), (0, .ref a0), (1, .ref a1)] [] := by
      intro nn
      induction nn with
      | zero =>
        intro  k  hm   hk hI
        exact absurd hm (by omega)
      | succ nn ih1 =>
        intro  k  hm   hk hI
        refine c_iload_n (j := 0) C dX6_hasLetters_15 rfl ?_
        refine c_aload_n (j := 1) (x := a0) C dX6_hasLetters_16 rfl ?_
        refine c_get (k := 4) C ck_7 dX6_hasLetters_17 w1_140 (by decide) t_a0 rfl rfl (by decide) rfl ?_
        refine c_icmp_ge (tgt := 45) C ⟨by omega, by omega⟩ (r32_c (lo := 0) (hi := 500) ri1.1 ri1.2 (by decide) (by decide)) dX6_hasLetters_20 (by decide) (fun c2 => ?_) (fun c2 => ?_)
        · refine c_iconst C dX6_hasLetters_45 ?_
          exact c_zret C dX6_hasLetters_46 rfl (Or.inr rfl) (by decide) (rom0 hph hph (by decide)) ⟨1, rfl, rfl, rfl, rfl, rfl, rfl, (Or.inr rfl), (hI.fin (by omega) (by omega))⟩
        · refine c_aload_n (j := 2) (x := a1) C dX6_hasLetters_23 rfl ?_
          refine c_iload_n (j := 0) C dX6_hasLetters_24 rfl ?_
          refine d_callV (As := [.int (iI k)]) (rest := []) C hM (C_at_10 (a0 := a1) (i := k) hW hS t_a1 (by omega) ) dX6_hasLetters_25 kV_X6_54 rfl t_a1 rfl rfl (by decide) ck_2 rfl (Nat.le_of_ble_eq_true rfl) ⟨(Nat.le_of_ble_eq_true rfl), (Nat.le_of_ble_eq_true rfl)⟩ hph hph (show 0 + 0 = 0 from rfl) (by decide) (fun rh1 Lh1 clh1 lnh1 ivh1 rvh1 h1 => ?_)
          obtain ⟨f1, rfl, rfl, rfl, rfl, rfl, rfl, rgf1, exf1⟩ := h1
          refine c_st (st2 := [.int (iI f1)]) rfl ?_
          have gf1 : ((0 ≤ k ∧ k < iv a1 2) ∨ f1 = 0) ∧ ∀ ss, CT iv rv a1 ss → 0 ≤ k → k < iv a1 2 → f1 = ss k.toNat := exf1
          refine c_aload_n (j := 1) (x := a0) C dX6_hasLetters_28 rfl ?_
          refine c_getr (k := 0) C ck_7 dX6_hasLetters_29 w1_136 (by decide) t_a0 rfl rfl (by decide) rfl hb9 ?_
          refine c_st (st2 := [.ref b9, .int (iI f1)]) rfl ?_
          refine c_iload_n (j := 0) C dX6_hasLetters_32 rfl ?_
          have ll1 : 500 ≤ ln b9 ∧ ln b9 ≤ 500 := hW.len tb9 rfl
          refine c_iald C dX6_hasLetters_33 tb9 rfl (by omega) (by omega) (by omega) ?_
          have ri3 : (-2147483648) ≤ iv b9 k.toNat ∧ iv b9 k.toNat ≤ 2147483647 := hW.int tb9 k.toNat
          refine c_icmp_eq (tgt := 39) C ⟨by omega, by omega⟩ (r32_c (lo := (-2147483648)) (hi := 2147483647) ri3.1 ri3.2 (by decide) (by decide)) dX6_hasLetters_34 (by decide) (fun c3 => ?_) (fun c3 => ?_)
          · refine c_iinc (z := k) (j := 0) (lv2 := [(2, .int (iI (k + 1))), (0, .ref a0), (1, .ref a1)]) C dX6_hasLetters_39 rfl (by decide) rfl ?_
            refine c_goto (tgt := 15) C dX6_hasLetters_42 (by decide) ?_
            refine c_lv (lv2 := [(2, .int (iI (k + 1))), (0, .ref a0), (1, .ref a1)]) [0, 1, 2] rfl ?_
            exact ih1  (k + 1)  (by omega)   (by omega) (hI.step hb9 ⟨by omega, by omega⟩ (fun ss hs => gf1.2 ss hs (by omega) (by omega)) (by omega))
          · refine c_iconst C dX6_hasLetters_37 ?_
            exact c_zret C dX6_hasLetters_38 rfl (Or.inl rfl) (by decide) (rom0 hph hph (by decide)) ⟨0, rfl, rfl, rfl, rfl, rfl, rfl, (Or.inl rfl), (hI.bad hb9 ⟨by omega, by omega⟩ (fun ss hs => gf1.2 ss hs (by omega) (by omega)) (by omega) (by omega))⟩
    refine c_lv (lv2 := [(2, .int (iI 0)), (0, .ref a0), (1, .ref a1)]) [0, 1, 2] rfl ?_
    exact Lp1 503 0  (by omega)   (by omega) (HLI.init (by omega))
  · refine c_iconst C dX6_hasLetters_11 ?_
    exact c_zret C dX6_hasLetters_12 rfl (Or.inl rfl) (by decide) (rom0 hph hph (by decide)) ⟨0, rfl, rfl, rfl, rfl, rfl, rfl, (Or.inl rfl), (HLX.len (by omega) (by omega))⟩
set_option maxHeartbeats 4000000 in
set_option maxRecDepth 100000 in
theorem G_wwl {l : Launch} {G : GT} {mi : Nat} {sk : Nat → Nat} {L : List Nat} {cl ln : Nat → Nat} {iv : Nat → Nat → Int} {rv : Nat → Nat → Option Nat}  {a0 : Nat} {a1 : Nat} (hW : WT (g0 G) sk L cl ln iv rv) (hS : SKL sk L cl) (t_a0 : ty L cl a0 15) (t_a1 : ty L cl a1 4)  : Mc l G mi (Phi (g0 G) sk) PHM yX6_writeLetters cX6_writeLetters 3 none 3 [.ref a0, .ref a1] L cl ln iv rv 0 (fun v L2 cl2 ln2 iv2 rv2 => v = none ∧ XT L cl ln L2 cl2 ln2 ∧ fT [4, 34] L cl iv rv iv2 rv2 ∧ WT (g0 G) sk L2 cl2 ln2 iv2 rv2 ∧ (WWQ iv rv iv2 rv2 a0 a1)) := by
  refine Mc.mk (by decide) (Nat.le_of_ble_eq_true rfl) ?_
  intro p e s m args below meth c A C hM
  refine hv5 (Phi.le hW hS) (show XT L cl ln L cl ln from XT.refl) (show fT [4, 34] L cl iv rv iv rv from fT.refl) (show 0 ≤ iv a0 4 ∧ iv a0 4 ≤ 500 from hW.int t_a0 4) (show 0 ≤ iv a1 2 ∧ iv a1 2 ≤ 4000 from hW.int t_a1 2) (fun hph hX0 hF0 ri1 ri2 => ?_)
  obtain ⟨b9, hb9, tb9⟩ := hW.ref t_a0 0 rfl rfl rfl
  refine c_iconst C dX6_writeLetters_0 ?_
  refine c_istore_n (lv2 := [(2, .int (iI 0)), (0, .ref a0), (1, .ref a1)]) C dX6_writeLetters_1 (by decide) rfl ?_
  have Lp1 : ∀ (nn : Nat) (k : Int) (Lb1 : List Nat) (clb1 lnb1 : Nat → Nat) (ivb1 : Nat → Nat → Int) (rvb1 : Nat → Nat → Option Nat) , 501 - k < (nn : Int) → XT L cl ln Lb1 clb1 lnb1 → WT (g0 G) sk Lb1 clb1 lnb1 ivb1 rvb1 → fT [4, 34] L cl iv rv ivb1 rvb1 → (0 ≤ k ∧ k ≤ iv a0 4) → (WWI iv rv ivb1 rvb1 a0 a1 k) → cw p l e 3 ((PHM) + 0 - ((Phi (g0 G) sk) ln rv)) s m args below meth c G A 3 (MQ below (Qu G A (Qp G (Phi (g0 G) sk) ((Phi (g0 G) sk) ln rv) 0 (fun v L2 cl2 ln2 iv2 rv2 => v = none ∧ XT L cl ln L2 cl2 ln2 ∧ fT [4, 34] L cl iv rv iv2 rv2 ∧ WT (g0 G) sk L2 cl2 ln2 iv2 rv2 ∧ (WWQ iv rv iv2 rv2 a0 a1)))) args s (((PHM) + 0 - ((Phi (g0 G) sk) ln rv)) / 16) ((PHM) + 0 - ((Phi (g0 G) sk) ln rv)) A) (Phi (g0 G) sk) ((Phi (g0 G) sk) ln rv) Lb1 clb1 lnb1 ivb1 rvb1 0 2 [(2, .int (iI k)), (0, .ref a0), (1, .ref a1)] [] := by
    intro nn
    induction nn with
    | zero =>
      intro  k Lb1 clb1 lnb1 ivb1 rvb1 hm Xb1 Wb1 Fb1  hk hI
      have skb1 := Xb1.skl hS
      exact absurd hm (by omega)
    | succ nn ih1 =>
      intro  k Lb1 clb1 lnb1 ivb1 rvb1 hm Xb1 Wb1 Fb1  hk hI
      have skb1 := Xb1.skl hS
      refine c_iload_n (j := 0) C dX6_writeLetters_2 rfl ?_
      refine c_aload_n (j := 1) (x := a0) C dX6_writeLetters_3 rfl ?_
      refine hv2 (Xb1.ty t_a0) (show ivb1 a0 4 = iv a0 4 from Fb1.i t_a0 rfl 4) (fun ty1 ie1 => ?_)
      have ri3 : 0 ≤ ivb1 a0 4 ∧ ivb1 a0 4 ≤ 500 := Wb1.int ty1 4
      refine c_get (k := 4) C ck_7 dX6_writeLetters_4 w1_140 (by decide) ty1 rfl rfl (by decide) rfl ?_
      refine c_icmp_ge (tgt := 26) C ⟨by omega, by omega⟩ (r32_c (lo := 0) (hi := 500) ri3.1 ri3.2 (by decide) (by decide)) dX6_writeLetters_7 (by decide) (fun c1 => ?_) (fun c1 => ?_)
      · have pl1 := Phi.le Wb1 skb1
        exact c_vret C dX6_writeLetters_26 rfl (by decide) (rom0 hph pl1 (by decide)) ⟨rfl, Xb1, Fb1, Wb1, (hI.fin (by omega))⟩
      · refine c_aload_n (j := 2) (x := a1) C dX6_writeLetters_10 rfl ?_
        refine c_aload_n (j := 1) (x := a0) C dX6_writeLetters_11 rfl ?_
        have re1 : rvb1 a0 0 = rv a0 0 := (Fb1.r t_a0 rfl 0)
        rw [hb9] at re1
        refine c_getr (k := 0) C ck_7 dX6_writeLetters_12 w1_136 (by decide) ty1 rfl rfl (by decide) rfl re1 ?_
        refine c_st (st2 := [.ref b9, .ref a1]) rfl ?_
        refine c_iload_n (j := 0) C dX6_writeLetters_15 rfl ?_
        have ty2 := Xb1.ty tb9
        have ll1 : 500 ≤ lnb1 b9 ∧ lnb1 b9 ≤ 500 := Wb1.len ty2 rfl
        refine c_iald C dX6_writeLetters_16 ty2 rfl (by omega) (by omega) (by omega) ?_
        refine hv4 (show (-2147483648) ≤ ivb1 b9 k.toNat ∧ ivb1 b9 k.toNat ≤ 2147483647 from Wb1.int ty2 k.toNat) (show ivb1 b9 k.toNat = iv b9 k.toNat from Fb1.i tb9 rfl k.toNat) (Xb1.ty t_a1) (Phi.le Wb1 skb1) (fun ri4 ie2 ty3 pl2 => ?_)
        have ri5 : 0 ≤ ivb1 a1 2 ∧ ivb1 a1 2 ≤ 4000 := Wb1.int ty3 2
        refine d_callV (As := [.int (iI (ivb1 b9 k.toNat))]) (rest := []) C hM (G_add_4 (a0 := a1) (x := ivb1 b9 k.toNat) Wb1 skb1 ty3 (by omega) ) dX6_writeLetters_17 kV_X6_58 rfl ty3 rfl rfl (by decide) ck_2 rfl (Nat.le_of_ble_eq_true rfl) ⟨(Nat.le_of_ble_eq_true rfl), (Nat.le_of_ble_eq_true rfl)⟩ hph pl2 (show 0 + 0 = 0 from rfl) (by decide) (fun rh1 Lh1 clh1 lnh1 ivh1 rvh1 h1 => ?_)
        obtain ⟨rfl, xl1, fl1, W1, exf1⟩ := h1
        refine hv3 (Fb1.call Xb1 fl1 rfl) (Xb1.trans xl1) (xl1.skl skb1) (fun F1 X1 sk1 => ?_)
        refine c_st (st2 := []) rfl ?_
        refine hv2 (xl1.ty ty3) (show ((ivh1 a1 2 = ivb1 a1 2 ∧ ivb1 a1 2 = 4000) ∨ (ivh1 a1 2 = ivb1 a1 2 + 1 ∧ ivb1 a1 2 < 4000)) ∧ (∀ ss, CT ivb1 rvb1 a1 ss → ivb1 a1 2 < 4000 → CT ivh1 rvh1 a1 (va_up ss (ivb1 a1 2).toNat (ivb1 b9 k.toNat))) ∧ (ivb1 a1 2 = 4000 → ∀ ss, CT ivb1 rvb1 a1 ss → CT ivh1 rvh1 a1 ss) from exf1) (fun ty4 gf1 => ?_)
        have ri6 : 0 ≤ ivh1 a1 2 ∧ ivh1 a1 2 ≤ 4000 := W1.int ty4 2
        refine c_iinc (z := k) (j := 0) (lv2 := [(2, .int (iI (k + 1))), (0, .ref a0), (1, .ref a1)]) C dX6_writeLetters_20 rfl (by decide) rfl ?_
        refine c_goto (tgt := 2) C dX6_writeLetters_23 (by decide) ?_
        refine hv2 (xl1.ty ty1) (show ivh1 a0 4 = ivb1 a0 4 from fl1.i ty1 rfl 4) (fun ty5 ie5 => ?_)
        have ri7 : 0 ≤ ivh1 a0 4 ∧ ivh1 a0 4 ≤ 500 := W1.int ty5 4
        refine c_lv (lv2 := [(2, .int (iI (k + 1))), (0, .ref a0), (1, .ref a1)]) [0, 1, 2] rfl ?_
        exact ih1  (k + 1) _ _ _ _ _ (by omega) X1 W1 F1  (by omega) (hI.step hb9 ⟨by omega, by omega⟩ (Fb1.i tb9 rfl k.toNat) gf1.2.1 gf1.1)
  refine c_lv (lv2 := [(2, .int (iI 0)), (0, .ref a0), (1, .ref a1)]) [0, 1, 2] rfl ?_
  exact Lp1 503 0 _ _ _ _ _ (by omega) hX0 hW hF0  (by omega) WWI.init
end
section
def ALF (iv : Nat → Nat → Int) (rv : Nat → Nat → Option Nat) (c : Nat) (sg : List Int) : Prop := iv c 5 = ((sg.length : Nat) : Int) ∧ ∀ ab, rv c 4 = some ab → ∀ (j : Nat) (x : Int), sg[j]? = some x → iv ab j = x
def TRNU (iv : Nat → Nat → Int) (rv : Nat → Nat → Option Nat) (c : Nat) (l : List Int) : Prop := iv c 7 = ((l.length : Nat) : Int) ∧ ∀ tb, rv c 6 = some tb → RIX (iv tb) l
def DGT (S : Int) (l : List Int) : Prop := ∀ (j : Nat) (x : Int), l[j]? = some x → 0 ≤ x ∧ x < S
def SPIU (iv : Nat → Nat → Int) (rv : Nat → Nat → Option Nat) (iv1 : Nat → Nat → Int) (c s : Nat) (k : Int) : Prop := ∀ sg l, ALF iv rv c sg → TRNU iv rv c l → DGT (iv c 5) l → LTW iv1 rv s (RR0 (wdb sg l)) 0 k
def SPXU (iv : Nat → Nat → Int) (rv : Nat → Nat → Option Nat) (iv2 : Nat → Nat → Int) (c s : Nat) : Prop := ∀ sg l, ALF iv rv c sg → TRNU iv rv c l → DGT (iv c 5) l → iv2 s 4 = ((l.length : Nat) : Int) ∧ LTW iv2 rv s (RR0 (wdb sg l)) 0 ((l.length : Nat) : Int)
def LNXU (iv : Nat → Nat → Int) (rv : Nat → Nat → Option Nat) (iv2 : Nat → Nat → Int) (c : Nat) (n f : Int) : Prop := (f = 0 ∧ (n ≤ iv c 7 ∨ 6 ≤ iv c 7) ∧ iv2 = iv) ∨ (f = 1 ∧ iv c 7 < n ∧ iv c 7 < 6 ∧ TRNU iv2 rv c (zrs (iv c 7 + 1).toNat))
def STXU (iv : Nat → Nat → Int) (rv : Nat → Nat → Option Nat) (iv2 : Nat → Nat → Int) (c : Nat) (n f : Int) : Prop := (f = 0 ∧ ¬ (0 < iv c 5 ∧ 0 < n)) ∨ (f = 1 ∧ (0 < iv c 5 ∧ 0 < n) ∧ TRNU iv2 rv c (zrs 1))
section USPL
variable {iv iv1 iv2 iv3 : Nat → Nat → Int} {rv : Nat → Nat → Option Nat} {c s ab tb : Nat} {x y k f n : Int} {l sg : List Int}
theorem SPIU.init : SPIU iv rv iv1 c s 0 := fun _ _ _ _ _ lb hb j h1 h2 => absurd h1 (by omega)
theorem SPIU.put (hI : SPIU iv rv iv1 c s k) (hp : PTL iv1 rv iv2 s x) (h4 : iv1 s 4 = k) (hk : 0 ≤ k ∧ k < iv c 7 ∧ iv c 7 ≤ 6) (hab : rv c 4 = some ab) (htb : rv c 6 = some tb) (hx : x = iv ab (iv tb k.toNat).toNat) : SPIU iv rv iv2 c s (k + 1) := fun sg l h1 h2 h3 => by
  refine LTW.put (hI sg l h1 h2 h3) hp h4 ⟨hk.1, by omega⟩ ?_
  refine hv2 (h2.1) (h1.1) (fun e e5 => ?_)
  have lt : l.length - 1 - k.toNat < l.length := by omega
  have g := List.getElem?_eq_getElem lt
  refine hv3 (h2.2 tb htb _ _ g) (h3 _ _ g) (wdb_at (sg := sg) l _ _ g) (fun w1 w2 w3 => ?_)
  rw [show l.length - 1 - (l.length - 1 - k.toNat) = k.toNat by omega] at w1 w3
  rw [RR0_at w3, hx, w1]
  have lt2 : (l[l.length - 1 - k.toNat]).toNat < sg.length := by omega
  have g2 := List.getElem?_eq_getElem lt2
  rw [h1.2 ab hab _ _ g2, g2]
  rfl
theorem SPIU.fin (hI : SPIU iv rv iv1 c s k) (h4 : iv1 s 4 = k) (hk : k = iv c 7) : SPXU iv rv iv1 c s := fun sg l h1 h2 h3 => by
  refine hv2 (h2.1) (hI sg l h1 h2 h3) (fun e w => ?_)
  exact ⟨by omega, by rw [← e, ← hk]; exact w⟩
theorem TRNU.zrs (h7 : iv c 7 = ((n.toNat : Nat) : Int)) (htb : rv c 6 = some tb) (hz : ∀ j : Nat, j < 6 → iv tb j = 0) (hn : n ≤ 6) : TRNU iv rv c (zrs n.toNat) := by
  refine ⟨by rw [zrs_len]; exact h7, fun tb' e j x ej => ?_⟩
  rw [htb] at e; cases e
  have lt := gl3 ej
  rw [zrs_len] at lt
  rw [zrs_at _ _ _ ej]
  exact hz _ (by rw [zrs_len]; omega)
end USPL
set_option maxHeartbeats 4000000 in
set_option maxRecDepth 100000 in
theorem G_spell {l : Launch} {G : GT} {mi : Nat} {sk : Nat → Nat} {L : List Nat} {cl ln : Nat → Nat} {iv : Nat → Nat → Int} {rv : Nat → Nat → Option Nat}  {a0 : Nat} {a1 : Nat} (hW : WT (g0 G) sk L cl ln iv rv) (hS : SKL sk L cl) (t_a0 : ty L cl a0 14) (t_a1 : ty L cl a1 15)  : Mc l G mi (Phi (g0 G) sk) PHM yX8_spell cX8_spell 3 none 1 [.ref a0, .ref a1] L cl ln iv rv 0 (fun v L2 cl2 ln2 iv2 rv2 => v = none ∧ L = L2 ∧ cl = cl2 ∧ ln = ln2 ∧ rv = rv2 ∧ fT [15, 50, 51, 52] L cl iv rv iv2 rv2 ∧ WT (g0 G) sk L2 cl2 ln2 iv2 rv2 ∧ (SPXU iv rv iv2 a0 a1)) := by
  refine Mc.mk (by decide) (Nat.le_of_ble_eq_true rfl) ?_
  intro p e s m args below meth c A C hM
  refine hv5 (Phi.le hW hS) (show XT L cl ln L cl ln from XT.refl) (show fT [15, 50, 51, 52] L cl iv rv iv rv from fT.refl) (show 0 ≤ iv a0 5 ∧ iv a0 5 ≤ 126 from hW.int t_a0 5) (show 0 ≤ iv a0 7 ∧ iv a0 7 ≤ 6 from hW.int t_a0 7) (fun hph hX0 hF0 ri1 ri2 => ?_)
  obtain ⟨ab9, hab9, tab9⟩ := hW.ref t_a0 4 rfl rfl rfl
  obtain ⟨tb9, htb9, ttb9⟩ := hW.ref t_a0 6 rfl rfl rfl
  refine c_aload_n (j := 1) (x := a1) C dX8_spell_0 rfl ?_
  refine d_callV (As := []) (rest := []) C hM (G_wclear (a0 := a1) hW hS t_a1  ) dX8_spell_1 kV_X8_43 rfl t_a1 rfl rfl (by decide) ck_7 rfl (Nat.le_of_ble_eq_true rfl) ⟨(Nat.le_of_ble_eq_true rfl), (Nat.le_of_ble_eq_true rfl)⟩ hph hph (show 0 + 0 = 0 from rfl) (by decide) (fun rh1 Lh1 clh1 lnh1 ivh1 rvh1 h1 => ?_)
  obtain ⟨rfl, rfl, rfl, rfl, rfl, fl1, W1, exf1⟩ := h1
  have F1 := hF0.call hX0 fl1 rfl
  refine c_st (st2 := []) rfl ?_
  refine hv2 (show 0 ≤ ivh1 a1 4 ∧ ivh1 a1 4 ≤ 500 from W1.int t_a1 4) (show ivh1 a1 4 = 0 from exf1) (fun ri3 gf1 => ?_)
  refine c_iconst C dX8_spell_4 ?_
  refine c_istore_n (lv2 := [(2, .int (iI 0)), (0, .ref a0), (1, .ref a1)]) C dX8_spell_5 (by decide) rfl ?_
  have Lp1 : ∀ (nn : Nat) (k : Int) (ivb1 : Nat → Nat → Int) , 7 - k < (nn : Int) → WT (g0 G) sk L cl ln ivb1 rv → fT [15, 50, 51, 52] L cl iv rv ivb1 rv → (0 ≤ k ∧ k ≤ iv a0 7) → (ivb1 a1 4 = k) → (SPIU iv rv ivb1 a0 a1 k) → cw p l e 1 ((PHM) + 0 - ((Phi (g0 G) sk) ln rv)) s m args below meth c G A 3 (MQ below (Qu G A (Qp G (Phi (g0 G) sk) ((Phi (g0 G) sk) ln rv) 0 (fun v L2 cl2 ln2 iv2 rv2 => v = none ∧ L = L2 ∧ cl = cl2 ∧ ln = ln2 ∧ rv = rv2 ∧ fT [15, 50, 51, 52] L cl iv rv iv2 rv2 ∧ WT (g0 G) sk L2 cl2 ln2 iv2 rv2 ∧ (SPXU iv rv iv2 a0 a1)))) args s (((PHM) + 0 - ((Phi (g0 G) sk) ln rv)) / 16) ((PHM) + 0 - ((Phi (g0 G) sk) ln rv)) A) (Phi (g0 G) sk) ((Phi (g0 G) sk) ln rv) L cl ln ivb1 rv 0 6 [(2, .int (iI k)), (0, .ref a0), (1, .ref a1)] [] := by
    intro nn
    induction nn with
    | zero =>
      intro  k ivb1 hm Wb1 Fb1  hk h4 hI
      exact absurd hm (by omega)
    | succ nn ih1 =>
      intro  k ivb1 hm Wb1 Fb1  hk h4 hI
      refine c_iload_n (j := 0) C dX8_spell_6 rfl ?_
      refine c_aload_n (j := 1) (x := a0) C dX8_spell_7 rfl ?_
      refine hv2 (show 0 ≤ ivb1 a0 7 ∧ ivb1 a0 7 ≤ 6 from Wb1.int t_a0 7) (show ivb1 a0 7 = iv a0 7 from Fb1.i t_a0 rfl 7) (fun ri4 ie2 => ?_)
      refine c_get (k := 7) C ck_9 dX8_spell_8 w1_111 (by decide) t_a0 rfl rfl (by decide) rfl ?_
      refine c_icmp_ge (tgt := 36) C ⟨by omega, by omega⟩ (r32_c (lo := 0) (hi := 6) ri4.1 ri4.2 (by decide) (by decide)) dX8_spell_11 (by decide) (fun c1 => ?_) (fun c1 => ?_)
      · have ri5 : 0 ≤ ivb1 a1 4 ∧ ivb1 a1 4 ≤ 500 := Wb1.int t_a1 4
        exact c_vret C dX8_spell_36 rfl (by decide) (rom0 hph hph (by decide)) ⟨rfl, rfl, rfl, rfl, rfl, Fb1, Wb1, (hI.fin (by omega) (by omega))⟩
      · refine c_aload_n (j := 2) (x := a1) C dX8_spell_14 rfl ?_
        refine c_aload_n (j := 1) (x := a0) C dX8_spell_15 rfl ?_
        refine c_getr (k := 4) C ck_9 dX8_spell_16 w1_108 (by decide) t_a0 rfl rfl (by decide) rfl hab9 ?_
        refine c_st (st2 := [.ref ab9, .ref a1]) rfl ?_
        refine c_aload_n (j := 1) (x := a0) C dX8_spell_19 rfl ?_
        refine c_getr (k := 6) C ck_9 dX8_spell_20 w1_110 (by decide) t_a0 rfl rfl (by decide) rfl htb9 ?_
        refine c_st (st2 := [.ref tb9, .ref ab9, .ref a1]) rfl ?_
        refine c_iload_n (j := 0) C dX8_spell_23 rfl ?_
        have ll1 : 6 ≤ ln tb9 ∧ ln tb9 ≤ 6 := Wb1.len ttb9 rfl
        refine c_iald C dX8_spell_24 ttb9 rfl (by omega) (by omega) (by omega) ?_
        refine hv3 (show 0 ≤ ivb1 tb9 k.toNat ∧ ivb1 tb9 k.toNat ≤ 125 from Wb1.int ttb9 k.toNat) (show ivb1 tb9 k.toNat = iv tb9 k.toNat from Fb1.i ttb9 rfl k.toNat) (show 126 ≤ ln ab9 ∧ ln ab9 ≤ 126 from Wb1.len tab9 rfl) (fun ri6 ie4 ll2 => ?_)
        refine c_iald C dX8_spell_25 tab9 rfl (by omega) (by omega) (by omega) ?_
        refine hv2 (show (-2147483648) ≤ ivb1 ab9 ((ivb1 tb9 k.toNat).toNat) ∧ ivb1 ab9 ((ivb1 tb9 k.toNat).toNat) ≤ 2147483647 from Wb1.int tab9 ((ivb1 tb9 k.toNat).toNat)) (show ivb1 ab9 ((ivb1 tb9 k.toNat).toNat) = iv ab9 ((ivb1 tb9 k.toNat).toNat) from Fb1.i tab9 rfl ((ivb1 tb9 k.toNat).toNat)) (fun ri7 ie5 => ?_)
        refine c_iload_n (j := 0) C dX8_spell_26 rfl ?_
        have ri8 : 0 ≤ ivb1 a1 4 ∧ ivb1 a1 4 ≤ 500 := Wb1.int t_a1 4
        refine d_callV (As := [.int (iI (ivb1 ab9 (ivb1 tb9 k.toNat).toNat)), .int (iI k)]) (rest := []) C hM (G_put (a0 := a1) (x := ivb1 ab9 (ivb1 tb9 k.toNat).toNat) (y := k) Wb1 hS t_a1 (by omega) (by omega) ) dX8_spell_27 kV_X8_60 rfl t_a1 rfl rfl (by decide) ck_7 rfl (Nat.le_of_ble_eq_true rfl) ⟨(Nat.le_of_ble_eq_true rfl), (Nat.le_of_ble_eq_true rfl)⟩ hph hph (show 0 + 0 = 0 from rfl) (by decide) (fun rh2 Lh2 clh2 lnh2 ivh2 rvh2 h2 => ?_)
        obtain ⟨rfl, rfl, rfl, rfl, rfl, fl2, W2, exf2⟩ := h2
        have F2 := Fb1.call hX0 fl2 rfl
        refine c_st (st2 := []) rfl ?_
        refine hv2 (show 0 ≤ ivh2 a1 4 ∧ ivh2 a1 4 ≤ 500 from W2.int t_a1 4) (show (ivb1 a1 4 < 500 → ivh2 a1 4 = ivb1 a1 4 + 1) ∧ PTL ivb1 rv ivh2 a1 (ivb1 ab9 (ivb1 tb9 k.toNat).toNat) from exf2) (fun ri9 gf2 => ?_)
        refine c_iinc (z := k) (j := 0) (lv2 := [(2, .int (iI (k + 1))), (0, .ref a0), (1, .ref a1)]) C dX8_spell_30 rfl (by decide) rfl ?_
        refine c_goto (tgt := 6) C dX8_spell_33 (by decide) ?_
        refine hv2 (show 0 ≤ ivh2 a0 7 ∧ ivh2 a0 7 ≤ 6 from W2.int t_a0 7) (show ivh2 a0 7 = ivb1 a0 7 from fl2.i t_a0 rfl 7) (fun ri10 ie8 => ?_)
        refine c_lv (lv2 := [(2, .int (iI (k + 1))), (0, .ref a0), (1, .ref a1)]) [0, 1, 2] rfl ?_
        exact ih1  (k + 1) _ (by omega) W2 F2  (by omega) (by show ivh2 a1 4 = (k + 1); omega) (hI.put gf2.2 (by omega) ⟨by omega, by omega, by omega⟩ hab9 htb9 (by rw [← Fb1.i ttb9 rfl, ← Fb1.i tab9 rfl]))
  refine hv2 (show 0 ≤ ivh1 a0 7 ∧ ivh1 a0 7 ≤ 6 from W1.int t_a0 7) (show ivh1 a0 7 = iv a0 7 from fl1.i t_a0 rfl 7) (fun ri11 ie9 => ?_)
  refine c_lv (lv2 := [(2, .int (iI 0)), (0, .ref a0), (1, .ref a1)]) [0, 1, 2] rfl ?_
  exact Lp1 8 0 _ (by omega) W1 F1  (by omega) gf1 SPIU.init
def FLI (iv1 : Nat → Nat → Int) (q : Nat) (k : Int) : Prop := ∀ j : Nat, ((j : Nat) : Int) < k → iv1 q j = 0
section USP2
variable {iv iv1 iv2 iv3 : Nat → Nat → Int} {rv : Nat → Nat → Option Nat} {c tb : Nat} {x k f n z : Int}
theorem FLI.zero : FLI iv1 c 0 := fun j hj => absurd hj (by omega)
theorem FLI.step (h : FLI iv1 c k) (hk : 0 ≤ k) (e : iv2 = up2 iv1 c k.toNat x) (hx : x = 0) : FLI iv2 c (k + 1) := fun j hj => by
  rw [e]
  by_cases q : j = k.toNat
  · rw [q, up2_s]; exact hx
  · rw [up2_j q]; exact h j (by omega)
theorem LNXU.no (h : n ≤ iv c 7 ∨ 6 ≤ iv c 7) (hf : f = 0) : LNXU iv rv iv c n f := Or.inl ⟨hf, h, rfl⟩
theorem LNXU.yes (h : iv c 7 < n) (h6 : 0 ≤ iv c 7 ∧ iv c 7 < 6) (hf : f = 1) (h7 : iv2 c 7 = iv c 7 + 1) (htb : rv c 6 = some tb) (hz : FLI iv2 tb 6) : LNXU iv rv iv2 c n f := Or.inr ⟨hf, h, h6.2, TRNU.zrs (by omega) htb (fun j hj => hz j (by omega)) (by omega)⟩
theorem STXU.no (h : ¬ (0 < iv c 5 ∧ 0 < n)) (hf : f = 0) : STXU iv rv iv2 c n f := Or.inl ⟨hf, h⟩
theorem LNXU.stx (h : LNXU iv1 rv iv2 c n z) (h7 : iv1 c 7 = 0) (h5 : 0 < iv c 5) (hf : (z = 0 ∧ f = 0) ∨ (z = 1 ∧ f = 1)) : STXU iv rv iv2 c n f := by
  rcases h with ⟨p1, p2, _⟩ | ⟨p1, p2, p3, p4⟩
  · exact Or.inl ⟨by omega, fun q => by omega⟩
  · rw [h7] at p4
    exact Or.inr ⟨by omega, ⟨h5, by omega⟩, p4⟩
end USP2
set_option maxHeartbeats 4000000 in
set_option maxRecDepth 100000 in
theorem G_fill {l : Launch} {G : GT} {mi : Nat} {sk : Nat → Nat} {L : List Nat} {cl ln : Nat → Nat} {iv : Nat → Nat → Int} {rv : Nat → Nat → Option Nat}  {a0 : Nat} {x : Int} (hW : WT (g0 G) sk L cl ln iv rv) (hS : SKL sk L cl) (t_a0 : ty L cl a0 58) (h_x : -2147483648 ≤ x ∧ x ≤ 2147483647) (hx : x = 0) : Mc l G mi (Phi (g0 G) sk) PHM yJ7_fill_53178 cJ7_fill_53178 4 none 0 [.ref a0, .int (iI x)] L cl ln iv rv 0 (fun v L2 cl2 ln2 iv2 rv2 => v = none ∧ L = L2 ∧ cl = cl2 ∧ ln = ln2 ∧ rv = rv2 ∧ fT [58] L cl iv rv iv2 rv2 ∧ WT (g0 G) sk L2 cl2 ln2 iv2 rv2 ∧ (FLI iv2 a0 6)) := by
  refine Mc.mk (by decide) (Nat.le_of_ble_eq_true rfl) ?_
  intro p e s m args below meth c A C hM
  refine hv3 (Phi.le hW hS) (show XT L cl ln L cl ln from XT.refl) (show fT [58] L cl iv rv iv rv from fT.refl) (fun hph hX0 hF0 => ?_)
  refine c_iconst C dJ7_fill_53178_0 ?_
  refine c_istore_n (lv2 := [(2, .int (iI 0)), (0, .ref a0), (1, .int (iI x))]) C dJ7_fill_53178_1 (by decide) rfl ?_
  refine c_aload_n (j := 1) (x := a0) C dJ7_fill_53178_2 rfl ?_
  have ll1 : 6 ≤ ln a0 ∧ ln a0 ≤ 6 := hW.len t_a0 rfl
  refine c_alenI C dJ7_fill_53178_3 t_a0 rfl ?_
  refine c_istore_n (lv2 := [(3, .int (iI ((ln a0 : Nat) : Int))), (2, .int (iI 0)), (0, .ref a0), (1, .int (iI x))]) C dJ7_fill_53178_4 (by decide) rfl ?_
  have Lp1 : ∀ (nn : Nat) (k : Int) (ivb1 : Nat → Nat → Int) , 7 - k < (nn : Int) → WT (g0 G) sk L cl ln ivb1 rv → fT [58] L cl iv rv ivb1 rv → (0 ≤ k ∧ k ≤ 6) → (FLI ivb1 a0 k) → cw p l e 0 ((PHM) + 0 - ((Phi (g0 G) sk) ln rv)) s m args below meth c G A 4 (MQ below (Qu G A (Qp G (Phi (g0 G) sk) ((Phi (g0 G) sk) ln rv) 0 (fun v L2 cl2 ln2 iv2 rv2 => v = none ∧ L = L2 ∧ cl = cl2 ∧ ln = ln2 ∧ rv = rv2 ∧ fT [58] L cl iv rv iv2 rv2 ∧ WT (g0 G) sk L2 cl2 ln2 iv2 rv2 ∧ (FLI iv2 a0 6)))) args s (((PHM) + 0 - ((Phi (g0 G) sk) ln rv)) / 16) ((PHM) + 0 - ((Phi (g0 G) sk) ln rv)) A) (Phi (g0 G) sk) ((Phi (g0 G) sk) ln rv) L cl ln ivb1 rv 0 5 [(2, .int (iI k)), (3, .int (iI ((ln a0 : Nat) : Int))), (0, .ref a0), (1, .int (iI x))] [] := by
    intro nn
    induction nn with
    | zero =>
      intro  k ivb1 hm Wb1 Fb1  hk hI
      exact absurd hm (by omega)
    | succ nn ih1 =>
      intro  k ivb1 hm Wb1 Fb1  hk hI
      refine c_iload_n (j := 0) C dJ7_fill_53178_5 rfl ?_
      refine c_iload_n (j := 1) C dJ7_fill_53178_6 rfl ?_
      refine c_icmp_ge (tgt := 20) C (r32_c (lo := 0) (hi := 6) hk.1 hk.2 (by decide) (by decide)) ⟨by omega, by omega⟩ dJ7_fill_53178_7 (by decide) (fun c1 => ?_) (fun c1 => ?_)
      · exact c_vret C dJ7_fill_53178_20 rfl (by decide) (rom0 hph hph (by decide)) ⟨rfl, rfl, rfl, rfl, rfl, Fb1, Wb1, (fun j hj => hI j (by omega))⟩
      · refine c_aload_n (j := 2) (x := a0) C dJ7_fill_53178_10 rfl ?_
        refine c_iload_n (j := 0) C dJ7_fill_53178_11 rfl ?_
        refine c_iload_n (j := 3) C dJ7_fill_53178_12 rfl ?_
        refine c_iast (x := x) C dJ7_fill_53178_13 t_a0 rfl (by omega) (by omega) (by omega) (fun iv1 pq1 => ?_)
        refine hv2 (Wb1.puti pq1 t_a0 (show 0 ≤ x ∧ x ≤ 125 by omega) rfl) (Fb1.puti hX0 pq1 t_a0 rfl) (fun W1 F1 => ?_)
        refine c_iinc (z := k) (j := 0) (lv2 := [(2, .int (iI (k + 1))), (3, .int (iI ((ln a0 : Nat) : Int))), (0, .ref a0), (1, .int (iI x))]) C dJ7_fill_53178_14 rfl (by decide) rfl ?_
        refine c_goto (tgt := 5) C dJ7_fill_53178_17 (by decide) ?_
        refine c_lv (lv2 := [(2, .int (iI (k + 1))), (3, .int (iI ((ln a0 : Nat) : Int))), (0, .ref a0), (1, .int (iI x))]) [0, 1, 2, 3] rfl ?_
        exact ih1  (k + 1) _ (by omega) W1 F1  (by omega) (hI.step (by omega) pq1 hx)
  have ri1 : 0 ≤ iv a0 0 ∧ iv a0 0 ≤ 125 := hW.int t_a0 0
  refine c_lv (lv2 := [(2, .int (iI 0)), (3, .int (iI ((ln a0 : Nat) : Int))), (0, .ref a0), (1, .int (iI x))]) [1, 0, 2, 3] rfl ?_
  exact Lp1 8 0 _ (by omega) hW hF0  (by omega) FLI.zero
set_option maxHeartbeats 4000000 in
set_option maxRecDepth 100000 in
theorem G_lengthen {l : Launch} {G : GT} {mi : Nat} {sk : Nat → Nat} {L : List Nat} {cl ln : Nat → Nat} {iv : Nat → Nat → Int} {rv : Nat → Nat → Option Nat}  {a0 : Nat} {n : Int} (hW : WT (g0 G) sk L cl ln iv rv) (hS : SKL sk L cl) (t_a0 : ty L cl a0 14) (h_n : -2147483648 ≤ n ∧ n ≤ 2147483647)  : Mc l G mi (Phi (g0 G) sk) PHM yX8_lengthen cX8_lengthen 2 (some .boolean) 1 [.ref a0, .int (iI n)] L cl ln iv rv 0 (fun v L2 cl2 ln2 iv2 rv2 => ∃ f : Int, v = some (.int (iI f)) ∧ L = L2 ∧ cl = cl2 ∧ ln = ln2 ∧ rv = rv2 ∧ fT [14, 58] L cl iv rv iv2 rv2 ∧ WT (g0 G) sk L2 cl2 ln2 iv2 rv2 ∧ (f = 0 ∨ f = 1) ∧ (iv2 a0 5 = iv a0 5 ∧ LNXU iv rv iv2 a0 n f)) := by
  refine Mc.mk (by decide) (Nat.le_of_ble_eq_true rfl) ?_
  intro p e s m args below meth c A C hM
  refine hv5 (Phi.le hW hS) (show XT L cl ln L cl ln from XT.refl) (show fT [14, 58] L cl iv rv iv rv from fT.refl) (show 0 ≤ iv a0 5 ∧ iv a0 5 ≤ 126 from hW.int t_a0 5) (show 0 ≤ iv a0 7 ∧ iv a0 7 ≤ 6 from hW.int t_a0 7) (fun hph hX0 hF0 ri1 ri2 => ?_)
  obtain ⟨ab9, hab9, tab9⟩ := hW.ref t_a0 4 rfl rfl rfl
  obtain ⟨tb9, htb9, ttb9⟩ := hW.ref t_a0 6 rfl rfl rfl
  refine c_aload_n (j := 0) (x := a0) C dX8_lengthen_0 rfl ?_
  refine c_get (k := 7) C ck_9 dX8_lengthen_1 w1_111 (by decide) t_a0 rfl rfl (by decide) rfl ?_
  refine c_iload_n (j := 1) C dX8_lengthen_4 rfl ?_
  refine c_icmp_ge (tgt := 17) C (r32_c (lo := 0) (hi := 6) ri2.1 ri2.2 (by decide) (by decide)) ⟨by omega, by omega⟩ dX8_lengthen_5 (by decide) (fun c1 => ?_) (fun c1 => ?_)
  · refine c_iconst C dX8_lengthen_17 ?_
    exact c_zret C dX8_lengthen_18 rfl (Or.inl rfl) (by decide) (rom0 hph hph (by decide)) ⟨0, rfl, rfl, rfl, rfl, rfl, hF0, hW, (Or.inl rfl), ⟨by omega, LNXU.no (by omega) rfl⟩⟩
  · refine c_aload_n (j := 0) (x := a0) C dX8_lengthen_8 rfl ?_
    refine c_get (k := 7) C ck_9 dX8_lengthen_9 w1_111 (by decide) t_a0 rfl rfl (by decide) rfl ?_
    refine c_bipush (z := 6) C dX8_lengthen_12 (by decide) ?_
    refine c_icmp_lt (tgt := 19) C (r32_c (lo := 0) (hi := 6) ri2.1 ri2.2 (by decide) (by decide)) ⟨by decide, by decide⟩ dX8_lengthen_14 (by decide) (fun c2 => ?_) (fun c2 => ?_)
    · refine c_aload_n (j := 0) (x := a0) C dX8_lengthen_19 rfl ?_
      refine c_dup C dX8_lengthen_20 rfl ?_
      refine c_get (k := 7) C ck_9 dX8_lengthen_21 w1_111 (by decide) t_a0 rfl rfl (by decide) rfl ?_
      refine c_iconst C dX8_lengthen_24 ?_
      refine c_iadd C dX8_lengthen_25 ?_
      refine c_put (z := (iv a0 7) + 1) (k := 7) C ck_9 dX8_lengthen_26 w1_111 (by decide) rfl t_a0 rfl rfl (by decide) rfl (by rfl) (by rfl) (fun iv1 pq1 => ?_)
      refine hv2 (hW.puti pq1 t_a0 (show 0 ≤ ((iv a0 7) + 1) ∧ ((iv a0 7) + 1) ≤ 6 by omega) rfl) (hF0.puti hX0 pq1 t_a0 rfl) (fun W1 F1 => ?_)
      refine c_aload_n (j := 0) (x := a0) C dX8_lengthen_29 rfl ?_
      refine c_getr (k := 6) C ck_9 dX8_lengthen_30 w1_110 (by decide) t_a0 rfl rfl (by decide) rfl htb9 ?_
      refine c_st (st2 := [.ref tb9]) rfl ?_
      refine c_iconst C dX8_lengthen_33 ?_
      refine d_callS (As := [.ref tb9, .int (iI 0)]) (rest := []) C hM (G_fill (a0 := tb9) (x := 0) W1 hS ttb9 ⟨by decide, by decide⟩ (by show (0 : Int) = 0; omega)) dX8_lengthen_34 kS_X8_95 rfl rfl (Nat.le_of_ble_eq_true rfl) ⟨(Nat.le_of_ble_eq_true rfl), (Nat.le_of_ble_eq_true rfl)⟩ hph hph (show 0 + 0 = 0 from rfl) (by decide) (fun rh1 Lh1 clh1 lnh1 ivh1 rvh1 h1 => ?_)
      obtain ⟨rfl, rfl, rfl, rfl, rfl, fl1, W2, exf1⟩ := h1
      have F2 := F1.call hX0 fl1 rfl
      refine c_st (st2 := []) rfl ?_
      refine hv2 (show 0 ≤ ivh1 tb9 6 ∧ ivh1 tb9 6 ≤ 125 from W2.int ttb9 6) (show FLI ivh1 tb9 6 from exf1) (fun ri3 gf1 => ?_)
      refine c_iconst C dX8_lengthen_37 ?_
      refine hv6 (show 0 ≤ ivh1 a0 5 ∧ ivh1 a0 5 ≤ 126 from W2.int t_a0 5) (show ivh1 a0 5 = iv1 a0 5 from fl1.i t_a0 rfl 5) (show iv1 a0 5 = iv a0 5 from by rw [pq1]; exact up2_j (by decide)) (show 0 ≤ ivh1 a0 7 ∧ ivh1 a0 7 ≤ 6 from W2.int t_a0 7) (show ivh1 a0 7 = iv1 a0 7 from fl1.i t_a0 rfl 7) (show iv1 a0 7 = (iv a0 7) + 1 from by rw [pq1]; exact up2_s) (fun ri4 ie2 ie3 ri5 ie4 ie5 => ?_)
      exact c_zret C dX8_lengthen_38 rfl (Or.inr rfl) (by decide) (rom0 hph hph (by decide)) ⟨1, rfl, rfl, rfl, rfl, rfl, F2, W2, (Or.inr rfl), ⟨by omega, LNXU.yes (by omega) ⟨by omega, by omega⟩ rfl (by omega) htb9 gf1⟩⟩
    · refine c_iconst C dX8_lengthen_17 ?_
      exact c_zret C dX8_lengthen_18 rfl (Or.inl rfl) (by decide) (rom0 hph hph (by decide)) ⟨0, rfl, rfl, rfl, rfl, rfl, hF0, hW, (Or.inl rfl), ⟨by omega, LNXU.no (by omega) rfl⟩⟩
set_option maxHeartbeats 4000000 in
set_option maxRecDepth 100000 in
theorem G_startSpelling {l : Launch} {G : GT} {mi : Nat} {sk : Nat → Nat} {L : List Nat} {cl ln : Nat → Nat} {iv : Nat → Nat → Int} {rv : Nat → Nat → Option Nat}  {a0 : Nat} {n : Int} (hW : WT (g0 G) sk L cl ln iv rv) (hS : SKL sk L cl) (t_a0 : ty L cl a0 14) (h_n : -2147483648 ≤ n ∧ n ≤ 2147483647)  : Mc l G mi (Phi (g0 G) sk) PHM yX8_startSpelling cX8_startSpelling 2 (some .boolean) 2 [.ref a0, .int (iI n)] L cl ln iv rv 0 (fun v L2 cl2 ln2 iv2 rv2 => ∃ f : Int, v = some (.int (iI f)) ∧ L = L2 ∧ cl = cl2 ∧ ln = ln2 ∧ rv = rv2 ∧ fT [14, 58] L cl iv rv iv2 rv2 ∧ WT (g0 G) sk L2 cl2 ln2 iv2 rv2 ∧ (f = 0 ∨ f = 1) ∧ (iv2 a0 5 = iv a0 5 ∧ STXU iv rv iv2 a0 n f)) := by
  refine Mc.mk (by decide) (Nat.le_of_ble_eq_true rfl) ?_
  intro p e s m args below meth c A C hM
  refine hv3 (Phi.le hW hS) (show XT L cl ln L cl ln from XT.refl) (show fT [14, 58] L cl iv rv iv rv from fT.refl) (fun hph hX0 hF0 => ?_)
  refine c_aload_n (j := 0) (x := a0) C dX8_startSpelling_0 rfl ?_
  refine c_iconst C dX8_startSpelling_1 ?_
  refine c_put (z := 0) (k := 7) C ck_9 dX8_startSpelling_2 w1_111 (by decide) rfl t_a0 rfl rfl (by decide) rfl (by rfl) (by rfl) (fun iv1 pq1 => ?_)
  refine hv2 (hW.puti pq1 t_a0 ⟨by decide, by decide⟩ rfl) (hF0.puti hX0 pq1 t_a0 rfl) (fun W1 F1 => ?_)
  refine c_aload_n (j := 0) (x := a0) C dX8_startSpelling_5 rfl ?_
  refine hv2 (show 0 ≤ iv1 a0 5 ∧ iv1 a0 5 ≤ 126 from W1.int t_a0 5) (show iv1 a0 5 = iv a0 5 from by rw [pq1]; exact up2_j (by decide)) (fun ri1 ie1 => ?_)
  refine c_get (k := 5) C ck_9 dX8_startSpelling_6 w1_109 (by decide) t_a0 rfl rfl (by decide) rfl ?_
  refine c_if_le (tgt := 24) C (r32_c (lo := 0) (hi := 126) ri1.1 ri1.2 (by decide) (by decide)) dX8_startSpelling_9 (by decide) (fun c1 => ?_) (fun c1 => ?_)
  · refine c_iconst C dX8_startSpelling_24 ?_
    refine hv2 (show 0 ≤ iv1 a0 7 ∧ iv1 a0 7 ≤ 6 from W1.int t_a0 7) (show iv1 a0 7 = 0 from by rw [pq1]; exact up2_s) (fun ri2 ie2 => ?_)
    exact c_zret C dX8_startSpelling_25 rfl (Or.inl rfl) (by decide) (rom0 hph hph (by decide)) ⟨0, rfl, rfl, rfl, rfl, rfl, F1, W1, (Or.inl rfl), ⟨by omega, STXU.no (by omega) (by omega)⟩⟩
  · refine c_aload_n (j := 0) (x := a0) C dX8_startSpelling_12 rfl ?_
    refine c_iload_n (j := 1) C dX8_startSpelling_13 rfl ?_
    refine hv2 (show 0 ≤ iv1 a0 7 ∧ iv1 a0 7 ≤ 6 from W1.int t_a0 7) (show iv1 a0 7 = 0 from by rw [pq1]; exact up2_s) (fun ri3 ie3 => ?_)
    refine d_callV (As := [.int (iI n)]) (rest := []) C hM (G_lengthen (a0 := a0) (n := n) W1 hS t_a0 (by omega) ) dX8_startSpelling_14 kV_X8_91 rfl t_a0 rfl rfl (by decide) ck_9 rfl (Nat.le_of_ble_eq_true rfl) ⟨(Nat.le_of_ble_eq_true rfl), (Nat.le_of_ble_eq_true rfl)⟩ hph hph (show 0 + 0 = 0 from rfl) (by decide) (fun rh1 Lh1 clh1 lnh1 ivh1 rvh1 h1 => ?_)
    obtain ⟨f1, rfl, rfl, rfl, rfl, rfl, fl1, W2, rgf1, exf1⟩ := h1
    have F2 := F1.call hX0 fl1 rfl
    refine c_st (st2 := [.int (iI f1)]) rfl ?_
    refine hv2 (show 0 ≤ ivh1 a0 5 ∧ ivh1 a0 5 ≤ 126 from W2.int t_a0 5) (show ivh1 a0 5 = iv1 a0 5 ∧ LNXU iv1 rv ivh1 a0 n f1 from exf1) (fun ri4 gf1 => ?_)
    refine c_if_eq (tgt := 24) C ⟨by omega, by omega⟩ dX8_startSpelling_17 (by decide) (fun c2 => ?_) (fun c2 => ?_)
    · refine c_iconst C dX8_startSpelling_24 ?_
      have ri5 : 0 ≤ ivh1 a0 7 ∧ ivh1 a0 7 ≤ 6 := W2.int t_a0 7
      exact c_zret C dX8_startSpelling_25 rfl (Or.inl rfl) (by decide) (rom0 hph hph (by decide)) ⟨0, rfl, rfl, rfl, rfl, rfl, F2, W2, (Or.inl rfl), ⟨by omega, gf1.2.stx (by omega) (by omega) (by omega)⟩⟩
    · refine c_iconst C dX8_startSpelling_20 ?_
      refine c_goto (tgt := 25) C dX8_startSpelling_21 (by decide) ?_
      have ri6 : 0 ≤ ivh1 a0 7 ∧ ivh1 a0 7 ≤ 6 := W2.int t_a0 7
      exact c_zret C dX8_startSpelling_25 rfl (Or.inr rfl) (by decide) (rom0 hph hph (by decide)) ⟨1, rfl, rfl, rfl, rfl, rfl, F2, W2, (Or.inr rfl), ⟨by omega, gf1.2.stx (by omega) (by omega) (by omega)⟩⟩
def NXI (iv : Nat → Nat → Int) (rv : Nat → Nat → Option Nat) (iv1 : Nat → Nat → Int) (c : Nat) (k : Int) : Prop := ∀ l, TRNU iv rv c l → DGT (iv c 5) l → ∀ tb, rv c 6 = some tb → ∀ (j : Nat) (x : Int), l[j]? = some x → (iv c 7 - 1 - ((j : Nat) : Int) ≤ k → iv1 tb (l.length - 1 - j) = x) ∧ (k < iv c 7 - 1 - ((j : Nat) : Int) → x = iv c 5 - 1 ∧ iv1 tb (l.length - 1 - j) = 0)
def NXX (iv : Nat → Nat → Int) (rv : Nat → Nat → Option Nat) (iv2 : Nat → Nat → Int) (c : Nat) (n f : Int) : Prop := ∀ l, TRNU iv rv c l → DGT (iv c 5) l → (1 ≤ n ∧ n ≤ 6) → (f = 1 ∧ ∃ l2, nxw (iv c 5) n.toNat l = some l2 ∧ TRNU iv2 rv c l2) ∨ (f = 0 ∧ nxw (iv c 5) n.toNat l = none)
section USP3
variable {iv iv1 iv2 iv3 : Nat → Nat → Int} {rv : Nat → Nat → Option Nat} {c tb : Nat} {x y k f n z : Int}
theorem NXI.init (hk : k = iv c 7 - 1) : NXI iv rv iv c k := fun l h1 h2 tb ht j x ej => by
  refine hv2 (gl3 ej) (h1.1) (fun lt e => ?_)
  exact ⟨fun _ => h1.2 tb ht j x ej, fun q => absurd q (by omega)⟩
theorem NXI.st (hI : NXI iv rv iv1 c k) (htb : rv c 6 = some tb) (hk : 0 ≤ k ∧ k < iv c 7) (hg : iv c 5 ≤ iv1 tb k.toNat + 1) (e1 : iv2 tb k.toNat = 0) (e2 : ∀ j : Nat, j ≠ k.toNat → iv2 tb j = iv1 tb j) (hz : z = k - 1) : NXI iv rv iv2 c z := fun l h1 h2 tb' ht j x ej => by
  rw [htb] at ht; cases ht
  refine hv4 (gl3 ej) (h1.1) (hI l h1 h2 tb htb j x ej) (h2 j x ej) (fun lt e w d => ?_)
  subst hz
  by_cases q : l.length - 1 - j = k.toNat
  · rw [q, e1]
    rw [q] at w
    exact ⟨fun q2 => absurd q2 (by omega), fun _ => ⟨by have := w.1 (by omega); omega, rfl⟩⟩
  · rw [e2 _ q]
    exact ⟨fun q2 => w.1 (by omega), fun q2 => w.2 (by omega)⟩
theorem NXI.s1 (hI : NXI iv rv iv1 c k) (htb : rv c 6 = some tb) (hk : 0 ≤ k ∧ k < iv c 7) (hg : iv c 5 ≤ iv1 tb k.toNat + 1) (e : iv2 = up2 iv1 tb k.toNat 0) (hz : z = k - 1) : NXI iv rv iv2 c z := hI.st htb hk hg (by rw [e, up2_s]) (fun j hj => by rw [e, up2_j hj]) hz
theorem NXI.s2 (hI : NXI iv rv iv1 c k) (htb : rv c 6 = some tb) (hk : 0 ≤ k ∧ k < iv c 7) (hg : iv c 5 ≤ iv1 tb k.toNat + 1) (e : iv2 = up2 iv1 tb k.toNat y) (e3 : iv3 = up2 iv2 tb k.toNat 0) (hz : z = k - 1) : NXI iv rv iv3 c z := hI.st htb hk hg (by rw [e3, up2_s]) (fun j hj => by rw [e3, up2_j hj, e, up2_j hj]) hz
theorem NXI.up (hI : NXI iv rv iv1 c k) (htb : rv c 6 = some tb) (hk : 0 ≤ k ∧ k < iv c 7) (hg : iv1 tb k.toNat + 1 < iv c 5) (e : iv2 = up2 iv1 tb k.toNat y) (hy : y = iv1 tb k.toNat + 1) (h7 : iv2 c 7 = iv c 7) (hf : f = 1) : NXX iv rv iv2 c n f := fun l h1 h2 hn => by
  have e7 := h1.1
  have lt : l.length - 1 - k.toNat < l.length := by omega
  have gd := List.getElem?_eq_getElem lt
  have wd := (hI l h1 h2 tb htb _ _ gd).1 (by omega)
  rw [show l.length - 1 - (l.length - 1 - k.toNat) = k.toNat by omega] at wd
  obtain ⟨l2, i1, i2, i3, i4, i5⟩ := inw_at (S := iv c 5) l (l.length - 1 - k.toNat) _ (fun j x hj ej => ((hI l h1 h2 tb htb j x ej).2 (by omega)).1) gd (by omega)
  refine Or.inl ⟨hf, l2, nxw_some i1, by omega, fun tb' ht j x ej => ?_⟩
  rw [htb] at ht; cases ht
  have lj := gl3 ej
  rw [i2] at lj ⊢
  rw [e]
  by_cases c1 : j < l.length - 1 - k.toNat
  · rw [i3 j c1] at ej
    cases ej
    have gj := List.getElem?_eq_getElem lj
    rw [up2_j (by omega)]
    exact ((hI l h1 h2 tb htb j _ gj).2 (by omega)).2
  · by_cases c2 : j = l.length - 1 - k.toNat
    · rw [c2, i4] at ej
      cases ej
      rw [c2, show l.length - 1 - (l.length - 1 - k.toNat) = k.toNat by omega, up2_s, hy, wd]
    · rw [i5 j (by omega)] at ej
      rw [up2_j (by omega)]
      exact (hI l h1 h2 tb htb j x ej).1 (by omega)
theorem NXI.over (hI : NXI iv rv iv1 c k) (htb : rv c 6 = some tb) (hk : k < 0) (h7 : iv1 c 7 = iv c 7) (hl : LNXU iv1 rv iv2 c n f) : NXX iv rv iv2 c n f := fun l h1 h2 hn => by
  have e7 := h1.1
  have i1 := inw_none (S := iv c 5) l (fun j x ej => by
    have lt := gl3 ej
    exact ((hI l h1 h2 tb htb j x ej).2 (by omega)).1)
  rw [nxw_none i1]
  rcases hl with ⟨p1, p2, _⟩ | ⟨p1, p2, p3, p4⟩
  · exact Or.inr ⟨p1, if_neg (by omega)⟩
  · rw [show (iv1 c 7 + 1).toNat = l.length + 1 by omega] at p4
    exact Or.inl ⟨p1, _, if_pos (by omega), p4⟩
end USP3
set_option maxHeartbeats 4000000 in
set_option maxRecDepth 100000 in
theorem G_spellNext {l : Launch} {G : GT} {mi : Nat} {sk : Nat → Nat} {L : List Nat} {cl ln : Nat → Nat} {iv : Nat → Nat → Int} {rv : Nat → Nat → Option Nat}  {a0 : Nat} {n : Int} (hW : WT (g0 G) sk L cl ln iv rv) (hS : SKL sk L cl) (t_a0 : ty L cl a0 14) (h_n : -2147483648 ≤ n ∧ n ≤ 2147483647)  : Mc l G mi (Phi (g0 G) sk) PHM yX8_spellNext cX8_spellNext 3 (some .boolean) 3 [.ref a0, .int (iI n)] L cl ln iv rv 0 (fun v L2 cl2 ln2 iv2 rv2 => ∃ f : Int, v = some (.int (iI f)) ∧ L = L2 ∧ cl = cl2 ∧ ln = ln2 ∧ rv = rv2 ∧ fT [14, 58] L cl iv rv iv2 rv2 ∧ WT (g0 G) sk L2 cl2 ln2 iv2 rv2 ∧ (f = 0 ∨ f = 1) ∧ (iv2 a0 5 = iv a0 5 ∧ NXX iv rv iv2 a0 n f)) := by
  refine Mc.mk (by decide) (Nat.le_of_ble_eq_true rfl) ?_
  intro p e s m args below meth c A C hM
  refine hv5 (Phi.le hW hS) (show XT L cl ln L cl ln from XT.refl) (show fT [14, 58] L cl iv rv iv rv from fT.refl) (show 0 ≤ iv a0 5 ∧ iv a0 5 ≤ 126 from hW.int t_a0 5) (show 0 ≤ iv a0 7 ∧ iv a0 7 ≤ 6 from hW.int t_a0 7) (fun hph hX0 hF0 ri1 ri2 => ?_)
  obtain ⟨ab9, hab9, tab9⟩ := hW.ref t_a0 4 rfl rfl rfl
  obtain ⟨tb9, htb9, ttb9⟩ := hW.ref t_a0 6 rfl rfl rfl
  refine c_aload_n (j := 0) (x := a0) C dX8_spellNext_0 rfl ?_
  refine c_get (k := 7) C ck_9 dX8_spellNext_1 w1_111 (by decide) t_a0 rfl rfl (by decide) rfl ?_
  refine c_iconst C dX8_spellNext_4 ?_
  refine c_isub C dX8_spellNext_5 ?_
  refine c_istore_n (lv2 := [(2, .int (iI ((iv a0 7) - 1))), (0, .ref a0), (1, .int (iI n))]) C dX8_spellNext_6 (by decide) rfl ?_
  have Lp1 : ∀ (nn : Nat) (k : Int) (ivb1 : Nat → Nat → Int) , k + 2 < (nn : Int) → WT (g0 G) sk L cl ln ivb1 rv → fT [14, 58] L cl iv rv ivb1 rv → (-1 ≤ k ∧ k ≤ iv a0 7 - 1) → (ivb1 a0 5 = iv a0 5) → (ivb1 a0 7 = iv a0 7) → (NXI iv rv ivb1 a0 k) → cw p l e 3 ((PHM) + 0 - ((Phi (g0 G) sk) ln rv)) s m args below meth c G A 3 (MQ below (Qu G A (Qp G (Phi (g0 G) sk) ((Phi (g0 G) sk) ln rv) 0 (fun v L2 cl2 ln2 iv2 rv2 => ∃ f : Int, v = some (.int (iI f)) ∧ L = L2 ∧ cl = cl2 ∧ ln = ln2 ∧ rv = rv2 ∧ fT [14, 58] L cl iv rv iv2 rv2 ∧ WT (g0 G) sk L2 cl2 ln2 iv2 rv2 ∧ (f = 0 ∨ f = 1) ∧ (iv2 a0 5 = iv a0 5 ∧ NXX iv rv iv2 a0 n f)))) args s (((PHM) + 0 - ((Phi (g0 G) sk) ln rv)) / 16) ((PHM) + 0 - ((Phi (g0 G) sk) ln rv)) A) (Phi (g0 G) sk) ((Phi (g0 G) sk) ln rv) L cl ln ivb1 rv 0 7 [(2, .int (iI k)), (0, .ref a0), (1, .int (iI n))] [] := by
    intro nn
    induction nn with
    | zero =>
      intro  k ivb1 hm Wb1 Fb1  hk h5s h7s hI
      exact absurd hm (by omega)
    | succ nn ih1 =>
      intro  k ivb1 hm Wb1 Fb1  hk h5s h7s hI
      refine c_iload_n (j := 0) C dX8_spellNext_7 rfl ?_
      refine c_if_lt (tgt := 49) C ⟨by omega, by omega⟩ dX8_spellNext_8 (by decide) (fun c1 => ?_) (fun c1 => ?_)
      · refine c_aload_n (j := 1) (x := a0) C dX8_spellNext_49 rfl ?_
        refine c_iload_n (j := 2) C dX8_spellNext_50 rfl ?_
        refine hv2 (show 0 ≤ ivb1 a0 7 ∧ ivb1 a0 7 ≤ 6 from Wb1.int t_a0 7) (show 0 ≤ ivb1 a0 5 ∧ ivb1 a0 5 ≤ 126 from Wb1.int t_a0 5) (fun ri3 ri4 => ?_)
        refine d_callV (As := [.int (iI n)]) (rest := []) C hM (G_lengthen (a0 := a0) (n := n) Wb1 hS t_a0 (by omega) ) dX8_spellNext_51 kV_X8_91 rfl t_a0 rfl rfl (by decide) ck_9 rfl (Nat.le_of_ble_eq_true rfl) ⟨(Nat.le_of_ble_eq_true rfl), (Nat.le_of_ble_eq_true rfl)⟩ hph hph (show 0 + 0 = 0 from rfl) (by decide) (fun rh1 Lh1 clh1 lnh1 ivh1 rvh1 h1 => ?_)
        obtain ⟨f1, rfl, rfl, rfl, rfl, rfl, fl1, W1, rgf1, exf1⟩ := h1
        have F1 := Fb1.call hX0 fl1 rfl
        refine c_st (st2 := [.int (iI f1)]) rfl ?_
        refine hv3 (show 0 ≤ ivh1 a0 5 ∧ ivh1 a0 5 ≤ 126 from W1.int t_a0 5) (show ivh1 a0 5 = ivb1 a0 5 ∧ LNXU ivb1 rv ivh1 a0 n f1 from exf1) (show 0 ≤ ivh1 a0 7 ∧ ivh1 a0 7 ≤ 6 from W1.int t_a0 7) (fun ri5 gf1 ri6 => ?_)
        exact c_zret C dX8_spellNext_54 rfl (by omega) (by decide) (rom0 hph hph (by decide)) ⟨f1, rfl, rfl, rfl, rfl, rfl, F1, W1, (by omega), ⟨by omega, hI.over htb9 (by omega) (by omega) gf1.2⟩⟩
      · refine c_aload_n (j := 1) (x := a0) C dX8_spellNext_11 rfl ?_
        refine c_getr (k := 6) C ck_9 dX8_spellNext_12 w1_110 (by decide) t_a0 rfl rfl (by decide) rfl htb9 ?_
        refine c_st (st2 := [.ref tb9]) rfl ?_
        refine c_iload_n (j := 0) C dX8_spellNext_15 rfl ?_
        refine c_dup2 C dX8_spellNext_16 rfl rfl ?_
        have ll1 : 6 ≤ ln tb9 ∧ ln tb9 ≤ 6 := Wb1.len ttb9 rfl
        refine c_iald C dX8_spellNext_17 ttb9 rfl (by omega) (by omega) (by omega) ?_
        have ri7 : 0 ≤ ivb1 tb9 k.toNat ∧ ivb1 tb9 k.toNat ≤ 125 := Wb1.int ttb9 k.toNat
        refine c_iconst C dX8_spellNext_18 ?_
        refine c_iadd C dX8_spellNext_19 ?_
        have ri8 : 0 ≤ ivb1 a0 5 ∧ ivb1 a0 5 ≤ 126 := Wb1.int t_a0 5
        by_cases hsp : (ivb1 tb9 k.toNat) + 1 ≤ 125
        · refine c_iast (x := (ivb1 tb9 k.toNat) + 1) C dX8_spellNext_20 ttb9 rfl (by omega) (by omega) (by omega) (fun iv1 pq1 => ?_)
          refine hv2 (Wb1.puti pq1 ttb9 (show 0 ≤ ((ivb1 tb9 k.toNat) + 1) ∧ ((ivb1 tb9 k.toNat) + 1) ≤ 125 by omega) rfl) (Fb1.puti hX0 pq1 ttb9 rfl) (fun W2 F2 => ?_)
          refine c_aload_n (j := 1) (x := a0) C dX8_spellNext_21 rfl ?_
          refine c_getr (k := 6) C ck_9 dX8_spellNext_22 w1_110 (by decide) t_a0 rfl rfl (by decide) rfl htb9 ?_
          refine c_st (st2 := [.ref tb9]) rfl ?_
          refine c_iload_n (j := 0) C dX8_spellNext_25 rfl ?_
          refine c_iald C dX8_spellNext_26 ttb9 rfl (by omega) (by omega) (by omega) ?_
          refine hv2 (show 0 ≤ iv1 tb9 k.toNat ∧ iv1 tb9 k.toNat ≤ 125 from W2.int ttb9 k.toNat) (show iv1 tb9 k.toNat = (ivb1 tb9 k.toNat) + 1 from by rw [pq1]; exact up2_s) (fun ri9 ie7 => ?_)
          refine c_aload_n (j := 1) (x := a0) C dX8_spellNext_27 rfl ?_
          refine hv2 (show 0 ≤ iv1 a0 5 ∧ iv1 a0 5 ≤ 126 from W2.int t_a0 5) (show iv1 a0 5 = ivb1 a0 5 from by rw [pq1]; exact up2_k (ne_ty t_a0 ttb9 (by decide))) (fun ri10 ie8 => ?_)
          refine c_get (k := 5) C ck_9 dX8_spellNext_28 w1_109 (by decide) t_a0 rfl rfl (by decide) rfl ?_
          refine c_icmp_ge (tgt := 36) C (r32_c (lo := 0) (hi := 125) ri9.1 ri9.2 (by decide) (by decide)) (r32_c (lo := 0) (hi := 126) ri10.1 ri10.2 (by decide) (by decide)) dX8_spellNext_31 (by decide) (fun c2 => ?_) (fun c2 => ?_)
          · refine c_aload_n (j := 1) (x := a0) C dX8_spellNext_36 rfl ?_
            refine c_getr (k := 6) C ck_9 dX8_spellNext_37 w1_110 (by decide) t_a0 rfl rfl (by decide) rfl htb9 ?_
            refine c_st (st2 := [.ref tb9]) rfl ?_
            refine c_iload_n (j := 0) C dX8_spellNext_40 rfl ?_
            refine c_iconst C dX8_spellNext_41 ?_
            refine c_iast (x := 0) C dX8_spellNext_42 ttb9 rfl (by omega) (by omega) (by omega) (fun iv2 pq2 => ?_)
            refine hv2 (W2.puti pq2 ttb9 (show 0 ≤ 0 ∧ 0 ≤ 125 by omega) rfl) (F2.puti hX0 pq2 ttb9 rfl) (fun W3 F3 => ?_)
            refine c_iinc (z := k) (j := 0) (lv2 := [(2, .int (iI (k + (-1)))), (0, .ref a0), (1, .int (iI n))]) C dX8_spellNext_43 rfl (by decide) rfl ?_
            refine c_goto (tgt := 7) C dX8_spellNext_46 (by decide) ?_
            refine hv5 (show 0 ≤ iv2 a0 5 ∧ iv2 a0 5 ≤ 126 from W3.int t_a0 5) (show iv2 a0 5 = iv1 a0 5 from by rw [pq2]; exact up2_k (ne_ty t_a0 ttb9 (by decide))) (show 0 ≤ iv2 a0 7 ∧ iv2 a0 7 ≤ 6 from W3.int t_a0 7) (show iv2 a0 7 = iv1 a0 7 from by rw [pq2]; exact up2_k (ne_ty t_a0 ttb9 (by decide))) (show iv1 a0 7 = ivb1 a0 7 from by rw [pq1]; exact up2_k (ne_ty t_a0 ttb9 (by decide))) (fun ri11 ie9 ri12 ie10 ie11 => ?_)
            refine c_lv (lv2 := [(2, .int (iI (k + (-1)))), (0, .ref a0), (1, .int (iI n))]) [0, 1, 2] rfl ?_
            exact ih1  (k + (-1)) _ (by omega) W3 F3  (by omega) (ie9.trans (ie8.trans h5s)) (ie10.trans (ie11.trans h7s)) (hI.s2 htb9 ⟨by omega, by omega⟩ (by omega) pq1 pq2 (by omega))
          · refine c_iconst C dX8_spellNext_34 ?_
            refine hv2 (show 0 ≤ iv1 a0 7 ∧ iv1 a0 7 ≤ 6 from W2.int t_a0 7) (show iv1 a0 7 = ivb1 a0 7 from by rw [pq1]; exact up2_k (ne_ty t_a0 ttb9 (by decide))) (fun ri13 ie13 => ?_)
            exact c_zret C dX8_spellNext_35 rfl (Or.inr rfl) (by decide) (rom0 hph hph (by decide)) ⟨1, rfl, rfl, rfl, rfl, rfl, F2, W2, (Or.inr rfl), ⟨by omega, hI.up htb9 ⟨by omega, by omega⟩ (by omega) pq1 rfl (by omega) rfl⟩⟩
        · refine c_iast (x := (ivb1 tb9 k.toNat) + 1) C dX8_spellNext_20 ttb9 rfl (by omega) (by omega) (by omega) (fun iv3 pq3 => ?_)
          refine hv2 (show iv3 tb9 k.toNat = (ivb1 tb9 k.toNat) + 1 from by rw [pq3]; exact up2_s) (show iv3 a0 5 = ivb1 a0 5 from by rw [pq3]; exact up2_k (ne_ty t_a0 ttb9 (by decide))) (fun sb1 sb2 => ?_)
          refine c_aload_n (j := 1) (x := a0) C dX8_spellNext_21 rfl ?_
          refine c_getr (k := 6) C ck_9 dX8_spellNext_22 w1_110 (by decide) t_a0 rfl rfl (by decide) rfl htb9 ?_
          refine c_st (st2 := [.ref tb9]) rfl ?_
          refine c_iload_n (j := 0) C dX8_spellNext_25 rfl ?_
          refine c_iald C dX8_spellNext_26 ttb9 rfl (by omega) (by omega) (by omega) ?_
          refine c_aload_n (j := 1) (x := a0) C dX8_spellNext_27 rfl ?_
          refine c_get (k := 5) C ck_9 dX8_spellNext_28 w1_109 (by decide) t_a0 rfl rfl (by decide) rfl ?_
          refine c_icmp_ge (tgt := 36) C ⟨by omega, by omega⟩ ⟨by omega, by omega⟩ dX8_spellNext_31 (by decide) (fun _ => ?_) (fun z => absurd z (by omega))
          refine c_aload_n (j := 1) (x := a0) C dX8_spellNext_36 rfl ?_
          refine c_getr (k := 6) C ck_9 dX8_spellNext_37 w1_110 (by decide) t_a0 rfl rfl (by decide) rfl htb9 ?_
          refine c_st (st2 := [.ref tb9]) rfl ?_
          refine c_iload_n (j := 0) C dX8_spellNext_40 rfl ?_
          refine c_iconst C dX8_spellNext_41 ?_
          refine c_iast (x := 0) C dX8_spellNext_42 ttb9 rfl (by omega) (by omega) (by omega) (fun iv4 pq4 => ?_)
          have sb3 : iv4 = up2 ivb1 tb9 k.toNat 0 := by rw [pq4, pq3]; exact up2_up
          refine hv2 (Wb1.puti sb3 ttb9 (show 0 ≤ 0 ∧ 0 ≤ 125 by omega) rfl) (Fb1.puti hX0 sb3 ttb9 rfl) (fun W4 F4 => ?_)
          refine c_iinc (z := k) (j := 0) (lv2 := [(2, .int (iI (k + (-1)))), (0, .ref a0), (1, .int (iI n))]) C dX8_spellNext_43 rfl (by decide) rfl ?_
          refine c_goto (tgt := 7) C dX8_spellNext_46 (by decide) ?_
          refine hv4 (show 0 ≤ iv4 a0 5 ∧ iv4 a0 5 ≤ 126 from W4.int t_a0 5) (show iv4 a0 5 = ivb1 a0 5 from by rw [sb3]; exact up2_k (ne_ty t_a0 ttb9 (by decide))) (show 0 ≤ iv4 a0 7 ∧ iv4 a0 7 ≤ 6 from W4.int t_a0 7) (show iv4 a0 7 = ivb1 a0 7 from by rw [sb3]; exact up2_k (ne_ty t_a0 ttb9 (by decide))) (fun ri14 ie15 ri15 ie16 => ?_)
          refine c_lv (lv2 := [(2, .int (iI (k + (-1)))), (0, .ref a0), (1, .int (iI n))]) [0, 1, 2] rfl ?_
          exact ih1  (k + (-1)) _ (by omega) W4 F4  (by omega) (ie15.trans h5s) (ie16.trans h7s) (hI.s1 htb9 ⟨by omega, by omega⟩ (by omega) sb3 (by omega))
  refine c_lv (lv2 := [(2, .int (iI ((iv a0 7) - 1))), (0, .ref a0), (1, .int (iI n))]) [0, 1, 2] rfl ?_
  exact Lp1 10 ((iv a0 7) - 1) _ (by omega) hW hF0  (by omega) rfl rfl (NXI.init (by omega))
end
section
def MKL (a : Nat → Nat → Int) (l : List Int) (i k : Int) (c : Nat) : Prop := ∃ (r : Nat) (d m : Int), l[r]? = some d ∧ 0 ≤ d ∧ (0 ≤ m ∧ m < a 12 d.toNat) ∧ (((r : Nat) : Int) < i ∨ (((r : Nat) : Int) = i ∧ m < k)) ∧ a 14 (8 * d + m).toNat = ((c : Nat) : Int)
def MKI (L : List Nat) (cl ln : Nat → Nat) (iv : Nat → Nat → Int) (rv : Nat → Nat → Option Nat) (iv1 : Nat → Nat → Int) (q b : Nat) (i k : Int) : Prop := ∀ a l sb, HL L cl ln iv rv a b l → rv q 3 = some sb → ∀ c : Nat, c ≤ 125 → (iv1 sb c ≠ 0 ↔ (iv sb c ≠ 0 ∨ MKL a l i k c))
def MKX (L : List Nat) (cl ln : Nat → Nat) (iv : Nat → Nat → Int) (rv : Nat → Nat → Option Nat) (iv2 : Nat → Nat → Int) (q b : Nat) : Prop := ∀ a l sb, HL L cl ln iv rv a b l → rv q 3 = some sb → ∀ c : Nat, c ≤ 125 → (iv2 sb c ≠ 0 ↔ (iv sb c ≠ 0 ∨ MKL a l ((l.length : Nat) : Int) 0 c))
section UALF
variable {L : List Nat} {cl ln : Nat → Nat} {iv iv1 iv2 : Nat → Nat → Int} {rv : Nat → Nat → Option Nat} {a : Nat → Nat → Int} {l : List Int} {q b w lb sb c : Nat} {i k x d : Int}
theorem HL.mkr (hl : HL L cl ln iv rv a b l) (hi : 0 ≤ i ∧ i < iv b 2) (he : el rv b i.toNat = some w) (hb : rv w 1 = some lb) : ∃ d, l[i.toNat]? = some d ∧ ((0 ≤ d ∧ ((ln lb : Nat) : Int) = a 12 d.toNat ∧ ∀ m : Int, 0 ≤ m → m < ((ln lb : Nat) : Int) → iv lb m.toNat = a 14 (8 * d + m).toNat) ∨ (d < 0 ∧ ln lb = 0)) := by
  have e := hl.1
  have lt : i.toNat < l.length := by omega
  have g := List.getElem?_eq_getElem lt
  obtain ⟨w', w1, _, w3⟩ := hl.2 _ _ g
  rw [he] at w1
  cases w1
  refine ⟨_, g, ?_⟩
  by_cases c0 : 0 ≤ l[i.toNat]
  · obtain ⟨_, _, l', c', r1, _, r3, _, r5, _⟩ := w3.1 c0
    rw [hb] at r1
    cases r1
    refine Or.inl ⟨c0, r3, fun m h1 h2 => ?_⟩
    rw [(r5 m.toNat (by omega)).1]
    congr 1
    omega
  · obtain ⟨⟨_, lb', r1, r2⟩, _⟩ := w3.2 (by omega)
    rw [hb] at r1
    cases r1
    exact Or.inr ⟨by omega, r2⟩
theorem MKI.init : MKI L cl ln iv rv iv q b 0 0 := fun a l sb _ _ c _ => ⟨fun e => Or.inl e, fun e => by
  rcases e with e | ⟨r, d, m, _, _, q1, q2, _⟩
  · exact e
  · omega⟩
theorem MKL.step (hd : l[i.toNat]? = some d) (hi : 0 ≤ i) (h0 : 0 ≤ d) (hk : 0 ≤ k ∧ k < a 12 d.toNat) : MKL a l i (k + 1) c ↔ (MKL a l i k c ∨ a 14 (8 * d + k).toNat = ((c : Nat) : Int)) := by
  constructor
  · intro h
    obtain ⟨r, e, m, q1, q2, q3, q4, q5⟩ := h
    by_cases c1 : ((r : Nat) : Int) = i ∧ m = k
    · rw [show r = i.toNat by omega, hd] at q1
      cases q1
      rw [c1.2] at q5
      exact Or.inr q5
    · exact Or.inl ⟨r, e, m, q1, q2, q3, by omega, q5⟩
  · intro h
    rcases h with ⟨r, e, m, q1, q2, q3, q4, q5⟩ | h
    · exact ⟨r, e, m, q1, q2, q3, by omega, q5⟩
    · exact ⟨i.toNat, d, k, hd, h0, hk, Or.inr ⟨by omega, by omega⟩, h⟩
theorem MKI.skip (h : MKI L cl ln iv rv iv1 q b i k) (hi : 0 ≤ i ∧ i < iv b 2) (he : el rv b i.toNat = some w) (hb : rv w 1 = some lb) (hk : 0 ≤ k ∧ k < ((ln lb : Nat) : Int)) (hx : iv lb k.toNat < 0 ∨ 125 < iv lb k.toNat) : MKI L cl ln iv rv iv1 q b i (k + 1) := fun a l sb hl hs c hc => by
  obtain ⟨d, d1, d2⟩ := hl.mkr hi he hb
  rcases d2 with ⟨d2, d3, d4⟩ | ⟨_, d2⟩
  · have w5 := d4 k hk.1 hk.2
    rw [h a l sb hl hs c hc, MKL.step d1 hi.1 d2 (by omega)]
    constructor
    · intro g
      rcases g with g | g
      · exact Or.inl g
      · exact Or.inr (Or.inl g)
    · intro g
      rcases g with g | g | g
      · exact Or.inl g
      · exact Or.inr g
      · omega
  · omega
theorem MKI.put (h : MKI L cl ln iv rv iv1 q b i k) (hi : 0 ≤ i ∧ i < iv b 2) (he : el rv b i.toNat = some w) (hb : rv w 1 = some lb) (hk : 0 ≤ k ∧ k < ((ln lb : Nat) : Int)) (hsb : rv q 3 = some sb) (hx : 0 ≤ x ∧ x ≤ 125) (hxe : x = iv lb k.toNat) (e : iv2 = up2 iv1 sb x.toNat 1) : MKI L cl ln iv rv iv2 q b i (k + 1) := fun a l sb' hl hs c hc => by
  rw [hsb] at hs
  cases hs
  obtain ⟨d, d1, d2⟩ := hl.mkr hi he hb
  rcases d2 with ⟨d2, d3, d4⟩ | ⟨_, d2⟩
  · have w5 := d4 k hk.1 hk.2
    have w6 := h a l sb hl hsb c hc
    rw [MKL.step d1 hi.1 d2 (by omega), e]
    by_cases c1 : c = x.toNat
    · rw [c1, up2_s]
      exact ⟨fun _ => Or.inr (Or.inr (by omega)), fun _ => by decide⟩
    · rw [up2_j c1, w6]
      constructor
      · intro g
        rcases g with g | g
        · exact Or.inl g
        · exact Or.inr (Or.inl g)
      · intro g
        rcases g with g | g | g
        · exact Or.inl g
        · exact Or.inr g
        · omega
  · omega
theorem MKI.row (h : MKI L cl ln iv rv iv1 q b i k) (hi : 0 ≤ i ∧ i < iv b 2) (he : el rv b i.toNat = some w) (hb : rv w 1 = some lb) (hk : ((ln lb : Nat) : Int) ≤ k) : MKI L cl ln iv rv iv1 q b (i + 1) 0 := fun a l sb hl hs c hc => by
  obtain ⟨d, d1, d2⟩ := hl.mkr hi he hb
  rw [h a l sb hl hs c hc]
  constructor
  · intro g
    rcases g with g | ⟨r, e, m, q1, q2, q3, q4, q5⟩
    · exact Or.inl g
    · exact Or.inr ⟨r, e, m, q1, q2, q3, by omega, q5⟩
  · intro g
    rcases g with g | ⟨r, e, m, q1, q2, q3, q4, q5⟩
    · exact Or.inl g
    · refine Or.inr ⟨r, e, m, q1, q2, q3, ?_, q5⟩
      by_cases c1 : ((r : Nat) : Int) = i
      · rw [show r = i.toNat by omega, d1] at q1
        cases q1
        rcases d2 with ⟨_, d3, _⟩ | ⟨d2, _⟩ <;> omega
      · omega
theorem MKI.fin (h : MKI L cl ln iv rv iv1 q b i 0) (hi : i = iv b 2) : MKX L cl ln iv rv iv1 q b := fun a l sb hl hs c hc => by
  have e := hl.1
  rw [← e, ← hi]
  exact h a l sb hl hs c hc
end UALF
set_option maxHeartbeats 4000000 in
set_option maxRecDepth 100000 in
theorem G_markLetters_24 {l : Launch} {G : GT} {mi : Nat} {sk : Nat → Nat} {L : List Nat} {cl ln : Nat → Nat} {iv : Nat → Nat → Int} {rv : Nat → Nat → Option Nat}  {a0 : Nat} {a1 : Nat} (hW : WT (g0 G) sk L cl ln iv rv) (hS : SKL sk L cl) (t_a0 : ty L cl a0 14) (t_a1 : ty L cl a1 24)  : Mc l G mi (Phi (g0 G) sk) PHM yX8_markLetters cX8_markLetters 5 none 3 [.ref a0, .ref a1] L cl ln iv rv 0 (fun v L2 cl2 ln2 iv2 rv2 => v = none ∧ L = L2 ∧ cl = cl2 ∧ ln = ln2 ∧ rv = rv2 ∧ fT [56] L cl iv rv iv2 rv2 ∧ WT (g0 G) sk L2 cl2 ln2 iv2 rv2 ∧ (MKX L cl ln iv rv iv2 a0 a1)) := by
  refine Mc.mk (by decide) (Nat.le_of_ble_eq_true rfl) ?_
  intro p e s m args below meth c A C hM
  refine hv3 (Phi.le hW hS) (show XT L cl ln L cl ln from XT.refl) (show fT [56] L cl iv rv iv rv from fT.refl) (fun hph hX0 hF0 => ?_)
  refine c_iconst C dX8_markLetters_0 ?_
  refine c_istore_n (lv2 := [(2, .int (iI 0)), (0, .ref a0), (1, .ref a1)]) C dX8_markLetters_1 (by decide) rfl ?_
  have Lp1 : ∀ (nn : Nat) (k : Int) (ivb1 : Nat → Nat → Int) , 6004 - k < (nn : Int) → WT (g0 G) sk L cl ln ivb1 rv → fT [56] L cl iv rv ivb1 rv → (0 ≤ k ∧ k ≤ iv a1 2 ∧ k ≤ 6003) → (MKI L cl ln iv rv ivb1 a0 a1 k 0) → cw p l e 3 ((PHM) + 0 - ((Phi (g0 G) sk) ln rv)) s m args below meth c G A 5 (MQ below (Qu G A (Qp G (Phi (g0 G) sk) ((Phi (g0 G) sk) ln rv) 0 (fun v L2 cl2 ln2 iv2 rv2 => v = none ∧ L = L2 ∧ cl = cl2 ∧ ln = ln2 ∧ rv = rv2 ∧ fT [56] L cl iv rv iv2 rv2 ∧ WT (g0 G) sk L2 cl2 ln2 iv2 rv2 ∧ (MKX L cl ln iv rv iv2 a0 a1)))) args s (((PHM) + 0 - ((Phi (g0 G) sk) ln rv)) / 16) ((PHM) + 0 - ((Phi (g0 G) sk) ln rv)) A) (Phi (g0 G) sk) ((Phi (g0 G) sk) ln rv) L cl ln ivb1 rv 0 2 [(2, .int (iI k)), (0, .ref a0), (1, .ref a1)] [] := by
    intro nn
    induction nn with
    | zero =>
      intro  k ivb1 hm Wb1 Fb1  hk hI
      exact absurd hm (by omega)
    | succ nn ih1 =>
      intro  k ivb1 hm Wb1 Fb1  hk hI
      refine c_iload_n (j := 0) C dX8_markLetters_2 rfl ?_
      refine c_aload_n (j := 2) (x := a1) C dX8_markLetters_3 rfl ?_
      refine hv2 (show 0 ≤ ivb1 a1 2 ∧ ivb1 a1 2 ≤ 6003 from Wb1.int t_a1 2) (show ivb1 a1 2 = iv a1 2 from Fb1.i t_a1 rfl 2) (fun ri1 ie1 => ?_)
      refine d_callV (As := []) (rest := [.int (iI k)]) C hM (C_size_24 (a0 := a1) Wb1 hS t_a1  ) dX8_markLetters_4 kV_X8_77 rfl t_a1 rfl rfl (by decide) ck_0 rfl (Nat.le_of_ble_eq_true rfl) ⟨(Nat.le_of_ble_eq_true rfl), (Nat.le_of_ble_eq_true rfl)⟩ hph hph (show 0 + 0 = 0 from rfl) (by decide) (fun rh1 Lh1 clh1 lnh1 ivh1 rvh1 h1 => ?_)
      obtain ⟨f1, rfl, rfl, rfl, rfl, rfl, rfl, rgf1, exf1⟩ := h1
      refine c_st (st2 := [.int (iI f1), .int (iI k)]) rfl ?_
      have gf1 : f1 = ivb1 a1 2 := exf1
      refine c_icmp_ge (tgt := 70) C (r32_c (lo := 0) (hi := 6003) hk.1 hk.2.2 (by decide) (by decide)) ⟨by omega, by omega⟩ dX8_markLetters_7 (by decide) (fun c1 => ?_) (fun c1 => ?_)
      · exact c_vret C dX8_markLetters_70 rfl (by decide) (rom0 hph hph (by decide)) ⟨rfl, rfl, rfl, rfl, rfl, Fb1, Wb1, (hI.fin (by omega))⟩
      · refine c_aload_n (j := 2) (x := a1) C dX8_markLetters_10 rfl ?_
        refine c_iload_n (j := 0) C dX8_markLetters_11 rfl ?_
        refine d_callV (As := [.int (iI k)]) (rest := []) C hM (C_get_24 (a0 := a1) (i := k) Wb1 hS t_a1 (by omega) (by show 0 ≤ k ∧ k < ivb1 a1 2; omega)) dX8_markLetters_12 kV_X8_82 rfl t_a1 rfl rfl (by decide) ck_0 rfl (Nat.le_of_ble_eq_true rfl) ⟨(Nat.le_of_ble_eq_true rfl), (Nat.le_of_ble_eq_true rfl)⟩ hph hph (show 0 + 0 = 0 from rfl) (by decide) (fun rh2 Lh2 clh2 lnh2 ivh2 rvh2 h2 => ?_)
        obtain ⟨f2, rfl, rfl, rfl, rfl, rfl, rfl, rgf2, exf2⟩ := h2
        refine c_st (st2 := [.ref f2]) rfl ?_
        have gf2 : el rv a1 k.toNat = some f2 := exf2
        refine c_cast C ck_6 dX8_markLetters_15 w5_225 w8_169t rgf2 rfl rfl (by decide) ?_
        obtain ⟨rb1, rq1, trb1⟩ := Wb1.ref rgf2 1 rfl rfl rfl
        have lnrb1 : 0 ≤ ln rb1 ∧ ln rb1 ≤ 8 := Wb1.len trb1 rfl
        refine c_getr (k := 1) C ck_6 dX8_markLetters_18 w3_140 (by decide) rgf2 rfl rfl (by decide) rfl rq1 ?_
        refine c_st (st2 := [.ref rb1]) rfl ?_
        refine c_astore_n (lv2 := [(3, .ref rb1), (2, .int (iI k)), (0, .ref a0), (1, .ref a1)]) C dX8_markLetters_21 (by decide) rfl ?_
        refine c_iconst C dX8_markLetters_22 ?_
        refine c_istore (lv2 := [(4, .int (iI 0)), (3, .ref rb1), (2, .int (iI k)), (0, .ref a0), (1, .ref a1)]) C dX8_markLetters_23 (by decide) rfl ?_
        have Lp2 : ∀ (nn : Nat) (k2 : Int) (ivb2 : Nat → Nat → Int) , 9 - k2 < (nn : Int) → WT (g0 G) sk L cl ln ivb2 rv → fT [56] L cl iv rv ivb2 rv → (0 ≤ k2 ∧ k2 ≤ 8) → (MKI L cl ln iv rv ivb2 a0 a1 k k2) → cw p l e 3 ((PHM) + 0 - ((Phi (g0 G) sk) ln rv)) s m args below meth c G A 5 (MQ below (Qu G A (Qp G (Phi (g0 G) sk) ((Phi (g0 G) sk) ln rv) 0 (fun v L2 cl2 ln2 iv2 rv2 => v = none ∧ L = L2 ∧ cl = cl2 ∧ ln = ln2 ∧ rv = rv2 ∧ fT [56] L cl iv rv iv2 rv2 ∧ WT (g0 G) sk L2 cl2 ln2 iv2 rv2 ∧ (MKX L cl ln iv rv iv2 a0 a1)))) args s (((PHM) + 0 - ((Phi (g0 G) sk) ln rv)) / 16) ((PHM) + 0 - ((Phi (g0 G) sk) ln rv)) A) (Phi (g0 G) sk) ((Phi (g0 G) sk) ln rv) L cl ln ivb2 rv 0 25 [(4, .int (iI k2)), (3, .ref rb1), (2, .int (iI k)), (0, .ref a0), (1, .ref a1)] [] := by
          intro nn
          induction nn with
          | zero =>
            intro  k2 ivb2 hm Wb2 Fb2  hk2 hJ
            exact absurd hm (by omega)
          | succ nn ih2 =>
            intro  k2 ivb2 hm Wb2 Fb2  hk2 hJ
            refine c_iload (j := 0) C dX8_markLetters_25 rfl ?_
            refine c_aload_n (j := 1) (x := rb1) C dX8_markLetters_27 rfl ?_
            have ll1 : 0 ≤ ln rb1 ∧ ln rb1 ≤ 8 := Wb2.len trb1 rfl
            refine c_alenI C dX8_markLetters_28 trb1 rfl ?_
            refine c_icmp_ge (tgt := 64) C (r32_c (lo := 0) (hi := 8) hk2.1 hk2.2 (by decide) (by decide)) ⟨by omega, by omega⟩ dX8_markLetters_29 (by decide) (fun c2 => ?_) (fun c2 => ?_)
            · refine c_iinc (z := k) (j := 2) (lv2 := [(2, .int (iI (k + 1))), (4, .int (iI k2)), (3, .ref rb1), (0, .ref a0), (1, .ref a1)]) C dX8_markLetters_64 rfl (by decide) rfl ?_
              refine c_goto (tgt := 2) C dX8_markLetters_67 (by decide) ?_
              refine hv2 (show 0 ≤ ivb2 a1 2 ∧ ivb2 a1 2 ≤ 6003 from Wb2.int t_a1 2) (show ivb2 a1 2 = iv a1 2 from Fb2.i t_a1 rfl 2) (fun ri2 ie2 => ?_)
              refine c_lv (lv2 := [(2, .int (iI (k + 1))), (0, .ref a0), (1, .ref a1)]) [0, 3, 4] rfl ?_
              exact ih1  (k + 1) _ (by omega) Wb2 Fb2  (by omega) (hJ.row ⟨by omega, by omega⟩ exf2 rq1 (by omega))
            · refine c_aload_n (j := 1) (x := rb1) C dX8_markLetters_32 rfl ?_
              refine c_iload (j := 0) C dX8_markLetters_33 rfl ?_
              refine c_iald C dX8_markLetters_35 trb1 rfl (by omega) (by omega) (by omega) ?_
              refine hv2 (show (-2147483648) ≤ ivb2 rb1 k2.toNat ∧ ivb2 rb1 k2.toNat ≤ 2147483647 from Wb2.int trb1 k2.toNat) (show ivb2 rb1 k2.toNat = iv rb1 k2.toNat from Fb2.i trb1 rfl k2.toNat) (fun ri3 ie3 => ?_)
              refine c_if_lt (tgt := 58) C (r32_c (lo := (-2147483648)) (hi := 2147483647) ri3.1 ri3.2 (by decide) (by decide)) dX8_markLetters_36 (by decide) (fun c3 => ?_) (fun c3 => ?_)
              · refine c_iinc (z := k2) (j := 0) (lv2 := [(4, .int (iI (k2 + 1))), (3, .ref rb1), (2, .int (iI k)), (0, .ref a0), (1, .ref a1)]) C dX8_markLetters_58 rfl (by decide) rfl ?_
                refine c_goto (tgt := 25) C dX8_markLetters_61 (by decide) ?_
                refine hv2 (show 0 ≤ ivb2 a1 2 ∧ ivb2 a1 2 ≤ 6003 from Wb2.int t_a1 2) (show ivb2 a1 2 = iv a1 2 from Fb2.i t_a1 rfl 2) (fun ri4 ie4 => ?_)
                refine c_lv (lv2 := [(4, .int (iI (k2 + 1))), (3, .ref rb1), (2, .int (iI k)), (0, .ref a0), (1, .ref a1)]) [0, 1, 2, 3, 4] rfl ?_
                exact ih2  (k2 + 1) _ (by omega) Wb2 Fb2  (by omega) (hJ.skip ⟨by omega, by omega⟩ exf2 rq1 ⟨by omega, by omega⟩ (by omega))
              · refine c_aload_n (j := 1) (x := rb1) C dX8_markLetters_39 rfl ?_
                refine c_iload (j := 0) C dX8_markLetters_40 rfl ?_
                refine c_iald C dX8_markLetters_42 trb1 rfl (by omega) (by omega) (by omega) ?_
                refine c_bipush (z := 125) C dX8_markLetters_43 (by decide) ?_
                refine c_icmp_gt (tgt := 58) C (r32_c (lo := (-2147483648)) (hi := 2147483647) ri3.1 ri3.2 (by decide) (by decide)) ⟨by decide, by decide⟩ dX8_markLetters_45 (by decide) (fun c4 => ?_) (fun c4 => ?_)
                · refine c_iinc (z := k2) (j := 0) (lv2 := [(4, .int (iI (k2 + 1))), (3, .ref rb1), (2, .int (iI k)), (0, .ref a0), (1, .ref a1)]) C dX8_markLetters_58 rfl (by decide) rfl ?_
                  refine c_goto (tgt := 25) C dX8_markLetters_61 (by decide) ?_
                  refine hv2 (show 0 ≤ ivb2 a1 2 ∧ ivb2 a1 2 ≤ 6003 from Wb2.int t_a1 2) (show ivb2 a1 2 = iv a1 2 from Fb2.i t_a1 rfl 2) (fun ri5 ie5 => ?_)
                  refine c_lv (lv2 := [(4, .int (iI (k2 + 1))), (3, .ref rb1), (2, .int (iI k)), (0, .ref a0), (1, .ref a1)]) [0, 1, 2, 3, 4] rfl ?_
                  exact ih2  (k2 + 1) _ (by omega) Wb2 Fb2  (by omega) (hJ.skip ⟨by omega, by omega⟩ exf2 rq1 ⟨by omega, by omega⟩ (by omega))
                · refine c_aload_n (j := 3) (x := a0) C dX8_markLetters_48 rfl ?_
                  obtain ⟨rb2, rq2, trb2⟩ := Wb2.ref t_a0 3 rfl rfl rfl
                  have lnrb2 : 126 ≤ ln rb2 ∧ ln rb2 ≤ 126 := Wb2.len trb2 rfl
                  refine c_getr (k := 3) C ck_9 dX8_markLetters_49 w1_107 (by decide) t_a0 rfl rfl (by decide) rfl rq2 ?_
                  refine c_st (st2 := [.ref rb2]) rfl ?_
                  refine c_aload_n (j := 1) (x := rb1) C dX8_markLetters_52 rfl ?_
                  refine c_iload (j := 0) C dX8_markLetters_53 rfl ?_
                  refine c_iald C dX8_markLetters_55 trb1 rfl (by omega) (by omega) (by omega) ?_
                  refine c_iconst C dX8_markLetters_56 ?_
                  have ll2 : 126 ≤ ln rb2 ∧ ln rb2 ≤ 126 := Wb2.len trb2 rfl
                  refine c_zast (x := 1) C dX8_markLetters_57 trb2 rfl (by omega) (by omega) (by omega) (by omega) (fun iv1 pq1 => ?_)
                  refine hv2 (Wb2.puti pq1 trb2 (show 0 ≤ 1 ∧ 1 ≤ 1 by omega) rfl) (Fb2.puti hX0 pq1 trb2 rfl) (fun W3 F1 => ?_)
                  refine c_iinc (z := k2) (j := 0) (lv2 := [(4, .int (iI (k2 + 1))), (3, .ref rb1), (2, .int (iI k)), (0, .ref a0), (1, .ref a1)]) C dX8_markLetters_58 rfl (by decide) rfl ?_
                  refine c_goto (tgt := 25) C dX8_markLetters_61 (by decide) ?_
                  refine hv3 (show 0 ≤ iv1 a1 2 ∧ iv1 a1 2 ≤ 6003 from W3.int t_a1 2) (show iv1 a1 2 = ivb2 a1 2 from by rw [pq1]; exact up2_k (ne_ty t_a1 trb2 (by decide))) (show ivb2 a1 2 = iv a1 2 from Fb2.i t_a1 rfl 2) (fun ri6 ie6 ie7 => ?_)
                  refine c_lv (lv2 := [(4, .int (iI (k2 + 1))), (3, .ref rb1), (2, .int (iI k)), (0, .ref a0), (1, .ref a1)]) [0, 1, 2, 3, 4] rfl ?_
                  exact ih2  (k2 + 1) _ (by omega) W3 F1  (by omega) (hJ.put ⟨by omega, by omega⟩ exf2 rq1 ⟨by omega, by omega⟩ rq2 ⟨by omega, by omega⟩ (by omega) pq1)
        refine c_lv (lv2 := [(4, .int (iI 0)), (3, .ref rb1), (2, .int (iI k)), (0, .ref a0), (1, .ref a1)]) [0, 1, 2, 3, 4] rfl ?_
        exact Lp2 10 0 _ (by omega) Wb1 Fb1  (by omega) hI
  have ri7 : 0 ≤ iv a1 2 ∧ iv a1 2 ≤ 6003 := hW.int t_a1 2
  refine c_lv (lv2 := [(2, .int (iI 0)), (0, .ref a0), (1, .ref a1)]) [0, 1, 2] rfl ?_
  exact Lp1 6006 0 _ (by omega) hW hF0  (by omega) MKI.init
set_option maxHeartbeats 4000000 in
set_option maxRecDepth 100000 in
theorem G_markLetters_25 {l : Launch} {G : GT} {mi : Nat} {sk : Nat → Nat} {L : List Nat} {cl ln : Nat → Nat} {iv : Nat → Nat → Int} {rv : Nat → Nat → Option Nat}  {a0 : Nat} {a1 : Nat} (hW : WT (g0 G) sk L cl ln iv rv) (hS : SKL sk L cl) (t_a0 : ty L cl a0 14) (t_a1 : ty L cl a1 25)  : Mc l G mi (Phi (g0 G) sk) PHM yX8_markLetters cX8_markLetters 5 none 3 [.ref a0, .ref a1] L cl ln iv rv 0 (fun v L2 cl2 ln2 iv2 rv2 => v = none ∧ L = L2 ∧ cl = cl2 ∧ ln = ln2 ∧ rv = rv2 ∧ fT [56] L cl iv rv iv2 rv2 ∧ WT (g0 G) sk L2 cl2 ln2 iv2 rv2 ∧ (MKX L cl ln iv rv iv2 a0 a1)) := by
  refine Mc.mk (by decide) (Nat.le_of_ble_eq_true rfl) ?_
  intro p e s m args below meth c A C hM
  refine hv3 (Phi.le hW hS) (show XT L cl ln L cl ln from XT.refl) (show fT [56] L cl iv rv iv rv from fT.refl) (fun hph hX0 hF0 => ?_)
  refine c_iconst C dX8_markLetters_0 ?_
  refine c_istore_n (lv2 := [(2, .int (iI 0)), (0, .ref a0), (1, .ref a1)]) C dX8_markLetters_1 (by decide) rfl ?_
  have Lp1 : ∀ (nn : Nat) (k : Int) (ivb1 : Nat → Nat → Int) , 6004 - k < (nn : Int) → WT (g0 G) sk L cl ln ivb1 rv → fT [56] L cl iv rv ivb1 rv → (0 ≤ k ∧ k ≤ iv a1 2 ∧ k ≤ 6003) → (MKI L cl ln iv rv ivb1 a0 a1 k 0) → cw p l e 3 ((PHM) + 0 - ((Phi (g0 G) sk) ln rv)) s m args below meth c G A 5 (MQ below (Qu G A (Qp G (Phi (g0 G) sk) ((Phi (g0 G) sk) ln rv) 0 (fun v L2 cl2 ln2 iv2 rv2 => v = none ∧ L = L2 ∧ cl = cl2 ∧ ln = ln2 ∧ rv = rv2 ∧ fT [56] L cl iv rv iv2 rv2 ∧ WT (g0 G) sk L2 cl2 ln2 iv2 rv2 ∧ (MKX L cl ln iv rv iv2 a0 a1)))) args s (((PHM) + 0 - ((Phi (g0 G) sk) ln rv)) / 16) ((PHM) + 0 - ((Phi (g0 G) sk) ln rv)) A) (Phi (g0 G) sk) ((Phi (g0 G) sk) ln rv) L cl ln ivb1 rv 0 2 [(2, .int (iI k)), (0, .ref a0), (1, .ref a1)] [] := by
    intro nn
    induction nn with
    | zero =>
      intro  k ivb1 hm Wb1 Fb1  hk hI
      exact absurd hm (by omega)
    | succ nn ih1 =>
      intro  k ivb1 hm Wb1 Fb1  hk hI
      refine c_iload_n (j := 0) C dX8_markLetters_2 rfl ?_
      refine c_aload_n (j := 2) (x := a1) C dX8_markLetters_3 rfl ?_
      refine hv2 (show 0 ≤ ivb1 a1 2 ∧ ivb1 a1 2 ≤ 6003 from Wb1.int t_a1 2) (show ivb1 a1 2 = iv a1 2 from Fb1.i t_a1 rfl 2) (fun ri1 ie1 => ?_)
      refine d_callV (As := []) (rest := [.int (iI k)]) C hM (C_size_25 (a0 := a1) Wb1 hS t_a1  ) dX8_markLetters_4 kV_X8_77 rfl t_a1 rfl rfl (by decide) ck_0 rfl (Nat.le_of_ble_eq_true rfl) ⟨(Nat.le_of_ble_eq_true rfl), (Nat.le_of_ble_eq_true rfl)⟩ hph hph (show 0 + 0 = 0 from rfl) (by decide) (fun rh1 Lh1 clh1 lnh1 ivh1 rvh1 h1 => ?_)
      obtain ⟨f1, rfl, rfl, rfl, rfl, rfl, rfl, rgf1, exf1⟩ := h1
      refine c_st (st2 := [.int (iI f1), .int (iI k)]) rfl ?_
      have gf1 : f1 = ivb1 a1 2 := exf1
      refine c_icmp_ge (tgt := 70) C (r32_c (lo := 0) (hi := 6003) hk.1 hk.2.2 (by decide) (by decide)) ⟨by omega, by omega⟩ dX8_markLetters_7 (by decide) (fun c1 => ?_) (fun c1 => ?_)
      · exact c_vret C dX8_markLetters_70 rfl (by decide) (rom0 hph hph (by decide)) ⟨rfl, rfl, rfl, rfl, rfl, Fb1, Wb1, (hI.fin (by omega))⟩
      · refine c_aload_n (j := 2) (x := a1) C dX8_markLetters_10 rfl ?_
        refine c_iload_n (j := 0) C dX8_markLetters_11 rfl ?_
        refine d_callV (As := [.int (iI k)]) (rest := []) C hM (C_get_25 (a0 := a1) (i := k) Wb1 hS t_a1 (by omega) (by show 0 ≤ k ∧ k < ivb1 a1 2; omega)) dX8_markLetters_12 kV_X8_82 rfl t_a1 rfl rfl (by decide) ck_0 rfl (Nat.le_of_ble_eq_true rfl) ⟨(Nat.le_of_ble_eq_true rfl), (Nat.le_of_ble_eq_true rfl)⟩ hph hph (show 0 + 0 = 0 from rfl) (by decide) (fun rh2 Lh2 clh2 lnh2 ivh2 rvh2 h2 => ?_)
        obtain ⟨f2, rfl, rfl, rfl, rfl, rfl, rfl, rgf2, exf2⟩ := h2
        refine c_st (st2 := [.ref f2]) rfl ?_
        have gf2 : el rv a1 k.toNat = some f2 := exf2
        refine c_cast C ck_6 dX8_markLetters_15 w5_225 w8_169t rgf2 rfl rfl (by decide) ?_
        obtain ⟨rb1, rq1, trb1⟩ := Wb1.ref rgf2 1 rfl rfl rfl
        have lnrb1 : 0 ≤ ln rb1 ∧ ln rb1 ≤ 8 := Wb1.len trb1 rfl
        refine c_getr (k := 1) C ck_6 dX8_markLetters_18 w3_140 (by decide) rgf2 rfl rfl (by decide) rfl rq1 ?_
        refine c_st (st2 := [.ref rb1]) rfl ?_
        refine c_astore_n (lv2 := [(3, .ref rb1), (2, .int (iI k)), (0, .ref a0), (1, .ref a1)]) C dX8_markLetters_21 (by decide) rfl ?_
        refine c_iconst C dX8_markLetters_22 ?_
        refine c_istore (lv2 := [(4, .int (iI 0)), (3, .ref rb1), (2, .int (iI k)), (0, .ref a0), (1, .ref a1)]) C dX8_markLetters_23 (by decide) rfl ?_
        have Lp2 : ∀ (nn : Nat) (k2 : Int) (ivb2 : Nat → Nat → Int) , 9 - k2 < (nn : Int) → WT (g0 G) sk L cl ln ivb2 rv → fT [56] L cl iv rv ivb2 rv → (0 ≤ k2 ∧ k2 ≤ 8) → (MKI L cl ln iv rv ivb2 a0 a1 k k2) → cw p l e 3 ((PHM) + 0 - ((Phi (g0 G) sk) ln rv)) s m args below meth c G A 5 (MQ below (Qu G A (Qp G (Phi (g0 G) sk) ((Phi (g0 G) sk) ln rv) 0 (fun v L2 cl2 ln2 iv2 rv2 => v = none ∧ L = L2 ∧ cl = cl2 ∧ ln = ln2 ∧ rv = rv2 ∧ fT [56] L cl iv rv iv2 rv2 ∧ WT (g0 G) sk L2 cl2 ln2 iv2 rv2 ∧ (MKX L cl ln iv rv iv2 a0 a1)))) args s (((PHM) + 0 - ((Phi (g0 G) sk) ln rv)) / 16) ((PHM) + 0 - ((Phi (g0 G) sk) ln rv)) A) (Phi (g0 G) sk) ((Phi (g0 G) sk) ln rv) L cl ln ivb2 rv 0 25 [(4, .int (iI k2)), (3, .ref rb1), (2, .int (iI k)), (0, .ref a0), (1, .ref a1)] [] := by
          intro nn
          induction nn with
          | zero =>
            intro  k2 ivb2 hm Wb2 Fb2  hk2 hJ
            exact absurd hm (by omega)
          | succ nn ih2 =>
            intro  k2 ivb2 hm Wb2 Fb2  hk2 hJ
            refine c_iload (j := 0) C dX8_markLetters_25 rfl ?_
            refine c_aload_n (j := 1) (x := rb1) C dX8_markLetters_27 rfl ?_
            have ll1 : 0 ≤ ln rb1 ∧ ln rb1 ≤ 8 := Wb2.len trb1 rfl
            refine c_alenI C dX8_markLetters_28 trb1 rfl ?_
            refine c_icmp_ge (tgt := 64) C (r32_c (lo := 0) (hi := 8) hk2.1 hk2.2 (by decide) (by decide)) ⟨by omega, by omega⟩ dX8_markLetters_29 (by decide) (fun c2 => ?_) (fun c2 => ?_)
            · refine c_iinc (z := k) (j := 2) (lv2 := [(2, .int (iI (k + 1))), (4, .int (iI k2)), (3, .ref rb1), (0, .ref a0), (1, .ref a1)]) C dX8_markLetters_64 rfl (by decide) rfl ?_
              refine c_goto (tgt := 2) C dX8_markLetters_67 (by decide) ?_
              refine hv2 (show 0 ≤ ivb2 a1 2 ∧ ivb2 a1 2 ≤ 6003 from Wb2.int t_a1 2) (show ivb2 a1 2 = iv a1 2 from Fb2.i t_a1 rfl 2) (fun ri2 ie2 => ?_)
              refine c_lv (lv2 := [(2, .int (iI (k + 1))), (0, .ref a0), (1, .ref a1)]) [0, 3, 4] rfl ?_
              exact ih1  (k + 1) _ (by omega) Wb2 Fb2  (by omega) (hJ.row ⟨by omega, by omega⟩ exf2 rq1 (by omega))
            · refine c_aload_n (j := 1) (x := rb1) C dX8_markLetters_32 rfl ?_
              refine c_iload (j := 0) C dX8_markLetters_33 rfl ?_
              refine c_iald C dX8_markLetters_35 trb1 rfl (by omega) (by omega) (by omega) ?_
              refine hv2 (show (-2147483648) ≤ ivb2 rb1 k2.toNat ∧ ivb2 rb1 k2.toNat ≤ 2147483647 from Wb2.int trb1 k2.toNat) (show ivb2 rb1 k2.toNat = iv rb1 k2.toNat from Fb2.i trb1 rfl k2.toNat) (fun ri3 ie3 => ?_)
              refine c_if_lt (tgt := 58) C (r32_c (lo := (-2147483648)) (hi := 2147483647) ri3.1 ri3.2 (by decide) (by decide)) dX8_markLetters_36 (by decide) (fun c3 => ?_) (fun c3 => ?_)
              · refine c_iinc (z := k2) (j := 0) (lv2 := [(4, .int (iI (k2 + 1))), (3, .ref rb1), (2, .int (iI k)), (0, .ref a0), (1, .ref a1)]) C dX8_markLetters_58 rfl (by decide) rfl ?_
                refine c_goto (tgt := 25) C dX8_markLetters_61 (by decide) ?_
                refine hv2 (show 0 ≤ ivb2 a1 2 ∧ ivb2 a1 2 ≤ 6003 from Wb2.int t_a1 2) (show ivb2 a1 2 = iv a1 2 from Fb2.i t_a1 rfl 2) (fun ri4 ie4 => ?_)
                refine c_lv (lv2 := [(4, .int (iI (k2 + 1))), (3, .ref rb1), (2, .int (iI k)), (0, .ref a0), (1, .ref a1)]) [0, 1, 2, 3, 4] rfl ?_
                exact ih2  (k2 + 1) _ (by omega) Wb2 Fb2  (by omega) (hJ.skip ⟨by omega, by omega⟩ exf2 rq1 ⟨by omega, by omega⟩ (by omega))
              · refine c_aload_n (j := 1) (x := rb1) C dX8_markLetters_39 rfl ?_
                refine c_iload (j := 0) C dX8_markLetters_40 rfl ?_
                refine c_iald C dX8_markLetters_42 trb1 rfl (by omega) (by omega) (by omega) ?_
                refine c_bipush (z := 125) C dX8_markLetters_43 (by decide) ?_
                refine c_icmp_gt (tgt := 58) C (r32_c (lo := (-2147483648)) (hi := 2147483647) ri3.1 ri3.2 (by decide) (by decide)) ⟨by decide, by decide⟩ dX8_markLetters_45 (by decide) (fun c4 => ?_) (fun c4 => ?_)
                · refine c_iinc (z := k2) (j := 0) (lv2 := [(4, .int (iI (k2 + 1))), (3, .ref rb1), (2, .int (iI k)), (0, .ref a0), (1, .ref a1)]) C dX8_markLetters_58 rfl (by decide) rfl ?_
                  refine c_goto (tgt := 25) C dX8_markLetters_61 (by decide) ?_
                  refine hv2 (show 0 ≤ ivb2 a1 2 ∧ ivb2 a1 2 ≤ 6003 from Wb2.int t_a1 2) (show ivb2 a1 2 = iv a1 2 from Fb2.i t_a1 rfl 2) (fun ri5 ie5 => ?_)
                  refine c_lv (lv2 := [(4, .int (iI (k2 + 1))), (3, .ref rb1), (2, .int (iI k)), (0, .ref a0), (1, .ref a1)]) [0, 1, 2, 3, 4] rfl ?_
                  exact ih2  (k2 + 1) _ (by omega) Wb2 Fb2  (by omega) (hJ.skip ⟨by omega, by omega⟩ exf2 rq1 ⟨by omega, by omega⟩ (by omega))
                · refine c_aload_n (j := 3) (x := a0) C dX8_markLetters_48 rfl ?_
                  obtain ⟨rb2, rq2, trb2⟩ := Wb2.ref t_a0 3 rfl rfl rfl
                  have lnrb2 : 126 ≤ ln rb2 ∧ ln rb2 ≤ 126 := Wb2.len trb2 rfl
                  refine c_getr (k := 3) C ck_9 dX8_markLetters_49 w1_107 (by decide) t_a0 rfl rfl (by decide) rfl rq2 ?_
                  refine c_st (st2 := [.ref rb2]) rfl ?_
                  refine c_aload_n (j := 1) (x := rb1) C dX8_markLetters_52 rfl ?_
                  refine c_iload (j := 0) C dX8_markLetters_53 rfl ?_
                  refine c_iald C dX8_markLetters_55 trb1 rfl (by omega) (by omega) (by omega) ?_
                  refine c_iconst C dX8_markLetters_56 ?_
                  have ll2 : 126 ≤ ln rb2 ∧ ln rb2 ≤ 126 := Wb2.len trb2 rfl
                  refine c_zast (x := 1) C dX8_markLetters_57 trb2 rfl (by omega) (by omega) (by omega) (by omega) (fun iv1 pq1 => ?_)
                  refine hv2 (Wb2.puti pq1 trb2 (show 0 ≤ 1 ∧ 1 ≤ 1 by omega) rfl) (Fb2.puti hX0 pq1 trb2 rfl) (fun W3 F1 => ?_)
                  refine c_iinc (z := k2) (j := 0) (lv2 := [(4, .int (iI (k2 + 1))), (3, .ref rb1), (2, .int (iI k)), (0, .ref a0), (1, .ref a1)]) C dX8_markLetters_58 rfl (by decide) rfl ?_
                  refine c_goto (tgt := 25) C dX8_markLetters_61 (by decide) ?_
                  refine hv3 (show 0 ≤ iv1 a1 2 ∧ iv1 a1 2 ≤ 6003 from W3.int t_a1 2) (show iv1 a1 2 = ivb2 a1 2 from by rw [pq1]; exact up2_k (ne_ty t_a1 trb2 (by decide))) (show ivb2 a1 2 = iv a1 2 from Fb2.i t_a1 rfl 2) (fun ri6 ie6 ie7 => ?_)
                  refine c_lv (lv2 := [(4, .int (iI (k2 + 1))), (3, .ref rb1), (2, .int (iI k)), (0, .ref a0), (1, .ref a1)]) [0, 1, 2, 3, 4] rfl ?_
                  exact ih2  (k2 + 1) _ (by omega) W3 F1  (by omega) (hJ.put ⟨by omega, by omega⟩ exf2 rq1 ⟨by omega, by omega⟩ rq2 ⟨by omega, by omega⟩ (by omega) pq1)
        refine c_lv (lv2 := [(4, .int (iI 0)), (3, .ref rb1), (2, .int (iI k)), (0, .ref a0), (1, .ref a1)]) [0, 1, 2, 3, 4] rfl ?_
        exact Lp2 10 0 _ (by omega) Wb1 Fb1  (by omega) hI
  have ri7 : 0 ≤ iv a1 2 ∧ iv a1 2 ≤ 6003 := hW.int t_a1 2
  refine c_lv (lv2 := [(2, .int (iI 0)), (0, .ref a0), (1, .ref a1)]) [0, 1, 2] rfl ?_
  exact Lp1 6006 0 _ (by omega) hW hF0  (by omega) MKI.init
def PSG (a : Nat → Nat → Int) (l0 l1 : List Int) (g : Int) (c : Nat) : Prop := MKL a l0 ((l0.length : Nat) : Int) 0 c ∨ MKL a l1 ((l1.length : Nat) : Int) 0 c ∨ (g ≠ 0 ∧ (c = 60 ∨ c = 62))
def GAI (L : List Nat) (cl ln : Nat → Nat) (iv : Nat → Nat → Int) (rv : Nat → Nat → Option Nat) (iv1 : Nat → Nat → Int) (q b0 b1 : Nat) (g k : Int) : Prop := ∀ a l0 l1 sb, HL L cl ln iv rv a b0 l0 → HL L cl ln iv rv a b1 l1 → rv q 3 = some sb → ∀ c : Nat, c ≤ 125 → (iv1 sb c ≠ 0 ↔ (PSG a l0 l1 g c ∨ (65 ≤ c ∧ ((c : Nat) : Int) + 32 < k ∧ PSG a l0 l1 g (c + 32))))
def ALJU (L : List Nat) (cl ln : Nat → Nat) (iv : Nat → Nat → Int) (rv : Nat → Nat → Option Nat) (iv1 : Nat → Nat → Int) (q b0 b1 : Nat) (k : Int) : Prop := ∀ a l0 l1 sb, HL L cl ln iv rv a b0 l0 → HL L cl ln iv rv a b1 l1 → rv q 3 = some sb → iv1 q 5 = (((sgl (iv1 sb) k.toNat).length : Nat) : Int) ∧ ∀ ab, rv q 4 = some ab → ∀ (j : Nat) (x : Int), (sgl (iv1 sb) k.toNat)[j]? = some x → iv1 ab j = x
def GAX (L : List Nat) (cl ln : Nat → Nat) (iv : Nat → Nat → Int) (rv : Nat → Nat → Option Nat) (iv2 : Nat → Nat → Int) (q b0 b1 : Nat) (g : Int) : Prop := ∀ a l0 l1, HL L cl ln iv rv a b0 l0 → HL L cl ln iv rv a b1 l1 → ∃ h : Nat → Int, (∀ c : Nat, c < 256 → (h c ≠ 0 ↔ (HSC a l0 l1 ((c : Nat) : Int) ∨ (g ≠ 0 ∧ (c = 60 ∨ c = 62))))) ∧ ALF iv2 rv q (sgl h 256)
section UAL2
variable {L : List Nat} {cl ln : Nat → Nat} {iv iv1 iv2 iv3 : Nat → Nat → Int} {rv : Nat → Nat → Option Nat} {a : Nat → Nat → Int} {l l0 l1 : List Int} {q b b0 b1 w lb sb ab c : Nat} {i k x y d g : Int}
theorem MKL.iff : MKL a l ((l.length : Nat) : Int) 0 c ↔ ∃ (d m : Int), d ∈ l ∧ 0 ≤ d ∧ (0 ≤ m ∧ m < a 12 d.toNat) ∧ a 14 (8 * d + m).toNat = ((c : Nat) : Int) := by
  constructor
  · intro h
    obtain ⟨r, d, m, q1, q2, q3, _, q5⟩ := h
    exact ⟨d, m, List.mem_of_getElem? q1, q2, q3, q5⟩
  · intro h
    obtain ⟨d, m, q1, q2, q3, q5⟩ := h
    obtain ⟨r, r1⟩ := List.getElem?_of_mem q1
    have lt := gl3 r1
    exact ⟨r, d, m, r1, q2, q3, Or.inl (by omega), q5⟩
theorem HL.ltr (hl : HL L cl ln iv rv a b l) (hd : d ∈ l) (h0 : 0 ≤ d) (hm : 0 ≤ k ∧ k < a 12 d.toNat) : 33 ≤ a 14 (8 * d + k).toNat ∧ a 14 (8 * d + k).toNat ≤ 125 := by
  obtain ⟨r, r1⟩ := List.getElem?_of_mem hd
  obtain ⟨w, _, _, w3⟩ := hl.2 r d r1
  obtain ⟨_, _, l', c', _, _, r3, _, r5, _⟩ := w3.1 h0
  have g := r5 k.toNat (by omega)
  rw [show (8 * d + k).toNat = 8 * d.toNat + k.toNat by omega, ← g.1]
  exact g.2
theorem PSG.rng (h0 : HL L cl ln iv rv a b0 l0) (h1 : HL L cl ln iv rv a b1 l1) (h : PSG a l0 l1 g c) : 33 ≤ c ∧ c ≤ 125 := by
  rcases h with h | h | ⟨_, h⟩
  · obtain ⟨d, m, q1, q2, q3, q5⟩ := MKL.iff.mp h
    have w := h0.ltr q1 q2 q3
    omega
  · obtain ⟨d, m, q1, q2, q3, q5⟩ := MKL.iff.mp h
    have w := h1.ltr q1 q2 q3
    omega
  · omega
theorem PSG.hsc (h0 : HL L cl ln iv rv a b0 l0) (h1 : HL L cl ln iv rv a b1 l1) (hg : g ≠ 0 ∨ g = 0) : (PSG a l0 l1 g c ∨ (65 ≤ c ∧ c + 32 < 123 ∧ PSG a l0 l1 g (c + 32))) ↔ (HSC a l0 l1 ((c : Nat) : Int) ∨ (g ≠ 0 ∧ (c = 60 ∨ c = 62))) := by
  constructor
  · intro h
    rcases h with h | ⟨c1, c2, h⟩
    · rcases h with h | h | h
      · obtain ⟨d, m, q1, q2, q3, q5⟩ := MKL.iff.mp h
        exact Or.inl ⟨d, m, Or.inl q1, q2, q3, Or.inl q5.symm⟩
      · obtain ⟨d, m, q1, q2, q3, q5⟩ := MKL.iff.mp h
        exact Or.inl ⟨d, m, Or.inr q1, q2, q3, Or.inl q5.symm⟩
      · exact Or.inr h
    · rcases h with h | h | ⟨_, h⟩
      · obtain ⟨d, m, q1, q2, q3, q5⟩ := MKL.iff.mp h
        exact Or.inl ⟨d, m, Or.inl q1, q2, q3, Or.inr ⟨by omega, by omega⟩⟩
      · obtain ⟨d, m, q1, q2, q3, q5⟩ := MKL.iff.mp h
        exact Or.inl ⟨d, m, Or.inr q1, q2, q3, Or.inr ⟨by omega, by omega⟩⟩
      · omega
  · intro h
    rcases h with ⟨d, m, q1, q2, q3, q5⟩ | h
    · rcases q5 with q5 | ⟨q5, q6⟩
      · rcases q1 with q1 | q1
        · exact Or.inl (Or.inl (MKL.iff.mpr ⟨d, m, q1, q2, q3, q5.symm⟩))
        · exact Or.inl (Or.inr (Or.inl (MKL.iff.mpr ⟨d, m, q1, q2, q3, q5.symm⟩)))
      · refine Or.inr ⟨by omega, by omega, ?_⟩
        rcases q1 with q1 | q1
        · exact Or.inl (MKL.iff.mpr ⟨d, m, q1, q2, q3, by omega⟩)
        · exact Or.inr (Or.inl (MKL.iff.mpr ⟨d, m, q1, q2, q3, by omega⟩))
    · exact Or.inl (Or.inr (Or.inr h))
theorem GAI.cap (h : GAI L cl ln iv rv iv1 q b0 b1 g k) (hk : 97 ≤ k ∧ k ≤ 122) (hsb : rv q 3 = some sb) (e : iv2 = up2 iv1 sb (k - 32).toNat x) (hx : x ≠ 0 ↔ (iv1 sb (k - 32).toNat ≠ 0 ∨ iv1 sb k.toNat ≠ 0)) : GAI L cl ln iv rv iv2 q b0 b1 g (k + 1) := fun a l0 l1 sb' h0 h1 hs c hc => by
  rw [hsb] at hs
  cases hs
  have w := h a l0 l1 sb h0 h1 hsb c hc
  rw [e]
  by_cases c1 : c = (k - 32).toNat
  · have w2 := h a l0 l1 sb h0 h1 hsb (c + 32) (by omega)
    rw [show c + 32 = k.toNat by omega] at w2
    rw [c1, up2_s, hx, ← c1, w, w2, show k.toNat = c + 32 by omega]
    constructor
    · intro g1
      rcases g1 with (g1 | ⟨_, g1, _⟩) | (g1 | ⟨_, g1, _⟩)
      · exact Or.inl g1
      · omega
      · exact Or.inr ⟨by omega, by omega, g1⟩
      · omega
    · intro g1
      rcases g1 with g1 | ⟨_, _, g1⟩
      · exact Or.inl (Or.inl g1)
      · exact Or.inr (Or.inl g1)
  · rw [up2_j c1, w]
    constructor
    · intro g1
      rcases g1 with g1 | ⟨p1, p2, p3⟩
      · exact Or.inl g1
      · exact Or.inr ⟨p1, by omega, p3⟩
    · intro g1
      rcases g1 with g1 | ⟨p1, p2, p3⟩
      · exact Or.inl g1
      · exact Or.inr ⟨p1, by omega, p3⟩
theorem ALJU.init (h : GAI L cl ln iv rv iv1 q b0 b1 g 123) (e : ∀ sb, rv q 3 = some sb → iv2 sb = iv1 sb) (h5 : iv2 q 5 = 0) : ALJU L cl ln iv rv iv2 q b0 b1 33 := fun a l0 l1 sb h0 h1 hs => by
  have z : sgl (iv2 sb) (33 : Int).toNat = [] := sgl_z 33 (fun c hc => by
    rw [e sb hs]
    refine Decidable.of_not_not (fun n => ?_)
    rcases (h a l0 l1 sb h0 h1 hs c (by omega)).mp n with g1 | ⟨_, _, g1⟩
    · have := PSG.rng h0 h1 g1
      omega
    · omega)
  rw [z]
  exact ⟨h5, fun ab _ j x ej => by simp at ej⟩
theorem ALJU.s0 (h : ALJU L cl ln iv rv iv1 q b0 b1 k) (hk : 0 ≤ k) (hsb : rv q 3 = some sb) (hz : iv1 sb k.toNat = 0) : ALJU L cl ln iv rv iv1 q b0 b1 (k + 1) := fun a l0 l1 sb' h0 h1 hs => by
  have w := h a l0 l1 sb' h0 h1 hs
  rw [hsb] at hs
  cases hs
  rw [show (k + 1).toNat = k.toNat + 1 by omega, sgl_s0 hz]
  exact w
theorem ALJU.s1 (h : ALJU L cl ln iv rv iv1 q b0 b1 k) (hk : 0 ≤ k) (hsb : rv q 3 = some sb) (hz : iv1 sb k.toNat ≠ 0) (hab : rv q 4 = some ab) (e1 : iv2 = up2 iv1 ab (iv1 q 5).toNat x) (hx : x = k) (e2 : iv3 = up2 iv2 q 5 y) (hy : y = iv1 q 5 + 1) (n1 : sb ≠ ab) (n2 : sb ≠ q) (n3 : ab ≠ q) : ALJU L cl ln iv rv iv3 q b0 b1 (k + 1) := fun a l0 l1 sb' h0 h1 hs => by
  have w := h a l0 l1 sb' h0 h1 hs
  rw [hsb] at hs
  cases hs
  have es : iv3 sb = iv1 sb := by
    funext j
    rw [e2, up2_k n2, e1, up2_k n1]
  rw [show (k + 1).toNat = k.toNat + 1 by omega, es, sgl_s1 hz]
  refine ⟨by rw [len1, e2, up2_s, hy, w.1]; omega, fun ab' ha j z ej => ?_⟩
  rw [hab] at ha
  cases ha
  have w1 := w.1
  rw [e2, up2_k n3, e1]
  rcases ap1 ej with ⟨c1, ej⟩ | ⟨c1, ej⟩
  · rw [up2_j (by omega)]
    exact w.2 ab hab j z ej
  · rw [show j = (iv1 q 5).toNat by omega, up2_s]
    omega
theorem ALJU.fin (h : ALJU L cl ln iv rv iv1 q b0 b1 k) (hg : GAI L cl ln iv rv iv1 q b0 b1 g 123) (hk : k = 126) (hsb : rv q 3 = some sb) : GAX L cl ln iv rv iv1 q b0 b1 g := fun a l0 l1 h0 h1 => by
  subst hk
  obtain ⟨w1, w2⟩ := h a l0 l1 sb h0 h1 hsb
  have e126 : (126 : Int).toNat = 126 := rfl
  rw [e126] at w1 w2
  have gg := hg a l0 l1 sb h0 h1 hsb
  have eq : sgl (fun j => if j ≤ 125 then iv1 sb j else 0) 256 = sgl (iv1 sb) 126 := by
    have t := sgl_t (h := fun j => if j ≤ 125 then iv1 sb j else 0) (n := 126) 130 (fun c c1 _ => if_neg (by omega))
    rw [show 126 + 130 = 256 from rfl] at t
    rw [t]
    exact sgl_cg 126 (fun c hc => by
      show (if c ≤ 125 then iv1 sb c else 0) ≠ 0 ↔ _
      rw [if_pos (by omega)])
  refine ⟨fun j => if j ≤ 125 then iv1 sb j else 0, fun c hc => ?_, ?_⟩
  · rw [← PSG.hsc h0 h1 (Decidable.em (g ≠ 0) |>.imp id Decidable.of_not_not)]
    show (if c ≤ 125 then iv1 sb c else 0) ≠ 0 ↔ _
    by_cases c1 : c ≤ 125
    · rw [if_pos c1, gg c c1]
      constructor
      · intro q1
        rcases q1 with q1 | ⟨q1, q2, q3⟩
        · exact Or.inl q1
        · exact Or.inr ⟨q1, by omega, q3⟩
      · intro q1
        rcases q1 with q1 | ⟨q1, q2, q3⟩
        · exact Or.inl q1
        · exact Or.inr ⟨q1, by omega, q3⟩
    · rw [if_neg c1]
      refine ⟨fun q1 => absurd rfl q1, fun q1 => ?_⟩
      rcases q1 with q1 | ⟨_, q1, _⟩
      · have := PSG.rng h0 h1 q1
        omega
      · omega
  · rw [eq]
    exact ⟨w1, w2⟩
end UAL2
end
section
section UAL3
variable {L : List Nat} {cl ln : Nat → Nat} {iv iv1 iv2 iv3 iv4 : Nat → Nat → Int} {rv : Nat → Nat → Option Nat} {q b0 b1 sb p m : Nat} {k x y g : Int}
theorem GAI.mk (f0 : FLI iv1 sb k) (hk : 126 ≤ k) (hsb : rv q 3 = some sb) (h1 : ∀ a l, HL L cl ln iv rv a b0 l → HL L cl ln iv1 rv a b0 l) (m1 : MKX L cl ln iv1 rv iv2 q b0) (h2 : ∀ a l, HL L cl ln iv rv a b1 l → HL L cl ln iv2 rv a b1 l) (m2 : MKX L cl ln iv2 rv iv3 q b1) : GAI L cl ln iv rv iv3 q b0 b1 0 97 := fun a l0 l1 sb' hl0 hl1 hs c hc => by
  rw [hsb] at hs
  cases hs
  rw [m2 a l1 sb (h2 a l1 hl1) hsb c hc, m1 a l0 sb (h1 a l0 hl0) hsb c hc]
  have z := f0 c (by omega)
  constructor
  · intro g1
    rcases g1 with (g1 | g1) | g1
    · exact absurd z g1
    · exact Or.inl (Or.inl g1)
    · exact Or.inl (Or.inr (Or.inl g1))
  · intro g1
    rcases g1 with (g1 | g1 | ⟨g1, _⟩) | ⟨g1, g2, _⟩
    · exact Or.inl (Or.inr g1)
    · exact Or.inr g1
    · exact absurd rfl g1
    · omega
theorem GAI.g0 (h : GAI L cl ln iv rv iv1 q b0 b1 0 k) (hg : g = 0) : GAI L cl ln iv rv iv1 q b0 b1 g k := by
  rw [hg]
  exact h
theorem GAI.join (h : GAI L cl ln iv rv iv1 q b0 b1 0 97) (hsb : rv q 3 = some sb) (e1 : iv2 = up2 iv1 sb (60 : Int).toNat x) (hx : x ≠ 0) (e2 : iv3 = up2 iv2 sb (62 : Int).toNat y) (hy : y ≠ 0) (hg : g ≠ 0) : GAI L cl ln iv rv iv3 q b0 b1 g 97 := fun a l0 l1 sb' hl0 hl1 hs c hc => by
  rw [hsb] at hs
  cases hs
  refine hv3 (h a l0 l1 sb hl0 hl1 hsb c hc) (show (60 : Int).toNat = 60 from rfl) (show (62 : Int).toNat = 62 from rfl) (fun w t1 t2 => ?_)
  rw [t1] at e1
  rw [t2] at e2
  by_cases c2 : c = 62
  · rw [c2, e2, up2_s]
    exact ⟨fun _ => Or.inl (Or.inr (Or.inr ⟨hg, Or.inr rfl⟩)), fun _ => hy⟩
  · rw [e2, up2_j c2]
    by_cases c1 : c = 60
    · rw [c1, e1, up2_s]
      exact ⟨fun _ => Or.inl (Or.inr (Or.inr ⟨hg, Or.inl rfl⟩)), fun _ => hx⟩
    · rw [e1, up2_j c1, w]
      constructor
      · intro g1
        rcases g1 with (g1 | g1 | ⟨g1, _⟩) | ⟨g1, g2, _⟩
        · exact Or.inl (Or.inl g1)
        · exact Or.inl (Or.inr (Or.inl g1))
        · exact absurd rfl g1
        · omega
      · intro g1
        rcases g1 with (g1 | g1 | ⟨_, g1⟩) | ⟨g1, g2, _⟩
        · exact Or.inl (Or.inl g1)
        · exact Or.inl (Or.inr (Or.inl g1))
        · omega
        · omega
theorem GAI.put (h : GAI L cl ln iv rv iv1 q b0 b1 g k) (hsb : rv q 3 = some sb) (e : iv2 = up2 iv1 p m x) (n : sb ≠ p) : GAI L cl ln iv rv iv2 q b0 b1 g k := fun a l0 l1 sb' hl0 hl1 hs c hc => by
  have w := h a l0 l1 sb' hl0 hl1 hs c hc
  rw [hsb] at hs
  cases hs
  rw [e, up2_k n]
  exact w
theorem GAI.gt (h : GAI L cl ln iv rv iv1 q b0 b1 g k) (hk : k = x) : GAI L cl ln iv rv iv1 q b0 b1 g x := by
  rw [← hk]
  exact h
theorem ALJU.beg (h : GAI L cl ln iv rv iv1 q b0 b1 g 123) (hsb : rv q 3 = some sb) (e : iv2 = up2 iv1 q 5 x) (hx : x = 0) (n : sb ≠ q) : ALJU L cl ln iv rv iv2 q b0 b1 33 := ALJU.init h (fun sb' hs => by
  rw [hsb] at hs
  cases hs
  funext j
  rw [e, up2_k n]) (by rw [e, up2_s]; exact hx)
end UAL3
set_option maxHeartbeats 4000000 in
set_option maxRecDepth 100000 in
theorem G_gatherAlphabet {l : Launch} {G : GT} {mi : Nat} {sk : Nat → Nat} {L : List Nat} {cl ln : Nat → Nat} {iv : Nat → Nat → Int} {rv : Nat → Nat → Option Nat}  {a0 : Nat} {a1 : Nat} {g : Int} (hW : WT (g0 G) sk L cl ln iv rv) (hS : SKL sk L cl) (t_a0 : ty L cl a0 14) (t_a1 : ty L cl a1 16) (h_g : -2147483648 ≤ g ∧ g ≤ 2147483647)  : Mc l G mi (Phi (g0 G) sk) PHM yX8_gatherAlphabet cX8_gatherAlphabet 4 none 4 [.ref a0, .ref a1, .int (iI g)] L cl ln iv rv 0 (fun v L2 cl2 ln2 iv2 rv2 => v = none ∧ L = L2 ∧ cl = cl2 ∧ ln = ln2 ∧ rv = rv2 ∧ fT [14, 56, 57] L cl iv rv iv2 rv2 ∧ WT (g0 G) sk L2 cl2 ln2 iv2 rv2 ∧ (iv2 a0 7 = iv a0 7 ∧ GAX L cl ln iv rv iv2 a0 (sk 24) (sk 25) g)) := by
  refine Mc.mk (by decide) (Nat.le_of_ble_eq_true rfl) ?_
  intro p e s m args below meth c A C hM
  refine hv12 (Phi.le hW hS) (show ty L cl (sk 6) 6 from ⟨(hS 6 rfl).1, by rw [(hS 6 rfl).2]; rfl⟩) (show ty L cl (sk 7) 7 from ⟨(hS 7 rfl).1, by rw [(hS 7 rfl).2]; rfl⟩) (show ty L cl (sk 8) 8 from ⟨(hS 8 rfl).1, by rw [(hS 8 rfl).2]; rfl⟩) (show ty L cl (sk 9) 9 from ⟨(hS 9 rfl).1, by rw [(hS 9 rfl).2]; rfl⟩) (show ty L cl (sk 10) 10 from ⟨(hS 10 rfl).1, by rw [(hS 10 rfl).2]; rfl⟩) (show ty L cl (sk 24) 24 from ⟨(hS 24 rfl).1, by rw [(hS 24 rfl).2]; rfl⟩) (show ty L cl (sk 25) 25 from ⟨(hS 25 rfl).1, by rw [(hS 25 rfl).2]; rfl⟩) (show XT L cl ln L cl ln from XT.refl) (show fT [14, 56, 57] L cl iv rv iv rv from fT.refl) (show 0 ≤ iv a0 5 ∧ iv a0 5 ≤ 126 from hW.int t_a0 5) (show 0 ≤ iv a0 7 ∧ iv a0 7 ≤ 6 from hW.int t_a0 7) (fun hph tsk6 tsk7 tsk8 tsk9 tsk10 tsk24 tsk25 hX0 hF0 ri1 ri2 => ?_)
  obtain ⟨sb9, hsb9, tsb9⟩ := hW.ref t_a0 3 rfl rfl rfl
  obtain ⟨ab9, hab9, tab9⟩ := hW.ref t_a0 4 rfl rfl rfl
  refine c_iconst C dX8_gatherAlphabet_0 ?_
  refine c_istore_n (lv2 := [(3, .int (iI 0)), (0, .ref a0), (1, .ref a1), (2, .int (iI g))]) C dX8_gatherAlphabet_1 (by decide) rfl ?_
  have Lp1 : ∀ (nn : Nat) (k : Int) (ivb1 : Nat → Nat → Int) , 127 - k < (nn : Int) → WT (g0 G) sk L cl ln ivb1 rv → fT [14, 56, 57] L cl iv rv ivb1 rv → (0 ≤ k ∧ k ≤ 126) → (ivb1 a0 7 = iv a0 7) → (FLI ivb1 sb9 k) → cw p l e 4 ((PHM) + 0 - ((Phi (g0 G) sk) ln rv)) s m args below meth c G A 4 (MQ below (Qu G A (Qp G (Phi (g0 G) sk) ((Phi (g0 G) sk) ln rv) 0 (fun v L2 cl2 ln2 iv2 rv2 => v = none ∧ L = L2 ∧ cl = cl2 ∧ ln = ln2 ∧ rv = rv2 ∧ fT [14, 56, 57] L cl iv rv iv2 rv2 ∧ WT (g0 G) sk L2 cl2 ln2 iv2 rv2 ∧ (iv2 a0 7 = iv a0 7 ∧ GAX L cl ln iv rv iv2 a0 (sk 24) (sk 25) g)))) args s (((PHM) + 0 - ((Phi (g0 G) sk) ln rv)) / 16) ((PHM) + 0 - ((Phi (g0 G) sk) ln rv)) A) (Phi (g0 G) sk) ((Phi (g0 G) sk) ln rv) L cl ln ivb1 rv 0 2 [(3, .int (iI k)), (0, .ref a0), (1, .ref a1), (2, .int (iI g))] [] := by
    intro nn
    induction nn with
    | zero =>
      intro  k ivb1 hm Wb1 Fb1  hk h2 hI2
      exact absurd hm (by omega)
    | succ nn ih1 =>
      intro  k ivb1 hm Wb1 Fb1  hk h2 hI2
      refine c_iload_n (j := 0) C dX8_gatherAlphabet_2 rfl ?_
      refine c_bipush (z := 125) C dX8_gatherAlphabet_3 (by decide) ?_
      refine c_icmp_gt (tgt := 21) C (r32_c (lo := 0) (hi := 126) hk.1 hk.2 (by decide) (by decide)) ⟨by decide, by decide⟩ dX8_gatherAlphabet_5 (by decide) (fun c1 => ?_) (fun c1 => ?_)
      · refine c_aload_n (j := 1) (x := a0) C dX8_gatherAlphabet_21 rfl ?_
        refine c_aload_n (j := 2) (x := a1) C dX8_gatherAlphabet_22 rfl ?_
        obtain ⟨rb1, rq1, trb1⟩ := Wb1.ref t_a1 0 rfl rfl rfl
        have erb1 := Wb1.sk trb1 (by decide) rfl
        subst erb1
        refine c_getr (k := 0) C ck_4 dX8_gatherAlphabet_23 w1_191 (by decide) t_a1 rfl rfl (by decide) rfl rq1 ?_
        refine c_st (st2 := [.ref (sk 24), .ref a0]) rfl ?_
        refine d_callV (As := [.ref (sk 24)]) (rest := []) C hM (G_markLetters_24 (a0 := a0) (a1 := (sk 24)) Wb1 hS t_a0 tsk24  ) dX8_gatherAlphabet_26 kV_X8_70 rfl t_a0 rfl rfl (by decide) ck_9 rfl (Nat.le_of_ble_eq_true rfl) ⟨(Nat.le_of_ble_eq_true rfl), (Nat.le_of_ble_eq_true rfl)⟩ hph hph (show 0 + 0 = 0 from rfl) (by decide) (fun rh1 Lh1 clh1 lnh1 ivh1 rvh1 h1 => ?_)
        obtain ⟨rfl, rfl, rfl, rfl, rfl, fl1, W1, exf1⟩ := h1
        have F1 := Fb1.call hX0 fl1 rfl
        refine c_st (st2 := []) rfl ?_
        refine hv3 (show MKX L cl ln ivb1 rv ivh1 a0 (sk 24) from exf1) (show 0 ≤ ivh1 a0 7 ∧ ivh1 a0 7 ≤ 6 from W1.int t_a0 7) (show ivh1 a0 7 = ivb1 a0 7 from fl1.i t_a0 rfl 7) (fun gf1 ri3 ie1 => ?_)
        refine c_aload_n (j := 1) (x := a0) C dX8_gatherAlphabet_29 rfl ?_
        refine c_aload_n (j := 2) (x := a1) C dX8_gatherAlphabet_30 rfl ?_
        obtain ⟨rb2, rq2, trb2⟩ := W1.ref t_a1 1 rfl rfl rfl
        have erb2 := W1.sk trb2 (by decide) rfl
        subst erb2
        refine c_getr (k := 1) C ck_4 dX8_gatherAlphabet_31 w1_194 (by decide) t_a1 rfl rfl (by decide) rfl rq2 ?_
        refine c_st (st2 := [.ref (sk 25), .ref a0]) rfl ?_
        refine d_callV (As := [.ref (sk 25)]) (rest := []) C hM (G_markLetters_25 (a0 := a0) (a1 := (sk 25)) W1 hS t_a0 tsk25  ) dX8_gatherAlphabet_34 kV_X8_70 rfl t_a0 rfl rfl (by decide) ck_9 rfl (Nat.le_of_ble_eq_true rfl) ⟨(Nat.le_of_ble_eq_true rfl), (Nat.le_of_ble_eq_true rfl)⟩ hph hph (show 0 + 0 = 0 from rfl) (by decide) (fun rh3 Lh3 clh3 lnh3 ivh3 rvh3 h3 => ?_)
        obtain ⟨rfl, rfl, rfl, rfl, rfl, fl2, W2, exf2⟩ := h3
        have F2 := F1.call hX0 fl2 rfl
        refine c_st (st2 := []) rfl ?_
        refine hv3 (show MKX L cl ln ivh1 rv ivh3 a0 (sk 25) from exf2) (show 0 ≤ ivh3 a0 7 ∧ ivh3 a0 7 ≤ 6 from W2.int t_a0 7) (show ivh3 a0 7 = ivh1 a0 7 from fl2.i t_a0 rfl 7) (fun gf2 ri4 ie3 => ?_)
        have ga9 := GAI.mk hI2 (by omega) hsb9 (fun a l hl => hl.mv (QT.of hW hS XT.refl Fb1 rfl rfl rfl rfl rfl) (el24.fr hW hS Fb1 rfl rfl).1 (el24.fr hW hS Fb1 rfl rfl).2) gf1 (fun a l hl => hl.mv (QT.of hW hS XT.refl F1 rfl rfl rfl rfl rfl) (el25.fr hW hS F1 rfl rfl).1 (el25.fr hW hS F1 rfl rfl).2) gf2
        have J1 : ∀ (ivb2 : Nat → Nat → Int) , WT (g0 G) sk L cl ln ivb2 rv → fT [14, 56, 57] L cl iv rv ivb2 rv → (ivb2 a0 7 = iv a0 7) → (GAI L cl ln iv rv ivb2 a0 (sk 24) (sk 25) g 97) → cw p l e 4 ((PHM) + 0 - ((Phi (g0 G) sk) ln rv)) s m args below meth c G A 4 (MQ below (Qu G A (Qp G (Phi (g0 G) sk) ((Phi (g0 G) sk) ln rv) 0 (fun v L2 cl2 ln2 iv2 rv2 => v = none ∧ L = L2 ∧ cl = cl2 ∧ ln = ln2 ∧ rv = rv2 ∧ fT [14, 56, 57] L cl iv rv iv2 rv2 ∧ WT (g0 G) sk L2 cl2 ln2 iv2 rv2 ∧ (iv2 a0 7 = iv a0 7 ∧ GAX L cl ln iv rv iv2 a0 (sk 24) (sk 25) g)))) args s (((PHM) + 0 - ((Phi (g0 G) sk) ln rv)) / 16) ((PHM) + 0 - ((Phi (g0 G) sk) ln rv)) A) (Phi (g0 G) sk) ((Phi (g0 G) sk) ln rv) L cl ln ivb2 rv 0 57 [(0, .ref a0), (1, .ref a1), (2, .int (iI g))] [] := by
          intro   ivb2 Wb2 Fb2  h57 hG57
          refine c_bipush (z := 97) C dX8_gatherAlphabet_57 (by decide) ?_
          refine c_istore_n (lv2 := [(3, .int (iI 97)), (0, .ref a0), (1, .ref a1), (2, .int (iI g))]) C dX8_gatherAlphabet_59 (by decide) rfl ?_
          have Lp2 : ∀ (nn : Nat) (k1 : Int) (ivb3 : Nat → Nat → Int) , 124 - k1 < (nn : Int) → WT (g0 G) sk L cl ln ivb3 rv → fT [14, 56, 57] L cl iv rv ivb3 rv → (97 ≤ k1 ∧ k1 ≤ 123) → (ivb3 a0 7 = iv a0 7) → (GAI L cl ln iv rv ivb3 a0 (sk 24) (sk 25) g k1) → cw p l e 4 ((PHM) + 0 - ((Phi (g0 G) sk) ln rv)) s m args below meth c G A 4 (MQ below (Qu G A (Qp G (Phi (g0 G) sk) ((Phi (g0 G) sk) ln rv) 0 (fun v L2 cl2 ln2 iv2 rv2 => v = none ∧ L = L2 ∧ cl = cl2 ∧ ln = ln2 ∧ rv = rv2 ∧ fT [14, 56, 57] L cl iv rv iv2 rv2 ∧ WT (g0 G) sk L2 cl2 ln2 iv2 rv2 ∧ (iv2 a0 7 = iv a0 7 ∧ GAX L cl ln iv rv iv2 a0 (sk 24) (sk 25) g)))) args s (((PHM) + 0 - ((Phi (g0 G) sk) ln rv)) / 16) ((PHM) + 0 - ((Phi (g0 G) sk) ln rv)) A) (Phi (g0 G) sk) ((Phi (g0 G) sk) ln rv) L cl ln ivb3 rv 0 60 [(3, .int (iI k1)), (0, .ref a0), (1, .ref a1), (2, .int (iI g))] [] := by
            intro nn
            induction nn with
            | zero =>
              intro  k1 ivb3 hm Wb3 Fb3  hk1 h60 hG60
              exact absurd hm (by omega)
            | succ nn ih2 =>
              intro  k1 ivb3 hm Wb3 Fb3  hk1 h60 hG60
              refine c_iload_n (j := 0) C dX8_gatherAlphabet_60 rfl ?_
              refine c_bipush (z := 122) C dX8_gatherAlphabet_61 (by decide) ?_
              refine c_icmp_gt (tgt := 107) C (r32_c (lo := 97) (hi := 123) hk1.1 hk1.2 (by decide) (by decide)) ⟨by decide, by decide⟩ dX8_gatherAlphabet_63 (by decide) (fun c2 => ?_) (fun c2 => ?_)
              · refine c_aload_n (j := 1) (x := a0) C dX8_gatherAlphabet_107 rfl ?_
                refine c_iconst C dX8_gatherAlphabet_108 ?_
                refine c_put (z := 0) (k := 5) C ck_9 dX8_gatherAlphabet_109 w1_109 (by decide) rfl t_a0 rfl rfl (by decide) rfl (by rfl) (by rfl) (fun iv1 pq1 => ?_)
                refine hv2 (Wb3.puti pq1 t_a0 ⟨by decide, by decide⟩ rfl) (Fb3.puti hX0 pq1 t_a0 rfl) (fun W3 F3 => ?_)
                refine c_bipush (z := 33) C dX8_gatherAlphabet_112 (by decide) ?_
                refine c_istore_n (lv2 := [(3, .int (iI 33)), (0, .ref a0), (1, .ref a1), (2, .int (iI g))]) C dX8_gatherAlphabet_114 (by decide) rfl ?_
                have Lp3 : ∀ (nn : Nat) (k2 : Int) (ivb4 : Nat → Nat → Int) , 127 - k2 < (nn : Int) → WT (g0 G) sk L cl ln ivb4 rv → fT [14, 56, 57] L cl iv rv ivb4 rv → (33 ≤ k2 ∧ k2 ≤ 126) → (0 ≤ ivb4 a0 5 ∧ ivb4 a0 5 ≤ k2 - 33) → (ivb4 a0 7 = iv a0 7) → (GAI L cl ln iv rv ivb4 a0 (sk 24) (sk 25) g 123) → (ALJU L cl ln iv rv ivb4 a0 (sk 24) (sk 25) k2) → cw p l e 4 ((PHM) + 0 - ((Phi (g0 G) sk) ln rv)) s m args below meth c G A 4 (MQ below (Qu G A (Qp G (Phi (g0 G) sk) ((Phi (g0 G) sk) ln rv) 0 (fun v L2 cl2 ln2 iv2 rv2 => v = none ∧ L = L2 ∧ cl = cl2 ∧ ln = ln2 ∧ rv = rv2 ∧ fT [14, 56, 57] L cl iv rv iv2 rv2 ∧ WT (g0 G) sk L2 cl2 ln2 iv2 rv2 ∧ (iv2 a0 7 = iv a0 7 ∧ GAX L cl ln iv rv iv2 a0 (sk 24) (sk 25) g)))) args s (((PHM) + 0 - ((Phi (g0 G) sk) ln rv)) / 16) ((PHM) + 0 - ((Phi (g0 G) sk) ln rv)) A) (Phi (g0 G) sk) ((Phi (g0 G) sk) ln rv) L cl ln ivb4 rv 0 115 [(3, .int (iI k2)), (0, .ref a0), (1, .ref a1), (2, .int (iI g))] [] := by
                  intro nn
                  induction nn with
                  | zero =>
                    intro  k2 ivb4 hm Wb4 Fb4  hk2 hz h115 hG115 hA
                    exact absurd hm (by omega)
                  | succ nn ih3 =>
                    intro  k2 ivb4 hm Wb4 Fb4  hk2 hz h115 hG115 hA
                    refine c_iload_n (j := 0) C dX8_gatherAlphabet_115 rfl ?_
                    refine c_bipush (z := 125) C dX8_gatherAlphabet_116 (by decide) ?_
                    refine c_icmp_gt (tgt := 156) C (r32_c (lo := 33) (hi := 126) hk2.1 hk2.2 (by decide) (by decide)) ⟨by decide, by decide⟩ dX8_gatherAlphabet_118 (by decide) (fun c3 => ?_) (fun c3 => ?_)
                    · have ri5 : 0 ≤ ivb4 a0 7 ∧ ivb4 a0 7 ≤ 6 := Wb4.int t_a0 7
                      exact c_vret C dX8_gatherAlphabet_156 rfl (by decide) (rom0 hph hph (by decide)) ⟨rfl, rfl, rfl, rfl, rfl, Fb4, Wb4, ⟨by omega, hA.fin hG115 (by omega) hsb9⟩⟩
                    · refine c_aload_n (j := 1) (x := a0) C dX8_gatherAlphabet_121 rfl ?_
                      refine c_getr (k := 3) C ck_9 dX8_gatherAlphabet_122 w1_107 (by decide) t_a0 rfl rfl (by decide) rfl hsb9 ?_
                      refine c_st (st2 := [.ref sb9]) rfl ?_
                      refine c_iload_n (j := 0) C dX8_gatherAlphabet_125 rfl ?_
                      have ll1 : 126 ≤ ln sb9 ∧ ln sb9 ≤ 126 := Wb4.len tsb9 rfl
                      refine c_zald C dX8_gatherAlphabet_126 tsb9 rfl (by omega) (by omega) (by omega) ?_
                      have ri6 : 0 ≤ ivb4 sb9 k2.toNat ∧ ivb4 sb9 k2.toNat ≤ 1 := Wb4.int tsb9 k2.toNat
                      refine c_if_eq (tgt := 150) C (r32_c (lo := 0) (hi := 1) ri6.1 ri6.2 (by decide) (by decide)) dX8_gatherAlphabet_127 (by decide) (fun c4 => ?_) (fun c4 => ?_)
                      · refine c_iinc (z := k2) (j := 0) (lv2 := [(3, .int (iI (k2 + 1))), (0, .ref a0), (1, .ref a1), (2, .int (iI g))]) C dX8_gatherAlphabet_150 rfl (by decide) rfl ?_
                        refine c_goto (tgt := 115) C dX8_gatherAlphabet_153 (by decide) ?_
                        refine hv2 (show 0 ≤ ivb4 a0 5 ∧ ivb4 a0 5 ≤ 126 from Wb4.int t_a0 5) (show 0 ≤ ivb4 a0 7 ∧ ivb4 a0 7 ≤ 6 from Wb4.int t_a0 7) (fun ri7 ri8 => ?_)
                        refine c_lv (lv2 := [(3, .int (iI (k2 + 1))), (0, .ref a0), (1, .ref a1), (2, .int (iI g))]) [0, 1, 2, 3] rfl ?_
                        exact ih3  (k2 + 1) _ (by omega) Wb4 Fb4  (by omega) (by show 0 ≤ ivb4 a0 5 ∧ ivb4 a0 5 ≤ (k2 + 1) - 33; omega) h115 hG115 (hA.s0 (by omega) hsb9 (by omega))
                      · refine c_aload_n (j := 1) (x := a0) C dX8_gatherAlphabet_130 rfl ?_
                        refine c_getr (k := 4) C ck_9 dX8_gatherAlphabet_131 w1_108 (by decide) t_a0 rfl rfl (by decide) rfl hab9 ?_
                        refine c_st (st2 := [.ref ab9]) rfl ?_
                        refine c_aload_n (j := 1) (x := a0) C dX8_gatherAlphabet_134 rfl ?_
                        have ri9 : 0 ≤ ivb4 a0 5 ∧ ivb4 a0 5 ≤ 126 := Wb4.int t_a0 5
                        refine c_get (k := 5) C ck_9 dX8_gatherAlphabet_135 w1_109 (by decide) t_a0 rfl rfl (by decide) rfl ?_
                        refine c_iload_n (j := 0) C dX8_gatherAlphabet_138 rfl ?_
                        have ll2 : 126 ≤ ln ab9 ∧ ln ab9 ≤ 126 := Wb4.len tab9 rfl
                        refine c_iast (x := k2) C dX8_gatherAlphabet_139 tab9 rfl (by omega) (by omega) (by omega) (fun iv2 pq2 => ?_)
                        refine hv2 (Wb4.puti pq2 tab9 (show (-2147483648) ≤ k2 ∧ k2 ≤ 2147483647 by omega) rfl) (Fb4.puti hX0 pq2 tab9 rfl) (fun W4 F4 => ?_)
                        refine c_aload_n (j := 1) (x := a0) C dX8_gatherAlphabet_140 rfl ?_
                        refine c_dup C dX8_gatherAlphabet_141 rfl ?_
                        refine hv2 (show 0 ≤ iv2 a0 5 ∧ iv2 a0 5 ≤ 126 from W4.int t_a0 5) (show iv2 a0 5 = ivb4 a0 5 from by rw [pq2]; exact up2_k (ne_ty t_a0 tab9 (by decide))) (fun ri10 ie9 => ?_)
                        refine c_get (k := 5) C ck_9 dX8_gatherAlphabet_142 w1_109 (by decide) t_a0 rfl rfl (by decide) rfl ?_
                        refine c_iconst C dX8_gatherAlphabet_145 ?_
                        refine c_iadd C dX8_gatherAlphabet_146 ?_
                        refine c_put (z := (iv2 a0 5) + 1) (k := 5) C ck_9 dX8_gatherAlphabet_147 w1_109 (by decide) rfl t_a0 rfl rfl (by decide) rfl (by rfl) (by rfl) (fun iv3 pq3 => ?_)
                        refine hv2 (W4.puti pq3 t_a0 (show 0 ≤ ((iv2 a0 5) + 1) ∧ ((iv2 a0 5) + 1) ≤ 126 by omega) rfl) (F4.puti hX0 pq3 t_a0 rfl) (fun W5 F5 => ?_)
                        refine c_iinc (z := k2) (j := 0) (lv2 := [(3, .int (iI (k2 + 1))), (0, .ref a0), (1, .ref a1), (2, .int (iI g))]) C dX8_gatherAlphabet_150 rfl (by decide) rfl ?_
                        refine c_goto (tgt := 115) C dX8_gatherAlphabet_153 (by decide) ?_
                        refine hv5 (show 0 ≤ iv3 a0 5 ∧ iv3 a0 5 ≤ 126 from W5.int t_a0 5) (show iv3 a0 5 = (iv2 a0 5) + 1 from by rw [pq3]; exact up2_s) (show 0 ≤ iv3 a0 7 ∧ iv3 a0 7 ≤ 6 from W5.int t_a0 7) (show iv3 a0 7 = iv2 a0 7 from by rw [pq3]; exact up2_j (by decide)) (show iv2 a0 7 = ivb4 a0 7 from by rw [pq2]; exact up2_k (ne_ty t_a0 tab9 (by decide))) (fun ri11 ie10 ri12 ie11 ie12 => ?_)
                        refine c_lv (lv2 := [(3, .int (iI (k2 + 1))), (0, .ref a0), (1, .ref a1), (2, .int (iI g))]) [0, 1, 2, 3] rfl ?_
                        exact ih3  (k2 + 1) _ (by omega) W5 F5  (by omega) (by show 0 ≤ iv3 a0 5 ∧ iv3 a0 5 ≤ (k2 + 1) - 33; omega) (ie11.trans (ie12.trans h115)) ((hG115.put hsb9 pq2 (ne_ty tsb9 tab9 (by decide))).put hsb9 pq3 (ne_ty tsb9 t_a0 (by decide))) (hA.s1 (by omega) hsb9 (by omega) hab9 pq2 rfl pq3 (by omega) (ne_ty tsb9 tab9 (by decide)) (ne_ty tsb9 t_a0 (by decide)) (ne_ty tab9 t_a0 (by decide)))
                refine hv4 (show 0 ≤ iv1 a0 5 ∧ iv1 a0 5 ≤ 126 from W3.int t_a0 5) (show iv1 a0 5 = 0 from by rw [pq1]; exact up2_s) (show 0 ≤ iv1 a0 7 ∧ iv1 a0 7 ≤ 6 from W3.int t_a0 7) (show iv1 a0 7 = ivb3 a0 7 from by rw [pq1]; exact up2_j (by decide)) (fun ri13 ie14 ri14 ie15 => ?_)
                refine c_lv (lv2 := [(3, .int (iI 33)), (0, .ref a0), (1, .ref a1), (2, .int (iI g))]) [0, 1, 2, 3] rfl ?_
                exact Lp3 130 33 _ (by omega) W3 F3  (by omega) (by show 0 ≤ iv1 a0 5 ∧ iv1 a0 5 ≤ 33 - 33; omega) (ie15.trans h60) ((hG60.gt (x := 123) (by omega)).put hsb9 pq1 (ne_ty tsb9 t_a0 (by decide))) (ALJU.beg (hG60.gt (x := 123) (by omega)) hsb9 pq1 rfl (ne_ty tsb9 t_a0 (by decide)))
              · refine c_aload_n (j := 1) (x := a0) C dX8_gatherAlphabet_66 rfl ?_
                refine c_getr (k := 3) C ck_9 dX8_gatherAlphabet_67 w1_107 (by decide) t_a0 rfl rfl (by decide) rfl hsb9 ?_
                refine c_st (st2 := [.ref sb9]) rfl ?_
                refine c_iload_n (j := 0) C dX8_gatherAlphabet_70 rfl ?_
                refine c_bipush (z := 32) C dX8_gatherAlphabet_71 (by decide) ?_
                refine c_isub C dX8_gatherAlphabet_73 ?_
                refine c_aload_n (j := 1) (x := a0) C dX8_gatherAlphabet_74 rfl ?_
                refine c_getr (k := 3) C ck_9 dX8_gatherAlphabet_75 w1_107 (by decide) t_a0 rfl rfl (by decide) rfl hsb9 ?_
                refine c_st (st2 := [.ref sb9, .int (iI (k1 - 32)), .ref sb9]) rfl ?_
                refine c_iload_n (j := 0) C dX8_gatherAlphabet_78 rfl ?_
                refine c_bipush (z := 32) C dX8_gatherAlphabet_79 (by decide) ?_
                refine c_isub C dX8_gatherAlphabet_81 ?_
                have ll3 : 126 ≤ ln sb9 ∧ ln sb9 ≤ 126 := Wb3.len tsb9 rfl
                refine c_zald C dX8_gatherAlphabet_82 tsb9 rfl (by omega) (by omega) (by omega) ?_
                have ri15 : 0 ≤ ivb3 sb9 ((k1 - 32).toNat) ∧ ivb3 sb9 ((k1 - 32).toNat) ≤ 1 := Wb3.int tsb9 ((k1 - 32).toNat)
                refine c_if_ne (tgt := 95) C ⟨by omega, by omega⟩ dX8_gatherAlphabet_83 (by decide) (fun c5 => ?_) (fun c5 => ?_)
                · refine c_iconst C dX8_gatherAlphabet_95 ?_
                  refine c_goto (tgt := 100) C dX8_gatherAlphabet_96 (by decide) ?_
                  refine c_zast (x := 1) C dX8_gatherAlphabet_100 tsb9 rfl (by omega) (by omega) (by omega) (by omega) (fun iv4 pq4 => ?_)
                  refine hv2 (Wb3.puti pq4 tsb9 (show 0 ≤ 1 ∧ 1 ≤ 1 by omega) rfl) (Fb3.puti hX0 pq4 tsb9 rfl) (fun W6 F6 => ?_)
                  refine c_iinc (z := k1) (j := 0) (lv2 := [(3, .int (iI (k1 + 1))), (0, .ref a0), (1, .ref a1), (2, .int (iI g))]) C dX8_gatherAlphabet_101 rfl (by decide) rfl ?_
                  refine c_goto (tgt := 60) C dX8_gatherAlphabet_104 (by decide) ?_
                  refine hv2 (show 0 ≤ iv4 a0 7 ∧ iv4 a0 7 ≤ 6 from W6.int t_a0 7) (show iv4 a0 7 = ivb3 a0 7 from by rw [pq4]; exact up2_k (ne_ty t_a0 tsb9 (by decide))) (fun ri16 ie18 => ?_)
                  refine c_lv (lv2 := [(3, .int (iI (k1 + 1))), (0, .ref a0), (1, .ref a1), (2, .int (iI g))]) [0, 1, 2, 3] rfl ?_
                  exact ih2  (k1 + 1) _ (by omega) W6 F6  (by omega) (ie18.trans h60) (hG60.cap ⟨by omega, by omega⟩ hsb9 pq4 (by omega))
                · refine c_aload_n (j := 1) (x := a0) C dX8_gatherAlphabet_86 rfl ?_
                  refine c_getr (k := 3) C ck_9 dX8_gatherAlphabet_87 w1_107 (by decide) t_a0 rfl rfl (by decide) rfl hsb9 ?_
                  refine c_st (st2 := [.ref sb9, .int (iI (k1 - 32)), .ref sb9]) rfl ?_
                  refine c_iload_n (j := 0) C dX8_gatherAlphabet_90 rfl ?_
                  refine c_zald C dX8_gatherAlphabet_91 tsb9 rfl (by omega) (by omega) (by omega) ?_
                  have ri17 : 0 ≤ ivb3 sb9 k1.toNat ∧ ivb3 sb9 k1.toNat ≤ 1 := Wb3.int tsb9 k1.toNat
                  refine c_if_eq (tgt := 99) C (r32_c (lo := 0) (hi := 1) ri17.1 ri17.2 (by decide) (by decide)) dX8_gatherAlphabet_92 (by decide) (fun c6 => ?_) (fun c6 => ?_)
                  · refine c_iconst C dX8_gatherAlphabet_99 ?_
                    refine c_zast (x := 0) C dX8_gatherAlphabet_100 tsb9 rfl (by omega) (by omega) (by omega) (by omega) (fun iv5 pq5 => ?_)
                    refine hv2 (Wb3.puti pq5 tsb9 (show 0 ≤ 0 ∧ 0 ≤ 1 by omega) rfl) (Fb3.puti hX0 pq5 tsb9 rfl) (fun W7 F7 => ?_)
                    refine c_iinc (z := k1) (j := 0) (lv2 := [(3, .int (iI (k1 + 1))), (0, .ref a0), (1, .ref a1), (2, .int (iI g))]) C dX8_gatherAlphabet_101 rfl (by decide) rfl ?_
                    refine c_goto (tgt := 60) C dX8_gatherAlphabet_104 (by decide) ?_
                    refine hv2 (show 0 ≤ iv5 a0 7 ∧ iv5 a0 7 ≤ 6 from W7.int t_a0 7) (show iv5 a0 7 = ivb3 a0 7 from by rw [pq5]; exact up2_k (ne_ty t_a0 tsb9 (by decide))) (fun ri18 ie21 => ?_)
                    refine c_lv (lv2 := [(3, .int (iI (k1 + 1))), (0, .ref a0), (1, .ref a1), (2, .int (iI g))]) [0, 1, 2, 3] rfl ?_
                    exact ih2  (k1 + 1) _ (by omega) W7 F7  (by omega) (ie21.trans h60) (hG60.cap ⟨by omega, by omega⟩ hsb9 pq5 (by omega))
                  · refine c_iconst C dX8_gatherAlphabet_95 ?_
                    refine c_goto (tgt := 100) C dX8_gatherAlphabet_96 (by decide) ?_
                    refine c_zast (x := 1) C dX8_gatherAlphabet_100 tsb9 rfl (by omega) (by omega) (by omega) (by omega) (fun iv6 pq6 => ?_)
                    refine hv2 (Wb3.puti pq6 tsb9 (show 0 ≤ 1 ∧ 1 ≤ 1 by omega) rfl) (Fb3.puti hX0 pq6 tsb9 rfl) (fun W8 F8 => ?_)
                    refine c_iinc (z := k1) (j := 0) (lv2 := [(3, .int (iI (k1 + 1))), (0, .ref a0), (1, .ref a1), (2, .int (iI g))]) C dX8_gatherAlphabet_101 rfl (by decide) rfl ?_
                    refine c_goto (tgt := 60) C dX8_gatherAlphabet_104 (by decide) ?_
                    refine hv2 (show 0 ≤ iv6 a0 7 ∧ iv6 a0 7 ≤ 6 from W8.int t_a0 7) (show iv6 a0 7 = ivb3 a0 7 from by rw [pq6]; exact up2_k (ne_ty t_a0 tsb9 (by decide))) (fun ri19 ie23 => ?_)
                    refine c_lv (lv2 := [(3, .int (iI (k1 + 1))), (0, .ref a0), (1, .ref a1), (2, .int (iI g))]) [0, 1, 2, 3] rfl ?_
                    exact ih2  (k1 + 1) _ (by omega) W8 F8  (by omega) (ie23.trans h60) (hG60.cap ⟨by omega, by omega⟩ hsb9 pq6 (by omega))
          have ri20 : 0 ≤ ivb2 a0 7 ∧ ivb2 a0 7 ≤ 6 := Wb2.int t_a0 7
          refine c_lv (lv2 := [(3, .int (iI 97)), (0, .ref a0), (1, .ref a1), (2, .int (iI g))]) [0, 1, 2, 3] rfl ?_
          exact Lp2 130 97 _ (by omega) Wb2 Fb2  (by omega) h57 hG57
        refine c_iload_n (j := 3) C dX8_gatherAlphabet_37 rfl ?_
        refine c_if_eq (tgt := 57) C ⟨by omega, by omega⟩ dX8_gatherAlphabet_38 (by decide) (fun c7 => ?_) (fun c7 => ?_)
        · refine c_lv (lv2 := [(0, .ref a0), (1, .ref a1), (2, .int (iI g))]) [1, 2, 3] rfl ?_
          exact J1   _  W2 F2  (ie3.trans (ie1.trans h2)) (ga9.g0 (by omega))
        · refine c_aload_n (j := 1) (x := a0) C dX8_gatherAlphabet_41 rfl ?_
          refine c_getr (k := 3) C ck_9 dX8_gatherAlphabet_42 w1_107 (by decide) t_a0 rfl rfl (by decide) rfl hsb9 ?_
          refine c_st (st2 := [.ref sb9]) rfl ?_
          refine c_bipush (z := 60) C dX8_gatherAlphabet_45 (by decide) ?_
          refine c_iconst C dX8_gatherAlphabet_47 ?_
          have ll4 : 126 ≤ ln sb9 ∧ ln sb9 ≤ 126 := W2.len tsb9 rfl
          refine c_zast (x := 1) C dX8_gatherAlphabet_48 tsb9 rfl (by omega) (by omega) (by omega) (by omega) (fun iv7 pq7 => ?_)
          refine hv2 (W2.puti pq7 tsb9 (show 0 ≤ 1 ∧ 1 ≤ 1 by omega) rfl) (F2.puti hX0 pq7 tsb9 rfl) (fun W9 F9 => ?_)
          refine c_aload_n (j := 1) (x := a0) C dX8_gatherAlphabet_49 rfl ?_
          refine c_getr (k := 3) C ck_9 dX8_gatherAlphabet_50 w1_107 (by decide) t_a0 rfl rfl (by decide) rfl hsb9 ?_
          refine c_st (st2 := [.ref sb9]) rfl ?_
          refine c_bipush (z := 62) C dX8_gatherAlphabet_53 (by decide) ?_
          refine c_iconst C dX8_gatherAlphabet_55 ?_
          refine c_zast (x := 1) C dX8_gatherAlphabet_56 tsb9 rfl (by omega) (by omega) (by omega) (by omega) (fun iv8 pq8 => ?_)
          refine hv4 (W9.puti pq8 tsb9 (show 0 ≤ 1 ∧ 1 ≤ 1 by omega) rfl) (F9.puti hX0 pq8 tsb9 rfl) (show iv8 a0 7 = iv7 a0 7 from by rw [pq8]; exact up2_k (ne_ty t_a0 tsb9 (by decide))) (show iv7 a0 7 = ivh3 a0 7 from by rw [pq7]; exact up2_k (ne_ty t_a0 tsb9 (by decide))) (fun W10 F10 ie26 ie27 => ?_)
          have ri21 : 0 ≤ iv8 a0 7 ∧ iv8 a0 7 ≤ 6 := W10.int t_a0 7
          refine c_lv (lv2 := [(0, .ref a0), (1, .ref a1), (2, .int (iI g))]) [1, 2, 3] rfl ?_
          exact J1   _  W10 F10  (ie26.trans (ie27.trans (ie3.trans (ie1.trans h2)))) (ga9.join hsb9 pq7 (by decide) pq8 (by decide) (by omega))
      · refine c_aload_n (j := 1) (x := a0) C dX8_gatherAlphabet_8 rfl ?_
        refine c_getr (k := 3) C ck_9 dX8_gatherAlphabet_9 w1_107 (by decide) t_a0 rfl rfl (by decide) rfl hsb9 ?_
        refine c_st (st2 := [.ref sb9]) rfl ?_
        refine c_iload_n (j := 0) C dX8_gatherAlphabet_12 rfl ?_
        refine c_iconst C dX8_gatherAlphabet_13 ?_
        have ll5 : 126 ≤ ln sb9 ∧ ln sb9 ≤ 126 := Wb1.len tsb9 rfl
        refine c_zast (x := 0) C dX8_gatherAlphabet_14 tsb9 rfl (by omega) (by omega) (by omega) (by omega) (fun iv9 pq9 => ?_)
        refine hv2 (Wb1.puti pq9 tsb9 (show 0 ≤ 0 ∧ 0 ≤ 1 by omega) rfl) (Fb1.puti hX0 pq9 tsb9 rfl) (fun W11 F11 => ?_)
        refine c_iinc (z := k) (j := 0) (lv2 := [(3, .int (iI (k + 1))), (0, .ref a0), (1, .ref a1), (2, .int (iI g))]) C dX8_gatherAlphabet_15 rfl (by decide) rfl ?_
        refine c_goto (tgt := 2) C dX8_gatherAlphabet_18 (by decide) ?_
        refine hv2 (show 0 ≤ iv9 a0 7 ∧ iv9 a0 7 ≤ 6 from W11.int t_a0 7) (show iv9 a0 7 = ivb1 a0 7 from by rw [pq9]; exact up2_k (ne_ty t_a0 tsb9 (by decide))) (fun ri22 ie28 => ?_)
        refine c_lv (lv2 := [(3, .int (iI (k + 1))), (0, .ref a0), (1, .ref a1), (2, .int (iI g))]) [0, 1, 2, 3] rfl ?_
        exact ih1  (k + 1) _ (by omega) W11 F11  (by omega) (ie28.trans h2) (hI2.step (by omega) pq9 rfl)
  have ri23 : 0 ≤ iv sb9 0 ∧ iv sb9 0 ≤ 1 := hW.int tsb9 0
  refine c_lv (lv2 := [(3, .int (iI 0)), (0, .ref a0), (1, .ref a1), (2, .int (iI g))]) [0, 1, 2, 3] rfl ?_
  exact Lp1 130 0 _ (by omega) hW hF0  (by omega) rfl FLI.zero
end
section
def DCQ (L : List Nat) (cl ln : Nat → Nat) (iv : Nat → Nat → Int) (rv : Nat → Nat → Option Nat) (sk : Nat → Nat) (a : Nat → Nat → Int) (l0 l1 : List Int) : Prop := (HL L cl ln iv rv a (sk 24) l0 ∧ HL L cl ln iv rv a (sk 25) l1) ∧ (NZL a l0 ∧ NZL a l1) ∧ (LTP a l0 ∧ LTP a l1) ∧ (BGL iv rv a (sk 24) (sk 6) l0 ∧ BGL iv rv a (sk 25) (sk 7) l1)
def RBI (iv : Nat → Nat → Int) (rv : Nat → Nat → Option Nat) (sk : Nat → Nat) (iv1 : Nat → Nat → Int) (rv1 : Nat → Nat → Option Nat) (k : Int) : Prop := ∀ cs, PDH iv rv (sk 15) cs → cs.length ≤ 200 → CEL iv1 rv1 (sk 8) (cs.take k.toNat)
def RBX (L : List Nat) (cl ln : Nat → Nat) (iv : Nat → Nat → Int) (rv : Nat → Nat → Option Nat) (sk : Nat → Nat) (f : Int) : Prop := ∀ a l0 l1 cs ws, DCQ L cl ln iv rv sk a l0 l1 → PDH iv rv (sk 15) cs → cs.length ≤ 200 → LTW iv rv (sk 15) (RR0 ws) 0 (iv (sk 15) 4) → iv (sk 15) 4 = ((ws.length : Nat) : Int) → ws.length ≤ 500 → (f = 1 ↔ RFN a l0 l1 (RR0 cs) ws)
section UBAC
variable {h : Nat} {sk : Nat → Nat} {L L1 L3 : List Nat} {cl ln cl1 ln1 cl3 ln3 : Nat → Nat} {iv iv1 iv2 iv3 iv4 : Nat → Nat → Int} {rv rv1 rv2 rv3 rv4 : Nat → Nat → Option Nat} {a : Nat → Nat → Int} {s cb : Nat} {k x f f1 f2 q u : Int} {l0 l1 : List Int} {R W : Nat → Int} {ls : List Nat}
theorem DCQ.dcx (hc : DCQ L cl ln iv rv sk a l0 l1) (hr : RCT iv rv (sk 8) R) : DCX L cl ln iv rv sk a l0 l1 R := ⟨hc.1, hc.2.1, hc.2.2.1, hc.2.2.2, hr⟩
theorem DCQ.fr (hc : DCQ L cl ln iv rv sk a l0 l1) (hW : WT h sk L cl ln iv rv) (hS : SKL sk L cl) (hF : fT ls L cl iv rv iv1 rv1) (hq : QT h sk L cl ln iv rv L1 cl1 ln1 iv1 rv1) (k24 : ls.contains 24 = false) (k25 : ls.contains 25 = false) (k2 : ls.contains 1002 = false) (k3 : ls.contains 1003 = false) (k6 : ls.contains 6 = false) (k7 : ls.contains 7 = false) (k36 : ls.contains 36 = false) (k37 : ls.contains 37 = false) : DCQ L1 cl1 ln1 iv1 rv1 sk a l0 l1 := by
  obtain ⟨⟨c1, c2⟩, c3, c4, ⟨c5, c6⟩⟩ := hc
  refine hv6 (el24.fr hW hS hF k24 k2) (el25.fr hW hS hF k25 k3) (show ty L cl (sk 24) 24 from tysq hS rfl rfl) (show ty L cl (sk 25) 25 from tysq hS rfl rfl) (show ty L cl (sk 6) 6 from tysq hS rfl rfl) (show ty L cl (sk 7) 7 from tysq hS rfl rfl) (fun e24 e25 t24 t25 t6 t7 => ?_)
  exact ⟨⟨c1.mv hq e24.1 e24.2, c2.mv hq e25.1 e25.2⟩, c3, c4, ⟨c5.fr hW t24 t6 hF k24 k6 k36 rfl rfl rfl, c6.fr hW t25 t7 hF k25 k7 k37 rfl rfl rfl⟩⟩
theorem LTW.fx (hl : LTW iv rv s W q u) (hW : WT h sk L cl ln iv rv) (ts : ty L cl s 15) (hF : fT ls L cl iv rv iv1 rv1) (c1 : ls.contains 15 = false) (c2 : ls.contains 50 = false) : LTW iv1 rv1 s W q u := fun lb hb j h1 h2 => by
  rw [hF.r ts c1 0] at hb
  obtain ⟨b', w1, tb⟩ := hW.ref ts 0 rfl rfl rfl
  rw [hb] at w1
  cases w1
  rw [hF.i tb c2]
  exact hl lb hb j h1 h2
theorem RBI.init (h8 : iv1 (sk 8) 2 = 0) : RBI iv rv sk iv1 rv1 0 := fun cs _ _ => by
  rw [show cs.take (0 : Int).toNat = [] from rfl]
  exact CEL.nil h8
theorem RBI.step (hI : RBI iv rv sk iv1 rv1 k) (hk : 0 ≤ k ∧ k < iv (sk 15) 7) (hcb : rv (sk 15) 6 = some cb) (hx : x = iv cb k.toNat) (ha : ACX iv1 rv1 sk iv2 rv2 x) : RBI iv rv sk iv2 rv2 (k + 1) := fun cs hp hl => by
  refine hv2 (ha _ (hI cs hp hl) (by rw [List.length_take]; omega)) (hp.1) (fun w e => ?_)
  have lt : k.toNat < cs.length := by omega
  have e2 := List.getElem?_eq_getElem lt
  have e3 := hp.2 cb hcb k.toNat _ (by omega) e2
  rw [show (k + 1).toNat = k.toNat + 1 by omega, take_s e2, ← e3, ← hx]
  exact w
theorem RBI.fin (hI : RBI iv rv sk iv1 rv1 k) (hk : k = iv (sk 15) 7) : ∀ cs, PDH iv rv (sk 15) cs → cs.length ≤ 200 → CEL iv1 rv1 (sk 8) cs := fun cs hp hl => by
  refine hv2 (hI cs hp hl) (hp.1) (fun w e => ?_)
  rw [show k.toNat = cs.length by omega, List.take_length] at w
  exact w
theorem RBX.no (hI : RBI iv rv sk iv3 rv3 k) (hk : k = iv (sk 15) 7) (hq : ∀ a l0 l1, DCQ L cl ln iv rv sk a l0 l1 → DCQ L3 cl3 ln3 iv3 rv3 sk a l0 l1) (hd : DEX L3 cl3 ln3 iv3 rv3 sk iv4 rv4 f1) (h1 : f1 = 0) (hf : f = 0) : RBX L cl ln iv rv sk f := fun a l0 l1 cs ws hc hp hl _ _ _ => by
  rcases hd a l0 l1 _ ((hq a l0 l1 hc).dcx (hI.fin hk cs hp hl).rct) with ⟨_, w⟩ | ⟨w, _⟩
  · exact ⟨fun e => by omega, fun e => (RFN.nw hc.2.1.1 hc.2.1.2 e w).elim⟩
  · omega
theorem RBX.yes (hI : RBI iv rv sk iv3 rv3 k) (hk : k = iv (sk 15) 7) (hq : ∀ a l0 l1, DCQ L cl ln iv rv sk a l0 l1 → DCQ L3 cl3 ln3 iv3 rv3 sk a l0 l1) (hd : DEX L3 cl3 ln3 iv3 rv3 sk iv4 rv4 f1) (h1 : f1 ≠ 0) (hx : HLX iv4 rv4 (sk 15) (sk 10) f2) (h4 : iv4 (sk 15) 4 = iv (sk 15) 4) (hL : ∀ W, LTW iv rv (sk 15) W 0 (iv (sk 15) 4) → LTW iv4 rv4 (sk 15) W 0 (iv (sk 15) 4)) (hf : (f2 = 0 ∧ f = 0) ∨ (f2 = 1 ∧ f = 1)) : RBX L cl ln iv rv sk f := fun a l0 l1 cs ws hc hp hl hw hn h5 => by
  rcases hd a l0 l1 _ ((hq a l0 l1 hc).dcx (hI.fin hk cs hp hl).rct) with ⟨w, _⟩ | ⟨_, bs, b1, b2⟩
  · exact absurd w h1
  · have e := hx bs ws b2 (by rw [h4]; exact hL _ hw) (by rw [h4]; exact hn) h5
    have e2 : f = 1 ↔ f2 = 1 := by omega
    rw [e2, e]
    exact ⟨fun q => q ▸ b1, fun q => RFN.uni hc.2.1.1 hc.2.1.2 b1 q⟩
end UBAC
set_option maxHeartbeats 4000000 in
set_option maxRecDepth 100000 in
theorem G_isReadBack {l : Launch} {G : GT} {mi : Nat} {sk : Nat → Nat} {L : List Nat} {cl ln : Nat → Nat} {iv : Nat → Nat → Int} {rv : Nat → Nat → Option Nat}  {a0 : Nat} (hW : WT (g0 G) sk L cl ln iv rv) (hS : SKL sk L cl) (t_a0 : ty L cl a0 1) (hc7 : iv (sk 15) 7 ≤ 200) : Mc l G mi (Phi (g0 G) sk) PHM yX11_isReadBack cX11_isReadBack 2 (some .boolean) 6 [.ref a0] L cl ln iv rv 0 (fun v L2 cl2 ln2 iv2 rv2 => ∃ f : Int, v = some (.int (iI f)) ∧ XT L cl ln L2 cl2 ln2 ∧ fT [8, 38, 9, 39, 16, 10, 40] L cl iv rv iv2 rv2 ∧ WT (g0 G) sk L2 cl2 ln2 iv2 rv2 ∧ (f = 0 ∨ f = 1) ∧ (RBX L cl ln iv rv sk f)) := by
  refine Mc.mk (by decide) (Nat.le_of_ble_eq_true rfl) ?_
  intro p e s m args below meth c A C hM
  refine hv21 (Phi.le hW hS) (show ty L cl (sk 2) 2 from ⟨(hS 2 rfl).1, by rw [(hS 2 rfl).2]; rfl⟩) (show ty L cl (sk 3) 3 from ⟨(hS 3 rfl).1, by rw [(hS 3 rfl).2]; rfl⟩) (show ty L cl (sk 4) 4 from ⟨(hS 4 rfl).1, by rw [(hS 4 rfl).2]; rfl⟩) (show ty L cl (sk 5) 5 from ⟨(hS 5 rfl).1, by rw [(hS 5 rfl).2]; rfl⟩) (show ty L cl (sk 6) 6 from ⟨(hS 6 rfl).1, by rw [(hS 6 rfl).2]; rfl⟩) (show ty L cl (sk 7) 7 from ⟨(hS 7 rfl).1, by rw [(hS 7 rfl).2]; rfl⟩) (show ty L cl (sk 8) 8 from ⟨(hS 8 rfl).1, by rw [(hS 8 rfl).2]; rfl⟩) (show ty L cl (sk 9) 9 from ⟨(hS 9 rfl).1, by rw [(hS 9 rfl).2]; rfl⟩) (show ty L cl (sk 10) 10 from ⟨(hS 10 rfl).1, by rw [(hS 10 rfl).2]; rfl⟩) (show ty L cl (sk 13) 13 from ⟨(hS 13 rfl).1, by rw [(hS 13 rfl).2]; rfl⟩) (show ty L cl (sk 14) 14 from ⟨(hS 14 rfl).1, by rw [(hS 14 rfl).2]; rfl⟩) (show ty L cl (sk 15) 15 from ⟨(hS 15 rfl).1, by rw [(hS 15 rfl).2]; rfl⟩) (show ty L cl (sk 16) 16 from ⟨(hS 16 rfl).1, by rw [(hS 16 rfl).2]; rfl⟩) (show ty L cl (sk 17) 17 from ⟨(hS 17 rfl).1, by rw [(hS 17 rfl).2]; rfl⟩) (show ty L cl (sk 22) 22 from ⟨(hS 22 rfl).1, by rw [(hS 22 rfl).2]; rfl⟩) (show ty L cl (sk 23) 23 from ⟨(hS 23 rfl).1, by rw [(hS 23 rfl).2]; rfl⟩) (show ty L cl (sk 24) 24 from ⟨(hS 24 rfl).1, by rw [(hS 24 rfl).2]; rfl⟩) (show ty L cl (sk 25) 25 from ⟨(hS 25 rfl).1, by rw [(hS 25 rfl).2]; rfl⟩) (show XT L cl ln L cl ln from XT.refl) (show fT [8, 38, 9, 39, 16, 10, 40] L cl iv rv iv rv from fT.refl) (fun hph tsk2 tsk3 tsk4 tsk5 tsk6 tsk7 tsk8 tsk9 tsk10 tsk13 tsk14 tsk15 tsk16 tsk17 tsk22 tsk23 tsk24 tsk25 hX0 hF0 => ?_)
  refine hv2 (show 0 ≤ iv (sk 15) 7 ∧ iv (sk 15) 7 ≤ 100000 from hW.int tsk15 7) (show 0 ≤ iv (sk 15) 4 ∧ iv (sk 15) 4 ≤ 500 from hW.int tsk15 4) (fun ri1 ri2 => ?_)
  obtain ⟨cb9, hcb9, tcb9⟩ := hW.ref tsk15 6 rfl rfl rfl
  refine c_aload_n (j := 0) (x := a0) C dX11_isReadBack_0 rfl ?_
  obtain ⟨rb1, rq1, trb1⟩ := hW.ref t_a0 7 rfl rfl rfl
  have erb1 := hW.sk trb1 (by decide) rfl
  subst erb1
  refine c_getr (k := 7) C ck_12 dX11_isReadBack_1 w2_51 (by decide) t_a0 rfl rfl (by decide) rfl rq1 ?_
  refine c_st (st2 := [.ref (sk 16)]) rfl ?_
  refine d_callV (As := []) (rest := []) C hM (C_clearCells (a0 := (sk 16)) hW hS tsk16  ) dX11_isReadBack_4 kV_X11_344 rfl tsk16 rfl rfl (by decide) ck_4 rfl (Nat.le_of_ble_eq_true rfl) ⟨(Nat.le_of_ble_eq_true rfl), (Nat.le_of_ble_eq_true rfl)⟩ hph hph (show 0 + 0 = 0 from rfl) (by decide) (fun rh1 Lh1 clh1 lnh1 ivh1 rvh1 h1 => ?_)
  obtain ⟨rfl, rfl, rfl, rfl, rfl, fl1, W1, exf1⟩ := h1
  have F1 := hF0.call hX0 fl1 rfl
  refine c_st (st2 := []) rfl ?_
  refine hv2 (show 0 ≤ ivh1 (sk 8) 2 ∧ ivh1 (sk 8) 2 ≤ 40200 from W1.int tsk8 2) (show ivh1 (sk 8) 2 = 0 from exf1) (fun ri3 gf1 => ?_)
  refine c_iconst C dX11_isReadBack_7 ?_
  refine c_istore_n (lv2 := [(1, .int (iI 0)), (0, .ref a0)]) C dX11_isReadBack_8 (by decide) rfl ?_
  have Lp1 : ∀ (nn : Nat) (k : Int) (Lb1 : List Nat) (clb1 lnb1 : Nat → Nat) (ivb1 : Nat → Nat → Int) (rvb1 : Nat → Nat → Option Nat) , 201 - k < (nn : Int) → XT L cl ln Lb1 clb1 lnb1 → WT (g0 G) sk Lb1 clb1 lnb1 ivb1 rvb1 → fT [8, 38, 9, 39, 16, 10, 40] L cl iv rv ivb1 rvb1 → (0 ≤ k ∧ k ≤ 200) → (ivb1 (sk 15) 7 ≤ 200) → (k ≤ ivb1 (sk 15) 7 ∨ k = 0) → (ivb1 (sk 15) 7 = iv (sk 15) 7) → (RBI iv rv sk ivb1 rvb1 k) → cw p l e 6 ((PHM) + 0 - ((Phi (g0 G) sk) ln rv)) s m args below meth c G A 2 (MQ below (Qu G A (Qp G (Phi (g0 G) sk) ((Phi (g0 G) sk) ln rv) 0 (fun v L2 cl2 ln2 iv2 rv2 => ∃ f : Int, v = some (.int (iI f)) ∧ XT L cl ln L2 cl2 ln2 ∧ fT [8, 38, 9, 39, 16, 10, 40] L cl iv rv iv2 rv2 ∧ WT (g0 G) sk L2 cl2 ln2 iv2 rv2 ∧ (f = 0 ∨ f = 1) ∧ (RBX L cl ln iv rv sk f)))) args s (((PHM) + 0 - ((Phi (g0 G) sk) ln rv)) / 16) ((PHM) + 0 - ((Phi (g0 G) sk) ln rv)) A) (Phi (g0 G) sk) ((Phi (g0 G) sk) ln rv) Lb1 clb1 lnb1 ivb1 rvb1 0 9 [(1, .int (iI k)), (0, .ref a0)] [] := by
    intro nn
    induction nn with
    | zero =>
      intro  k Lb1 clb1 lnb1 ivb1 rvb1 hm Xb1 Wb1 Fb1  hk hco hkc h7s hI
      have skb1 := Xb1.skl hS
      exact absurd hm (by omega)
    | succ nn ih1 =>
      intro  k Lb1 clb1 lnb1 ivb1 rvb1 hm Xb1 Wb1 Fb1  hk hco hkc h7s hI
      have skb1 := Xb1.skl hS
      refine c_iload_n (j := 0) C dX11_isReadBack_9 rfl ?_
      refine c_aload_n (j := 1) (x := a0) C dX11_isReadBack_10 rfl ?_
      have ty1 := Xb1.ty t_a0
      obtain ⟨rb2, rq2, trb2⟩ := Wb1.ref ty1 6 rfl rfl rfl
      have erb2 := Wb1.sk trb2 (by decide) rfl
      subst erb2
      refine c_getr (k := 6) C ck_12 dX11_isReadBack_11 w2_50 (by decide) ty1 rfl rfl (by decide) rfl rq2 ?_
      refine c_st (st2 := [.ref (sk 15), .int (iI k)]) rfl ?_
      refine hv2 (Xb1.ty tsk15) (show ivb1 (sk 15) 7 = iv (sk 15) 7 from Fb1.i tsk15 rfl 7) (fun ty2 ie2 => ?_)
      have ri4 : 0 ≤ ivb1 (sk 15) 7 ∧ ivb1 (sk 15) 7 ≤ 100000 := Wb1.int ty2 7
      refine c_get (k := 7) C ck_7 dX11_isReadBack_14 w1_149 (by decide) ty2 rfl rfl (by decide) rfl ?_
      refine c_icmp_ge (tgt := 43) C (r32_c (lo := 0) (hi := 200) hk.1 hk.2 (by decide) (by decide)) (r32_c (lo := 0) (hi := 100000) ri4.1 ri4.2 (by decide) (by decide)) dX11_isReadBack_17 (by decide) (fun c1 => ?_) (fun c1 => ?_)
      · refine c_aload_n (j := 1) (x := a0) C dX11_isReadBack_43 rfl ?_
        have re1 : rvb1 a0 7 = rv a0 7 := (Fb1.r t_a0 rfl 7)
        rw [rq1] at re1
        refine c_getr (k := 7) C ck_12 dX11_isReadBack_44 w2_51 (by decide) ty1 rfl rfl (by decide) rfl re1 ?_
        refine c_st (st2 := [.ref (sk 16)]) rfl ?_
        refine hv2 (Xb1.ty tsk16) (Phi.le Wb1 skb1) (fun ty3 pl1 => ?_)
        refine d_callV (As := []) (rest := []) C hM (G_decode (a0 := (sk 16)) Wb1 skb1 ty3  ) dX11_isReadBack_47 kV_X11_335 rfl ty3 rfl rfl (by decide) ck_4 rfl (Nat.le_of_ble_eq_true rfl) ⟨(Nat.le_of_ble_eq_true rfl), (Nat.le_of_ble_eq_true rfl)⟩ hph pl1 (show 0 + 0 = 0 from rfl) (by decide) (fun rh2 Lh2 clh2 lnh2 ivh2 rvh2 h2 => ?_)
        obtain ⟨f2, rfl, xl2, fl2, W2, rgf2, exf2⟩ := h2
        refine hv20 (Fb1.call Xb1 fl2 rfl) (Xb1.ty tsk2) (Xb1.ty tsk3) (Xb1.ty tsk4) (Xb1.ty tsk5) (Xb1.ty tsk6) (Xb1.ty tsk7) (Xb1.ty tsk8) (Xb1.ty tsk9) (Xb1.ty tsk10) (Xb1.ty tsk13) (Xb1.ty tsk14) (Xb1.ty tsk17) (Xb1.ty tsk22) (Xb1.ty tsk23) (Xb1.ty tsk24) (Xb1.ty tsk25) (Xb1.ty tcb9) (Xb1.trans xl2) (xl2.skl skb1) (fun F2 ty4 ty5 ty6 ty7 ty8 ty9 ty10 ty11 ty12 ty13 ty14 ty15 ty16 ty17 ty18 ty19 ty20 X1 sk1 => ?_)
        refine c_st (st2 := [.int (iI f2)]) rfl ?_
        have gf2 : DEX Lb1 clb1 lnb1 ivb1 rvb1 sk ivh2 rvh2 f2 := exf2
        refine c_if_eq (tgt := 74) C ⟨by omega, by omega⟩ dX11_isReadBack_50 (by decide) (fun c2 => ?_) (fun c2 => ?_)
        · refine c_iconst C dX11_isReadBack_74 ?_
          refine hv5 (xl2.ty ty2) (show ivh2 (sk 15) 4 = ivb1 (sk 15) 4 from fl2.i ty2 rfl 4) (show ivb1 (sk 15) 4 = iv (sk 15) 4 from Fb1.i tsk15 rfl 4) (show ivh2 (sk 15) 7 = ivb1 (sk 15) 7 from fl2.i ty2 rfl 7) (Phi.le W2 sk1) (fun ty21 ie3 ie4 ie5 pl2 => ?_)
          refine hv2 (show 0 ≤ ivh2 (sk 15) 4 ∧ ivh2 (sk 15) 4 ≤ 500 from W2.int ty21 4) (show 0 ≤ ivh2 (sk 15) 7 ∧ ivh2 (sk 15) 7 ≤ 100000 from W2.int ty21 7) (fun ri5 ri6 => ?_)
          exact c_zret C dX11_isReadBack_75 rfl (Or.inl rfl) (by decide) (rom0 hph pl2 (by decide)) ⟨0, rfl, X1, F2, W2, (Or.inl rfl), (RBX.no hI (by omega) (fun a l0 l1 hc => hc.fr hW hS Fb1 (QT.of hW hS Xb1 Fb1 rfl rfl rfl rfl rfl) rfl rfl rfl rfl rfl rfl rfl rfl) gf2 (by omega) (by omega))⟩
        · refine c_aload_n (j := 1) (x := a0) C dX11_isReadBack_53 rfl ?_
          refine hv2 (xl2.ty ty1) (show rvh2 a0 6 = rvb1 a0 6 from (fl2.r ty1 rfl 6)) (fun ty22 re2 => ?_)
          rw [rq2] at re2
          refine c_getr (k := 6) C ck_12 dX11_isReadBack_54 w2_50 (by decide) ty22 rfl rfl (by decide) rfl re2 ?_
          refine c_st (st2 := [.ref (sk 15)]) rfl ?_
          refine c_aload_n (j := 1) (x := a0) C dX11_isReadBack_57 rfl ?_
          have re3 : rvh2 a0 7 = rvb1 a0 7 := (fl2.r ty1 rfl 7)
          rw [re1] at re3
          refine c_getr (k := 7) C ck_12 dX11_isReadBack_58 w2_51 (by decide) ty22 rfl rfl (by decide) rfl re3 ?_
          refine c_st (st2 := [.ref (sk 16), .ref (sk 15)]) rfl ?_
          have ty23 := xl2.ty ty3
          obtain ⟨rb3, rq3, trb3⟩ := W2.ref ty23 6 rfl rfl rfl
          have erb3 := W2.sk trb3 (by decide) rfl
          subst erb3
          refine c_getr (k := 6) C ck_4 dX11_isReadBack_61 w1_201 (by decide) ty23 rfl rfl (by decide) rfl rq3 ?_
          refine c_st (st2 := [.ref (sk 10), .ref (sk 15)]) rfl ?_
          refine hv5 (xl2.ty ty2) (show ivh2 (sk 15) 4 = ivb1 (sk 15) 4 from fl2.i ty2 rfl 4) (show ivb1 (sk 15) 4 = iv (sk 15) 4 from Fb1.i tsk15 rfl 4) (xl2.ty ty12) (Phi.le W2 sk1) (fun ty24 ie6 ie7 ty25 pl3 => ?_)
          have ri7 : 0 ≤ ivh2 (sk 15) 4 ∧ ivh2 (sk 15) 4 ≤ 500 := W2.int ty24 4
          refine d_callV (As := [.ref (sk 10)]) (rest := []) C hM (G_hasLetters (a0 := (sk 15)) (a1 := (sk 10)) W2 sk1 ty24 ty25  ) dX11_isReadBack_64 kV_X11_409 rfl ty24 rfl rfl (by decide) ck_7 rfl (Nat.le_of_ble_eq_true rfl) ⟨(Nat.le_of_ble_eq_true rfl), (Nat.le_of_ble_eq_true rfl)⟩ hph pl3 (show 0 + 0 = 0 from rfl) (by decide) (fun rh3 Lh3 clh3 lnh3 ivh3 rvh3 h3 => ?_)
          obtain ⟨f3, rfl, rfl, rfl, rfl, rfl, rfl, rgf3, exf3⟩ := h3
          refine c_st (st2 := [.int (iI f3)]) rfl ?_
          have gf3 : HLX ivh2 rvh2 (sk 15) (sk 10) f3 := exf3
          refine c_if_eq (tgt := 74) C ⟨by omega, by omega⟩ dX11_isReadBack_67 (by decide) (fun c3 => ?_) (fun c3 => ?_)
          · refine c_iconst C dX11_isReadBack_74 ?_
            refine hv2 (show 0 ≤ ivh2 (sk 15) 7 ∧ ivh2 (sk 15) 7 ≤ 100000 from W2.int ty24 7) (show ivh2 (sk 15) 7 = ivb1 (sk 15) 7 from fl2.i ty2 rfl 7) (fun ri8 ie8 => ?_)
            exact c_zret C dX11_isReadBack_75 rfl (Or.inl rfl) (by decide) (rom0 hph pl3 (by decide)) ⟨0, rfl, X1, F2, W2, (Or.inl rfl), (RBX.yes hI (by omega) (fun a l0 l1 hc => hc.fr hW hS Fb1 (QT.of hW hS Xb1 Fb1 rfl rfl rfl rfl rfl) rfl rfl rfl rfl rfl rfl rfl rfl) gf2 (by omega) gf3 (by omega) (fun W hl => hl.fx hW tsk15 F2 rfl rfl) (by omega))⟩
          · refine c_iconst C dX11_isReadBack_70 ?_
            refine c_goto (tgt := 75) C dX11_isReadBack_71 (by decide) ?_
            refine hv2 (show 0 ≤ ivh2 (sk 15) 7 ∧ ivh2 (sk 15) 7 ≤ 100000 from W2.int ty24 7) (show ivh2 (sk 15) 7 = ivb1 (sk 15) 7 from fl2.i ty2 rfl 7) (fun ri9 ie9 => ?_)
            exact c_zret C dX11_isReadBack_75 rfl (Or.inr rfl) (by decide) (rom0 hph pl3 (by decide)) ⟨1, rfl, X1, F2, W2, (Or.inr rfl), (RBX.yes hI (by omega) (fun a l0 l1 hc => hc.fr hW hS Fb1 (QT.of hW hS Xb1 Fb1 rfl rfl rfl rfl rfl) rfl rfl rfl rfl rfl rfl rfl rfl) gf2 (by omega) gf3 (by omega) (fun W hl => hl.fx hW tsk15 F2 rfl rfl) (by omega))⟩
      · refine c_aload_n (j := 1) (x := a0) C dX11_isReadBack_20 rfl ?_
        have re4 : rvb1 a0 7 = rv a0 7 := (Fb1.r t_a0 rfl 7)
        rw [rq1] at re4
        refine c_getr (k := 7) C ck_12 dX11_isReadBack_21 w2_51 (by decide) ty1 rfl rfl (by decide) rfl re4 ?_
        refine c_st (st2 := [.ref (sk 16)]) rfl ?_
        refine c_aload_n (j := 1) (x := a0) C dX11_isReadBack_24 rfl ?_
        refine c_getr (k := 6) C ck_12 dX11_isReadBack_25 w2_50 (by decide) ty1 rfl rfl (by decide) rfl rq2 ?_
        refine c_st (st2 := [.ref (sk 15), .ref (sk 16)]) rfl ?_
        have re5 : rvb1 (sk 15) 6 = rv (sk 15) 6 := (Fb1.r tsk15 rfl 6)
        rw [hcb9] at re5
        refine c_getr (k := 6) C ck_7 dX11_isReadBack_28 w1_146 (by decide) ty2 rfl rfl (by decide) rfl re5 ?_
        refine c_st (st2 := [.ref cb9, .ref (sk 16)]) rfl ?_
        refine c_iload_n (j := 0) C dX11_isReadBack_31 rfl ?_
        have ty26 := Xb1.ty tcb9
        have ll1 : 200 ≤ lnb1 cb9 ∧ lnb1 cb9 ≤ 200 := Wb1.len ty26 rfl
        refine c_iald C dX11_isReadBack_32 ty26 rfl (by omega) (by omega) (by omega) ?_
        refine hv2 (show (-2147483648) ≤ ivb1 cb9 k.toNat ∧ ivb1 cb9 k.toNat ≤ 2147483647 from Wb1.int ty26 k.toNat) (show ivb1 cb9 k.toNat = iv cb9 k.toNat from Fb1.i tcb9 rfl k.toNat) (fun ri10 ie10 => ?_)
        refine c_iload_n (j := 0) C dX11_isReadBack_33 rfl ?_
        refine hv2 (Xb1.ty tsk16) (Phi.le Wb1 skb1) (fun ty27 pl4 => ?_)
        refine d_callV (As := [.int (iI (ivb1 cb9 k.toNat)), .int (iI k)]) (rest := []) C hM (G_addCell (a0 := (sk 16)) (x := ivb1 cb9 k.toNat) (y := k) Wb1 skb1 ty27 (by omega) (by omega) ) dX11_isReadBack_34 kV_X11_406 rfl ty27 rfl rfl (by decide) ck_4 rfl (Nat.le_of_ble_eq_true rfl) ⟨(Nat.le_of_ble_eq_true rfl), (Nat.le_of_ble_eq_true rfl)⟩ hph pl4 (show 0 + 0 = 0 from rfl) (by decide) (fun rh4 Lh4 clh4 lnh4 ivh4 rvh4 h4 => ?_)
        obtain ⟨rfl, xl4, fl4, W4, exf4⟩ := h4
        refine hv19 (Fb1.call Xb1 fl4 rfl) (Xb1.ty tsk2) (Xb1.ty tsk3) (Xb1.ty tsk4) (Xb1.ty tsk5) (Xb1.ty tsk6) (Xb1.ty tsk7) (Xb1.ty tsk8) (Xb1.ty tsk9) (Xb1.ty tsk10) (Xb1.ty tsk13) (Xb1.ty tsk14) (Xb1.ty tsk17) (Xb1.ty tsk22) (Xb1.ty tsk23) (Xb1.ty tsk24) (Xb1.ty tsk25) (Xb1.trans xl4) (xl4.skl skb1) (fun F3 ty28 ty29 ty30 ty31 ty32 ty33 ty34 ty35 ty36 ty37 ty38 ty39 ty40 ty41 ty42 ty43 X2 sk2 => ?_)
        refine c_st (st2 := []) rfl ?_
        have gf4 : ACX ivb1 rvb1 sk ivh4 rvh4 (ivb1 cb9 k.toNat) := exf4
        refine c_iinc (z := k) (j := 0) (lv2 := [(1, .int (iI (k + 1))), (0, .ref a0)]) C dX11_isReadBack_37 rfl (by decide) rfl ?_
        refine c_goto (tgt := 9) C dX11_isReadBack_40 (by decide) ?_
        refine hv3 (xl4.ty ty2) (show ivh4 (sk 15) 7 = ivb1 (sk 15) 7 from fl4.i ty2 rfl 7) (xl4.ty ty34) (fun ty44 ie11 ty45 => ?_)
        refine hv2 (show 0 ≤ ivh4 (sk 15) 7 ∧ ivh4 (sk 15) 7 ≤ 100000 from W4.int ty44 7) (show 0 ≤ ivh4 (sk 8) 2 ∧ ivh4 (sk 8) 2 ≤ 40200 from W4.int ty45 2) (fun ri11 ri12 => ?_)
        refine c_lv (lv2 := [(1, .int (iI (k + 1))), (0, .ref a0)]) [0, 1] rfl ?_
        exact ih1  (k + 1) _ _ _ _ _ (by omega) X2 W4 F3  (by omega) (by show ivh4 (sk 15) 7 ≤ 200; omega) (by show (k + 1) ≤ ivh4 (sk 15) 7 ∨ (k + 1) = 0; omega) (ie11.trans ie2) (hI.step ⟨by omega, by omega⟩ hcb9 (Fb1.i tcb9 rfl k.toNat) gf4)
  refine hv2 (show 0 ≤ ivh1 (sk 15) 7 ∧ ivh1 (sk 15) 7 ≤ 100000 from W1.int tsk15 7) (show ivh1 (sk 15) 7 = iv (sk 15) 7 from fl1.i tsk15 rfl 7) (fun ri13 ie13 => ?_)
  refine c_lv (lv2 := [(1, .int (iI 0)), (0, .ref a0)]) [0, 1] rfl ?_
  exact Lp1 203 0 _ _ _ _ _ (by omega) hX0 W1 F1  (by omega) (by show ivh1 (sk 15) 7 ≤ 200; omega) (by show 0 ≤ ivh1 (sk 15) 7 ∨ 0 = 0; omega) ie13 (RBI.init (by omega))
end
