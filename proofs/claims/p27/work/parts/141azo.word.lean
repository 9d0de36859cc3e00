section
set_option maxHeartbeats 4000000 in
set_option maxRecDepth 100000 in
theorem G_decodeWord {l : Launch} {G : GT} {mi : Nat} {sk : Nat → Nat} {L : List Nat} {cl ln : Nat → Nat} {iv : Nat → Nat → Int} {rv : Nat → Nat → Option Nat}  {a0 : Nat} {i : Int} (hW : WT (g0 G) sk L cl ln iv rv) (hS : SKL sk L cl) (t_a0 : ty L cl a0 16) (h_i : -2147483648 ≤ i ∧ i ≤ 2147483647) (hi : 0 ≤ i ∧ i ≤ 40200) : Mc l G mi (Phi (g0 G) sk) PHM yX3_decodeWord cX3_decodeWord 6 (some .int) 4 [.ref a0, .int (iI i)] L cl ln iv rv 0 (fun v L2 cl2 ln2 iv2 rv2 => ∃ f : Int, v = some (.int (iI f)) ∧ XT L cl ln L2 cl2 ln2 ∧ fT [16, 10, 40] L cl iv rv iv2 rv2 ∧ WT (g0 G) sk L2 cl2 ln2 iv2 rv2 ∧ (-2147483648 ≤ f ∧ f ≤ 2147483647) ∧ (f ≤ 40210 ∧ DWX L cl ln iv rv sk iv2 rv2 i f)) := by
  refine Mc.mk (by decide) (Nat.le_of_ble_eq_true rfl) ?_
  intro p e s m args below meth c A C hM
  refine hv10 (Phi.le hW hS) (show ty L cl (sk 6) 6 from ⟨(hS 6 rfl).1, by rw [(hS 6 rfl).2]; rfl⟩) (show ty L cl (sk 7) 7 from ⟨(hS 7 rfl).1, by rw [(hS 7 rfl).2]; rfl⟩) (show ty L cl (sk 8) 8 from ⟨(hS 8 rfl).1, by rw [(hS 8 rfl).2]; rfl⟩) (show ty L cl (sk 9) 9 from ⟨(hS 9 rfl).1, by rw [(hS 9 rfl).2]; rfl⟩) (show ty L cl (sk 10) 10 from ⟨(hS 10 rfl).1, by rw [(hS 10 rfl).2]; rfl⟩) (show ty L cl (sk 24) 24 from ⟨(hS 24 rfl).1, by rw [(hS 24 rfl).2]; rfl⟩) (show ty L cl (sk 25) 25 from ⟨(hS 25 rfl).1, by rw [(hS 25 rfl).2]; rfl⟩) (show XT L cl ln L cl ln from XT.refl) (show fT [16, 10, 40] L cl iv rv iv rv from fT.refl) (fun hph tsk6 tsk7 tsk8 tsk9 tsk10 tsk24 tsk25 hX0 hF0 => ?_)
  refine c_iconst C dX3_decodeWord_0 ?_
  refine c_istore_n (lv2 := [(2, .int (iI 0)), (0, .ref a0), (1, .int (iI i))]) C dX3_decodeWord_1 (by decide) rfl ?_
  refine c_iconst C dX3_decodeWord_2 ?_
  refine c_istore_n (lv2 := [(3, .int (iI 0)), (2, .int (iI 0)), (0, .ref a0), (1, .int (iI i))]) C dX3_decodeWord_3 (by decide) rfl ?_
  refine c_iload_n (j := 3) C dX3_decodeWord_4 rfl ?_
  refine c_istore (lv2 := [(4, .int (iI i)), (3, .int (iI 0)), (2, .int (iI 0)), (0, .ref a0), (1, .int (iI i))]) C dX3_decodeWord_5 (by decide) rfl ?_
  have Lp1 : ∀ (nn : Nat) (sc gr aq : Int) (Lb1 : List Nat) (clb1 lnb1 : Nat → Nat) (ivb1 : Nat → Nat → Int) (rvb1 : Nat → Nat → Option Nat) , 40205 - aq < (nn : Int) → XT L cl ln Lb1 clb1 lnb1 → WT (g0 G) sk Lb1 clb1 lnb1 ivb1 rvb1 → fT [16, 10, 40] L cl iv rv ivb1 rvb1 → (sc = 0 ∨ sc = 1) → (gr = 0 ∨ gr = 1) → (0 ≤ aq ∧ aq ≤ 40204) → (i ≤ aq) → (DWI L cl ln iv rv sk ivb1 rvb1 i aq sc gr) → cw p l e 4 ((PHM) + 0 - ((Phi (g0 G) sk) ln rv)) s m args below meth c G A 6 (MQ below (Qu G A (Qp G (Phi (g0 G) sk) ((Phi (g0 G) sk) ln rv) 0 (fun v L2 cl2 ln2 iv2 rv2 => ∃ f : Int, v = some (.int (iI f)) ∧ XT L cl ln L2 cl2 ln2 ∧ fT [16, 10, 40] L cl iv rv iv2 rv2 ∧ WT (g0 G) sk L2 cl2 ln2 iv2 rv2 ∧ (-2147483648 ≤ f ∧ f ≤ 2147483647) ∧ (f ≤ 40210 ∧ DWX L cl ln iv rv sk iv2 rv2 i f)))) args s (((PHM) + 0 - ((Phi (g0 G) sk) ln rv)) / 16) ((PHM) + 0 - ((Phi (g0 G) sk) ln rv)) A) (Phi (g0 G) sk) ((Phi (g0 G) sk) ln rv) Lb1 clb1 lnb1 ivb1 rvb1 0 7 [(2, .int (iI sc)), (3, .int (iI gr)), (4, .int (iI aq)), (0, .ref a0), (1, .int (iI i))] [] := by
    intro nn
    induction nn with
    | zero =>
      intro  sc gr aq Lb1 clb1 lnb1 ivb1 rvb1 hm Xb1 Wb1 Fb1  hsc hgr haq hia hI
      have skb1 := Xb1.skl hS
      exact absurd hm (by omega)
    | succ nn ih1 =>
      intro  sc gr aq Lb1 clb1 lnb1 ivb1 rvb1 hm Xb1 Wb1 Fb1  hsc hgr haq hia hI
      have skb1 := Xb1.skl hS
      refine c_iload (j := 2) C dX3_decodeWord_7 rfl ?_
      refine c_aload_n (j := 3) (x := a0) C dX3_decodeWord_9 rfl ?_
      have ty1 := Xb1.ty t_a0
      obtain ⟨rb1, rq1, trb1⟩ := Wb1.ref ty1 4 rfl rfl rfl
      have erb1 := Wb1.sk trb1 (by decide) rfl
      subst erb1
      refine c_getr (k := 4) C ck_4 dX3_decodeWord_10 w1_198 (by decide) ty1 rfl rfl (by decide) rfl rq1 ?_
      refine c_st (st2 := [.ref (sk 8), .int (iI aq)]) rfl ?_
      refine hv2 (Xb1.ty tsk8) (show ivb1 (sk 8) 2 = iv (sk 8) 2 from Fb1.i tsk8 rfl 2) (fun ty2 ie1 => ?_)
      have ri1 : 0 ≤ ivb1 (sk 8) 2 ∧ ivb1 (sk 8) 2 ≤ 40200 := Wb1.int ty2 2
      refine c_get (k := 2) C ck_2 dX3_decodeWord_13 w1_49 (by decide) ty2 rfl rfl (by decide) rfl ?_
      refine c_icmp_ge (tgt := 158) C (r32_c (lo := 0) (hi := 40204) haq.1 haq.2 (by decide) (by decide)) (r32_c (lo := 0) (hi := 40200) ri1.1 ri1.2 (by decide) (by decide)) dX3_decodeWord_16 (by decide) (fun c1 => ?_) (fun c1 => ?_)
      · refine c_aload_n (j := 3) (x := a0) C dX3_decodeWord_158 rfl ?_
        refine c_iload (j := 2) C dX3_decodeWord_159 rfl ?_
        refine c_put (z := aq) (k := 7) C ck_4 dX3_decodeWord_161 w1_202 (by decide) rfl ty1 rfl rfl (by decide) rfl (by rfl) (by rfl) (fun iv1 pq1 => ?_)
        refine hv2 (Wb1.puti pq1 ty1 (show (-2147483648) ≤ aq ∧ aq ≤ 2147483647 by omega) rfl) (Fb1.puti Xb1 pq1 ty1 rfl) (fun W1 F1 => ?_)
        refine c_iload_n (j := 1) C dX3_decodeWord_164 rfl ?_
        refine c_if_eq (tgt := 172) C (r32_01 hgr) dX3_decodeWord_165 (by decide) (fun c2 => ?_) (fun c2 => ?_)
        · clear hgr
          refine c_iload (j := 2) C dX3_decodeWord_172 rfl ?_
          refine hv4 (show 0 ≤ iv1 (sk 8) 2 ∧ iv1 (sk 8) 2 ≤ 40200 from W1.int ty2 2) (show iv1 (sk 8) 2 = ivb1 (sk 8) 2 from by rw [pq1]; exact up2_k (ne_ty ty2 ty1 (by decide))) (Xb1.ty tsk10) (Phi.le W1 skb1) (fun ri2 ie2 ty3 pl1 => ?_)
          exact c_iret C dX3_decodeWord_174 rfl (by decide) (rom0 hph pl1 (by decide)) ⟨aq, rfl, Xb1, F1, W1, ⟨by omega, by omega⟩, ⟨by omega, hI.fin (fun a l0 l1 R hc => hc.fr hW hS Xb1 Fb1 (QT.of hW hS Xb1 Fb1 rfl rfl rfl rfl rfl) rfl rfl rfl rfl rfl rfl rfl rfl rfl rfl) ⟨by omega, by omega⟩ (Or.inl (by omega)) (by omega) (fun bs hb => hb.put9 ty3 ty1 pq1 Wb1)⟩⟩
        · replace hgr := (hgr.resolve_left c2)
          refine c_iconst C dX3_decodeWord_168 ?_
          refine c_goto (tgt := 174) C dX3_decodeWord_169 (by decide) ?_
          refine hv4 (show 0 ≤ iv1 (sk 8) 2 ∧ iv1 (sk 8) 2 ≤ 40200 from W1.int ty2 2) (show iv1 (sk 8) 2 = ivb1 (sk 8) 2 from by rw [pq1]; exact up2_k (ne_ty ty2 ty1 (by decide))) (Xb1.ty tsk10) (Phi.le W1 skb1) (fun ri3 ie3 ty4 pl2 => ?_)
          exact c_iret C dX3_decodeWord_174 rfl (by decide) (rom0 hph pl2 (by decide)) ⟨(-1), rfl, Xb1, F1, W1, ⟨by decide, by decide⟩, ⟨by omega, hI.fin (fun a l0 l1 R hc => hc.fr hW hS Xb1 Fb1 (QT.of hW hS Xb1 Fb1 rfl rfl rfl rfl rfl) rfl rfl rfl rfl rfl rfl rfl rfl rfl rfl) ⟨by omega, by omega⟩ (Or.inl (by omega)) (by omega) (fun bs hb => hb.put9 ty4 ty1 pq1 Wb1)⟩⟩
      · refine c_aload_n (j := 3) (x := a0) C dX3_decodeWord_19 rfl ?_
        refine c_getr (k := 4) C ck_4 dX3_decodeWord_20 w1_198 (by decide) ty1 rfl rfl (by decide) rfl rq1 ?_
        refine c_st (st2 := [.ref (sk 8)]) rfl ?_
        refine c_iload (j := 2) C dX3_decodeWord_23 rfl ?_
        have pl3 := Phi.le Wb1 skb1
        refine d_callV (As := [.int (iI aq)]) (rest := []) C hM (C_at_8 (a0 := (sk 8)) (i := aq) Wb1 skb1 ty2 (by omega) ) dX3_decodeWord_25 kV_X3_119 rfl ty2 rfl rfl (by decide) ck_2 rfl (Nat.le_of_ble_eq_true rfl) ⟨(Nat.le_of_ble_eq_true rfl), (Nat.le_of_ble_eq_true rfl)⟩ hph pl3 (show 0 + 0 = 0 from rfl) (by decide) (fun rh1 Lh1 clh1 lnh1 ivh1 rvh1 h1 => ?_)
        obtain ⟨f1, rfl, rfl, rfl, rfl, rfl, rfl, rgf1, exf1⟩ := h1
        refine c_st (st2 := [.int (iI f1)]) rfl ?_
        have gf1 : ((0 ≤ aq ∧ aq < ivb1 (sk 8) 2) ∨ f1 = 0) ∧ ∀ ss, CT ivb1 rvb1 (sk 8) ss → 0 ≤ aq → aq < ivb1 (sk 8) 2 → f1 = ss aq.toNat := exf1
        refine c_if_eq (tgt := 158) C ⟨by omega, by omega⟩ dX3_decodeWord_28 (by decide) (fun c3 => ?_) (fun c3 => ?_)
        · refine c_aload_n (j := 3) (x := a0) C dX3_decodeWord_158 rfl ?_
          refine c_iload (j := 2) C dX3_decodeWord_159 rfl ?_
          refine c_put (z := aq) (k := 7) C ck_4 dX3_decodeWord_161 w1_202 (by decide) rfl ty1 rfl rfl (by decide) rfl (by rfl) (by rfl) (fun iv2 pq2 => ?_)
          refine hv2 (Wb1.puti pq2 ty1 (show (-2147483648) ≤ aq ∧ aq ≤ 2147483647 by omega) rfl) (Fb1.puti Xb1 pq2 ty1 rfl) (fun W3 F2 => ?_)
          refine c_iload_n (j := 1) C dX3_decodeWord_164 rfl ?_
          refine c_if_eq (tgt := 172) C (r32_01 hgr) dX3_decodeWord_165 (by decide) (fun c4 => ?_) (fun c4 => ?_)
          · clear hgr
            refine c_iload (j := 2) C dX3_decodeWord_172 rfl ?_
            refine hv3 (show 0 ≤ iv2 (sk 8) 2 ∧ iv2 (sk 8) 2 ≤ 40200 from W3.int ty2 2) (show iv2 (sk 8) 2 = ivb1 (sk 8) 2 from by rw [pq2]; exact up2_k (ne_ty ty2 ty1 (by decide))) (Xb1.ty tsk10) (fun ri4 ie4 ty5 => ?_)
            exact c_iret C dX3_decodeWord_174 rfl (by decide) (rom0 hph pl3 (by decide)) ⟨aq, rfl, Xb1, F2, W3, ⟨by omega, by omega⟩, ⟨by omega, hI.fin (fun a l0 l1 R hc => hc.fr hW hS Xb1 Fb1 (QT.of hW hS Xb1 Fb1 rfl rfl rfl rfl rfl) rfl rfl rfl rfl rfl rfl rfl rfl rfl rfl) ⟨by omega, by omega⟩ (Or.inr ⟨by omega, fun R hR => by have q := gf1.2 R hR (by omega) (by omega); omega⟩) (by omega) (fun bs hb => hb.put9 ty5 ty1 pq2 Wb1)⟩⟩
          · replace hgr := (hgr.resolve_left c4)
            refine c_iconst C dX3_decodeWord_168 ?_
            refine c_goto (tgt := 174) C dX3_decodeWord_169 (by decide) ?_
            refine hv3 (show 0 ≤ iv2 (sk 8) 2 ∧ iv2 (sk 8) 2 ≤ 40200 from W3.int ty2 2) (show iv2 (sk 8) 2 = ivb1 (sk 8) 2 from by rw [pq2]; exact up2_k (ne_ty ty2 ty1 (by decide))) (Xb1.ty tsk10) (fun ri5 ie5 ty6 => ?_)
            exact c_iret C dX3_decodeWord_174 rfl (by decide) (rom0 hph pl3 (by decide)) ⟨(-1), rfl, Xb1, F2, W3, ⟨by decide, by decide⟩, ⟨by omega, hI.fin (fun a l0 l1 R hc => hc.fr hW hS Xb1 Fb1 (QT.of hW hS Xb1 Fb1 rfl rfl rfl rfl rfl) rfl rfl rfl rfl rfl rfl rfl rfl rfl rfl) ⟨by omega, by omega⟩ (Or.inr ⟨by omega, fun R hR => by have q := gf1.2 R hR (by omega) (by omega); omega⟩) (by omega) (fun bs hb => hb.put9 ty6 ty1 pq2 Wb1)⟩⟩
        · refine c_aload_n (j := 3) (x := a0) C dX3_decodeWord_31 rfl ?_
          refine c_iload_n (j := 0) C dX3_decodeWord_32 rfl ?_
          refine c_iload (j := 2) C dX3_decodeWord_33 rfl ?_
          refine d_callV (As := [.int (iI sc), .int (iI aq)]) (rest := []) C hM (G_longestAt (a0 := a0) (g := sc) (i := aq) Wb1 skb1 ty1 (by omega) (by omega) (by show 0 ≤ aq; omega)) dX3_decodeWord_35 kV_X3_126 rfl ty1 rfl rfl (by decide) ck_4 rfl (Nat.le_of_ble_eq_true rfl) ⟨(Nat.le_of_ble_eq_true rfl), (Nat.le_of_ble_eq_true rfl)⟩ hph pl3 (show 0 + 0 = 0 from rfl) (by decide) (fun rh2 Lh2 clh2 lnh2 ivh2 rvh2 h2 => ?_)
          obtain ⟨f2, rfl, rfl, rfl, rfl, rfl, rfl, rgf2, exf2⟩ := h2
          refine c_st (st2 := [(va_rf f2)]) rfl ?_
          have gf2 : LAX4 Lb1 clb1 lnb1 ivb1 rvb1 (if sc = 0 then sk 24 else sk 25) (if sc = 0 then sk 6 else sk 7) (sk 8) aq f2 := exf2
          refine c_astorer (r := f2) (lv2 := [(5, (va_rf f2)), (2, .int (iI sc)), (3, .int (iI gr)), (4, .int (iI aq)), (0, .ref a0), (1, .int (iI i))]) C dX3_decodeWord_38 (by decide) rfl ?_
          refine c_aloadr (j := 0) (r := f2) C dX3_decodeWord_40 rfl ?_
          refine c_ifnull (r := f2) (tgt := 57) C dX3_decodeWord_42 (by decide) (fun oq1 => ?_) (fun ob1 oq1 => ?_)
          · subst oq1
            refine c_lv (lv2 := [(5, .null), (2, .int (iI sc)), (3, .int (iI gr)), (4, .int (iI aq)), (0, .ref a0), (1, .int (iI i))]) [0, 1, 2, 3, 4, 5] rfl ?_
            refine c_st (st2 := []) rfl ?_
            refine c_aload_n (j := 4) (x := a0) C dX3_decodeWord_57 rfl ?_
            refine c_iload (j := 3) C dX3_decodeWord_58 rfl ?_
            refine c_put (z := aq) (k := 7) C ck_4 dX3_decodeWord_60 w1_202 (by decide) rfl ty1 rfl rfl (by decide) rfl (by rfl) (by rfl) (fun iv3 pq3 => ?_)
            refine hv2 (Wb1.puti pq3 ty1 (show (-2147483648) ≤ aq ∧ aq ≤ 2147483647 by omega) rfl) (Fb1.puti Xb1 pq3 ty1 rfl) (fun W5 F3 => ?_)
            refine c_iconst C dX3_decodeWord_63 ?_
            refine hv2 (show 0 ≤ iv3 (sk 8) 2 ∧ iv3 (sk 8) 2 ≤ 40200 from W5.int ty2 2) (show iv3 (sk 8) 2 = ivb1 (sk 8) 2 from by rw [pq3]; exact up2_k (ne_ty ty2 ty1 (by decide))) (fun ri6 ie6 => ?_)
            exact c_iret C dX3_decodeWord_64 rfl (by decide) (rom0 hph pl3 (by decide)) ⟨(-1), rfl, Xb1, F3, W5, ⟨by decide, by decide⟩, ⟨by omega, hI.wrong (fun a l0 l1 R hc => hc.fr hW hS Xb1 Fb1 (QT.of hW hS Xb1 Fb1 rfl rfl rfl rfl rfl) rfl rfl rfl rfl rfl rfl rfl rfl rfl rfl) ⟨by omega, by omega⟩ (fun R hR => gf1.2 R hR (by omega) (by omega)) (by omega) gf2 (by omega)⟩⟩
          · subst oq1
            refine hv2 (rgf2 ob1 rfl) (gf2) (fun tob1 wqob1 => ?_)
            refine c_lv (lv2 := [(5, .ref ob1), (2, .int (iI sc)), (3, .int (iI gr)), (4, .int (iI aq)), (0, .ref a0), (1, .int (iI i))]) [0, 1, 2, 3, 4, 5] rfl ?_
            refine c_st (st2 := []) rfl ?_
            refine c_iload_n (j := 2) C dX3_decodeWord_45 rfl ?_
            refine c_if_eq (tgt := 65) C (r32_01 hgr) dX3_decodeWord_46 (by decide) (fun c5 => ?_) (fun c5 => ?_)
            · clear hgr
              obtain ⟨l11, hl11, tl11⟩ := Wb1.ref tob1 1 rfl rfl rfl
              have hB9 : DWB L cl ln iv rv sk lnb1 ivb1 rvb1 i aq sc gr ob1 := hI.go (fun a l0 l1 R hc => hc.fr hW hS Xb1 Fb1 (QT.of hW hS Xb1 Fb1 rfl rfl rfl rfl rfl) rfl rfl rfl rfl rfl rfl rfl rfl rfl rfl) ⟨by omega, by omega⟩ (fun R hR => gf1.2 R hR (by omega) (by omega)) (by omega) wqob1 (fun e => absurd e (by omega)) ⟨_, hl11⟩
              obtain ⟨kw21, hkw21, tkw21⟩ := Wb1.ref tob1 2 rfl rfl rfl
              have ri7 : (-2147483648) ≤ ivb1 ob1 0 ∧ ivb1 ob1 0 ≤ 2147483647 := Wb1.int tob1 0
              refine c_aload (j := 0) (x := ob1) C dX3_decodeWord_65 rfl ?_
              refine c_get (k := 0) C ck_6 dX3_decodeWord_67 w3_137 (by decide) tob1 rfl rfl (by decide) rfl ?_
              refine c_iconst C dX3_decodeWord_70 ?_
              refine c_icmp_eq (tgt := 83) C (r32_c (lo := (-2147483648)) (hi := 2147483647) ri7.1 ri7.2 (by decide) (by decide)) ⟨by decide, by decide⟩ dX3_decodeWord_71 (by decide) (fun c6 => ?_) (fun c6 => ?_)
              · refine c_aload (j := 0) (x := ob1) C dX3_decodeWord_83 rfl ?_
                refine c_get (k := 0) C ck_6 dX3_decodeWord_85 w3_137 (by decide) tob1 rfl rfl (by decide) rfl ?_
                refine c_iconst C dX3_decodeWord_88 ?_
                refine c_icmp_ne (tgt := 96) C (r32_c (lo := (-2147483648)) (hi := 2147483647) ri7.1 ri7.2 (by decide) (by decide)) ⟨by decide, by decide⟩ dX3_decodeWord_89 (by decide) (fun z => absurd z (by omega)) (fun _ => ?_)
                refine c_iconst C dX3_decodeWord_92 ?_
                refine c_goto (tgt := 97) C dX3_decodeWord_93 (by decide) ?_
                refine c_istore_n (lv2 := [(2, .int (iI 1)), (5, .ref ob1), (3, .int (iI gr)), (4, .int (iI aq)), (0, .ref a0), (1, .int (iI i))]) C dX3_decodeWord_97 (by decide) rfl ?_
                refine c_aload_n (j := 4) (x := a0) C dX3_decodeWord_98 rfl ?_
                obtain ⟨rb2, rq2, trb2⟩ := Wb1.ref ty1 6 rfl rfl rfl
                have erb2 := Wb1.sk trb2 (by decide) rfl
                subst erb2
                refine c_getr (k := 6) C ck_4 dX3_decodeWord_99 w1_200 (by decide) ty1 rfl rfl (by decide) rfl rq2 ?_
                refine c_st (st2 := [.ref (sk 10)]) rfl ?_
                refine c_iload_n (j := 0) C dX3_decodeWord_102 rfl ?_
                refine c_if_eq (tgt := 111) C ⟨by decide, by decide⟩ dX3_decodeWord_103 (by decide) (fun z => absurd z (by omega)) (fun _ => ?_)
                refine c_bipush (z := 60) C dX3_decodeWord_106 (by decide) ?_
                refine c_goto (tgt := 113) C dX3_decodeWord_108 (by decide) ?_
                have ty7 := Xb1.ty tsk10
                have ri8 : 0 ≤ ivb1 (sk 10) 2 ∧ ivb1 (sk 10) 2 ≤ 4001 := Wb1.int ty7 2
                refine d_callV (As := [.int (iI 60)]) (rest := []) C hM (G_add_10 (a0 := (sk 10)) (x := 60) Wb1 skb1 ty7 ⟨by decide, by decide⟩ ) dX3_decodeWord_113 kV_X3_91 rfl ty7 rfl rfl (by decide) ck_2 rfl (Nat.le_of_ble_eq_true rfl) ⟨(Nat.le_of_ble_eq_true rfl), (Nat.le_of_ble_eq_true rfl)⟩ hph pl3 (show 0 + 0 = 0 from rfl) (by decide) (fun rh3 Lh3 clh3 lnh3 ivh3 rvh3 h3 => ?_)
                obtain ⟨rfl, xl3, fl3, W6, exf3⟩ := h3
                refine hv8 (Fb1.call Xb1 fl3 rfl) (Xb1.ty tsk6) (Xb1.ty tsk7) (Xb1.ty tsk9) (Xb1.ty tsk24) (Xb1.ty tsk25) (Xb1.trans xl3) (xl3.skl skb1) (fun F4 ty8 ty9 ty10 ty11 ty12 X1 sk1 => ?_)
                refine c_st (st2 := []) rfl ?_
                refine hv2 (xl3.ty ty7) (show ((ivh3 (sk 10) 2 = ivb1 (sk 10) 2 ∧ ivb1 (sk 10) 2 = 4001) ∨ (ivh3 (sk 10) 2 = ivb1 (sk 10) 2 + 1 ∧ ivb1 (sk 10) 2 < 4001)) ∧ (∀ ss, CT ivb1 rvb1 (sk 10) ss → ivb1 (sk 10) 2 < 4001 → CT ivh3 rvh3 (sk 10) (va_up ss (ivb1 (sk 10) 2).toNat (60 : Int))) ∧ (ivb1 (sk 10) 2 = 4001 → ∀ ss, CT ivb1 rvb1 (sk 10) ss → CT ivh3 rvh3 (sk 10) ss) from exf3) (fun ty13 gf3 => ?_)
                have ri9 : 0 ≤ ivh3 (sk 10) 2 ∧ ivh3 (sk 10) 2 ≤ 4001 := W6.int ty13 2
                refine c_aload (j := 1) (x := ob1) C dX3_decodeWord_116 rfl ?_
                refine c_aload_n (j := 4) (x := a0) C dX3_decodeWord_118 rfl ?_
                refine hv2 (xl3.ty ty1) (show rvh3 a0 6 = rvb1 a0 6 from (fl3.r ty1 rfl 6)) (fun ty14 re1 => ?_)
                rw [rq2] at re1
                refine c_getr (k := 6) C ck_4 dX3_decodeWord_119 w1_200 (by decide) ty14 rfl rfl (by decide) rfl re1 ?_
                refine c_st (st2 := [.ref (sk 10), .ref ob1]) rfl ?_
                refine c_iload_n (j := 2) C dX3_decodeWord_122 rfl ?_
                refine hv2 (xl3.ty tob1) (Phi.le W6 sk1) (fun ty15 pl4 => ?_)
                refine d_callV (As := [.ref (sk 10), .int (iI gr)]) (rest := []) C hM (G_wl (a0 := ob1) (a1 := (sk 10)) (g := gr) W6 sk1 ty15 ty13 (by omega) (by show gr = 0 ∨ gr = 1; omega)) dX3_decodeWord_123 kV_X3_137 rfl ty15 rfl rfl (by decide) ck_6 rfl (Nat.le_of_ble_eq_true rfl) ⟨(Nat.le_of_ble_eq_true rfl), (Nat.le_of_ble_eq_true rfl)⟩ hph pl4 (show 0 + 0 = 0 from rfl) (by decide) (fun rh4 Lh4 clh4 lnh4 ivh4 rvh4 h4 => ?_)
                obtain ⟨rfl, xl4, fl4, W7, exf4⟩ := h4
                refine hv10 (F4.call X1 fl4 rfl) (xl3.ty ty8) (xl3.ty ty9) (xl3.ty ty2) (xl3.ty ty10) (xl3.ty ty11) (xl3.ty ty12) (xl3.ty tkw21) (X1.trans xl4) (xl4.skl sk1) (fun F5 ty16 ty17 ty18 ty19 ty20 ty21 ty22 X2 sk2 => ?_)
                refine c_st (st2 := []) rfl ?_
                have gf4 : WLQ ivh3 rvh3 ivh4 rvh4 lnh3 ob1 (sk 10) gr := exf4
                refine c_aload (j := 1) (x := ob1) C dX3_decodeWord_126 rfl ?_
                refine hv3 (xl4.ty ty15) (show ivh4 ob1 0 = ivh3 ob1 0 from fl4.i ty15 rfl 0) (show ivh3 ob1 0 = ivb1 ob1 0 from fl3.i tob1 rfl 0) (fun ty23 ie10 ie11 => ?_)
                have ri10 : (-2147483648) ≤ ivh4 ob1 0 ∧ ivh4 ob1 0 ≤ 2147483647 := W7.int ty23 0
                refine c_get (k := 0) C ck_6 dX3_decodeWord_128 w3_137 (by decide) ty23 rfl rfl (by decide) rfl ?_
                refine c_if_ne (tgt := 138) C (r32_c (lo := (-2147483648)) (hi := 2147483647) ri10.1 ri10.2 (by decide) (by decide)) dX3_decodeWord_131 (by decide) (fun c7 => ?_) (fun c7 => ?_)
                · refine c_iconst C dX3_decodeWord_138 ?_
                  refine c_istore_n (lv2 := [(3, .int (iI 0)), (2, .int (iI 1)), (5, .ref ob1), (4, .int (iI aq)), (0, .ref a0), (1, .int (iI i))]) C dX3_decodeWord_139 (by decide) rfl ?_
                  refine c_iload (j := 3) C dX3_decodeWord_140 rfl ?_
                  refine c_iconst C dX3_decodeWord_142 ?_
                  refine c_aload (j := 2) (x := ob1) C dX3_decodeWord_143 rfl ?_
                  have re2 : rvh3 ob1 2 = rvb1 ob1 2 := (fl3.r tob1 rfl 2)
                  rw [hkw21] at re2
                  have re3 : rvh4 ob1 2 = rvh3 ob1 2 := (fl4.r ty15 rfl 2)
                  rw [re2] at re3
                  refine c_getr (k := 2) C ck_6 dX3_decodeWord_145 w3_143 (by decide) ty23 rfl rfl (by decide) rfl re3 ?_
                  refine c_st (st2 := [.ref kw21, .int (iI 1), .int (iI aq)]) rfl ?_
                  have ty24 := xl4.ty ty22
                  have ll1 : 1 ≤ lnh4 kw21 ∧ lnh4 kw21 ≤ 4 := W7.len ty24 rfl
                  refine c_alenI C dX3_decodeWord_148 ty24 rfl ?_
                  obtain ⟨mn1, hmn1, emn1⟩ := mmax_c (x := 1) (y := ((lnh4 kw21 : Nat) : Int)) ⟨by decide, by decide⟩ ⟨by omega, by omega⟩
                  have pl5 := Phi.le W7 sk2
                  refine c_mmax (w := iI mn1) C dX3_decodeWord_149 w5_105 w2_148 w1_14 w2_149 (by decide) (rom0 hph pl5 (by decide)) (Nat.le_of_ble_eq_true rfl) emn1 ?_
                  refine c_iadd C dX3_decodeWord_152 ?_
                  refine c_istore (lv2 := [(4, .int (iI (aq + mn1))), (3, .int (iI 0)), (2, .int (iI 1)), (5, .ref ob1), (0, .ref a0), (1, .int (iI i))]) C dX3_decodeWord_153 (by decide) rfl ?_
                  refine c_goto (tgt := 7) C dX3_decodeWord_155 (by decide) ?_
                  refine hv5 (xl4.ty ty18) (show ivh4 (sk 8) 2 = ivh3 (sk 8) 2 from fl4.i ty18 rfl 2) (show ivh3 (sk 8) 2 = ivb1 (sk 8) 2 from fl3.i ty2 rfl 2) (show lnh3 kw21 = lnb1 kw21 from (xl3 kw21 tkw21.1).2.2) (show lnh4 kw21 = lnh3 kw21 from (xl4 kw21 ty22.1).2.2) (fun ty25 ie12 ie13 le1 le2 => ?_)
                  have ri11 : 0 ≤ ivh4 (sk 8) 2 ∧ ivh4 (sk 8) 2 ≤ 40200 := W7.int ty25 2
                  refine c_lv (lv2 := [(2, .int (iI 1)), (3, .int (iI 0)), (4, .int (iI (aq + mn1))), (0, .ref a0), (1, .int (iI i))]) [2, 1, 0, 4, 5] rfl ?_
                  exact ih1  1 0 (aq + mn1) _ _ _ _ _ (by omega) X2 W7 F5  (by omega) (by omega) (by omega) (by omega) (hB9.turn (by omega) gf3 (fun a d q => q.keep tob1 Wb1 xl3 (KP.fr Wb1 fl3 rfl)) gf4 hkw21 (by omega) (by omega))
                · refine c_iconst C dX3_decodeWord_134 ?_
                  refine c_goto (tgt := 139) C dX3_decodeWord_135 (by decide) ?_
                  refine c_istore_n (lv2 := [(3, .int (iI 1)), (2, .int (iI 1)), (5, .ref ob1), (4, .int (iI aq)), (0, .ref a0), (1, .int (iI i))]) C dX3_decodeWord_139 (by decide) rfl ?_
                  refine c_iload (j := 3) C dX3_decodeWord_140 rfl ?_
                  refine c_iconst C dX3_decodeWord_142 ?_
                  refine c_aload (j := 2) (x := ob1) C dX3_decodeWord_143 rfl ?_
                  have re4 : rvh3 ob1 2 = rvb1 ob1 2 := (fl3.r tob1 rfl 2)
                  rw [hkw21] at re4
                  have re5 : rvh4 ob1 2 = rvh3 ob1 2 := (fl4.r ty15 rfl 2)
                  rw [re4] at re5
                  refine c_getr (k := 2) C ck_6 dX3_decodeWord_145 w3_143 (by decide) ty23 rfl rfl (by decide) rfl re5 ?_
                  refine c_st (st2 := [.ref kw21, .int (iI 1), .int (iI aq)]) rfl ?_
                  have ty26 := xl4.ty ty22
                  have ll2 : 1 ≤ lnh4 kw21 ∧ lnh4 kw21 ≤ 4 := W7.len ty26 rfl
                  refine c_alenI C dX3_decodeWord_148 ty26 rfl ?_
                  obtain ⟨mn2, hmn2, emn2⟩ := mmax_c (x := 1) (y := ((lnh4 kw21 : Nat) : Int)) ⟨by decide, by decide⟩ ⟨by omega, by omega⟩
                  have pl6 := Phi.le W7 sk2
                  refine c_mmax (w := iI mn2) C dX3_decodeWord_149 w5_105 w2_148 w1_14 w2_149 (by decide) (rom0 hph pl6 (by decide)) (Nat.le_of_ble_eq_true rfl) emn2 ?_
                  refine c_iadd C dX3_decodeWord_152 ?_
                  refine c_istore (lv2 := [(4, .int (iI (aq + mn2))), (3, .int (iI 1)), (2, .int (iI 1)), (5, .ref ob1), (0, .ref a0), (1, .int (iI i))]) C dX3_decodeWord_153 (by decide) rfl ?_
                  refine c_goto (tgt := 7) C dX3_decodeWord_155 (by decide) ?_
                  refine hv5 (xl4.ty ty18) (show ivh4 (sk 8) 2 = ivh3 (sk 8) 2 from fl4.i ty18 rfl 2) (show ivh3 (sk 8) 2 = ivb1 (sk 8) 2 from fl3.i ty2 rfl 2) (show lnh3 kw21 = lnb1 kw21 from (xl3 kw21 tkw21.1).2.2) (show lnh4 kw21 = lnh3 kw21 from (xl4 kw21 ty22.1).2.2) (fun ty27 ie14 ie15 le3 le4 => ?_)
                  have ri12 : 0 ≤ ivh4 (sk 8) 2 ∧ ivh4 (sk 8) 2 ≤ 40200 := W7.int ty27 2
                  refine c_lv (lv2 := [(2, .int (iI 1)), (3, .int (iI 1)), (4, .int (iI (aq + mn2))), (0, .ref a0), (1, .int (iI i))]) [2, 1, 0, 4, 5] rfl ?_
                  exact ih1  1 1 (aq + mn2) _ _ _ _ _ (by omega) X2 W7 F5  (by omega) (by omega) (by omega) (by omega) (hB9.turn (by omega) gf3 (fun a d q => q.keep tob1 Wb1 xl3 (KP.fr Wb1 fl3 rfl)) gf4 hkw21 (by omega) (by omega))
              · refine c_aload (j := 0) (x := ob1) C dX3_decodeWord_74 rfl ?_
                refine c_get (k := 0) C ck_6 dX3_decodeWord_76 w3_137 (by decide) tob1 rfl rfl (by decide) rfl ?_
                refine c_iconst C dX3_decodeWord_79 ?_
                refine c_icmp_ne (tgt := 116) C (r32_c (lo := (-2147483648)) (hi := 2147483647) ri7.1 ri7.2 (by decide) (by decide)) ⟨by decide, by decide⟩ dX3_decodeWord_80 (by decide) (fun c8 => ?_) (fun c8 => ?_)
                · refine c_aload (j := 0) (x := ob1) C dX3_decodeWord_116 rfl ?_
                  refine c_aload_n (j := 4) (x := a0) C dX3_decodeWord_118 rfl ?_
                  obtain ⟨rb3, rq3, trb3⟩ := Wb1.ref ty1 6 rfl rfl rfl
                  have erb3 := Wb1.sk trb3 (by decide) rfl
                  subst erb3
                  refine c_getr (k := 6) C ck_4 dX3_decodeWord_119 w1_200 (by decide) ty1 rfl rfl (by decide) rfl rq3 ?_
                  refine c_st (st2 := [.ref (sk 10), .ref ob1]) rfl ?_
                  refine c_iload_n (j := 2) C dX3_decodeWord_122 rfl ?_
                  have ty28 := Xb1.ty tsk10
                  refine d_callV (As := [.ref (sk 10), .int (iI gr)]) (rest := []) C hM (G_wl (a0 := ob1) (a1 := (sk 10)) (g := gr) Wb1 skb1 tob1 ty28 (by omega) (by show gr = 0 ∨ gr = 1; omega)) dX3_decodeWord_123 kV_X3_137 rfl tob1 rfl rfl (by decide) ck_6 rfl (Nat.le_of_ble_eq_true rfl) ⟨(Nat.le_of_ble_eq_true rfl), (Nat.le_of_ble_eq_true rfl)⟩ hph pl3 (show 0 + 0 = 0 from rfl) (by decide) (fun rh5 Lh5 clh5 lnh5 ivh5 rvh5 h5 => ?_)
                  obtain ⟨rfl, xl5, fl5, W8, exf5⟩ := h5
                  refine hv8 (Fb1.call Xb1 fl5 rfl) (Xb1.ty tsk6) (Xb1.ty tsk7) (Xb1.ty tsk9) (Xb1.ty tsk24) (Xb1.ty tsk25) (Xb1.trans xl5) (xl5.skl skb1) (fun F6 ty29 ty30 ty31 ty32 ty33 X3 sk3 => ?_)
                  refine c_st (st2 := []) rfl ?_
                  have gf5 : WLQ ivb1 rvb1 ivh5 rvh5 lnb1 ob1 (sk 10) gr := exf5
                  refine c_aload (j := 0) (x := ob1) C dX3_decodeWord_126 rfl ?_
                  refine hv2 (xl5.ty tob1) (show ivh5 ob1 0 = ivb1 ob1 0 from fl5.i tob1 rfl 0) (fun ty34 ie16 => ?_)
                  have ri13 : (-2147483648) ≤ ivh5 ob1 0 ∧ ivh5 ob1 0 ≤ 2147483647 := W8.int ty34 0
                  refine c_get (k := 0) C ck_6 dX3_decodeWord_128 w3_137 (by decide) ty34 rfl rfl (by decide) rfl ?_
                  refine c_if_ne (tgt := 138) C (r32_c (lo := (-2147483648)) (hi := 2147483647) ri13.1 ri13.2 (by decide) (by decide)) dX3_decodeWord_131 (by decide) (fun c9 => ?_) (fun c9 => ?_)
                  · refine c_iconst C dX3_decodeWord_138 ?_
                    refine c_istore_n (lv2 := [(3, .int (iI 0)), (5, .ref ob1), (2, .int (iI sc)), (4, .int (iI aq)), (0, .ref a0), (1, .int (iI i))]) C dX3_decodeWord_139 (by decide) rfl ?_
                    refine c_iload (j := 3) C dX3_decodeWord_140 rfl ?_
                    refine c_iconst C dX3_decodeWord_142 ?_
                    refine c_aload (j := 1) (x := ob1) C dX3_decodeWord_143 rfl ?_
                    have re6 : rvh5 ob1 2 = rvb1 ob1 2 := (fl5.r tob1 rfl 2)
                    rw [hkw21] at re6
                    refine c_getr (k := 2) C ck_6 dX3_decodeWord_145 w3_143 (by decide) ty34 rfl rfl (by decide) rfl re6 ?_
                    refine c_st (st2 := [.ref kw21, .int (iI 1), .int (iI aq)]) rfl ?_
                    have ty35 := xl5.ty tkw21
                    have ll3 : 1 ≤ lnh5 kw21 ∧ lnh5 kw21 ≤ 4 := W8.len ty35 rfl
                    refine c_alenI C dX3_decodeWord_148 ty35 rfl ?_
                    obtain ⟨mn3, hmn3, emn3⟩ := mmax_c (x := 1) (y := ((lnh5 kw21 : Nat) : Int)) ⟨by decide, by decide⟩ ⟨by omega, by omega⟩
                    have pl7 := Phi.le W8 sk3
                    refine c_mmax (w := iI mn3) C dX3_decodeWord_149 w5_105 w2_148 w1_14 w2_149 (by decide) (rom0 hph pl7 (by decide)) (Nat.le_of_ble_eq_true rfl) emn3 ?_
                    refine c_iadd C dX3_decodeWord_152 ?_
                    refine c_istore (lv2 := [(4, .int (iI (aq + mn3))), (3, .int (iI 0)), (5, .ref ob1), (2, .int (iI sc)), (0, .ref a0), (1, .int (iI i))]) C dX3_decodeWord_153 (by decide) rfl ?_
                    refine c_goto (tgt := 7) C dX3_decodeWord_155 (by decide) ?_
                    refine hv3 (xl5.ty ty2) (show ivh5 (sk 8) 2 = ivb1 (sk 8) 2 from fl5.i ty2 rfl 2) (show lnh5 kw21 = lnb1 kw21 from (xl5 kw21 tkw21.1).2.2) (fun ty36 ie17 le5 => ?_)
                    have ri14 : 0 ≤ ivh5 (sk 8) 2 ∧ ivh5 (sk 8) 2 ≤ 40200 := W8.int ty36 2
                    refine c_lv (lv2 := [(2, .int (iI sc)), (3, .int (iI 0)), (4, .int (iI (aq + mn3))), (0, .ref a0), (1, .int (iI i))]) [3, 1, 0, 4, 5] rfl ?_
                    exact ih1  sc 0 (aq + mn3) _ _ _ _ _ (by omega) X3 W8 F6  (by omega) (by omega) (by omega) (by omega) (hB9.next ⟨by omega, by omega⟩ gf5 hkw21 (by omega) (by omega))
                  · refine c_iconst C dX3_decodeWord_134 ?_
                    refine c_goto (tgt := 139) C dX3_decodeWord_135 (by decide) ?_
                    refine c_istore_n (lv2 := [(3, .int (iI 1)), (5, .ref ob1), (2, .int (iI sc)), (4, .int (iI aq)), (0, .ref a0), (1, .int (iI i))]) C dX3_decodeWord_139 (by decide) rfl ?_
                    refine c_iload (j := 3) C dX3_decodeWord_140 rfl ?_
                    refine c_iconst C dX3_decodeWord_142 ?_
                    refine c_aload (j := 1) (x := ob1) C dX3_decodeWord_143 rfl ?_
                    have re7 : rvh5 ob1 2 = rvb1 ob1 2 := (fl5.r tob1 rfl 2)
                    rw [hkw21] at re7
                    refine c_getr (k := 2) C ck_6 dX3_decodeWord_145 w3_143 (by decide) ty34 rfl rfl (by decide) rfl re7 ?_
                    refine c_st (st2 := [.ref kw21, .int (iI 1), .int (iI aq)]) rfl ?_
                    have ty37 := xl5.ty tkw21
                    have ll4 : 1 ≤ lnh5 kw21 ∧ lnh5 kw21 ≤ 4 := W8.len ty37 rfl
                    refine c_alenI C dX3_decodeWord_148 ty37 rfl ?_
                    obtain ⟨mn4, hmn4, emn4⟩ := mmax_c (x := 1) (y := ((lnh5 kw21 : Nat) : Int)) ⟨by decide, by decide⟩ ⟨by omega, by omega⟩
                    have pl8 := Phi.le W8 sk3
                    refine c_mmax (w := iI mn4) C dX3_decodeWord_149 w5_105 w2_148 w1_14 w2_149 (by decide) (rom0 hph pl8 (by decide)) (Nat.le_of_ble_eq_true rfl) emn4 ?_
                    refine c_iadd C dX3_decodeWord_152 ?_
                    refine c_istore (lv2 := [(4, .int (iI (aq + mn4))), (3, .int (iI 1)), (5, .ref ob1), (2, .int (iI sc)), (0, .ref a0), (1, .int (iI i))]) C dX3_decodeWord_153 (by decide) rfl ?_
                    refine c_goto (tgt := 7) C dX3_decodeWord_155 (by decide) ?_
                    refine hv3 (xl5.ty ty2) (show ivh5 (sk 8) 2 = ivb1 (sk 8) 2 from fl5.i ty2 rfl 2) (show lnh5 kw21 = lnb1 kw21 from (xl5 kw21 tkw21.1).2.2) (fun ty38 ie18 le6 => ?_)
                    have ri15 : 0 ≤ ivh5 (sk 8) 2 ∧ ivh5 (sk 8) 2 ≤ 40200 := W8.int ty38 2
                    refine c_lv (lv2 := [(2, .int (iI sc)), (3, .int (iI 1)), (4, .int (iI (aq + mn4))), (0, .ref a0), (1, .int (iI i))]) [3, 1, 0, 4, 5] rfl ?_
                    exact ih1  sc 1 (aq + mn4) _ _ _ _ _ (by omega) X3 W8 F6  (by omega) (by omega) (by omega) (by omega) (hB9.next ⟨by omega, by omega⟩ gf5 hkw21 (by omega) (by omega))
                · refine c_aload (j := 0) (x := ob1) C dX3_decodeWord_83 rfl ?_
                  refine c_get (k := 0) C ck_6 dX3_decodeWord_85 w3_137 (by decide) tob1 rfl rfl (by decide) rfl ?_
                  refine c_iconst C dX3_decodeWord_88 ?_
                  refine c_icmp_ne (tgt := 96) C (r32_c (lo := (-2147483648)) (hi := 2147483647) ri7.1 ri7.2 (by decide) (by decide)) ⟨by decide, by decide⟩ dX3_decodeWord_89 (by decide) (fun _ => ?_) (fun z => absurd z (by omega))
                  refine c_iconst C dX3_decodeWord_96 ?_
                  refine c_istore_n (lv2 := [(2, .int (iI 0)), (5, .ref ob1), (3, .int (iI gr)), (4, .int (iI aq)), (0, .ref a0), (1, .int (iI i))]) C dX3_decodeWord_97 (by decide) rfl ?_
                  refine c_aload_n (j := 4) (x := a0) C dX3_decodeWord_98 rfl ?_
                  obtain ⟨rb4, rq4, trb4⟩ := Wb1.ref ty1 6 rfl rfl rfl
                  have erb4 := Wb1.sk trb4 (by decide) rfl
                  subst erb4
                  refine c_getr (k := 6) C ck_4 dX3_decodeWord_99 w1_200 (by decide) ty1 rfl rfl (by decide) rfl rq4 ?_
                  refine c_st (st2 := [.ref (sk 10)]) rfl ?_
                  refine c_iload_n (j := 0) C dX3_decodeWord_102 rfl ?_
                  refine c_if_eq (tgt := 111) C ⟨by decide, by decide⟩ dX3_decodeWord_103 (by decide) (fun _ => ?_) (fun z => absurd z (by omega))
                  refine c_bipush (z := 62) C dX3_decodeWord_111 (by decide) ?_
                  have ty39 := Xb1.ty tsk10
                  have ri16 : 0 ≤ ivb1 (sk 10) 2 ∧ ivb1 (sk 10) 2 ≤ 4001 := Wb1.int ty39 2
                  refine d_callV (As := [.int (iI 62)]) (rest := []) C hM (G_add_10 (a0 := (sk 10)) (x := 62) Wb1 skb1 ty39 ⟨by decide, by decide⟩ ) dX3_decodeWord_113 kV_X3_91 rfl ty39 rfl rfl (by decide) ck_2 rfl (Nat.le_of_ble_eq_true rfl) ⟨(Nat.le_of_ble_eq_true rfl), (Nat.le_of_ble_eq_true rfl)⟩ hph pl3 (show 0 + 0 = 0 from rfl) (by decide) (fun rh6 Lh6 clh6 lnh6 ivh6 rvh6 h6 => ?_)
                  obtain ⟨rfl, xl6, fl6, W9, exf6⟩ := h6
                  refine hv8 (Fb1.call Xb1 fl6 rfl) (Xb1.ty tsk6) (Xb1.ty tsk7) (Xb1.ty tsk9) (Xb1.ty tsk24) (Xb1.ty tsk25) (Xb1.trans xl6) (xl6.skl skb1) (fun F7 ty40 ty41 ty42 ty43 ty44 X4 sk4 => ?_)
                  refine c_st (st2 := []) rfl ?_
                  refine hv2 (xl6.ty ty39) (show ((ivh6 (sk 10) 2 = ivb1 (sk 10) 2 ∧ ivb1 (sk 10) 2 = 4001) ∨ (ivh6 (sk 10) 2 = ivb1 (sk 10) 2 + 1 ∧ ivb1 (sk 10) 2 < 4001)) ∧ (∀ ss, CT ivb1 rvb1 (sk 10) ss → ivb1 (sk 10) 2 < 4001 → CT ivh6 rvh6 (sk 10) (va_up ss (ivb1 (sk 10) 2).toNat (62 : Int))) ∧ (ivb1 (sk 10) 2 = 4001 → ∀ ss, CT ivb1 rvb1 (sk 10) ss → CT ivh6 rvh6 (sk 10) ss) from exf6) (fun ty45 gf6 => ?_)
                  have ri17 : 0 ≤ ivh6 (sk 10) 2 ∧ ivh6 (sk 10) 2 ≤ 4001 := W9.int ty45 2
                  refine c_aload (j := 1) (x := ob1) C dX3_decodeWord_116 rfl ?_
                  refine c_aload_n (j := 4) (x := a0) C dX3_decodeWord_118 rfl ?_
                  refine hv2 (xl6.ty ty1) (show rvh6 a0 6 = rvb1 a0 6 from (fl6.r ty1 rfl 6)) (fun ty46 re8 => ?_)
                  rw [rq4] at re8
                  refine c_getr (k := 6) C ck_4 dX3_decodeWord_119 w1_200 (by decide) ty46 rfl rfl (by decide) rfl re8 ?_
                  refine c_st (st2 := [.ref (sk 10), .ref ob1]) rfl ?_
                  refine c_iload_n (j := 2) C dX3_decodeWord_122 rfl ?_
                  refine hv2 (xl6.ty tob1) (Phi.le W9 sk4) (fun ty47 pl9 => ?_)
                  refine d_callV (As := [.ref (sk 10), .int (iI gr)]) (rest := []) C hM (G_wl (a0 := ob1) (a1 := (sk 10)) (g := gr) W9 sk4 ty47 ty45 (by omega) (by show gr = 0 ∨ gr = 1; omega)) dX3_decodeWord_123 kV_X3_137 rfl ty47 rfl rfl (by decide) ck_6 rfl (Nat.le_of_ble_eq_true rfl) ⟨(Nat.le_of_ble_eq_true rfl), (Nat.le_of_ble_eq_true rfl)⟩ hph pl9 (show 0 + 0 = 0 from rfl) (by decide) (fun rh7 Lh7 clh7 lnh7 ivh7 rvh7 h7 => ?_)
                  obtain ⟨rfl, xl7, fl7, W10, exf7⟩ := h7
                  refine hv10 (F7.call X4 fl7 rfl) (xl6.ty ty40) (xl6.ty ty41) (xl6.ty ty2) (xl6.ty ty42) (xl6.ty ty43) (xl6.ty ty44) (xl6.ty tkw21) (X4.trans xl7) (xl7.skl sk4) (fun F8 ty48 ty49 ty50 ty51 ty52 ty53 ty54 X5 sk5 => ?_)
                  refine c_st (st2 := []) rfl ?_
                  have gf7 : WLQ ivh6 rvh6 ivh7 rvh7 lnh6 ob1 (sk 10) gr := exf7
                  refine c_aload (j := 1) (x := ob1) C dX3_decodeWord_126 rfl ?_
                  refine hv3 (xl7.ty ty47) (show ivh7 ob1 0 = ivh6 ob1 0 from fl7.i ty47 rfl 0) (show ivh6 ob1 0 = ivb1 ob1 0 from fl6.i tob1 rfl 0) (fun ty55 ie21 ie22 => ?_)
                  have ri18 : (-2147483648) ≤ ivh7 ob1 0 ∧ ivh7 ob1 0 ≤ 2147483647 := W10.int ty55 0
                  refine c_get (k := 0) C ck_6 dX3_decodeWord_128 w3_137 (by decide) ty55 rfl rfl (by decide) rfl ?_
                  refine c_if_ne (tgt := 138) C (r32_c (lo := (-2147483648)) (hi := 2147483647) ri18.1 ri18.2 (by decide) (by decide)) dX3_decodeWord_131 (by decide) (fun c10 => ?_) (fun c10 => ?_)
                  · refine c_iconst C dX3_decodeWord_138 ?_
                    refine c_istore_n (lv2 := [(3, .int (iI 0)), (2, .int (iI 0)), (5, .ref ob1), (4, .int (iI aq)), (0, .ref a0), (1, .int (iI i))]) C dX3_decodeWord_139 (by decide) rfl ?_
                    refine c_iload (j := 3) C dX3_decodeWord_140 rfl ?_
                    refine c_iconst C dX3_decodeWord_142 ?_
                    refine c_aload (j := 2) (x := ob1) C dX3_decodeWord_143 rfl ?_
                    have re9 : rvh6 ob1 2 = rvb1 ob1 2 := (fl6.r tob1 rfl 2)
                    rw [hkw21] at re9
                    have re10 : rvh7 ob1 2 = rvh6 ob1 2 := (fl7.r ty47 rfl 2)
                    rw [re9] at re10
                    refine c_getr (k := 2) C ck_6 dX3_decodeWord_145 w3_143 (by decide) ty55 rfl rfl (by decide) rfl re10 ?_
                    refine c_st (st2 := [.ref kw21, .int (iI 1), .int (iI aq)]) rfl ?_
                    have ty56 := xl7.ty ty54
                    have ll5 : 1 ≤ lnh7 kw21 ∧ lnh7 kw21 ≤ 4 := W10.len ty56 rfl
                    refine c_alenI C dX3_decodeWord_148 ty56 rfl ?_
                    obtain ⟨mn5, hmn5, emn5⟩ := mmax_c (x := 1) (y := ((lnh7 kw21 : Nat) : Int)) ⟨by decide, by decide⟩ ⟨by omega, by omega⟩
                    have pl10 := Phi.le W10 sk5
                    refine c_mmax (w := iI mn5) C dX3_decodeWord_149 w5_105 w2_148 w1_14 w2_149 (by decide) (rom0 hph pl10 (by decide)) (Nat.le_of_ble_eq_true rfl) emn5 ?_
                    refine c_iadd C dX3_decodeWord_152 ?_
                    refine c_istore (lv2 := [(4, .int (iI (aq + mn5))), (3, .int (iI 0)), (2, .int (iI 0)), (5, .ref ob1), (0, .ref a0), (1, .int (iI i))]) C dX3_decodeWord_153 (by decide) rfl ?_
                    refine c_goto (tgt := 7) C dX3_decodeWord_155 (by decide) ?_
                    refine hv5 (xl7.ty ty50) (show ivh7 (sk 8) 2 = ivh6 (sk 8) 2 from fl7.i ty50 rfl 2) (show ivh6 (sk 8) 2 = ivb1 (sk 8) 2 from fl6.i ty2 rfl 2) (show lnh6 kw21 = lnb1 kw21 from (xl6 kw21 tkw21.1).2.2) (show lnh7 kw21 = lnh6 kw21 from (xl7 kw21 ty54.1).2.2) (fun ty57 ie23 ie24 le7 le8 => ?_)
                    have ri19 : 0 ≤ ivh7 (sk 8) 2 ∧ ivh7 (sk 8) 2 ≤ 40200 := W10.int ty57 2
                    refine c_lv (lv2 := [(2, .int (iI 0)), (3, .int (iI 0)), (4, .int (iI (aq + mn5))), (0, .ref a0), (1, .int (iI i))]) [2, 1, 0, 4, 5] rfl ?_
                    exact ih1  0 0 (aq + mn5) _ _ _ _ _ (by omega) X5 W10 F8  (by omega) (by omega) (by omega) (by omega) (hB9.turn (by omega) gf6 (fun a d q => q.keep tob1 Wb1 xl6 (KP.fr Wb1 fl6 rfl)) gf7 hkw21 (by omega) (by omega))
                  · refine c_iconst C dX3_decodeWord_134 ?_
                    refine c_goto (tgt := 139) C dX3_decodeWord_135 (by decide) ?_
                    refine c_istore_n (lv2 := [(3, .int (iI 1)), (2, .int (iI 0)), (5, .ref ob1), (4, .int (iI aq)), (0, .ref a0), (1, .int (iI i))]) C dX3_decodeWord_139 (by decide) rfl ?_
                    refine c_iload (j := 3) C dX3_decodeWord_140 rfl ?_
                    refine c_iconst C dX3_decodeWord_142 ?_
                    refine c_aload (j := 2) (x := ob1) C dX3_decodeWord_143 rfl ?_
                    have re11 : rvh6 ob1 2 = rvb1 ob1 2 := (fl6.r tob1 rfl 2)
                    rw [hkw21] at re11
                    have re12 : rvh7 ob1 2 = rvh6 ob1 2 := (fl7.r ty47 rfl 2)
                    rw [re11] at re12
                    refine c_getr (k := 2) C ck_6 dX3_decodeWord_145 w3_143 (by decide) ty55 rfl rfl (by decide) rfl re12 ?_
                    refine c_st (st2 := [.ref kw21, .int (iI 1), .int (iI aq)]) rfl ?_
                    have ty58 := xl7.ty ty54
                    have ll6 : 1 ≤ lnh7 kw21 ∧ lnh7 kw21 ≤ 4 := W10.len ty58 rfl
                    refine c_alenI C dX3_decodeWord_148 ty58 rfl ?_
                    obtain ⟨mn6, hmn6, emn6⟩ := mmax_c (x := 1) (y := ((lnh7 kw21 : Nat) : Int)) ⟨by decide, by decide⟩ ⟨by omega, by omega⟩
                    have pl11 := Phi.le W10 sk5
                    refine c_mmax (w := iI mn6) C dX3_decodeWord_149 w5_105 w2_148 w1_14 w2_149 (by decide) (rom0 hph pl11 (by decide)) (Nat.le_of_ble_eq_true rfl) emn6 ?_
                    refine c_iadd C dX3_decodeWord_152 ?_
                    refine c_istore (lv2 := [(4, .int (iI (aq + mn6))), (3, .int (iI 1)), (2, .int (iI 0)), (5, .ref ob1), (0, .ref a0), (1, .int (iI i))]) C dX3_decodeWord_153 (by decide) rfl ?_
                    refine c_goto (tgt := 7) C dX3_decodeWord_155 (by decide) ?_
                    refine hv5 (xl7.ty ty50) (show ivh7 (sk 8) 2 = ivh6 (sk 8) 2 from fl7.i ty50 rfl 2) (show ivh6 (sk 8) 2 = ivb1 (sk 8) 2 from fl6.i ty2 rfl 2) (show lnh6 kw21 = lnb1 kw21 from (xl6 kw21 tkw21.1).2.2) (show lnh7 kw21 = lnh6 kw21 from (xl7 kw21 ty54.1).2.2) (fun ty59 ie25 ie26 le9 le10 => ?_)
                    have ri20 : 0 ≤ ivh7 (sk 8) 2 ∧ ivh7 (sk 8) 2 ≤ 40200 := W10.int ty59 2
                    refine c_lv (lv2 := [(2, .int (iI 0)), (3, .int (iI 1)), (4, .int (iI (aq + mn6))), (0, .ref a0), (1, .int (iI i))]) [2, 1, 0, 4, 5] rfl ?_
                    exact ih1  0 1 (aq + mn6) _ _ _ _ _ (by omega) X5 W10 F8  (by omega) (by omega) (by omega) (by omega) (hB9.turn (by omega) gf6 (fun a d q => q.keep tob1 Wb1 xl6 (KP.fr Wb1 fl6 rfl)) gf7 hkw21 (by omega) (by omega))
            · replace hgr := (hgr.resolve_left c5)
              refine c_aload (j := 0) (x := ob1) C dX3_decodeWord_49 rfl ?_
              refine d_callV (As := []) (rest := []) C hM (C_bsmall (a0 := ob1) Wb1 skb1 tob1  ) dX3_decodeWord_51 kV_X3_130 rfl tob1 rfl rfl (by decide) ck_6 rfl (Nat.le_of_ble_eq_true rfl) ⟨(Nat.le_of_ble_eq_true rfl), (Nat.le_of_ble_eq_true rfl)⟩ hph pl3 (show 0 + 0 = 0 from rfl) (by decide) (fun rh8 Lh8 clh8 lnh8 ivh8 rvh8 h8 => ?_)
              obtain ⟨f8, rfl, rfl, rfl, rfl, rfl, rfl, rgf8, exf8⟩ := h8
              refine c_st (st2 := [.int (iI f8)]) rfl ?_
              have gf8 : f8 = 1 ↔ BSw lnb1 ivb1 rvb1 ob1 := exf8
              refine c_if_ne (tgt := 65) C ⟨by omega, by omega⟩ dX3_decodeWord_54 (by decide) (fun c11 => ?_) (fun c11 => ?_)
              · obtain ⟨l12, hl12, tl12⟩ := Wb1.ref tob1 1 rfl rfl rfl
                have hB9 : DWB L cl ln iv rv sk lnb1 ivb1 rvb1 i aq sc gr ob1 := hI.go (fun a l0 l1 R hc => hc.fr hW hS Xb1 Fb1 (QT.of hW hS Xb1 Fb1 rfl rfl rfl rfl rfl) rfl rfl rfl rfl rfl rfl rfl rfl rfl rfl) ⟨by omega, by omega⟩ (fun R hR => gf1.2 R hR (by omega) (by omega)) (by omega) wqob1 (fun _ => ⟨f8, gf8, by omega⟩) ⟨_, hl12⟩
                obtain ⟨kw22, hkw22, tkw22⟩ := Wb1.ref tob1 2 rfl rfl rfl
                have ri21 : (-2147483648) ≤ ivb1 ob1 0 ∧ ivb1 ob1 0 ≤ 2147483647 := Wb1.int tob1 0
                refine c_aload (j := 0) (x := ob1) C dX3_decodeWord_65 rfl ?_
                refine c_get (k := 0) C ck_6 dX3_decodeWord_67 w3_137 (by decide) tob1 rfl rfl (by decide) rfl ?_
                refine c_iconst C dX3_decodeWord_70 ?_
                refine c_icmp_eq (tgt := 83) C (r32_c (lo := (-2147483648)) (hi := 2147483647) ri21.1 ri21.2 (by decide) (by decide)) ⟨by decide, by decide⟩ dX3_decodeWord_71 (by decide) (fun c12 => ?_) (fun c12 => ?_)
                · refine c_aload (j := 0) (x := ob1) C dX3_decodeWord_83 rfl ?_
                  refine c_get (k := 0) C ck_6 dX3_decodeWord_85 w3_137 (by decide) tob1 rfl rfl (by decide) rfl ?_
                  refine c_iconst C dX3_decodeWord_88 ?_
                  refine c_icmp_ne (tgt := 96) C (r32_c (lo := (-2147483648)) (hi := 2147483647) ri21.1 ri21.2 (by decide) (by decide)) ⟨by decide, by decide⟩ dX3_decodeWord_89 (by decide) (fun z => absurd z (by omega)) (fun _ => ?_)
                  refine c_iconst C dX3_decodeWord_92 ?_
                  refine c_goto (tgt := 97) C dX3_decodeWord_93 (by decide) ?_
                  refine c_istore_n (lv2 := [(2, .int (iI 1)), (5, .ref ob1), (3, .int (iI gr)), (4, .int (iI aq)), (0, .ref a0), (1, .int (iI i))]) C dX3_decodeWord_97 (by decide) rfl ?_
                  refine c_aload_n (j := 4) (x := a0) C dX3_decodeWord_98 rfl ?_
                  obtain ⟨rb5, rq5, trb5⟩ := Wb1.ref ty1 6 rfl rfl rfl
                  have erb5 := Wb1.sk trb5 (by decide) rfl
                  subst erb5
                  refine c_getr (k := 6) C ck_4 dX3_decodeWord_99 w1_200 (by decide) ty1 rfl rfl (by decide) rfl rq5 ?_
                  refine c_st (st2 := [.ref (sk 10)]) rfl ?_
                  refine c_iload_n (j := 0) C dX3_decodeWord_102 rfl ?_
                  refine c_if_eq (tgt := 111) C ⟨by decide, by decide⟩ dX3_decodeWord_103 (by decide) (fun z => absurd z (by omega)) (fun _ => ?_)
                  refine c_bipush (z := 60) C dX3_decodeWord_106 (by decide) ?_
                  refine c_goto (tgt := 113) C dX3_decodeWord_108 (by decide) ?_
                  have ty60 := Xb1.ty tsk10
                  have ri22 : 0 ≤ ivb1 (sk 10) 2 ∧ ivb1 (sk 10) 2 ≤ 4001 := Wb1.int ty60 2
                  refine d_callV (As := [.int (iI 60)]) (rest := []) C hM (G_add_10 (a0 := (sk 10)) (x := 60) Wb1 skb1 ty60 ⟨by decide, by decide⟩ ) dX3_decodeWord_113 kV_X3_91 rfl ty60 rfl rfl (by decide) ck_2 rfl (Nat.le_of_ble_eq_true rfl) ⟨(Nat.le_of_ble_eq_true rfl), (Nat.le_of_ble_eq_true rfl)⟩ hph pl3 (show 0 + 0 = 0 from rfl) (by decide) (fun rh9 Lh9 clh9 lnh9 ivh9 rvh9 h9 => ?_)
                  obtain ⟨rfl, xl9, fl9, W12, exf9⟩ := h9
                  refine hv8 (Fb1.call Xb1 fl9 rfl) (Xb1.ty tsk6) (Xb1.ty tsk7) (Xb1.ty tsk9) (Xb1.ty tsk24) (Xb1.ty tsk25) (Xb1.trans xl9) (xl9.skl skb1) (fun F9 ty61 ty62 ty63 ty64 ty65 X6 sk6 => ?_)
                  refine c_st (st2 := []) rfl ?_
                  refine hv2 (xl9.ty ty60) (show ((ivh9 (sk 10) 2 = ivb1 (sk 10) 2 ∧ ivb1 (sk 10) 2 = 4001) ∨ (ivh9 (sk 10) 2 = ivb1 (sk 10) 2 + 1 ∧ ivb1 (sk 10) 2 < 4001)) ∧ (∀ ss, CT ivb1 rvb1 (sk 10) ss → ivb1 (sk 10) 2 < 4001 → CT ivh9 rvh9 (sk 10) (va_up ss (ivb1 (sk 10) 2).toNat (60 : Int))) ∧ (ivb1 (sk 10) 2 = 4001 → ∀ ss, CT ivb1 rvb1 (sk 10) ss → CT ivh9 rvh9 (sk 10) ss) from exf9) (fun ty66 gf9 => ?_)
                  have ri23 : 0 ≤ ivh9 (sk 10) 2 ∧ ivh9 (sk 10) 2 ≤ 4001 := W12.int ty66 2
                  refine c_aload (j := 1) (x := ob1) C dX3_decodeWord_116 rfl ?_
                  refine c_aload_n (j := 4) (x := a0) C dX3_decodeWord_118 rfl ?_
                  refine hv2 (xl9.ty ty1) (show rvh9 a0 6 = rvb1 a0 6 from (fl9.r ty1 rfl 6)) (fun ty67 re13 => ?_)
                  rw [rq5] at re13
                  refine c_getr (k := 6) C ck_4 dX3_decodeWord_119 w1_200 (by decide) ty67 rfl rfl (by decide) rfl re13 ?_
                  refine c_st (st2 := [.ref (sk 10), .ref ob1]) rfl ?_
                  refine c_iload_n (j := 2) C dX3_decodeWord_122 rfl ?_
                  refine hv2 (xl9.ty tob1) (Phi.le W12 sk6) (fun ty68 pl12 => ?_)
                  refine d_callV (As := [.ref (sk 10), .int (iI gr)]) (rest := []) C hM (G_wl (a0 := ob1) (a1 := (sk 10)) (g := gr) W12 sk6 ty68 ty66 (by omega) (by show gr = 0 ∨ gr = 1; omega)) dX3_decodeWord_123 kV_X3_137 rfl ty68 rfl rfl (by decide) ck_6 rfl (Nat.le_of_ble_eq_true rfl) ⟨(Nat.le_of_ble_eq_true rfl), (Nat.le_of_ble_eq_true rfl)⟩ hph pl12 (show 0 + 0 = 0 from rfl) (by decide) (fun rh10 Lh10 clh10 lnh10 ivh10 rvh10 h10 => ?_)
                  obtain ⟨rfl, xl10, fl10, W13, exf10⟩ := h10
                  refine hv10 (F9.call X6 fl10 rfl) (xl9.ty ty61) (xl9.ty ty62) (xl9.ty ty2) (xl9.ty ty63) (xl9.ty ty64) (xl9.ty ty65) (xl9.ty tkw22) (X6.trans xl10) (xl10.skl sk6) (fun F10 ty69 ty70 ty71 ty72 ty73 ty74 ty75 X7 sk7 => ?_)
                  refine c_st (st2 := []) rfl ?_
                  have gf10 : WLQ ivh9 rvh9 ivh10 rvh10 lnh9 ob1 (sk 10) gr := exf10
                  refine c_aload (j := 1) (x := ob1) C dX3_decodeWord_126 rfl ?_
                  refine hv3 (xl10.ty ty68) (show ivh10 ob1 0 = ivh9 ob1 0 from fl10.i ty68 rfl 0) (show ivh9 ob1 0 = ivb1 ob1 0 from fl9.i tob1 rfl 0) (fun ty76 ie30 ie31 => ?_)
                  have ri24 : (-2147483648) ≤ ivh10 ob1 0 ∧ ivh10 ob1 0 ≤ 2147483647 := W13.int ty76 0
                  refine c_get (k := 0) C ck_6 dX3_decodeWord_128 w3_137 (by decide) ty76 rfl rfl (by decide) rfl ?_
                  refine c_if_ne (tgt := 138) C (r32_c (lo := (-2147483648)) (hi := 2147483647) ri24.1 ri24.2 (by decide) (by decide)) dX3_decodeWord_131 (by decide) (fun c13 => ?_) (fun c13 => ?_)
                  · refine c_iconst C dX3_decodeWord_138 ?_
                    refine c_istore_n (lv2 := [(3, .int (iI 0)), (2, .int (iI 1)), (5, .ref ob1), (4, .int (iI aq)), (0, .ref a0), (1, .int (iI i))]) C dX3_decodeWord_139 (by decide) rfl ?_
                    refine c_iload (j := 3) C dX3_decodeWord_140 rfl ?_
                    refine c_iconst C dX3_decodeWord_142 ?_
                    refine c_aload (j := 2) (x := ob1) C dX3_decodeWord_143 rfl ?_
                    have re14 : rvh9 ob1 2 = rvb1 ob1 2 := (fl9.r tob1 rfl 2)
                    rw [hkw22] at re14
                    have re15 : rvh10 ob1 2 = rvh9 ob1 2 := (fl10.r ty68 rfl 2)
                    rw [re14] at re15
                    refine c_getr (k := 2) C ck_6 dX3_decodeWord_145 w3_143 (by decide) ty76 rfl rfl (by decide) rfl re15 ?_
                    refine c_st (st2 := [.ref kw22, .int (iI 1), .int (iI aq)]) rfl ?_
                    have ty77 := xl10.ty ty75
                    have ll7 : 1 ≤ lnh10 kw22 ∧ lnh10 kw22 ≤ 4 := W13.len ty77 rfl
                    refine c_alenI C dX3_decodeWord_148 ty77 rfl ?_
                    obtain ⟨mn7, hmn7, emn7⟩ := mmax_c (x := 1) (y := ((lnh10 kw22 : Nat) : Int)) ⟨by decide, by decide⟩ ⟨by omega, by omega⟩
                    have pl13 := Phi.le W13 sk7
                    refine c_mmax (w := iI mn7) C dX3_decodeWord_149 w5_105 w2_148 w1_14 w2_149 (by decide) (rom0 hph pl13 (by decide)) (Nat.le_of_ble_eq_true rfl) emn7 ?_
                    refine c_iadd C dX3_decodeWord_152 ?_
                    refine c_istore (lv2 := [(4, .int (iI (aq + mn7))), (3, .int (iI 0)), (2, .int (iI 1)), (5, .ref ob1), (0, .ref a0), (1, .int (iI i))]) C dX3_decodeWord_153 (by decide) rfl ?_
                    refine c_goto (tgt := 7) C dX3_decodeWord_155 (by decide) ?_
                    refine hv5 (xl10.ty ty71) (show ivh10 (sk 8) 2 = ivh9 (sk 8) 2 from fl10.i ty71 rfl 2) (show ivh9 (sk 8) 2 = ivb1 (sk 8) 2 from fl9.i ty2 rfl 2) (show lnh9 kw22 = lnb1 kw22 from (xl9 kw22 tkw22.1).2.2) (show lnh10 kw22 = lnh9 kw22 from (xl10 kw22 ty75.1).2.2) (fun ty78 ie32 ie33 le11 le12 => ?_)
                    have ri25 : 0 ≤ ivh10 (sk 8) 2 ∧ ivh10 (sk 8) 2 ≤ 40200 := W13.int ty78 2
                    refine c_lv (lv2 := [(2, .int (iI 1)), (3, .int (iI 0)), (4, .int (iI (aq + mn7))), (0, .ref a0), (1, .int (iI i))]) [2, 1, 0, 4, 5] rfl ?_
                    exact ih1  1 0 (aq + mn7) _ _ _ _ _ (by omega) X7 W13 F10  (by omega) (by omega) (by omega) (by omega) (hB9.turn (by omega) gf9 (fun a d q => q.keep tob1 Wb1 xl9 (KP.fr Wb1 fl9 rfl)) gf10 hkw22 (by omega) (by omega))
                  · refine c_iconst C dX3_decodeWord_134 ?_
                    refine c_goto (tgt := 139) C dX3_decodeWord_135 (by decide) ?_
                    refine c_istore_n (lv2 := [(3, .int (iI 1)), (2, .int (iI 1)), (5, .ref ob1), (4, .int (iI aq)), (0, .ref a0), (1, .int (iI i))]) C dX3_decodeWord_139 (by decide) rfl ?_
                    refine c_iload (j := 3) C dX3_decodeWord_140 rfl ?_
                    refine c_iconst C dX3_decodeWord_142 ?_
                    refine c_aload (j := 2) (x := ob1) C dX3_decodeWord_143 rfl ?_
                    have re16 : rvh9 ob1 2 = rvb1 ob1 2 := (fl9.r tob1 rfl 2)
                    rw [hkw22] at re16
                    have re17 : rvh10 ob1 2 = rvh9 ob1 2 := (fl10.r ty68 rfl 2)
                    rw [re16] at re17
                    refine c_getr (k := 2) C ck_6 dX3_decodeWord_145 w3_143 (by decide) ty76 rfl rfl (by decide) rfl re17 ?_
                    refine c_st (st2 := [.ref kw22, .int (iI 1), .int (iI aq)]) rfl ?_
                    have ty79 := xl10.ty ty75
                    have ll8 : 1 ≤ lnh10 kw22 ∧ lnh10 kw22 ≤ 4 := W13.len ty79 rfl
                    refine c_alenI C dX3_decodeWord_148 ty79 rfl ?_
                    obtain ⟨mn8, hmn8, emn8⟩ := mmax_c (x := 1) (y := ((lnh10 kw22 : Nat) : Int)) ⟨by decide, by decide⟩ ⟨by omega, by omega⟩
                    have pl14 := Phi.le W13 sk7
                    refine c_mmax (w := iI mn8) C dX3_decodeWord_149 w5_105 w2_148 w1_14 w2_149 (by decide) (rom0 hph pl14 (by decide)) (Nat.le_of_ble_eq_true rfl) emn8 ?_
                    refine c_iadd C dX3_decodeWord_152 ?_
                    refine c_istore (lv2 := [(4, .int (iI (aq + mn8))), (3, .int (iI 1)), (2, .int (iI 1)), (5, .ref ob1), (0, .ref a0), (1, .int (iI i))]) C dX3_decodeWord_153 (by decide) rfl ?_
                    refine c_goto (tgt := 7) C dX3_decodeWord_155 (by decide) ?_
                    refine hv5 (xl10.ty ty71) (show ivh10 (sk 8) 2 = ivh9 (sk 8) 2 from fl10.i ty71 rfl 2) (show ivh9 (sk 8) 2 = ivb1 (sk 8) 2 from fl9.i ty2 rfl 2) (show lnh9 kw22 = lnb1 kw22 from (xl9 kw22 tkw22.1).2.2) (show lnh10 kw22 = lnh9 kw22 from (xl10 kw22 ty75.1).2.2) (fun ty80 ie34 ie35 le13 le14 => ?_)
                    have ri26 : 0 ≤ ivh10 (sk 8) 2 ∧ ivh10 (sk 8) 2 ≤ 40200 := W13.int ty80 2
                    refine c_lv (lv2 := [(2, .int (iI 1)), (3, .int (iI 1)), (4, .int (iI (aq + mn8))), (0, .ref a0), (1, .int (iI i))]) [2, 1, 0, 4, 5] rfl ?_
                    exact ih1  1 1 (aq + mn8) _ _ _ _ _ (by omega) X7 W13 F10  (by omega) (by omega) (by omega) (by omega) (hB9.turn (by omega) gf9 (fun a d q => q.keep tob1 Wb1 xl9 (KP.fr Wb1 fl9 rfl)) gf10 hkw22 (by omega) (by omega))
                · refine c_aload (j := 0) (x := ob1) C dX3_decodeWord_74 rfl ?_
                  refine c_get (k := 0) C ck_6 dX3_decodeWord_76 w3_137 (by decide) tob1 rfl rfl (by decide) rfl ?_
                  refine c_iconst C dX3_decodeWord_79 ?_
                  refine c_icmp_ne (tgt := 116) C (r32_c (lo := (-2147483648)) (hi := 2147483647) ri21.1 ri21.2 (by decide) (by decide)) ⟨by decide, by decide⟩ dX3_decodeWord_80 (by decide) (fun c14 => ?_) (fun c14 => ?_)
                  · refine c_aload (j := 0) (x := ob1) C dX3_decodeWord_116 rfl ?_
                    refine c_aload_n (j := 4) (x := a0) C dX3_decodeWord_118 rfl ?_
                    obtain ⟨rb6, rq6, trb6⟩ := Wb1.ref ty1 6 rfl rfl rfl
                    have erb6 := Wb1.sk trb6 (by decide) rfl
                    subst erb6
                    refine c_getr (k := 6) C ck_4 dX3_decodeWord_119 w1_200 (by decide) ty1 rfl rfl (by decide) rfl rq6 ?_
                    refine c_st (st2 := [.ref (sk 10), .ref ob1]) rfl ?_
                    refine c_iload_n (j := 2) C dX3_decodeWord_122 rfl ?_
                    have ty81 := Xb1.ty tsk10
                    refine d_callV (As := [.ref (sk 10), .int (iI gr)]) (rest := []) C hM (G_wl (a0 := ob1) (a1 := (sk 10)) (g := gr) Wb1 skb1 tob1 ty81 (by omega) (by show gr = 0 ∨ gr = 1; omega)) dX3_decodeWord_123 kV_X3_137 rfl tob1 rfl rfl (by decide) ck_6 rfl (Nat.le_of_ble_eq_true rfl) ⟨(Nat.le_of_ble_eq_true rfl), (Nat.le_of_ble_eq_true rfl)⟩ hph pl3 (show 0 + 0 = 0 from rfl) (by decide) (fun rh11 Lh11 clh11 lnh11 ivh11 rvh11 h11 => ?_)
                    obtain ⟨rfl, xl11, fl11, W14, exf11⟩ := h11
                    refine hv8 (Fb1.call Xb1 fl11 rfl) (Xb1.ty tsk6) (Xb1.ty tsk7) (Xb1.ty tsk9) (Xb1.ty tsk24) (Xb1.ty tsk25) (Xb1.trans xl11) (xl11.skl skb1) (fun F11 ty82 ty83 ty84 ty85 ty86 X8 sk8 => ?_)
                    refine c_st (st2 := []) rfl ?_
                    have gf11 : WLQ ivb1 rvb1 ivh11 rvh11 lnb1 ob1 (sk 10) gr := exf11
                    refine c_aload (j := 0) (x := ob1) C dX3_decodeWord_126 rfl ?_
                    refine hv2 (xl11.ty tob1) (show ivh11 ob1 0 = ivb1 ob1 0 from fl11.i tob1 rfl 0) (fun ty87 ie36 => ?_)
                    have ri27 : (-2147483648) ≤ ivh11 ob1 0 ∧ ivh11 ob1 0 ≤ 2147483647 := W14.int ty87 0
                    refine c_get (k := 0) C ck_6 dX3_decodeWord_128 w3_137 (by decide) ty87 rfl rfl (by decide) rfl ?_
                    refine c_if_ne (tgt := 138) C (r32_c (lo := (-2147483648)) (hi := 2147483647) ri27.1 ri27.2 (by decide) (by decide)) dX3_decodeWord_131 (by decide) (fun c15 => ?_) (fun c15 => ?_)
                    · refine c_iconst C dX3_decodeWord_138 ?_
                      refine c_istore_n (lv2 := [(3, .int (iI 0)), (5, .ref ob1), (2, .int (iI sc)), (4, .int (iI aq)), (0, .ref a0), (1, .int (iI i))]) C dX3_decodeWord_139 (by decide) rfl ?_
                      refine c_iload (j := 3) C dX3_decodeWord_140 rfl ?_
                      refine c_iconst C dX3_decodeWord_142 ?_
                      refine c_aload (j := 1) (x := ob1) C dX3_decodeWord_143 rfl ?_
                      have re18 : rvh11 ob1 2 = rvb1 ob1 2 := (fl11.r tob1 rfl 2)
                      rw [hkw22] at re18
                      refine c_getr (k := 2) C ck_6 dX3_decodeWord_145 w3_143 (by decide) ty87 rfl rfl (by decide) rfl re18 ?_
                      refine c_st (st2 := [.ref kw22, .int (iI 1), .int (iI aq)]) rfl ?_
                      have ty88 := xl11.ty tkw22
                      have ll9 : 1 ≤ lnh11 kw22 ∧ lnh11 kw22 ≤ 4 := W14.len ty88 rfl
                      refine c_alenI C dX3_decodeWord_148 ty88 rfl ?_
                      obtain ⟨mn9, hmn9, emn9⟩ := mmax_c (x := 1) (y := ((lnh11 kw22 : Nat) : Int)) ⟨by decide, by decide⟩ ⟨by omega, by omega⟩
                      have pl15 := Phi.le W14 sk8
                      refine c_mmax (w := iI mn9) C dX3_decodeWord_149 w5_105 w2_148 w1_14 w2_149 (by decide) (rom0 hph pl15 (by decide)) (Nat.le_of_ble_eq_true rfl) emn9 ?_
                      refine c_iadd C dX3_decodeWord_152 ?_
                      refine c_istore (lv2 := [(4, .int (iI (aq + mn9))), (3, .int (iI 0)), (5, .ref ob1), (2, .int (iI sc)), (0, .ref a0), (1, .int (iI i))]) C dX3_decodeWord_153 (by decide) rfl ?_
                      refine c_goto (tgt := 7) C dX3_decodeWord_155 (by decide) ?_
                      refine hv3 (xl11.ty ty2) (show ivh11 (sk 8) 2 = ivb1 (sk 8) 2 from fl11.i ty2 rfl 2) (show lnh11 kw22 = lnb1 kw22 from (xl11 kw22 tkw22.1).2.2) (fun ty89 ie37 le15 => ?_)
                      have ri28 : 0 ≤ ivh11 (sk 8) 2 ∧ ivh11 (sk 8) 2 ≤ 40200 := W14.int ty89 2
                      refine c_lv (lv2 := [(2, .int (iI sc)), (3, .int (iI 0)), (4, .int (iI (aq + mn9))), (0, .ref a0), (1, .int (iI i))]) [3, 1, 0, 4, 5] rfl ?_
                      exact ih1  sc 0 (aq + mn9) _ _ _ _ _ (by omega) X8 W14 F11  (by omega) (by omega) (by omega) (by omega) (hB9.next ⟨by omega, by omega⟩ gf11 hkw22 (by omega) (by omega))
                    · refine c_iconst C dX3_decodeWord_134 ?_
                      refine c_goto (tgt := 139) C dX3_decodeWord_135 (by decide) ?_
                      refine c_istore_n (lv2 := [(3, .int (iI 1)), (5, .ref ob1), (2, .int (iI sc)), (4, .int (iI aq)), (0, .ref a0), (1, .int (iI i))]) C dX3_decodeWord_139 (by decide) rfl ?_
                      refine c_iload (j := 3) C dX3_decodeWord_140 rfl ?_
                      refine c_iconst C dX3_decodeWord_142 ?_
                      refine c_aload (j := 1) (x := ob1) C dX3_decodeWord_143 rfl ?_
                      have re19 : rvh11 ob1 2 = rvb1 ob1 2 := (fl11.r tob1 rfl 2)
                      rw [hkw22] at re19
                      refine c_getr (k := 2) C ck_6 dX3_decodeWord_145 w3_143 (by decide) ty87 rfl rfl (by decide) rfl re19 ?_
                      refine c_st (st2 := [.ref kw22, .int (iI 1), .int (iI aq)]) rfl ?_
                      have ty90 := xl11.ty tkw22
                      have ll10 : 1 ≤ lnh11 kw22 ∧ lnh11 kw22 ≤ 4 := W14.len ty90 rfl
                      refine c_alenI C dX3_decodeWord_148 ty90 rfl ?_
                      obtain ⟨mn10, hmn10, emn10⟩ := mmax_c (x := 1) (y := ((lnh11 kw22 : Nat) : Int)) ⟨by decide, by decide⟩ ⟨by omega, by omega⟩
                      have pl16 := Phi.le W14 sk8
                      refine c_mmax (w := iI mn10) C dX3_decodeWord_149 w5_105 w2_148 w1_14 w2_149 (by decide) (rom0 hph pl16 (by decide)) (Nat.le_of_ble_eq_true rfl) emn10 ?_
                      refine c_iadd C dX3_decodeWord_152 ?_
                      refine c_istore (lv2 := [(4, .int (iI (aq + mn10))), (3, .int (iI 1)), (5, .ref ob1), (2, .int (iI sc)), (0, .ref a0), (1, .int (iI i))]) C dX3_decodeWord_153 (by decide) rfl ?_
                      refine c_goto (tgt := 7) C dX3_decodeWord_155 (by decide) ?_
                      refine hv3 (xl11.ty ty2) (show ivh11 (sk 8) 2 = ivb1 (sk 8) 2 from fl11.i ty2 rfl 2) (show lnh11 kw22 = lnb1 kw22 from (xl11 kw22 tkw22.1).2.2) (fun ty91 ie38 le16 => ?_)
                      have ri29 : 0 ≤ ivh11 (sk 8) 2 ∧ ivh11 (sk 8) 2 ≤ 40200 := W14.int ty91 2
                      refine c_lv (lv2 := [(2, .int (iI sc)), (3, .int (iI 1)), (4, .int (iI (aq + mn10))), (0, .ref a0), (1, .int (iI i))]) [3, 1, 0, 4, 5] rfl ?_
                      exact ih1  sc 1 (aq + mn10) _ _ _ _ _ (by omega) X8 W14 F11  (by omega) (by omega) (by omega) (by omega) (hB9.next ⟨by omega, by omega⟩ gf11 hkw22 (by omega) (by omega))
                  · refine c_aload (j := 0) (x := ob1) C dX3_decodeWord_83 rfl ?_
                    refine c_get (k := 0) C ck_6 dX3_decodeWord_85 w3_137 (by decide) tob1 rfl rfl (by decide) rfl ?_
                    refine c_iconst C dX3_decodeWord_88 ?_
                    refine c_icmp_ne (tgt := 96) C (r32_c (lo := (-2147483648)) (hi := 2147483647) ri21.1 ri21.2 (by decide) (by decide)) ⟨by decide, by decide⟩ dX3_decodeWord_89 (by decide) (fun _ => ?_) (fun z => absurd z (by omega))
                    refine c_iconst C dX3_decodeWord_96 ?_
                    refine c_istore_n (lv2 := [(2, .int (iI 0)), (5, .ref ob1), (3, .int (iI gr)), (4, .int (iI aq)), (0, .ref a0), (1, .int (iI i))]) C dX3_decodeWord_97 (by decide) rfl ?_
                    refine c_aload_n (j := 4) (x := a0) C dX3_decodeWord_98 rfl ?_
                    obtain ⟨rb7, rq7, trb7⟩ := Wb1.ref ty1 6 rfl rfl rfl
                    have erb7 := Wb1.sk trb7 (by decide) rfl
                    subst erb7
                    refine c_getr (k := 6) C ck_4 dX3_decodeWord_99 w1_200 (by decide) ty1 rfl rfl (by decide) rfl rq7 ?_
                    refine c_st (st2 := [.ref (sk 10)]) rfl ?_
                    refine c_iload_n (j := 0) C dX3_decodeWord_102 rfl ?_
                    refine c_if_eq (tgt := 111) C ⟨by decide, by decide⟩ dX3_decodeWord_103 (by decide) (fun _ => ?_) (fun z => absurd z (by omega))
                    refine c_bipush (z := 62) C dX3_decodeWord_111 (by decide) ?_
                    have ty92 := Xb1.ty tsk10
                    have ri30 : 0 ≤ ivb1 (sk 10) 2 ∧ ivb1 (sk 10) 2 ≤ 4001 := Wb1.int ty92 2
                    refine d_callV (As := [.int (iI 62)]) (rest := []) C hM (G_add_10 (a0 := (sk 10)) (x := 62) Wb1 skb1 ty92 ⟨by decide, by decide⟩ ) dX3_decodeWord_113 kV_X3_91 rfl ty92 rfl rfl (by decide) ck_2 rfl (Nat.le_of_ble_eq_true rfl) ⟨(Nat.le_of_ble_eq_true rfl), (Nat.le_of_ble_eq_true rfl)⟩ hph pl3 (show 0 + 0 = 0 from rfl) (by decide) (fun rh12 Lh12 clh12 lnh12 ivh12 rvh12 h12 => ?_)
                    obtain ⟨rfl, xl12, fl12, W15, exf12⟩ := h12
                    refine hv8 (Fb1.call Xb1 fl12 rfl) (Xb1.ty tsk6) (Xb1.ty tsk7) (Xb1.ty tsk9) (Xb1.ty tsk24) (Xb1.ty tsk25) (Xb1.trans xl12) (xl12.skl skb1) (fun F12 ty93 ty94 ty95 ty96 ty97 X9 sk9 => ?_)
                    refine c_st (st2 := []) rfl ?_
                    refine hv2 (xl12.ty ty92) (show ((ivh12 (sk 10) 2 = ivb1 (sk 10) 2 ∧ ivb1 (sk 10) 2 = 4001) ∨ (ivh12 (sk 10) 2 = ivb1 (sk 10) 2 + 1 ∧ ivb1 (sk 10) 2 < 4001)) ∧ (∀ ss, CT ivb1 rvb1 (sk 10) ss → ivb1 (sk 10) 2 < 4001 → CT ivh12 rvh12 (sk 10) (va_up ss (ivb1 (sk 10) 2).toNat (62 : Int))) ∧ (ivb1 (sk 10) 2 = 4001 → ∀ ss, CT ivb1 rvb1 (sk 10) ss → CT ivh12 rvh12 (sk 10) ss) from exf12) (fun ty98 gf12 => ?_)
                    have ri31 : 0 ≤ ivh12 (sk 10) 2 ∧ ivh12 (sk 10) 2 ≤ 4001 := W15.int ty98 2
                    refine c_aload (j := 1) (x := ob1) C dX3_decodeWord_116 rfl ?_
                    refine c_aload_n (j := 4) (x := a0) C dX3_decodeWord_118 rfl ?_
                    refine hv2 (xl12.ty ty1) (show rvh12 a0 6 = rvb1 a0 6 from (fl12.r ty1 rfl 6)) (fun ty99 re20 => ?_)
                    rw [rq7] at re20
                    refine c_getr (k := 6) C ck_4 dX3_decodeWord_119 w1_200 (by decide) ty99 rfl rfl (by decide) rfl re20 ?_
                    refine c_st (st2 := [.ref (sk 10), .ref ob1]) rfl ?_
                    refine c_iload_n (j := 2) C dX3_decodeWord_122 rfl ?_
                    refine hv2 (xl12.ty tob1) (Phi.le W15 sk9) (fun ty100 pl17 => ?_)
                    refine d_callV (As := [.ref (sk 10), .int (iI gr)]) (rest := []) C hM (G_wl (a0 := ob1) (a1 := (sk 10)) (g := gr) W15 sk9 ty100 ty98 (by omega) (by show gr = 0 ∨ gr = 1; omega)) dX3_decodeWord_123 kV_X3_137 rfl ty100 rfl rfl (by decide) ck_6 rfl (Nat.le_of_ble_eq_true rfl) ⟨(Nat.le_of_ble_eq_true rfl), (Nat.le_of_ble_eq_true rfl)⟩ hph pl17 (show 0 + 0 = 0 from rfl) (by decide) (fun rh13 Lh13 clh13 lnh13 ivh13 rvh13 h13 => ?_)
                    obtain ⟨rfl, xl13, fl13, W16, exf13⟩ := h13
                    refine hv10 (F12.call X9 fl13 rfl) (xl12.ty ty93) (xl12.ty ty94) (xl12.ty ty2) (xl12.ty ty95) (xl12.ty ty96) (xl12.ty ty97) (xl12.ty tkw22) (X9.trans xl13) (xl13.skl sk9) (fun F13 ty101 ty102 ty103 ty104 ty105 ty106 ty107 X10 sk10 => ?_)
                    refine c_st (st2 := []) rfl ?_
                    have gf13 : WLQ ivh12 rvh12 ivh13 rvh13 lnh12 ob1 (sk 10) gr := exf13
                    refine c_aload (j := 1) (x := ob1) C dX3_decodeWord_126 rfl ?_
                    refine hv3 (xl13.ty ty100) (show ivh13 ob1 0 = ivh12 ob1 0 from fl13.i ty100 rfl 0) (show ivh12 ob1 0 = ivb1 ob1 0 from fl12.i tob1 rfl 0) (fun ty108 ie41 ie42 => ?_)
                    have ri32 : (-2147483648) ≤ ivh13 ob1 0 ∧ ivh13 ob1 0 ≤ 2147483647 := W16.int ty108 0
                    refine c_get (k := 0) C ck_6 dX3_decodeWord_128 w3_137 (by decide) ty108 rfl rfl (by decide) rfl ?_
                    refine c_if_ne (tgt := 138) C (r32_c (lo := (-2147483648)) (hi := 2147483647) ri32.1 ri32.2 (by decide) (by decide)) dX3_decodeWord_131 (by decide) (fun c16 => ?_) (fun c16 => ?_)
                    · refine c_iconst C dX3_decodeWord_138 ?_
                      refine c_istore_n (lv2 := [(3, .int (iI 0)), (2, .int (iI 0)), (5, .ref ob1), (4, .int (iI aq)), (0, .ref a0), (1, .int (iI i))]) C dX3_decodeWord_139 (by decide) rfl ?_
                      refine c_iload (j := 3) C dX3_decodeWord_140 rfl ?_
                      refine c_iconst C dX3_decodeWord_142 ?_
                      refine c_aload (j := 2) (x := ob1) C dX3_decodeWord_143 rfl ?_
                      have re21 : rvh12 ob1 2 = rvb1 ob1 2 := (fl12.r tob1 rfl 2)
                      rw [hkw22] at re21
                      have re22 : rvh13 ob1 2 = rvh12 ob1 2 := (fl13.r ty100 rfl 2)
                      rw [re21] at re22
                      refine c_getr (k := 2) C ck_6 dX3_decodeWord_145 w3_143 (by decide) ty108 rfl rfl (by decide) rfl re22 ?_
                      refine c_st (st2 := [.ref kw22, .int (iI 1), .int (iI aq)]) rfl ?_
                      have ty109 := xl13.ty ty107
                      have ll11 : 1 ≤ lnh13 kw22 ∧ lnh13 kw22 ≤ 4 := W16.len ty109 rfl
                      refine c_alenI C dX3_decodeWord_148 ty109 rfl ?_
                      obtain ⟨mn11, hmn11, emn11⟩ := mmax_c (x := 1) (y := ((lnh13 kw22 : Nat) : Int)) ⟨by decide, by decide⟩ ⟨by omega, by omega⟩
                      have pl18 := Phi.le W16 sk10
                      refine c_mmax (w := iI mn11) C dX3_decodeWord_149 w5_105 w2_148 w1_14 w2_149 (by decide) (rom0 hph pl18 (by decide)) (Nat.le_of_ble_eq_true rfl) emn11 ?_
                      refine c_iadd C dX3_decodeWord_152 ?_
                      refine c_istore (lv2 := [(4, .int (iI (aq + mn11))), (3, .int (iI 0)), (2, .int (iI 0)), (5, .ref ob1), (0, .ref a0), (1, .int (iI i))]) C dX3_decodeWord_153 (by decide) rfl ?_
                      refine c_goto (tgt := 7) C dX3_decodeWord_155 (by decide) ?_
                      refine hv5 (xl13.ty ty103) (show ivh13 (sk 8) 2 = ivh12 (sk 8) 2 from fl13.i ty103 rfl 2) (show ivh12 (sk 8) 2 = ivb1 (sk 8) 2 from fl12.i ty2 rfl 2) (show lnh12 kw22 = lnb1 kw22 from (xl12 kw22 tkw22.1).2.2) (show lnh13 kw22 = lnh12 kw22 from (xl13 kw22 ty107.1).2.2) (fun ty110 ie43 ie44 le17 le18 => ?_)
                      have ri33 : 0 ≤ ivh13 (sk 8) 2 ∧ ivh13 (sk 8) 2 ≤ 40200 := W16.int ty110 2
                      refine c_lv (lv2 := [(2, .int (iI 0)), (3, .int (iI 0)), (4, .int (iI (aq + mn11))), (0, .ref a0), (1, .int (iI i))]) [2, 1, 0, 4, 5] rfl ?_
                      exact ih1  0 0 (aq + mn11) _ _ _ _ _ (by omega) X10 W16 F13  (by omega) (by omega) (by omega) (by omega) (hB9.turn (by omega) gf12 (fun a d q => q.keep tob1 Wb1 xl12 (KP.fr Wb1 fl12 rfl)) gf13 hkw22 (by omega) (by omega))
                    · refine c_iconst C dX3_decodeWord_134 ?_
                      refine c_goto (tgt := 139) C dX3_decodeWord_135 (by decide) ?_
                      refine c_istore_n (lv2 := [(3, .int (iI 1)), (2, .int (iI 0)), (5, .ref ob1), (4, .int (iI aq)), (0, .ref a0), (1, .int (iI i))]) C dX3_decodeWord_139 (by decide) rfl ?_
                      refine c_iload (j := 3) C dX3_decodeWord_140 rfl ?_
                      refine c_iconst C dX3_decodeWord_142 ?_
                      refine c_aload (j := 2) (x := ob1) C dX3_decodeWord_143 rfl ?_
                      have re23 : rvh12 ob1 2 = rvb1 ob1 2 := (fl12.r tob1 rfl 2)
                      rw [hkw22] at re23
                      have re24 : rvh13 ob1 2 = rvh12 ob1 2 := (fl13.r ty100 rfl 2)
                      rw [re23] at re24
                      refine c_getr (k := 2) C ck_6 dX3_decodeWord_145 w3_143 (by decide) ty108 rfl rfl (by decide) rfl re24 ?_
                      refine c_st (st2 := [.ref kw22, .int (iI 1), .int (iI aq)]) rfl ?_
                      have ty111 := xl13.ty ty107
                      have ll12 : 1 ≤ lnh13 kw22 ∧ lnh13 kw22 ≤ 4 := W16.len ty111 rfl
                      refine c_alenI C dX3_decodeWord_148 ty111 rfl ?_
                      obtain ⟨mn12, hmn12, emn12⟩ := mmax_c (x := 1) (y := ((lnh13 kw22 : Nat) : Int)) ⟨by decide, by decide⟩ ⟨by omega, by omega⟩
                      have pl19 := Phi.le W16 sk10
                      refine c_mmax (w := iI mn12) C dX3_decodeWord_149 w5_105 w2_148 w1_14 w2_149 (by decide) (rom0 hph pl19 (by decide)) (Nat.le_of_ble_eq_true rfl) emn12 ?_
                      refine c_iadd C dX3_decodeWord_152 ?_
                      refine c_istore (lv2 := [(4, .int (iI (aq + mn12))), (3, .int (iI 1)), (2, .int (iI 0)), (5, .ref ob1), (0, .ref a0), (1, .int (iI i))]) C dX3_decodeWord_153 (by decide) rfl ?_
                      refine c_goto (tgt := 7) C dX3_decodeWord_155 (by decide) ?_
                      refine hv5 (xl13.ty ty103) (show ivh13 (sk 8) 2 = ivh12 (sk 8) 2 from fl13.i ty103 rfl 2) (show ivh12 (sk 8) 2 = ivb1 (sk 8) 2 from fl12.i ty2 rfl 2) (show lnh12 kw22 = lnb1 kw22 from (xl12 kw22 tkw22.1).2.2) (show lnh13 kw22 = lnh12 kw22 from (xl13 kw22 ty107.1).2.2) (fun ty112 ie45 ie46 le19 le20 => ?_)
                      have ri34 : 0 ≤ ivh13 (sk 8) 2 ∧ ivh13 (sk 8) 2 ≤ 40200 := W16.int ty112 2
                      refine c_lv (lv2 := [(2, .int (iI 0)), (3, .int (iI 1)), (4, .int (iI (aq + mn12))), (0, .ref a0), (1, .int (iI i))]) [2, 1, 0, 4, 5] rfl ?_
                      exact ih1  0 1 (aq + mn12) _ _ _ _ _ (by omega) X10 W16 F13  (by omega) (by omega) (by omega) (by omega) (hB9.turn (by omega) gf12 (fun a d q => q.keep tob1 Wb1 xl12 (KP.fr Wb1 fl12 rfl)) gf13 hkw22 (by omega) (by omega))
              · refine c_aload_n (j := 4) (x := a0) C dX3_decodeWord_57 rfl ?_
                refine c_iload (j := 3) C dX3_decodeWord_58 rfl ?_
                refine c_put (z := aq) (k := 7) C ck_4 dX3_decodeWord_60 w1_202 (by decide) rfl ty1 rfl rfl (by decide) rfl (by rfl) (by rfl) (fun iv4 pq4 => ?_)
                refine hv2 (Wb1.puti pq4 ty1 (show (-2147483648) ≤ aq ∧ aq ≤ 2147483647 by omega) rfl) (Fb1.puti Xb1 pq4 ty1 rfl) (fun W17 F14 => ?_)
                refine c_iconst C dX3_decodeWord_63 ?_
                refine hv2 (show 0 ≤ iv4 (sk 8) 2 ∧ iv4 (sk 8) 2 ≤ 40200 from W17.int ty2 2) (show iv4 (sk 8) 2 = ivb1 (sk 8) 2 from by rw [pq4]; exact up2_k (ne_ty ty2 ty1 (by decide))) (fun ri35 ie47 => ?_)
                obtain ⟨l13, hl13, tl13⟩ := Wb1.ref tob1 1 rfl rfl rfl
                exact c_iret C dX3_decodeWord_64 rfl (by decide) (rom0 hph pl3 (by decide)) ⟨(-1), rfl, Xb1, F14, W17, ⟨by decide, by decide⟩, ⟨by omega, hI.small (fun a l0 l1 R hc => hc.fr hW hS Xb1 Fb1 (QT.of hW hS Xb1 Fb1 rfl rfl rfl rfl rfl) rfl rfl rfl rfl rfl rfl rfl rfl rfl rfl) ⟨by omega, by omega⟩ (fun R hR => gf1.2 R hR (by omega) (by omega)) (by omega) wqob1 (by omega) gf8 (by omega) ⟨_, hl13⟩ (by omega)⟩⟩
  have ri36 : 0 ≤ iv (sk 8) 2 ∧ iv (sk 8) 2 ≤ 40200 := hW.int tsk8 2
  refine c_lv (lv2 := [(2, .int (iI 0)), (3, .int (iI 0)), (4, .int (iI i)), (0, .ref a0), (1, .int (iI i))]) [2, 1, 0, 3, 4] rfl ?_
  exact Lp1 40207 0 0 i _ _ _ _ _ (by omega) hX0 hW hF0  (by omega) (by omega) (by omega) (by omega) DWI.init
end
section
def DCI (L : List Nat) (cl ln : Nat → Nat) (iv : Nat → Nat → Int) (rv : Nat → Nat → Option Nat) (sk : Nat → Nat) (iv1 : Nat → Nat → Int) (rv1 : Nat → Nat → Option Nat) (n x : Int) : Prop := ∀ a l0 l1 R, DCX L cl ln iv rv sk a l0 l1 R → ∃ bs, MRC a l0 l1 R (x, 0, 0, n, 0) bs ∧ BYT iv1 rv1 (sk 10) 4001 bs
def DCW (L : List Nat) (cl ln : Nat → Nat) (iv : Nat → Nat → Int) (rv : Nat → Nat → Option Nat) (sk : Nat → Nat) (iv1 : Nat → Nat → Int) (rv1 : Nat → Nat → Option Nat) (x : Int) : Prop := ∀ a l0 l1 R, DCX L cl ln iv rv sk a l0 l1 R → R x.toNat ≠ 0 ∧ ∃ bs, MRC a l0 l1 R (x, 0, 0, 1, 1) bs ∧ BYT iv1 rv1 (sk 10) 4001 bs
def DEX (L : List Nat) (cl ln : Nat → Nat) (iv : Nat → Nat → Int) (rv : Nat → Nat → Option Nat) (sk : Nat → Nat) (iv2 : Nat → Nat → Int) (rv2 : Nat → Nat → Option Nat) (f : Int) : Prop := ∀ a l0 l1 R, DCX L cl ln iv rv sk a l0 l1 R → (f = 0 ∧ RWG a l0 l1 R) ∨ (f = 1 ∧ ∃ bs, RFN a l0 l1 R bs ∧ BYT iv2 rv2 (sk 10) 4001 bs)
section DECO
variable {h : Nat} {sk : Nat → Nat} {L L1 : List Nat} {cl ln cl1 ln1 : Nat → Nat} {iv iv1 iv2 iv3 : Nat → Nat → Int} {rv rv1 rv2 rv3 : Nat → Nat → Option Nat} {n x y f : Int}
theorem DCI.init (h0 : iv1 (sk 10) 2 = 0) (hn : n = 0) : DCI L cl ln iv rv sk iv1 rv1 n 0 := fun a l0 l1 R _ => ⟨[], by rw [hn]; exact MRC.zero, BYT.nil h0⟩
theorem DCI.blank (hI : DCI L cl ln iv rv sk iv1 rv1 n x) (hd : ∀ a l0 l1 R, DCX L cl ln iv rv sk a l0 l1 R → DCX L1 cl1 ln1 iv1 rv1 sk a l0 l1 R) (hy : ∀ R, CT iv1 rv1 (sk 8) R → y = R x.toNat) (h0 : y = 0) : DCI L cl ln iv rv sk iv1 rv1 n (x + 1) := fun a l0 l1 R hc => by
  obtain ⟨bs, g1, g2⟩ := hI a l0 l1 R hc
  have e := hy R (hd a l0 l1 R hc).2.2.2.2.1
  exact ⟨bs, g1.blank (by rw [← e]; exact h0), g2⟩
theorem DCI.word0 (hI : DCI L cl ln iv rv sk iv1 rv1 n x) (hd : ∀ a l0 l1 R, DCX L cl ln iv rv sk a l0 l1 R → DCX L1 cl1 ln1 iv1 rv1 sk a l0 l1 R) (hy : ∀ R, CT iv1 rv1 (sk 8) R → y = R x.toNat) (h0 : y ≠ 0) (hn : n = 0) : DCW L cl ln iv rv sk iv1 rv1 x := fun a l0 l1 R hc => by
  obtain ⟨bs, g1, g2⟩ := hI a l0 l1 R hc
  have e := hy R (hd a l0 l1 R hc).2.2.2.2.1
  refine ⟨by rw [← e]; exact h0, bs, g1.word (by rw [← e]; exact h0) ?_, g2⟩
  rw [if_neg (by omega), List.append_nil]
theorem DCI.word1 (hI : DCI L cl ln iv rv sk iv1 rv1 n x) (hd : ∀ a l0 l1 R, DCX L cl ln iv rv sk a l0 l1 R → DCX L1 cl1 ln1 iv1 rv1 sk a l0 l1 R) (hy : ∀ R, CT iv1 rv1 (sk 8) R → y = R x.toNat) (h0 : y ≠ 0) (hn : n = 1) (ga : ((iv2 (sk 10) 2 = iv1 (sk 10) 2 ∧ iv1 (sk 10) 2 = 4001) ∨ (iv2 (sk 10) 2 = iv1 (sk 10) 2 + 1 ∧ iv1 (sk 10) 2 < 4001)) ∧ (∀ ss, CT iv1 rv1 (sk 10) ss → iv1 (sk 10) 2 < 4001 → CT iv2 rv2 (sk 10) (va_up ss (iv1 (sk 10) 2).toNat 32)) ∧ (iv1 (sk 10) 2 = 4001 → ∀ ss, CT iv1 rv1 (sk 10) ss → CT iv2 rv2 (sk 10) ss)) : DCW L cl ln iv rv sk iv2 rv2 x := fun a l0 l1 R hc => by
  obtain ⟨bs, g1, g2⟩ := hI a l0 l1 R hc
  have e := hy R (hd a l0 l1 R hc).2.2.2.2.1
  refine ⟨by rw [← e]; exact h0, _, g1.word (o2 := bs ++ [32]) (by rw [← e]; exact h0) ?_, g2.snoc ga⟩
  rw [if_pos hn]
theorem DCW.run (hw : DCW L cl ln iv rv sk iv1 rv1 x) (hd : ∀ a l0 l1 R, DCX L cl ln iv rv sk a l0 l1 R → DCX L1 cl1 ln1 iv1 rv1 sk a l0 l1 R) (hx : DWX L1 cl1 ln1 iv1 rv1 sk iv2 rv2 x f) (h0 : 0 ≤ x) : (f ≤ x → DEX L cl ln iv rv sk iv3 rv3 0) ∧ (x < f → DCI L cl ln iv rv sk iv2 rv2 1 f) := by
  refine ⟨fun e a l0 l1 R hc => ?_, fun e a l0 l1 R hc => ?_⟩
  · obtain ⟨nz, bs, g1, g2⟩ := hw a l0 l1 R hc
    rcases hx a l0 l1 R bs (hd a l0 l1 R hc) g1 g2 with ⟨_, w⟩ | ⟨w1, w2, _⟩
    · exact Or.inl ⟨rfl, w⟩
    · rw [show f = x by omega] at w2
      exact absurd w2 nz
  · obtain ⟨nz, bs, g1, g2⟩ := hw a l0 l1 R hc
    rcases hx a l0 l1 R bs (hd a l0 l1 R hc) g1 g2 with ⟨w, _⟩ | ⟨w1, w2, g, b2, w3, w4⟩
    · omega
    · exact ⟨b2, w3.wend w2 (by decide), w4⟩
theorem DCI.fin (hI : DCI L cl ln iv rv sk iv1 rv1 n x) (hd : ∀ a l0 l1 R, DCX L cl ln iv rv sk a l0 l1 R → DCX L1 cl1 ln1 iv1 rv1 sk a l0 l1 R) (hx : iv1 (sk 8) 2 ≤ x) (h0 : 0 ≤ x) : DEX L cl ln iv rv sk iv1 rv1 1 := fun a l0 l1 R hc => by
  obtain ⟨bs, g1, g2⟩ := hI a l0 l1 R hc
  have c8 := (hd a l0 l1 R hc).2.2.2.2.2
  exact Or.inr ⟨rfl, bs, g1.fin (fun j hj => c8 j (by omega)), g2⟩
end DECO
set_option maxHeartbeats 4000000 in
set_option maxRecDepth 100000 in
theorem G_decode {l : Launch} {G : GT} {mi : Nat} {sk : Nat → Nat} {L : List Nat} {cl ln : Nat → Nat} {iv : Nat → Nat → Int} {rv : Nat → Nat → Option Nat}  {a0 : Nat} (hW : WT (g0 G) sk L cl ln iv rv) (hS : SKL sk L cl) (t_a0 : ty L cl a0 16)  : Mc l G mi (Phi (g0 G) sk) PHM yX3_decode cX3_decode 4 (some .boolean) 5 [.ref a0] L cl ln iv rv 0 (fun v L2 cl2 ln2 iv2 rv2 => ∃ f : Int, v = some (.int (iI f)) ∧ XT L cl ln L2 cl2 ln2 ∧ fT [16, 10, 40] L cl iv rv iv2 rv2 ∧ WT (g0 G) sk L2 cl2 ln2 iv2 rv2 ∧ (f = 0 ∨ f = 1) ∧ (DEX L cl ln iv rv sk iv2 rv2 f)) := by
  refine Mc.mk (by decide) (Nat.le_of_ble_eq_true rfl) ?_
  intro p e s m args below meth c A C hM
  refine hv10 (Phi.le hW hS) (show ty L cl (sk 6) 6 from ⟨(hS 6 rfl).1, by rw [(hS 6 rfl).2]; rfl⟩) (show ty L cl (sk 7) 7 from ⟨(hS 7 rfl).1, by rw [(hS 7 rfl).2]; rfl⟩) (show ty L cl (sk 8) 8 from ⟨(hS 8 rfl).1, by rw [(hS 8 rfl).2]; rfl⟩) (show ty L cl (sk 9) 9 from ⟨(hS 9 rfl).1, by rw [(hS 9 rfl).2]; rfl⟩) (show ty L cl (sk 10) 10 from ⟨(hS 10 rfl).1, by rw [(hS 10 rfl).2]; rfl⟩) (show ty L cl (sk 24) 24 from ⟨(hS 24 rfl).1, by rw [(hS 24 rfl).2]; rfl⟩) (show ty L cl (sk 25) 25 from ⟨(hS 25 rfl).1, by rw [(hS 25 rfl).2]; rfl⟩) (show XT L cl ln L cl ln from XT.refl) (show fT [16, 10, 40] L cl iv rv iv rv from fT.refl) (fun hph tsk6 tsk7 tsk8 tsk9 tsk10 tsk24 tsk25 hX0 hF0 => ?_)
  refine c_aload_n (j := 0) (x := a0) C dX3_decode_0 rfl ?_
  obtain ⟨rb1, rq1, trb1⟩ := hW.ref t_a0 6 rfl rfl rfl
  have erb1 := hW.sk trb1 (by decide) rfl
  subst erb1
  refine c_getr (k := 6) C ck_4 dX3_decode_1 w1_200 (by decide) t_a0 rfl rfl (by decide) rfl rq1 ?_
  refine c_st (st2 := [.ref (sk 10)]) rfl ?_
  refine d_callV (As := []) (rest := []) C hM (C_clear_10 (a0 := (sk 10)) hW hS tsk10  ) dX3_decode_4 kV_X3_77 rfl tsk10 rfl rfl (by decide) ck_2 rfl (Nat.le_of_ble_eq_true rfl) ⟨(Nat.le_of_ble_eq_true rfl), (Nat.le_of_ble_eq_true rfl)⟩ hph hph (show 0 + 0 = 0 from rfl) (by decide) (fun rh1 Lh1 clh1 lnh1 ivh1 rvh1 h1 => ?_)
  obtain ⟨rfl, rfl, rfl, rfl, rfl, fl1, W1, exf1⟩ := h1
  have F1 := hF0.call hX0 fl1 rfl
  refine c_st (st2 := []) rfl ?_
  refine hv2 (show 0 ≤ ivh1 (sk 10) 2 ∧ ivh1 (sk 10) 2 ≤ 4001 from W1.int tsk10 2) (show ivh1 (sk 10) 2 = 0 from exf1) (fun ri1 gf1 => ?_)
  refine c_iconst C dX3_decode_7 ?_
  refine c_istore_n (lv2 := [(1, .int (iI 1)), (0, .ref a0)]) C dX3_decode_8 (by decide) rfl ?_
  refine c_iconst C dX3_decode_9 ?_
  refine c_istore_n (lv2 := [(2, .int (iI 0)), (1, .int (iI 1)), (0, .ref a0)]) C dX3_decode_10 (by decide) rfl ?_
  have Lp1 : ∀ (nn : Nat) (fs aq : Int) (Lb1 : List Nat) (clb1 lnb1 : Nat → Nat) (ivb1 : Nat → Nat → Int) (rvb1 : Nat → Nat → Option Nat) , 40211 - aq < (nn : Int) → XT L cl ln Lb1 clb1 lnb1 → WT (g0 G) sk Lb1 clb1 lnb1 ivb1 rvb1 → fT [16, 10, 40] L cl iv rv ivb1 rvb1 → (fs = 0 ∨ fs = 1) → (0 ≤ aq ∧ aq ≤ 40210) → (DCI L cl ln iv rv sk ivb1 rvb1 (1 - fs) aq) → cw p l e 5 ((PHM) + 0 - ((Phi (g0 G) sk) ln rv)) s m args below meth c G A 4 (MQ below (Qu G A (Qp G (Phi (g0 G) sk) ((Phi (g0 G) sk) ln rv) 0 (fun v L2 cl2 ln2 iv2 rv2 => ∃ f : Int, v = some (.int (iI f)) ∧ XT L cl ln L2 cl2 ln2 ∧ fT [16, 10, 40] L cl iv rv iv2 rv2 ∧ WT (g0 G) sk L2 cl2 ln2 iv2 rv2 ∧ (f = 0 ∨ f = 1) ∧ (DEX L cl ln iv rv sk iv2 rv2 f)))) args s (((PHM) + 0 - ((Phi (g0 G) sk) ln rv)) / 16) ((PHM) + 0 - ((Phi (g0 G) sk) ln rv)) A) (Phi (g0 G) sk) ((Phi (g0 G) sk) ln rv) Lb1 clb1 lnb1 ivb1 rvb1 0 11 [(1, .int (iI fs)), (2, .int (iI aq)), (0, .ref a0)] [] := by
    intro nn
    induction nn with
    | zero =>
      intro  fs aq Lb1 clb1 lnb1 ivb1 rvb1 hm Xb1 Wb1 Fb1  hfs haq hI
      have skb1 := Xb1.skl hS
      exact absurd hm (by omega)
    | succ nn ih1 =>
      intro  fs aq Lb1 clb1 lnb1 ivb1 rvb1 hm Xb1 Wb1 Fb1  hfs haq hI
      have skb1 := Xb1.skl hS
      refine c_iload_n (j := 1) C dX3_decode_11 rfl ?_
      refine c_aload_n (j := 2) (x := a0) C dX3_decode_12 rfl ?_
      have ty1 := Xb1.ty t_a0
      obtain ⟨rb2, rq2, trb2⟩ := Wb1.ref ty1 4 rfl rfl rfl
      have erb2 := Wb1.sk trb2 (by decide) rfl
      subst erb2
      refine c_getr (k := 4) C ck_4 dX3_decode_13 w1_198 (by decide) ty1 rfl rfl (by decide) rfl rq2 ?_
      refine c_st (st2 := [.ref (sk 8), .int (iI aq)]) rfl ?_
      refine hv2 (Xb1.ty tsk8) (show ivb1 (sk 8) 2 = iv (sk 8) 2 from Fb1.i tsk8 rfl 2) (fun ty2 ie2 => ?_)
      have ri2 : 0 ≤ ivb1 (sk 8) 2 ∧ ivb1 (sk 8) 2 ≤ 40200 := Wb1.int ty2 2
      refine c_get (k := 2) C ck_2 dX3_decode_16 w1_49 (by decide) ty2 rfl rfl (by decide) rfl ?_
      refine c_icmp_ge (tgt := 72) C (r32_c (lo := 0) (hi := 40210) haq.1 haq.2 (by decide) (by decide)) (r32_c (lo := 0) (hi := 40200) ri2.1 ri2.2 (by decide) (by decide)) dX3_decode_19 (by decide) (fun c1 => ?_) (fun c1 => ?_)
      · refine c_iconst C dX3_decode_72 ?_
        have pl1 := Phi.le Wb1 skb1
        exact c_zret C dX3_decode_73 rfl (Or.inr rfl) (by decide) (rom0 hph pl1 (by decide)) ⟨1, rfl, Xb1, Fb1, Wb1, (Or.inr rfl), (hI.fin (fun a l0 l1 R hc => hc.fr hW hS Xb1 Fb1 (QT.of hW hS Xb1 Fb1 rfl rfl rfl rfl rfl) rfl rfl rfl rfl rfl rfl rfl rfl rfl rfl) (by omega) (by omega))⟩
      · refine c_aload_n (j := 2) (x := a0) C dX3_decode_22 rfl ?_
        refine c_getr (k := 4) C ck_4 dX3_decode_23 w1_198 (by decide) ty1 rfl rfl (by decide) rfl rq2 ?_
        refine c_st (st2 := [.ref (sk 8)]) rfl ?_
        refine c_iload_n (j := 1) C dX3_decode_26 rfl ?_
        have pl2 := Phi.le Wb1 skb1
        refine d_callV (As := [.int (iI aq)]) (rest := []) C hM (C_at_8 (a0 := (sk 8)) (i := aq) Wb1 skb1 ty2 (by omega) ) dX3_decode_27 kV_X3_119 rfl ty2 rfl rfl (by decide) ck_2 rfl (Nat.le_of_ble_eq_true rfl) ⟨(Nat.le_of_ble_eq_true rfl), (Nat.le_of_ble_eq_true rfl)⟩ hph pl2 (show 0 + 0 = 0 from rfl) (by decide) (fun rh2 Lh2 clh2 lnh2 ivh2 rvh2 h2 => ?_)
        obtain ⟨f2, rfl, rfl, rfl, rfl, rfl, rfl, rgf2, exf2⟩ := h2
        refine c_st (st2 := [.int (iI f2)]) rfl ?_
        have gf2 : ((0 ≤ aq ∧ aq < ivb1 (sk 8) 2) ∨ f2 = 0) ∧ ∀ ss, CT ivb1 rvb1 (sk 8) ss → 0 ≤ aq → aq < ivb1 (sk 8) 2 → f2 = ss aq.toNat := exf2
        refine c_if_ne (tgt := 39) C ⟨by omega, by omega⟩ dX3_decode_30 (by decide) (fun c2 => ?_) (fun c2 => ?_)
        · refine c_iload_n (j := 0) C dX3_decode_39 rfl ?_
          refine c_if_ne (tgt := 52) C (r32_01 hfs) dX3_decode_40 (by decide) (fun c3 => ?_) (fun c3 => ?_)
          · replace hfs := (hfs.resolve_left c3)
            refine c_iconst C dX3_decode_52 ?_
            refine c_istore_n (lv2 := [(1, .int (iI 0)), (2, .int (iI aq)), (0, .ref a0)]) C dX3_decode_53 (by decide) rfl ?_
            have hW9 : DCW L cl ln iv rv sk ivb1 rvb1 aq := hI.word0 (fun a l0 l1 R hc => hc.fr hW hS Xb1 Fb1 (QT.of hW hS Xb1 Fb1 rfl rfl rfl rfl rfl) rfl rfl rfl rfl rfl rfl rfl rfl rfl rfl) (fun R hR => gf2.2 R hR (by omega) (by omega)) (by omega) (by omega)
            refine c_aload_n (j := 2) (x := a0) C dX3_decode_54 rfl ?_
            refine c_iload_n (j := 1) C dX3_decode_55 rfl ?_
            refine d_callV (As := [.int (iI aq)]) (rest := []) C hM (G_decodeWord (a0 := a0) (i := aq) Wb1 skb1 ty1 (by omega) (by show 0 ≤ aq ∧ aq ≤ 40200; omega)) dX3_decode_56 kV_X3_123 rfl ty1 rfl rfl (by decide) ck_4 rfl (Nat.le_of_ble_eq_true rfl) ⟨(Nat.le_of_ble_eq_true rfl), (Nat.le_of_ble_eq_true rfl)⟩ hph pl2 (show 0 + 0 = 0 from rfl) (by decide) (fun rh3 Lh3 clh3 lnh3 ivh3 rvh3 h3 => ?_)
            obtain ⟨f3, rfl, xl3, fl3, W3, rgf3, exf3⟩ := h3
            refine hv9 (Fb1.call Xb1 fl3 rfl) (Xb1.ty tsk6) (Xb1.ty tsk7) (Xb1.ty tsk9) (Xb1.ty tsk10) (Xb1.ty tsk24) (Xb1.ty tsk25) (Xb1.trans xl3) (xl3.skl skb1) (fun F2 ty3 ty4 ty5 ty6 ty7 ty8 X1 sk1 => ?_)
            refine c_st (st2 := [.int (iI f3)]) rfl ?_
            have gf3 : f3 ≤ 40210 ∧ DWX Lb1 clb1 lnb1 ivb1 rvb1 sk ivh3 rvh3 aq f3 := exf3
            have hR9 := hW9.run (iv3 := ivh3) (rv3 := rvh3) (fun a l0 l1 R hc => hc.fr hW hS Xb1 Fb1 (QT.of hW hS Xb1 Fb1 rfl rfl rfl rfl rfl) rfl rfl rfl rfl rfl rfl rfl rfl rfl rfl) gf3.2 (by omega)
            refine c_istore_n (lv2 := [(3, .int (iI f3)), (1, .int (iI 0)), (2, .int (iI aq)), (0, .ref a0)]) C dX3_decode_59 (by decide) rfl ?_
            refine c_iload_n (j := 0) C dX3_decode_60 rfl ?_
            refine c_iload_n (j := 2) C dX3_decode_61 rfl ?_
            refine c_icmp_gt (tgt := 67) C ⟨by omega, by omega⟩ (r32_c (lo := 0) (hi := 40210) haq.1 haq.2 (by decide) (by decide)) dX3_decode_62 (by decide) (fun c4 => ?_) (fun c4 => ?_)
            · refine c_iload_n (j := 0) C dX3_decode_67 rfl ?_
              refine c_istore_n (lv2 := [(2, .int (iI f3)), (3, .int (iI f3)), (1, .int (iI 0)), (0, .ref a0)]) C dX3_decode_68 (by decide) rfl ?_
              refine c_goto (tgt := 11) C dX3_decode_69 (by decide) ?_
              refine hv3 (xl3.ty ty2) (show ivh3 (sk 8) 2 = ivb1 (sk 8) 2 from fl3.i ty2 rfl 2) (xl3.ty ty6) (fun ty9 ie3 ty10 => ?_)
              refine hv2 (show 0 ≤ ivh3 (sk 8) 2 ∧ ivh3 (sk 8) 2 ≤ 40200 from W3.int ty9 2) (show 0 ≤ ivh3 (sk 10) 2 ∧ ivh3 (sk 10) 2 ≤ 4001 from W3.int ty10 2) (fun ri3 ri4 => ?_)
              refine c_lv (lv2 := [(1, .int (iI 0)), (2, .int (iI f3)), (0, .ref a0)]) [2, 0, 3] rfl ?_
              exact ih1  0 f3 _ _ _ _ _ (by omega) X1 W3 F2  (by omega) (by omega) (by have q := hR9.2 (by omega); exact q)
            · refine c_iconst C dX3_decode_65 ?_
              refine hv3 (xl3.ty ty2) (show ivh3 (sk 8) 2 = ivb1 (sk 8) 2 from fl3.i ty2 rfl 2) (Phi.le W3 sk1) (fun ty11 ie5 pl3 => ?_)
              have ri5 : 0 ≤ ivh3 (sk 8) 2 ∧ ivh3 (sk 8) 2 ≤ 40200 := W3.int ty11 2
              exact c_zret C dX3_decode_66 rfl (Or.inl rfl) (by decide) (rom0 hph pl3 (by decide)) ⟨0, rfl, X1, F2, W3, (Or.inl rfl), (hR9.1 (by omega))⟩
          · clear hfs
            refine c_aload_n (j := 2) (x := a0) C dX3_decode_43 rfl ?_
            obtain ⟨rb3, rq3, trb3⟩ := Wb1.ref ty1 6 rfl rfl rfl
            have erb3 := Wb1.sk trb3 (by decide) rfl
            subst erb3
            refine c_getr (k := 6) C ck_4 dX3_decode_44 w1_200 (by decide) ty1 rfl rfl (by decide) rfl rq3 ?_
            refine c_st (st2 := [.ref (sk 10)]) rfl ?_
            refine c_bipush (z := 32) C dX3_decode_47 (by decide) ?_
            have ty12 := Xb1.ty tsk10
            have ri6 : 0 ≤ ivb1 (sk 10) 2 ∧ ivb1 (sk 10) 2 ≤ 4001 := Wb1.int ty12 2
            refine d_callV (As := [.int (iI 32)]) (rest := []) C hM (G_add_10 (a0 := (sk 10)) (x := 32) Wb1 skb1 ty12 ⟨by decide, by decide⟩ ) dX3_decode_49 kV_X3_91 rfl ty12 rfl rfl (by decide) ck_2 rfl (Nat.le_of_ble_eq_true rfl) ⟨(Nat.le_of_ble_eq_true rfl), (Nat.le_of_ble_eq_true rfl)⟩ hph pl2 (show 0 + 0 = 0 from rfl) (by decide) (fun rh4 Lh4 clh4 lnh4 ivh4 rvh4 h4 => ?_)
            obtain ⟨rfl, xl4, fl4, W4, exf4⟩ := h4
            refine hv8 (Fb1.call Xb1 fl4 rfl) (Xb1.ty tsk6) (Xb1.ty tsk7) (Xb1.ty tsk9) (Xb1.ty tsk24) (Xb1.ty tsk25) (Xb1.trans xl4) (xl4.skl skb1) (fun F3 ty13 ty14 ty15 ty16 ty17 X2 sk2 => ?_)
            refine c_st (st2 := []) rfl ?_
            refine hv2 (xl4.ty ty12) (show ((ivh4 (sk 10) 2 = ivb1 (sk 10) 2 ∧ ivb1 (sk 10) 2 = 4001) ∨ (ivh4 (sk 10) 2 = ivb1 (sk 10) 2 + 1 ∧ ivb1 (sk 10) 2 < 4001)) ∧ (∀ ss, CT ivb1 rvb1 (sk 10) ss → ivb1 (sk 10) 2 < 4001 → CT ivh4 rvh4 (sk 10) (va_up ss (ivb1 (sk 10) 2).toNat (32 : Int))) ∧ (ivb1 (sk 10) 2 = 4001 → ∀ ss, CT ivb1 rvb1 (sk 10) ss → CT ivh4 rvh4 (sk 10) ss) from exf4) (fun ty18 gf4 => ?_)
            have ri7 : 0 ≤ ivh4 (sk 10) 2 ∧ ivh4 (sk 10) 2 ≤ 4001 := W4.int ty18 2
            refine c_iconst C dX3_decode_52 ?_
            refine c_istore_n (lv2 := [(1, .int (iI 0)), (2, .int (iI aq)), (0, .ref a0)]) C dX3_decode_53 (by decide) rfl ?_
            have hW9 : DCW L cl ln iv rv sk ivh4 rvh4 aq := hI.word1 (fun a l0 l1 R hc => hc.fr hW hS Xb1 Fb1 (QT.of hW hS Xb1 Fb1 rfl rfl rfl rfl rfl) rfl rfl rfl rfl rfl rfl rfl rfl rfl rfl) (fun R hR => gf2.2 R hR (by omega) (by omega)) (by omega) (by omega) gf4
            refine c_aload_n (j := 2) (x := a0) C dX3_decode_54 rfl ?_
            refine c_iload_n (j := 1) C dX3_decode_55 rfl ?_
            refine hv2 (xl4.ty ty1) (Phi.le W4 sk2) (fun ty19 pl4 => ?_)
            refine d_callV (As := [.int (iI aq)]) (rest := []) C hM (G_decodeWord (a0 := a0) (i := aq) W4 sk2 ty19 (by omega) (by show 0 ≤ aq ∧ aq ≤ 40200; omega)) dX3_decode_56 kV_X3_123 rfl ty19 rfl rfl (by decide) ck_4 rfl (Nat.le_of_ble_eq_true rfl) ⟨(Nat.le_of_ble_eq_true rfl), (Nat.le_of_ble_eq_true rfl)⟩ hph pl4 (show 0 + 0 = 0 from rfl) (by decide) (fun rh5 Lh5 clh5 lnh5 ivh5 rvh5 h5 => ?_)
            obtain ⟨f5, rfl, xl5, fl5, W5, rgf5, exf5⟩ := h5
            refine hv9 (F3.call X2 fl5 rfl) (xl4.ty ty13) (xl4.ty ty14) (xl4.ty ty2) (xl4.ty ty15) (xl4.ty ty16) (xl4.ty ty17) (X2.trans xl5) (xl5.skl sk2) (fun F4 ty20 ty21 ty22 ty23 ty24 ty25 X3 sk3 => ?_)
            refine c_st (st2 := [.int (iI f5)]) rfl ?_
            have gf5 : f5 ≤ 40210 ∧ DWX Lh4 clh4 lnh4 ivh4 rvh4 sk ivh5 rvh5 aq f5 := exf5
            have hR9 := hW9.run (iv3 := ivh5) (rv3 := rvh5) (fun a l0 l1 R hc => hc.fr hW hS X2 F3 (QT.of hW hS X2 F3 rfl rfl rfl rfl rfl) rfl rfl rfl rfl rfl rfl rfl rfl rfl rfl) gf5.2 (by omega)
            refine c_istore_n (lv2 := [(3, .int (iI f5)), (1, .int (iI 0)), (2, .int (iI aq)), (0, .ref a0)]) C dX3_decode_59 (by decide) rfl ?_
            refine c_iload_n (j := 0) C dX3_decode_60 rfl ?_
            refine c_iload_n (j := 2) C dX3_decode_61 rfl ?_
            refine c_icmp_gt (tgt := 67) C ⟨by omega, by omega⟩ (r32_c (lo := 0) (hi := 40210) haq.1 haq.2 (by decide) (by decide)) dX3_decode_62 (by decide) (fun c5 => ?_) (fun c5 => ?_)
            · refine c_iload_n (j := 0) C dX3_decode_67 rfl ?_
              refine c_istore_n (lv2 := [(2, .int (iI f5)), (3, .int (iI f5)), (1, .int (iI 0)), (0, .ref a0)]) C dX3_decode_68 (by decide) rfl ?_
              refine c_goto (tgt := 11) C dX3_decode_69 (by decide) ?_
              refine hv4 (xl5.ty ty22) (show ivh5 (sk 8) 2 = ivh4 (sk 8) 2 from fl5.i ty22 rfl 2) (show ivh4 (sk 8) 2 = ivb1 (sk 8) 2 from fl4.i ty2 rfl 2) (xl5.ty ty18) (fun ty26 ie8 ie9 ty27 => ?_)
              refine hv2 (show 0 ≤ ivh5 (sk 8) 2 ∧ ivh5 (sk 8) 2 ≤ 40200 from W5.int ty26 2) (show 0 ≤ ivh5 (sk 10) 2 ∧ ivh5 (sk 10) 2 ≤ 4001 from W5.int ty27 2) (fun ri8 ri9 => ?_)
              refine c_lv (lv2 := [(1, .int (iI 0)), (2, .int (iI f5)), (0, .ref a0)]) [2, 0, 3] rfl ?_
              exact ih1  0 f5 _ _ _ _ _ (by omega) X3 W5 F4  (by omega) (by omega) (by have q := hR9.2 (by omega); exact q)
            · refine c_iconst C dX3_decode_65 ?_
              refine hv4 (xl5.ty ty22) (show ivh5 (sk 8) 2 = ivh4 (sk 8) 2 from fl5.i ty22 rfl 2) (show ivh4 (sk 8) 2 = ivb1 (sk 8) 2 from fl4.i ty2 rfl 2) (Phi.le W5 sk3) (fun ty28 ie11 ie12 pl5 => ?_)
              have ri10 : 0 ≤ ivh5 (sk 8) 2 ∧ ivh5 (sk 8) 2 ≤ 40200 := W5.int ty28 2
              exact c_zret C dX3_decode_66 rfl (Or.inl rfl) (by decide) (rom0 hph pl5 (by decide)) ⟨0, rfl, X3, F4, W5, (Or.inl rfl), (hR9.1 (by omega))⟩
        · refine c_iinc (z := aq) (j := 1) (lv2 := [(2, .int (iI (aq + 1))), (1, .int (iI fs)), (0, .ref a0)]) C dX3_decode_33 rfl (by decide) rfl ?_
          refine c_goto (tgt := 11) C dX3_decode_36 (by decide) ?_
          have ty29 := Xb1.ty tsk10
          have ri11 : 0 ≤ ivb1 (sk 10) 2 ∧ ivb1 (sk 10) 2 ≤ 4001 := Wb1.int ty29 2
          refine c_lv (lv2 := [(1, .int (iI fs)), (2, .int (iI (aq + 1))), (0, .ref a0)]) [1, 0, 2] rfl ?_
          exact ih1  fs (aq + 1) _ _ _ _ _ (by omega) Xb1 Wb1 Fb1  (by omega) (by omega) (hI.blank (fun a l0 l1 R hc => hc.fr hW hS Xb1 Fb1 (QT.of hW hS Xb1 Fb1 rfl rfl rfl rfl rfl) rfl rfl rfl rfl rfl rfl rfl rfl rfl rfl) (fun R hR => gf2.2 R hR (by omega) (by omega)) (by omega))
  refine hv2 (show 0 ≤ ivh1 (sk 8) 2 ∧ ivh1 (sk 8) 2 ≤ 40200 from W1.int tsk8 2) (show ivh1 (sk 8) 2 = iv (sk 8) 2 from fl1.i tsk8 rfl 2) (fun ri12 ie14 => ?_)
  refine c_lv (lv2 := [(1, .int (iI 1)), (2, .int (iI 0)), (0, .ref a0)]) [1, 0, 2] rfl ?_
  exact Lp1 40213 1 0 _ _ _ _ _ (by omega) hX0 W1 F1  (by omega) (by omega) (DCI.init (by omega) (by omega))
end
section
set_option maxHeartbeats 4000000 in
set_option maxRecDepth 100000 in
theorem G_copyOf_8 {l : Launch} {G : GT} {mi : Nat} {sk : Nat → Nat} {L : List Nat} {cl ln : Nat → Nat} {iv : Nat → Nat → Int} {rv : Nat → Nat → Option Nat}  {a0 : Nat} {n : Int} (hW : WT (g0 G) sk L cl ln iv rv) (hS : SKL sk L cl) (t_a0 : ty L cl a0 38) (h_n : -2147483648 ≤ n ∧ n ≤ 2147483647) (hn : ((ln a0 : Nat) : Int) < n ∧ 16 ≤ n ∧ n ≤ 80400) : Mc l G mi zPf 0 yJ7_copyOf_59c91 cJ7_copyOf_59c91 3 (some (.array .int)) 1 [.ref a0, .int (iI n)] L cl ln iv rv (16 + n.toNat) (fun v L2 cl2 ln2 iv2 rv2 => ∃ f : Nat, v = some (.ref f) ∧ XT L cl ln L2 cl2 ln2 ∧ fT [38] L cl iv rv iv2 rv2 ∧ WT (g0 G) sk L2 cl2 ln2 iv2 rv2 ∧ ty L2 cl2 f 38 ∧ (ln2 f = n.toNat ∧ ∀ j : Nat, j < ln a0 → iv2 f j = iv a0 j)) := by
  refine Mc.mk (by decide) (Nat.le_of_ble_eq_true rfl) ?_
  intro p e s m args below meth c A C hM
  refine hv3 ((show zPf ln rv ≤ 0 from Nat.le_refl 0)) (show XT L cl ln L cl ln from XT.refl) (show fT [38] L cl iv rv iv rv from fT.refl) (fun hph hX0 hF0 => ?_)
  refine c_iload_n (j := 1) C dJ7_copyOf_59c91_0 rfl ?_
  refine c_aload_n (j := 0) (x := a0) C dJ7_copyOf_59c91_1 rfl ?_
  have ll1 : 16 ≤ ln a0 ∧ ln a0 ≤ 80400 := hW.len t_a0 rfl
  refine c_alenI C dJ7_copyOf_59c91_2 t_a0 rfl ?_
  refine c_icmp_ne (tgt := 14) C ⟨by omega, by omega⟩ ⟨by omega, by omega⟩ dJ7_copyOf_59c91_3 (by decide) (fun _ => ?_) (fun z => absurd z (by omega))
  refine c_iload_n (j := 1) C dJ7_copyOf_59c91_14 rfl ?_
  refine c_newaI (z := n) (N := n.toNat) C 38 dJ7_copyOf_59c91_15 w1_57 rfl (by omega) (by omega) (rom2 hph hph (by omega)) (fun qn1 cln1 lnn1 ivn1 rvn1 hqn1 hcn1 hln1 hin1 hrn1 => ⟨(0 + (16 + n.toNat)), (z_in (by omega)), ?_⟩)
  refine c_g0 C (fun hg1 => ?_)
  refine hv5 (show ∀ b, b ≠ qn1 → lnn1 b = ln b from (fun b hb => by rw [hln1]; exact va_up_ne _ _ hb)) (show lnn1 qn1 = n.toNat from by rw [hln1]; exact va_up_self _ _ _) (hF0.new hX0 hqn1 hin1 hrn1) (show ty (L ++ [qn1]) cln1 qn1 38 from ty_new hcn1) (show qn1 ∉ L from fun h => hqn1 ((hX0 qn1 h).1)) (fun hxn1 lqn1 F1 tqn1 h0qn1 => ?_)
  refine hv2 (hW.new (ln2 := lnn1) hqn1 (hg1 qn1 (List.mem_append_right _ List.mem_cons_self)) hcn1 hxn1 hin1 hrn1 (fun _ => ⟨(show (-2147483648 : Int) ≤ 0 by decide), (show (0 : Int) ≤ 2147483647 by decide)⟩) (Or.inr (fun _ => rfl)) (fun _ => by show 16 ≤ lnn1 qn1 ∧ lnn1 qn1 ≤ 80400; omega) rfl rfl) (XT.new hqn1 hcn1 hxn1) (fun W1 xl1 => ?_)
  refine hv2 (hX0.trans xl1) (xl1.skl hS) (fun X1 sk1 => ?_)
  refine c_astore_n (lv2 := [(2, .ref qn1), (0, .ref a0), (1, .int (iI n))]) C dJ7_copyOf_59c91_17 (by decide) rfl ?_
  refine c_aload_n (j := 1) (x := a0) C dJ7_copyOf_59c91_18 rfl ?_
  refine c_iconst C dJ7_copyOf_59c91_19 ?_
  refine c_aload_n (j := 0) (x := qn1) C dJ7_copyOf_59c91_20 rfl ?_
  refine c_iconst C dJ7_copyOf_59c91_21 ?_
  refine c_aload_n (j := 1) (x := a0) C dJ7_copyOf_59c91_22 rfl ?_
  have ty1 := xl1.ty t_a0
  have ll2 : 16 ≤ lnn1 a0 ∧ lnn1 a0 ≤ 80400 := W1.len ty1 rfl
  refine c_alenI C dJ7_copyOf_59c91_23 ty1 rfl ?_
  refine c_iload_n (j := 2) C dJ7_copyOf_59c91_24 rfl ?_
  obtain ⟨mn1, hmn1, emn1⟩ := mmin_c (x := ((lnn1 a0 : Nat) : Int)) (y := n) ⟨by omega, by omega⟩ ⟨by omega, by omega⟩
  refine c_mmin (w := iI mn1) C dJ7_copyOf_59c91_25 w2_128 w2_129 w1_14 w2_130 (by decide) (rom0 hph (Nat.le_refl 0) (by omega)) (Nat.le_of_ble_eq_true rfl) emn1 ?_
  have ll3 : 16 ≤ lnn1 qn1 ∧ lnn1 qn1 ≤ 80400 := W1.len tqn1 rfl
  refine c_copyi (sp := 0) (dp := 0) (n := mn1) C dJ7_copyOf_59c91_28 w2_131 w2_133 w2_132 w1_15 ty1 rfl tqn1 rfl (by omega) (by omega) (by omega) (by omega) (by omega) (by omega) (by omega) (by decide) (Nat.le_of_ble_eq_true rfl) (fun iv1 pq1 => ?_)
  refine hv2 (W1.copy pq1 tqn1 ty1 (fun _ => rfl) (fun _ => rfl) (fun _ => rfl) (fun _ => rfl) rfl) (F1.copy X1 pq1 tqn1 rfl) (fun W2 F2 => ?_)
  refine c_aload_n (j := 0) (x := qn1) C dJ7_copyOf_59c91_31 rfl ?_
  have le1 : lnn1 a0 = ln a0 := (xl1 a0 t_a0.1).2.2
  exact c_aret (x := some qn1) C dJ7_copyOf_59c91_32 rfl (Or.inr ⟨_, rfl⟩) (by omega) (rom0 hph (Nat.le_refl 0) (by omega)) ⟨qn1, rfl, X1, F2, W2, tqn1, ⟨lqn1, fun j hj => by
      rw [pq1]
      show (if qn1 = qn1 then (if (0 : Int).toNat ≤ j ∧ j < (0 : Int).toNat + mn1.toNat then ivn1 a0 ((0 : Int).toNat + (j - (0 : Int).toNat)) else ivn1 qn1 j) else ivn1 qn1 j) = _
      rw [if_pos rfl, if_pos ⟨by omega, by omega⟩, hin1, congrFun (up0_a (ne_in t_a0.1 hqn1)) _]
      exact congrArg (iv a0) (by omega)⟩⟩
set_option maxHeartbeats 4000000 in
set_option maxRecDepth 100000 in
theorem G_add_8 {l : Launch} {G : GT} {mi : Nat} {sk : Nat → Nat} {L : List Nat} {cl ln : Nat → Nat} {iv : Nat → Nat → Int} {rv : Nat → Nat → Option Nat}  {a0 : Nat} {x : Int} (hW : WT (g0 G) sk L cl ln iv rv) (hS : SKL sk L cl) (t_a0 : ty L cl a0 8) (h_x : -2147483648 ≤ x ∧ x ≤ 2147483647)  : Mc l G mi (Phi (g0 G) sk) PHM yX1_add cX1_add 2 none 2 [.ref a0, .int (iI x)] L cl ln iv rv 0 (fun v L2 cl2 ln2 iv2 rv2 => v = none ∧ XT L cl ln L2 cl2 ln2 ∧ fT [8, 38] L cl iv rv iv2 rv2 ∧ WT (g0 G) sk L2 cl2 ln2 iv2 rv2 ∧ (((iv2 a0 2 = iv a0 2 ∧ iv a0 2 = 40200) ∨ (iv2 a0 2 = iv a0 2 + 1 ∧ iv a0 2 < 40200)) ∧ (∀ ss, CT iv rv a0 ss → iv a0 2 < 40200 → CT iv2 rv2 a0 (va_up ss (iv a0 2).toNat x)) ∧ (iv a0 2 = 40200 → ∀ ss, CT iv rv a0 ss → CT iv2 rv2 a0 ss))) := by
  refine Mc.mk (by decide) (Nat.le_of_ble_eq_true rfl) ?_
  intro p e s m args below meth c A C hM
  refine hv3 (Phi.le hW hS) (show XT L cl ln L cl ln from XT.refl) (show fT [8, 38] L cl iv rv iv rv from fT.refl) (fun hph hX0 hF0 => ?_)
  refine c_aload_n (j := 0) (x := a0) C dX1_add_0 rfl ?_
  have ri1 : 0 ≤ iv a0 2 ∧ iv a0 2 ≤ 40200 := hW.int t_a0 2
  refine c_get (k := 2) C ck_2 dX1_add_1 w1_43 (by decide) t_a0 rfl rfl (by decide) rfl ?_
  refine c_aload_n (j := 0) (x := a0) C dX1_add_4 rfl ?_
  have ri2 : 40200 ≤ iv a0 0 ∧ iv a0 0 ≤ 40200 := hW.int t_a0 0
  refine c_get (k := 0) C ck_2 dX1_add_5 w1_38 (by decide) t_a0 rfl rfl (by decide) rfl ?_
  refine c_icmp_lt (tgt := 12) C (r32_c (lo := 0) (hi := 40200) ri1.1 ri1.2 (by decide) (by decide)) (r32_c (lo := 40200) (hi := 40200) ri2.1 ri2.2 (by decide) (by decide)) dX1_add_8 (by decide) (fun c1 => ?_) (fun c1 => ?_)
  · refine c_aload_n (j := 0) (x := a0) C dX1_add_12 rfl ?_
    refine c_get (k := 2) C ck_2 dX1_add_13 w1_43 (by decide) t_a0 rfl rfl (by decide) rfl ?_
    refine c_aload_n (j := 0) (x := a0) C dX1_add_16 rfl ?_
    obtain ⟨rb1, rq1, trb1⟩ := hW.ref t_a0 1 rfl rfl rfl
    refine hv2 (show 16 ≤ ln rb1 ∧ ln rb1 ≤ 80400 from hW.len trb1 rfl) (hW.isz t_a0 rfl rfl rq1) (fun lnrb1 szrb1 => ?_)
    refine c_getr (k := 1) C ck_2 dX1_add_17 w1_39 (by decide) t_a0 rfl rfl (by decide) rfl rq1 ?_
    refine c_st (st2 := [.ref rb1, .int (iI (iv a0 2))]) rfl ?_
    have ll1 : 16 ≤ ln rb1 ∧ ln rb1 ≤ 80400 := hW.len trb1 rfl
    refine c_alenI C dX1_add_20 trb1 rfl ?_
    refine c_icmp_lt (tgt := 42) C (r32_c (lo := 0) (hi := 40200) ri1.1 ri1.2 (by decide) (by decide)) ⟨by omega, by omega⟩ dX1_add_21 (by decide) (fun c2 => ?_) (fun c2 => ?_)
    · refine c_aload_n (j := 0) (x := a0) C dX1_add_42 rfl ?_
      refine c_getr (k := 1) C ck_2 dX1_add_43 w1_39 (by decide) t_a0 rfl rfl (by decide) rfl rq1 ?_
      refine c_st (st2 := [.ref rb1]) rfl ?_
      refine c_aload_n (j := 0) (x := a0) C dX1_add_46 rfl ?_
      refine c_get (k := 2) C ck_2 dX1_add_47 w1_43 (by decide) t_a0 rfl rfl (by decide) rfl ?_
      refine c_iload_n (j := 1) C dX1_add_50 rfl ?_
      refine c_iast (x := x) C dX1_add_51 trb1 rfl (by omega) (by omega) (by omega) (fun iv1 pq1 => ?_)
      refine hv2 (hW.puti pq1 trb1 (show (-2147483648) ≤ x ∧ x ≤ 2147483647 by omega) rfl) (hF0.puti hX0 pq1 trb1 rfl) (fun W1 F1 => ?_)
      refine c_aload_n (j := 0) (x := a0) C dX1_add_52 rfl ?_
      refine c_dup C dX1_add_53 rfl ?_
      refine hv2 (show 0 ≤ iv1 a0 2 ∧ iv1 a0 2 ≤ 40200 from W1.int t_a0 2) (show iv1 a0 2 = iv a0 2 from by rw [pq1]; exact up2_k (ne_ty t_a0 trb1 (by decide))) (fun ri3 ie1 => ?_)
      refine c_get (k := 2) C ck_2 dX1_add_54 w1_43 (by decide) t_a0 rfl rfl (by decide) rfl ?_
      refine c_iconst C dX1_add_57 ?_
      refine c_iadd C dX1_add_58 ?_
      refine c_put (z := (iv1 a0 2) + 1) (k := 2) C ck_2 dX1_add_59 w1_43 (by decide) rfl t_a0 rfl rfl (by decide) rfl (by rfl) (by rfl) (fun iv2 pq2 => ?_)
      refine hv3 (W1.isz_put pq2 t_a0 (show 0 ≤ ((iv1 a0 2) + 1) ∧ ((iv1 a0 2) + 1) ≤ 40200 by omega) rfl rfl rq1 (show ((iv1 a0 2) + 1) ≤ ((ln rb1 : Nat) : Int) by omega)) (F1.puti hX0 pq2 t_a0 rfl) (show iv2 a0 2 = (iv1 a0 2) + 1 from by rw [pq2]; exact up2_s) (fun W2 F2 ie2 => ?_)
      have ri4 : 0 ≤ iv2 a0 2 ∧ iv2 a0 2 ≤ 40200 := W2.int t_a0 2
      exact c_vret C dX1_add_62 rfl (by decide) (rom0 hph hph (by decide)) ⟨rfl, hX0, F2, W2, ⟨by omega, (fun ss hs hq b2 hb j hj => by
          rw [rq1] at hb
          cases hb
          rw [pq2, up2_k (ne_ty trb1 t_a0 (by decide)), pq1]
          by_cases e : j = (iv a0 2).toNat
          · subst e; rw [up2_s, va_up_self]
          · rw [up2_j e, va_up_ne _ _ e]; exact hs _ rq1 j (by omega)), (fun e => absurd e (by omega))⟩⟩
    · refine c_aload_n (j := 0) (x := a0) C dX1_add_24 rfl ?_
      refine c_aload_n (j := 0) (x := a0) C dX1_add_25 rfl ?_
      refine c_getr (k := 1) C ck_2 dX1_add_26 w1_39 (by decide) t_a0 rfl rfl (by decide) rfl rq1 ?_
      refine c_st (st2 := [.ref rb1, .ref a0]) rfl ?_
      refine c_aload_n (j := 0) (x := a0) C dX1_add_29 rfl ?_
      refine c_getr (k := 1) C ck_2 dX1_add_30 w1_39 (by decide) t_a0 rfl rfl (by decide) rfl rq1 ?_
      refine c_st (st2 := [.ref rb1, .ref rb1, .ref a0]) rfl ?_
      refine c_alenI C dX1_add_33 trb1 rfl ?_
      refine c_iconst C dX1_add_34 ?_
      refine c_imul C dX1_add_35 ?_
      refine c_g0 C (fun hg0 => ?_)
      refine hv2 (hW.sk t_a0 (by decide) rfl) (cap_of (ln := ln) rq1 (hg0 rb1 trb1.1)) (fun ask0 cp0 => ?_)
      have sl0 := Phi.slack (t := 8) (n := ln rb1) hW hS ⟨by decide, by decide⟩ (by rw [← ask0]; exact cp0) (by show ln rb1 ≤ 40200; omega)
      refine c_callS (As := [.ref rb1, .int (iI (((ln rb1 : Nat) : Int) * 2))]) (rest := [.ref a0]) C hM (G_copyOf_8 (a0 := rb1) (n := ((ln rb1 : Nat) : Int) * 2) hW hS trb1 (by omega) (by show ((ln rb1 : Nat) : Int) < (((ln rb1 : Nat) : Int) * 2) ∧ 16 ≤ (((ln rb1 : Nat) : Int) * 2) ∧ (((ln rb1 : Nat) : Int) * 2) ≤ 80400; omega)) dX1_add_36 kS_X1_20 rfl rfl (Nat.le_of_ble_eq_true rfl) ⟨(Nat.le_of_ble_eq_true rfl), (Nat.le_of_ble_eq_true rfl)⟩ (by unfold zPf; omega) (fun rh1 Lh1 clh1 lnh1 ivh1 rvh1 h1 => ⟨(0 + (16 + (((ln rb1 : Nat) : Int) * 2).toNat)), (zk1 (by obtain ⟨_, _, xlh1x, flh1x, Wh1x, _⟩ := h1; exact Phi.fr hW hS xlh1x flh1x rfl)), ?_⟩)
      obtain ⟨f1, rfl, xl1, fl1, W3, rgf1, exf1⟩ := h1
      refine hv3 (hF0.call hX0 fl1 rfl) (hX0.trans xl1) (xl1.skl hS) (fun F3 X1 sk1 => ?_)
      refine c_st (st2 := [.ref f1, .ref a0]) rfl ?_
      refine hv3 (show lnh1 f1 = (((ln rb1 : Nat) : Int) * 2).toNat ∧ ∀ j : Nat, j < ln rb1 → ivh1 f1 j = iv rb1 j from exf1) (xl1.ty t_a0) (show rvh1 a0 1 = rv a0 1 from (fl1.r t_a0 rfl 1)) (fun gf1 ty1 re1 => ?_)
      rw [rq1] at re1
      refine hv4 (show 0 ≤ ivh1 a0 2 ∧ ivh1 a0 2 ≤ 40200 from W3.int ty1 2) (show ivh1 a0 2 = iv a0 2 from fl1.i t_a0 rfl 2) (xl1.ty trb1) (show lnh1 rb1 = ln rb1 from (xl1 rb1 trb1.1).2.2) (fun ri5 ie3 ty2 le1 => ?_)
      refine c_g0 C (fun hg1 => ?_)
      refine hv2 (W3.sk ty1 (by decide) rfl) (cap_of (ln := lnh1) re1 (hg1 rb1 ty2.1)) (fun ask cpo => ?_)
      refine c_putr (x := (some f1)) (k := 1) C ck_2 dX1_add_39 w1_39 (by decide) rfl ty1 rfl rfl (by decide) rfl (by rfl) (by rfl) (fun rv1 pq3 => ⟨0, (by have gr := Phi.grow (g := g0 G) (rv2 := rv1) (rv := rvh1) (b := f1) (ln := lnh1) (t := 8) sk1 (by rw [← ask]; exact pq3) (hg1 f1 rgf1.1) (Or.inl ⟨by decide, by decide⟩); rw [← ask] at gr; have gr2 : Phi (g0 G) sk lnh1 rv1 + 3 * cap (g0 G) lnh1 rvh1 a0 = Phi (g0 G) sk lnh1 rvh1 + 3 * lnh1 f1 := gr; omega), ?_⟩)
      refine hv2 (W3.putit pq3 ty1 rfl rfl rgf1 (by omega)) (F3.putr X1 pq3 ty1 rfl) (fun W4 F4 => ?_)
      refine c_aload_n (j := 0) (x := a0) C dX1_add_42 rfl ?_
      have rp1 : rv1 a0 1 = (some f1) := by rw [pq3]; exact upr_s
      refine c_getr (k := 1) C ck_2 dX1_add_43 w1_39 (by decide) ty1 rfl rfl (by decide) rfl rp1 ?_
      refine c_st (st2 := [.ref f1]) rfl ?_
      refine c_aload_n (j := 0) (x := a0) C dX1_add_46 rfl ?_
      refine c_get (k := 2) C ck_2 dX1_add_47 w1_43 (by decide) ty1 rfl rfl (by decide) rfl ?_
      refine c_iload_n (j := 1) C dX1_add_50 rfl ?_
      have ll2 : 16 ≤ lnh1 f1 ∧ lnh1 f1 ≤ 80400 := W4.len rgf1 rfl
      refine c_iast (x := x) C dX1_add_51 rgf1 rfl (by omega) (by omega) (by omega) (fun iv3 pq4 => ?_)
      refine hv2 (W4.puti pq4 rgf1 (show (-2147483648) ≤ x ∧ x ≤ 2147483647 by omega) rfl) (F4.puti X1 pq4 rgf1 rfl) (fun W5 F5 => ?_)
      refine c_aload_n (j := 0) (x := a0) C dX1_add_52 rfl ?_
      refine c_dup C dX1_add_53 rfl ?_
      refine hv2 (show 0 ≤ iv3 a0 2 ∧ iv3 a0 2 ≤ 40200 from W5.int ty1 2) (show iv3 a0 2 = ivh1 a0 2 from by rw [pq4]; exact up2_k (ne_ty ty1 rgf1 (by decide))) (fun ri6 ie4 => ?_)
      refine c_get (k := 2) C ck_2 dX1_add_54 w1_43 (by decide) ty1 rfl rfl (by decide) rfl ?_
      refine c_iconst C dX1_add_57 ?_
      refine c_iadd C dX1_add_58 ?_
      refine c_put (z := (iv3 a0 2) + 1) (k := 2) C ck_2 dX1_add_59 w1_43 (by decide) rfl ty1 rfl rfl (by decide) rfl (by rfl) (by rfl) (fun iv4 pq5 => ?_)
      refine hv3 (W5.isz_put pq5 ty1 (show 0 ≤ ((iv3 a0 2) + 1) ∧ ((iv3 a0 2) + 1) ≤ 40200 by omega) rfl rfl rp1 (show ((iv3 a0 2) + 1) ≤ ((lnh1 f1 : Nat) : Int) by omega)) (F5.puti X1 pq5 ty1 rfl) (show iv4 a0 2 = (iv3 a0 2) + 1 from by rw [pq5]; exact up2_s) (fun W6 F6 ie5 => ?_)
      refine hv2 (show 0 ≤ iv4 a0 2 ∧ iv4 a0 2 ≤ 40200 from W6.int ty1 2) (Phi.le W6 sk1) (fun ri7 pl1 => ?_)
      exact c_vret C dX1_add_62 rfl (by decide) (rom0 hph pl1 (by decide)) ⟨rfl, X1, F6, W6, ⟨by omega, (fun ss hs hq b2 hb j hj => by
          rw [rp1] at hb
          cases hb
          rw [pq5, up2_k (ne_ty rgf1 ty1 (by decide)), pq4]
          by_cases e : j = (iv a0 2).toNat
          · subst e; rw [show (iv a0 2).toNat = (ivh1 a0 2).toNat from congrArg Int.toNat (by omega), up2_s, va_up_self]
          · rw [up2_j (fun e2 => e (e2.trans (congrArg Int.toNat (by omega)))), va_up_ne _ _ e, gf1.2 j (by omega)]; exact hs _ rq1 j (by omega)), (fun e => absurd e (by omega))⟩⟩
  · exact c_vret C dX1_add_11 rfl (by decide) (rom0 hph hph (by decide)) ⟨rfl, hX0, hF0, hW, ⟨by omega, (fun ss hs hq => absurd hq (by omega)), fun _ ss hs => hs⟩⟩
def CEL (iv : Nat → Nat → Int) (rv : Nat → Nat → Option Nat) (q : Nat) (xs : List Int) : Prop := iv q 2 = ((xs.length : Nat) : Int) ∧ ∀ b, rv q 1 = some b → ∀ (j : Nat) (x : Int), xs[j]? = some x → iv b j = x
def ACX (iv : Nat → Nat → Int) (rv : Nat → Nat → Option Nat) (sk : Nat → Nat) (iv2 : Nat → Nat → Int) (rv2 : Nat → Nat → Option Nat) (x : Int) : Prop := ∀ xs, CEL iv rv (sk 8) xs → xs.length < 40200 → CEL iv2 rv2 (sk 8) (xs ++ [x])
def LNW (iv : Nat → Nat → Int) (rv : Nat → Nat → Option Nat) (r : Nat) (x f : Int) : Prop := ∀ ys, LNE iv rv r ys → (f = 1 ↔ goon x ys)
def sgp (hy la : Int) (ys : List Int) : List Int := if 0 < ys.length ∧ gd0 ys (ys.length - 1) = hy then ys.take (ys.length - 1) else if la = 1 then ys else ys ++ [0]
def CHX (iv : Nat → Nat → Int) (rv : Nat → Nat → Option Nat) (sk : Nat → Nat) (iv2 : Nat → Nat → Int) (rv2 : Nat → Nat → Option Nat) (r : Nat) (hy la : Int) : Prop := ∀ xs ys, CEL iv rv (sk 8) xs → LNE iv rv r ys → ys.length ≤ 200 → xs.length ≤ 39999 → CEL iv2 rv2 (sk 8) (xs ++ sgp hy la ys)
def CHI (iv : Nat → Nat → Int) (rv : Nat → Nat → Option Nat) (sk : Nat → Nat) (iv1 : Nat → Nat → Int) (rv1 : Nat → Nat → Option Nat) (r : Nat) (k : Int) : Prop := ∀ xs ys, CEL iv rv (sk 8) xs → LNE iv rv r ys → ys.length ≤ 200 → xs.length ≤ 39999 → k ≤ ((ys.length : Nat) : Int) → CEL iv1 rv1 (sk 8) (xs ++ ys.take k.toNat)
section CHAI
variable {h : Nat} {sk : Nat → Nat} {L : List Nat} {cl ln : Nat → Nat} {iv iv1 iv2 : Nat → Nat → Int} {rv rv1 rv2 : Nat → Nat → Option Nat} {q r cb b : Nat} {x y f k hy la n : Int} {xs ys : List Int} {ls : List Nat}
theorem CEL.nil (h0 : iv q 2 = 0) : CEL iv rv q [] := ⟨h0, fun b _ j x e => by simp at e⟩
theorem CEL.ct (hc : CEL iv rv q xs) : CT iv rv q (fun j => (xs[j]?).getD 0) := fun b hq j hj => by
  have e := hc.1
  have lt : j < xs.length := by omega
  have e2 := List.getElem?_eq_getElem lt
  show iv b j = (xs[j]?).getD 0
  rw [e2, hc.2 b hq j _ e2]
  rfl
theorem CEL.rct (hc : CEL iv rv q xs) : RCT iv rv q (RR0 xs) := ⟨hc.ct, fun j hj => by
  have e := hc.1
  unfold RR0
  rw [List.getElem?_eq_none (by omega)]
  rfl⟩
theorem CEL.snoc (hc : CEL iv rv q xs) (hl : xs.length < 40200) (g : ((iv2 q 2 = iv q 2 ∧ iv q 2 = 40200) ∨ (iv2 q 2 = iv q 2 + 1 ∧ iv q 2 < 40200)) ∧ (∀ ss, CT iv rv q ss → iv q 2 < 40200 → CT iv2 rv2 q (va_up ss (iv q 2).toNat x)) ∧ (iv q 2 = 40200 → ∀ ss, CT iv rv q ss → CT iv2 rv2 q ss)) : CEL iv2 rv2 q (xs ++ [x]) := by
  obtain ⟨g1, g2, g3⟩ := g
  have e := hc.1
  have w := g2 _ hc.ct (by omega)
  refine ⟨by rw [len1]; omega, fun b hq j y ej => ?_⟩
  rw [w b hq j (by rcases ap1 ej with ⟨c, _⟩ | ⟨c, _⟩ <;> omega)]
  rcases ap1 ej with ⟨c, ej⟩ | ⟨c, ej⟩
  · rw [va_up_ne _ _ (by omega)]
    show (xs[j]?).getD 0 = y
    rw [ej]
    rfl
  · rw [show j = (iv q 2).toNat by omega, va_up_self]
    exact ej
theorem CEL.fr (hc : CEL iv rv q xs) (hW : WT h sk L cl ln iv rv) (tq : ty L cl q 8) (hF : fT ls L cl iv rv iv2 rv2) (h1 : ls.contains 8 = false) (h2 : ls.contains 38 = false) : CEL iv2 rv2 q xs := by
  refine ⟨(hF.i tq h1 2).trans hc.1, fun b hq j x e => ?_⟩
  rw [hF.r tq h1 1] at hq
  obtain ⟨b', w1, tb⟩ := hW.ref tq 1 rfl rfl rfl
  rw [hq] at w1; cases w1
  rw [hF.i tb h2 j]
  exact hc.2 b hq j x e
theorem LNW.mk1 (hc : rv r 0 = some cb) (h1 : 0 < iv r 1) (e : iv cb (iv r 1 - 1).toNat = x) (hf : f = 1) : LNW iv rv r x f := fun ys hl => by
  obtain ⟨l1, l2⟩ := hl
  have lt : ys.length - 1 < ys.length := by omega
  have e2 := List.getElem?_eq_getElem lt
  have e3 := l2 cb hc _ _ e2
  refine ⟨fun _ => ⟨by omega, ?_⟩, fun _ => hf⟩
  unfold gd0
  rw [e2, ← e3, show ys.length - 1 = (iv r 1 - 1).toNat by omega]
  exact e
theorem LNW.mk0 (hn : iv r 1 ≤ 0 ∨ (0 < iv r 1 ∧ ∃ cb, rv r 0 = some cb ∧ iv cb (iv r 1 - 1).toNat ≠ x)) (hf : f = 0) : LNW iv rv r x f := fun ys hl => by
  obtain ⟨l1, l2⟩ := hl
  refine ⟨fun e => absurd e (by omega), fun e => ?_⟩
  rcases hn with hn | ⟨h1, cb, hc, hn⟩
  · exact absurd e.1 (by omega)
  · have lt : ys.length - 1 < ys.length := by have := e.1; omega
    have e2 := List.getElem?_eq_getElem lt
    refine hv2 (l2 cb hc _ _ e2) (e.2) (fun e3 e4 => ?_)
    unfold gd0 at e4
    rw [e2, ← e3, show ys.length - 1 = (iv r 1 - 1).toNat by omega] at e4
    exact absurd e4 hn
theorem CHI.init : CHI iv rv sk iv rv r 0 := fun xs ys hc _ _ _ _ => by
  show CEL iv rv (sk 8) (xs ++ [])
  rw [List.append_nil]
  exact hc
theorem CHI.step (hI : CHI iv rv sk iv1 rv1 r k) (hk : 0 ≤ k) (hc : rv r 0 = some cb) (hx : x = iv cb k.toNat) (ha : ACX iv1 rv1 sk iv2 rv2 x) : CHI iv rv sk iv2 rv2 r (k + 1) := fun xs ys h1 h2 h3 h4 h5 => by
  have g := hI xs ys h1 h2 h3 h4 (by omega)
  have lt : k.toNat < ys.length := by omega
  have e := h2.2 cb hc _ _ (List.getElem?_eq_getElem lt)
  have w := ha _ g (by rw [List.length_append, List.length_take]; omega)
  rw [show (k + 1).toNat = k.toNat + 1 by omega, List.take_succ_eq_append_getElem lt, ← List.append_assoc, ← e, ← hx]
  exact w
theorem CHX.go (hI : CHI iv rv sk iv1 rv1 r k) (hE : LNW iv rv r hy f) (hf : f = 1) (hk : k = iv r 1 - 1) : CHX iv rv sk iv1 rv1 r hy la := fun xs ys h1 h2 h3 h4 => by
  refine hv2 (h2.1) ((hE ys h2).mp hf) (fun l1 g => ?_)
  have w := hI xs ys h1 h2 h3 h4 (by omega)
  unfold sgp
  rw [if_pos (show 0 < ys.length ∧ gd0 ys (ys.length - 1) = hy from g)]
  rw [show k.toNat = ys.length - 1 by omega] at w
  exact w
theorem CHX.las (hI : CHI iv rv sk iv1 rv1 r k) (hE : LNW iv rv r hy f) (hf : f ≠ 1) (hk : k = iv r 1) (hla : la = 1) : CHX iv rv sk iv1 rv1 r hy la := fun xs ys h1 h2 h3 h4 => by
  have l1 := h2.1
  have w := hI xs ys h1 h2 h3 h4 (by omega)
  unfold sgp
  rw [if_neg (show ¬ (0 < ys.length ∧ gd0 ys (ys.length - 1) = hy) from fun e => hf ((hE ys h2).mpr e)), if_pos hla]
  rw [show k.toNat = ys.length by omega, List.take_length] at w
  exact w
theorem CHX.bl (hI : CHI iv rv sk iv1 rv1 r k) (hE : LNW iv rv r hy f) (hf : f ≠ 1) (hk : k = iv r 1) (hla : la ≠ 1) (ha : ACX iv1 rv1 sk iv2 rv2 0) : CHX iv rv sk iv2 rv2 r hy la := fun xs ys h1 h2 h3 h4 => by
  have l1 := h2.1
  have w := hI xs ys h1 h2 h3 h4 (by omega)
  rw [show k.toNat = ys.length by omega, List.take_length] at w
  unfold sgp
  rw [if_neg (show ¬ (0 < ys.length ∧ gd0 ys (ys.length - 1) = hy) from fun e => hf ((hE ys h2).mpr e)), if_neg hla, ← List.append_assoc]
  exact ha _ w (by rw [List.length_append]; omega)
end CHAI
set_option maxHeartbeats 4000000 in
set_option maxRecDepth 100000 in
theorem G_addCell {l : Launch} {G : GT} {mi : Nat} {sk : Nat → Nat} {L : List Nat} {cl ln : Nat → Nat} {iv : Nat → Nat → Int} {rv : Nat → Nat → Option Nat}  {a0 : Nat} {x : Int} {y : Int} (hW : WT (g0 G) sk L cl ln iv rv) (hS : SKL sk L cl) (t_a0 : ty L cl a0 16) (h_x : -2147483648 ≤ x ∧ x ≤ 2147483647) (h_y : -2147483648 ≤ y ∧ y ≤ 2147483647)  : Mc l G mi (Phi (g0 G) sk) PHM yX3_addCell cX3_addCell 3 none 3 [.ref a0, .int (iI x), .int (iI y)] L cl ln iv rv 0 (fun v L2 cl2 ln2 iv2 rv2 => v = none ∧ XT L cl ln L2 cl2 ln2 ∧ fT [8, 38, 9, 39] L cl iv rv iv2 rv2 ∧ WT (g0 G) sk L2 cl2 ln2 iv2 rv2 ∧ (ACX iv rv sk iv2 rv2 x)) := by
  refine Mc.mk (by decide) (Nat.le_of_ble_eq_true rfl) ?_
  intro p e s m args below meth c A C hM
  refine hv10 (Phi.le hW hS) (show ty L cl (sk 6) 6 from ⟨(hS 6 rfl).1, by rw [(hS 6 rfl).2]; rfl⟩) (show ty L cl (sk 7) 7 from ⟨(hS 7 rfl).1, by rw [(hS 7 rfl).2]; rfl⟩) (show ty L cl (sk 8) 8 from ⟨(hS 8 rfl).1, by rw [(hS 8 rfl).2]; rfl⟩) (show ty L cl (sk 9) 9 from ⟨(hS 9 rfl).1, by rw [(hS 9 rfl).2]; rfl⟩) (show ty L cl (sk 10) 10 from ⟨(hS 10 rfl).1, by rw [(hS 10 rfl).2]; rfl⟩) (show ty L cl (sk 24) 24 from ⟨(hS 24 rfl).1, by rw [(hS 24 rfl).2]; rfl⟩) (show ty L cl (sk 25) 25 from ⟨(hS 25 rfl).1, by rw [(hS 25 rfl).2]; rfl⟩) (show XT L cl ln L cl ln from XT.refl) (show fT [8, 38, 9, 39] L cl iv rv iv rv from fT.refl) (fun hph tsk6 tsk7 tsk8 tsk9 tsk10 tsk24 tsk25 hX0 hF0 => ?_)
  refine c_aload_n (j := 0) (x := a0) C dX3_addCell_0 rfl ?_
  obtain ⟨rb1, rq1, trb1⟩ := hW.ref t_a0 4 rfl rfl rfl
  have erb1 := hW.sk trb1 (by decide) rfl
  subst erb1
  refine c_getr (k := 4) C ck_4 dX3_addCell_1 w1_198 (by decide) t_a0 rfl rfl (by decide) rfl rq1 ?_
  refine c_st (st2 := [.ref (sk 8)]) rfl ?_
  refine c_iload_n (j := 1) C dX3_addCell_4 rfl ?_
  have ri1 : 0 ≤ iv (sk 8) 2 ∧ iv (sk 8) 2 ≤ 40200 := hW.int tsk8 2
  refine d_callV (As := [.int (iI x)]) (rest := []) C hM (G_add_8 (a0 := (sk 8)) (x := x) hW hS tsk8 (by omega) ) dX3_addCell_5 kV_X3_91 rfl tsk8 rfl rfl (by decide) ck_2 rfl (Nat.le_of_ble_eq_true rfl) ⟨(Nat.le_of_ble_eq_true rfl), (Nat.le_of_ble_eq_true rfl)⟩ hph hph (show 0 + 0 = 0 from rfl) (by decide) (fun rh1 Lh1 clh1 lnh1 ivh1 rvh1 h1 => ?_)
  obtain ⟨rfl, xl1, fl1, W1, exf1⟩ := h1
  refine hv3 (hF0.call hX0 fl1 rfl) (hX0.trans xl1) (xl1.skl hS) (fun F1 X1 sk1 => ?_)
  refine c_st (st2 := []) rfl ?_
  refine hv2 (xl1.ty tsk8) (show ((ivh1 (sk 8) 2 = iv (sk 8) 2 ∧ iv (sk 8) 2 = 40200) ∨ (ivh1 (sk 8) 2 = iv (sk 8) 2 + 1 ∧ iv (sk 8) 2 < 40200)) ∧ (∀ ss, CT iv rv (sk 8) ss → iv (sk 8) 2 < 40200 → CT ivh1 rvh1 (sk 8) (va_up ss (iv (sk 8) 2).toNat x)) ∧ (iv (sk 8) 2 = 40200 → ∀ ss, CT iv rv (sk 8) ss → CT ivh1 rvh1 (sk 8) ss) from exf1) (fun ty1 gf1 => ?_)
  have ri2 : 0 ≤ ivh1 (sk 8) 2 ∧ ivh1 (sk 8) 2 ≤ 40200 := W1.int ty1 2
  refine c_aload_n (j := 0) (x := a0) C dX3_addCell_8 rfl ?_
  have ty2 := xl1.ty t_a0
  obtain ⟨rb2, rq2, trb2⟩ := W1.ref ty2 5 rfl rfl rfl
  have erb2 := W1.sk trb2 (by decide) rfl
  subst erb2
  refine c_getr (k := 5) C ck_4 dX3_addCell_9 w1_199 (by decide) ty2 rfl rfl (by decide) rfl rq2 ?_
  refine c_st (st2 := [.ref (sk 9)]) rfl ?_
  refine c_iload_n (j := 2) C dX3_addCell_12 rfl ?_
  refine hv3 (xl1.ty tsk9) (show ivh1 (sk 9) 2 = iv (sk 9) 2 from fl1.i tsk9 rfl 2) (Phi.le W1 sk1) (fun ty3 ie2 pl1 => ?_)
  have ri3 : 0 ≤ ivh1 (sk 9) 2 ∧ ivh1 (sk 9) 2 ≤ 40200 := W1.int ty3 2
  refine d_callV (As := [.int (iI y)]) (rest := []) C hM (C_add_9 (a0 := (sk 9)) (x := y) W1 sk1 ty3 (by omega) ) dX3_addCell_13 kV_X3_91 rfl ty3 rfl rfl (by decide) ck_2 rfl (Nat.le_of_ble_eq_true rfl) ⟨(Nat.le_of_ble_eq_true rfl), (Nat.le_of_ble_eq_true rfl)⟩ hph pl1 (show 0 + 0 = 0 from rfl) (by decide) (fun rh2 Lh2 clh2 lnh2 ivh2 rvh2 h2 => ?_)
  obtain ⟨rfl, xl2, fl2, W2, exf2⟩ := h2
  refine hv8 (F1.call X1 fl2 rfl) (xl1.ty tsk6) (xl1.ty tsk7) (xl1.ty tsk10) (xl1.ty tsk24) (xl1.ty tsk25) (X1.trans xl2) (xl2.skl sk1) (fun F2 ty4 ty5 ty6 ty7 ty8 X2 sk2 => ?_)
  refine c_st (st2 := []) rfl ?_
  refine hv3 (xl2.ty ty3) (show ((ivh2 (sk 9) 2 = ivh1 (sk 9) 2 ∧ ivh1 (sk 9) 2 = 40200) ∨ (ivh2 (sk 9) 2 = ivh1 (sk 9) 2 + 1 ∧ ivh1 (sk 9) 2 < 40200)) from exf2) (Phi.le W2 sk2) (fun ty9 gf2 pl2 => ?_)
  have ri4 : 0 ≤ ivh2 (sk 9) 2 ∧ ivh2 (sk 9) 2 ≤ 40200 := W2.int ty9 2
  exact c_vret C dX3_addCell_16 rfl (by decide) (rom0 hph pl2 (by decide)) ⟨rfl, X2, F2, W2, (fun xs hc hl => (hc.snoc hl gf1).fr W1 ty1 fl2 rfl rfl)⟩
set_option maxHeartbeats 4000000 in
set_option maxRecDepth 100000 in
theorem G_lends2 {l : Launch} {G : GT} {mi : Nat} {sk : Nat → Nat} {L : List Nat} {cl ln : Nat → Nat} {iv : Nat → Nat → Int} {rv : Nat → Nat → Option Nat}  {a0 : Nat} {x : Int} (hW : WT (g0 G) sk L cl ln iv rv) (hS : SKL sk L cl) (t_a0 : ty L cl a0 19) (h_x : -2147483648 ≤ x ∧ x ≤ 2147483647)  : Mc l G mi (Phi (g0 G) sk) PHM yX2_endsWith cX2_endsWith 2 (some .boolean) 0 [.ref a0, .int (iI x)] L cl ln iv rv 0 (fun v L2 cl2 ln2 iv2 rv2 => ∃ f : Int, v = some (.int (iI f)) ∧ L = L2 ∧ cl = cl2 ∧ ln = ln2 ∧ iv = iv2 ∧ rv = rv2 ∧ (f = 0 ∨ f = 1) ∧ ((f = 0 ∨ 0 < iv a0 1) ∧ LNW iv rv a0 x f)) := by
  refine Mc.mk (by decide) (Nat.le_of_ble_eq_true rfl) ?_
  intro p e s m args below meth c A C hM
  refine hv4 (Phi.le hW hS) (show XT L cl ln L cl ln from XT.refl) (show fT [] L cl iv rv iv rv from fT.refl) (show 0 ≤ iv a0 1 ∧ iv a0 1 ≤ 200 from hW.int t_a0 1) (fun hph hX0 hF0 ri1 => ?_)
  refine c_aload_n (j := 0) (x := a0) C dX2_endsWith_0 rfl ?_
  refine c_get (k := 1) C ck_3 dX2_endsWith_1 w4_49 (by decide) t_a0 rfl rfl (by decide) rfl ?_
  refine c_if_le (tgt := 26) C (r32_c (lo := 0) (hi := 200) ri1.1 ri1.2 (by decide) (by decide)) dX2_endsWith_4 (by decide) (fun c1 => ?_) (fun c1 => ?_)
  · refine c_iconst C dX2_endsWith_26 ?_
    exact c_zret C dX2_endsWith_27 rfl (Or.inl rfl) (by decide) (rom0 hph hph (by decide)) ⟨0, rfl, rfl, rfl, rfl, rfl, rfl, (Or.inl rfl), ⟨by omega, (LNW.mk0 (Or.inl (by omega)) rfl)⟩⟩
  · refine c_aload_n (j := 0) (x := a0) C dX2_endsWith_7 rfl ?_
    obtain ⟨rb1, rq1, trb1⟩ := hW.ref t_a0 0 rfl rfl rfl
    have lnrb1 : 200 ≤ ln rb1 ∧ ln rb1 ≤ 200 := hW.len trb1 rfl
    refine c_getr (k := 0) C ck_3 dX2_endsWith_8 w4_44 (by decide) t_a0 rfl rfl (by decide) rfl rq1 ?_
    refine c_st (st2 := [.ref rb1]) rfl ?_
    refine c_aload_n (j := 0) (x := a0) C dX2_endsWith_11 rfl ?_
    refine c_get (k := 1) C ck_3 dX2_endsWith_12 w4_49 (by decide) t_a0 rfl rfl (by decide) rfl ?_
    refine c_iconst C dX2_endsWith_15 ?_
    refine c_isub C dX2_endsWith_16 ?_
    have ll1 : 200 ≤ ln rb1 ∧ ln rb1 ≤ 200 := hW.len trb1 rfl
    refine c_iald C dX2_endsWith_17 trb1 rfl (by omega) (by omega) (by omega) ?_
    have ri2 : (-2147483648) ≤ iv rb1 (((iv a0 1) - 1).toNat) ∧ iv rb1 (((iv a0 1) - 1).toNat) ≤ 2147483647 := hW.int trb1 (((iv a0 1) - 1).toNat)
    refine c_iload_n (j := 1) C dX2_endsWith_18 rfl ?_
    refine c_icmp_ne (tgt := 26) C ⟨by omega, by omega⟩ ⟨by omega, by omega⟩ dX2_endsWith_19 (by decide) (fun c2 => ?_) (fun c2 => ?_)
    · refine c_iconst C dX2_endsWith_26 ?_
      exact c_zret C dX2_endsWith_27 rfl (Or.inl rfl) (by decide) (rom0 hph hph (by decide)) ⟨0, rfl, rfl, rfl, rfl, rfl, rfl, (Or.inl rfl), ⟨by omega, (LNW.mk0 (Or.inr ⟨by omega, _, rq1, by omega⟩) rfl)⟩⟩
    · refine c_iconst C dX2_endsWith_22 ?_
      refine c_goto (tgt := 27) C dX2_endsWith_23 (by decide) ?_
      exact c_zret C dX2_endsWith_27 rfl (Or.inr rfl) (by decide) (rom0 hph hph (by decide)) ⟨1, rfl, rfl, rfl, rfl, rfl, rfl, (Or.inr rfl), ⟨by omega, (LNW.mk1 rq1 (by omega) (by omega) rfl)⟩⟩
set_option maxHeartbeats 4000000 in
set_option maxRecDepth 100000 in
theorem G_chain {l : Launch} {G : GT} {mi : Nat} {sk : Nat → Nat} {L : List Nat} {cl ln : Nat → Nat} {iv : Nat → Nat → Int} {rv : Nat → Nat → Option Nat}  {a0 : Nat} {a1 : Nat} {x : Int} {y : Int} {g : Int} (hW : WT (g0 G) sk L cl ln iv rv) (hS : SKL sk L cl) (t_a0 : ty L cl a0 16) (t_a1 : ty L cl a1 19) (h_x : -2147483648 ≤ x ∧ x ≤ 2147483647) (h_y : -2147483648 ≤ y ∧ y ≤ 2147483647) (h_g : -2147483648 ≤ g ∧ g ≤ 2147483647) (hg01 : g = 0 ∨ g = 1) : Mc l G mi (Phi (g0 G) sk) PHM yX3_chain cX3_chain 8 none 4 [.ref a0, .ref a1, .int (iI x), .int (iI y), .int (iI g)] L cl ln iv rv 0 (fun v L2 cl2 ln2 iv2 rv2 => v = none ∧ XT L cl ln L2 cl2 ln2 ∧ fT [8, 38, 9, 39] L cl iv rv iv2 rv2 ∧ WT (g0 G) sk L2 cl2 ln2 iv2 rv2 ∧ (CHX iv rv sk iv2 rv2 a1 y g)) := by
  refine Mc.mk (by decide) (Nat.le_of_ble_eq_true rfl) ?_
  intro p e s m args below meth c A C hM
  refine hv11 (Phi.le hW hS) (show ty L cl (sk 6) 6 from ⟨(hS 6 rfl).1, by rw [(hS 6 rfl).2]; rfl⟩) (show ty L cl (sk 7) 7 from ⟨(hS 7 rfl).1, by rw [(hS 7 rfl).2]; rfl⟩) (show ty L cl (sk 8) 8 from ⟨(hS 8 rfl).1, by rw [(hS 8 rfl).2]; rfl⟩) (show ty L cl (sk 9) 9 from ⟨(hS 9 rfl).1, by rw [(hS 9 rfl).2]; rfl⟩) (show ty L cl (sk 10) 10 from ⟨(hS 10 rfl).1, by rw [(hS 10 rfl).2]; rfl⟩) (show ty L cl (sk 24) 24 from ⟨(hS 24 rfl).1, by rw [(hS 24 rfl).2]; rfl⟩) (show ty L cl (sk 25) 25 from ⟨(hS 25 rfl).1, by rw [(hS 25 rfl).2]; rfl⟩) (show XT L cl ln L cl ln from XT.refl) (show fT [8, 38, 9, 39] L cl iv rv iv rv from fT.refl) (show 0 ≤ iv a1 1 ∧ iv a1 1 ≤ 200 from hW.int t_a1 1) (fun hph tsk6 tsk7 tsk8 tsk9 tsk10 tsk24 tsk25 hX0 hF0 ri1 => ?_)
  obtain ⟨c9, hc9, tc9⟩ := hW.ref t_a1 0 rfl rfl rfl
  refine c_aload_n (j := 1) (x := a1) C dX3_chain_0 rfl ?_
  refine c_iload_n (j := 3) C dX3_chain_1 rfl ?_
  refine d_callV (As := [.int (iI y)]) (rest := []) C hM (G_lends2 (a0 := a1) (x := y) hW hS t_a1 (by omega) ) dX3_chain_2 kV_X3_108 rfl t_a1 rfl rfl (by decide) ck_3 rfl (Nat.le_of_ble_eq_true rfl) ⟨(Nat.le_of_ble_eq_true rfl), (Nat.le_of_ble_eq_true rfl)⟩ hph hph (show 0 + 0 = 0 from rfl) (by decide) (fun rh1 Lh1 clh1 lnh1 ivh1 rvh1 h1 => ?_)
  obtain ⟨f1, rfl, rfl, rfl, rfl, rfl, rfl, rgf1, exf1⟩ := h1
  refine c_st (st2 := [.int (iI f1)]) rfl ?_
  have gf1 : (f1 = 0 ∨ 0 < iv a1 1) ∧ LNW iv rv a1 y f1 := exf1
  refine c_istore (lv2 := [(5, .int (iI f1)), (0, .ref a0), (1, .ref a1), (2, .int (iI x)), (3, .int (iI y)), (4, .int (iI g))]) C dX3_chain_5 (by decide) rfl ?_
  refine c_iload (j := 0) C dX3_chain_7 rfl ?_
  refine c_if_eq (tgt := 21) C ⟨by omega, by omega⟩ dX3_chain_9 (by decide) (fun c1 => ?_) (fun c1 => ?_)
  · replace gf1 := (And.intro c1 gf1.2)
    refine c_aload_n (j := 2) (x := a1) C dX3_chain_21 rfl ?_
    refine c_get (k := 1) C ck_3 dX3_chain_22 w4_52 (by decide) t_a1 rfl rfl (by decide) rfl ?_
    refine c_istore (lv2 := [(6, .int (iI (iv a1 1))), (5, .int (iI f1)), (0, .ref a0), (1, .ref a1), (2, .int (iI x)), (3, .int (iI y)), (4, .int (iI g))]) C dX3_chain_25 (by decide) rfl ?_
    refine c_iconst C dX3_chain_27 ?_
    refine c_istore (lv2 := [(7, .int (iI 0)), (6, .int (iI (iv a1 1))), (5, .int (iI f1)), (0, .ref a0), (1, .ref a1), (2, .int (iI x)), (3, .int (iI y)), (4, .int (iI g))]) C dX3_chain_28 (by decide) rfl ?_
    have Lp1 : ∀ (nn : Nat) (k : Int) (Lb1 : List Nat) (clb1 lnb1 : Nat → Nat) (ivb1 : Nat → Nat → Int) (rvb1 : Nat → Nat → Option Nat) , 201 - k < (nn : Int) → XT L cl ln Lb1 clb1 lnb1 → WT (g0 G) sk Lb1 clb1 lnb1 ivb1 rvb1 → fT [8, 38, 9, 39] L cl iv rv ivb1 rvb1 → (0 ≤ k ∧ k ≤ 200) → (k ≤ (iv a1 1)) → (CHI iv rv sk ivb1 rvb1 a1 k) → cw p l e 4 ((PHM) + 0 - ((Phi (g0 G) sk) ln rv)) s m args below meth c G A 8 (MQ below (Qu G A (Qp G (Phi (g0 G) sk) ((Phi (g0 G) sk) ln rv) 0 (fun v L2 cl2 ln2 iv2 rv2 => v = none ∧ XT L cl ln L2 cl2 ln2 ∧ fT [8, 38, 9, 39] L cl iv rv iv2 rv2 ∧ WT (g0 G) sk L2 cl2 ln2 iv2 rv2 ∧ (CHX iv rv sk iv2 rv2 a1 y g)))) args s (((PHM) + 0 - ((Phi (g0 G) sk) ln rv)) / 16) ((PHM) + 0 - ((Phi (g0 G) sk) ln rv)) A) (Phi (g0 G) sk) ((Phi (g0 G) sk) ln rv) Lb1 clb1 lnb1 ivb1 rvb1 0 30 [(7, .int (iI k)), (6, .int (iI (iv a1 1))), (5, .int (iI f1)), (0, .ref a0), (1, .ref a1), (2, .int (iI x)), (3, .int (iI y)), (4, .int (iI g))] [] := by
      intro nn
      induction nn with
      | zero =>
        intro  k Lb1 clb1 lnb1 ivb1 rvb1 hm Xb1 Wb1 Fb1  hk hkl hI
        have skb1 := Xb1.skl hS
        exact absurd hm (by omega)
      | succ nn ih1 =>
        intro  k Lb1 clb1 lnb1 ivb1 rvb1 hm Xb1 Wb1 Fb1  hk hkl hI
        have skb1 := Xb1.skl hS
        refine c_iload (j := 0) C dX3_chain_30 rfl ?_
        refine c_iload (j := 1) C dX3_chain_32 rfl ?_
        refine c_icmp_ge (tgt := 62) C (r32_c (lo := 0) (hi := 200) hk.1 hk.2 (by decide) (by decide)) ⟨by omega, by omega⟩ dX3_chain_34 (by decide) (fun c2 => ?_) (fun c2 => ?_)
        · refine c_iload (j := 2) C dX3_chain_62 rfl ?_
          refine c_if_ne (tgt := 78) C ⟨by omega, by omega⟩ dX3_chain_64 (by decide) (fun c3 => ?_) (fun c3 => ?_)
          · have ty1 := Xb1.ty t_a1
            refine hv3 (show 0 ≤ ivb1 a1 1 ∧ ivb1 a1 1 ≤ 200 from Wb1.int ty1 1) (show ivb1 a1 1 = iv a1 1 from Fb1.i t_a1 rfl 1) (Phi.le Wb1 skb1) (fun ri2 ie1 pl1 => ?_)
            exact c_vret C dX3_chain_78 rfl (by decide) (rom0 hph pl1 (by decide)) ⟨rfl, Xb1, Fb1, Wb1, (CHX.go hI gf1.2 (by omega) (by omega))⟩
          · refine c_iload (j := 7) C dX3_chain_67 rfl ?_
            refine c_if_ne (tgt := 78) C ⟨by omega, by omega⟩ dX3_chain_69 (by decide) (fun c4 => ?_) (fun c4 => ?_)
            · have ty2 := Xb1.ty t_a1
              refine hv3 (show 0 ≤ ivb1 a1 1 ∧ ivb1 a1 1 ≤ 200 from Wb1.int ty2 1) (show ivb1 a1 1 = iv a1 1 from Fb1.i t_a1 rfl 1) (Phi.le Wb1 skb1) (fun ri3 ie2 pl2 => ?_)
              exact c_vret C dX3_chain_78 rfl (by decide) (rom0 hph pl2 (by decide)) ⟨rfl, Xb1, Fb1, Wb1, (CHX.las hI gf1.2 (by omega) (by omega) (by omega))⟩
            · refine c_aload_n (j := 3) (x := a0) C dX3_chain_72 rfl ?_
              refine c_iconst C dX3_chain_73 ?_
              refine c_iconst C dX3_chain_74 ?_
              refine hv2 (Xb1.ty t_a0) (Phi.le Wb1 skb1) (fun ty3 pl3 => ?_)
              refine d_callV (As := [.int (iI 0), .int (iI (-1))]) (rest := []) C hM (G_addCell (a0 := a0) (x := 0) (y := (-1)) Wb1 skb1 ty3 ⟨by decide, by decide⟩ ⟨by decide, by decide⟩ ) dX3_chain_75 kV_X3_114 rfl ty3 rfl rfl (by decide) ck_4 rfl (Nat.le_of_ble_eq_true rfl) ⟨(Nat.le_of_ble_eq_true rfl), (Nat.le_of_ble_eq_true rfl)⟩ hph pl3 (show 0 + 0 = 0 from rfl) (by decide) (fun rh2 Lh2 clh2 lnh2 ivh2 rvh2 h2 => ?_)
              obtain ⟨rfl, xl2, fl2, W2, exf2⟩ := h2
              refine hv12 (Fb1.call Xb1 fl2 rfl) (Xb1.ty t_a1) (Xb1.ty tsk6) (Xb1.ty tsk7) (Xb1.ty tsk8) (Xb1.ty tsk9) (Xb1.ty tsk10) (Xb1.ty tsk24) (Xb1.ty tsk25) (Xb1.ty tc9) (Xb1.trans xl2) (xl2.skl skb1) (fun F1 ty4 ty5 ty6 ty7 ty8 ty9 ty10 ty11 ty12 X1 sk1 => ?_)
              refine c_st (st2 := []) rfl ?_
              refine hv5 (show ACX ivb1 rvb1 sk ivh2 rvh2 (0 : Int) from exf2) (xl2.ty ty4) (show ivh2 a1 1 = ivb1 a1 1 from fl2.i ty4 rfl 1) (show ivb1 a1 1 = iv a1 1 from Fb1.i t_a1 rfl 1) (Phi.le W2 sk1) (fun gf2 ty13 ie3 ie4 pl4 => ?_)
              have ri4 : 0 ≤ ivh2 a1 1 ∧ ivh2 a1 1 ≤ 200 := W2.int ty13 1
              exact c_vret C dX3_chain_78 rfl (by decide) (rom0 hph pl4 (by decide)) ⟨rfl, X1, F1, W2, (CHX.bl hI gf1.2 (by omega) (by omega) (by omega) gf2)⟩
        · refine c_aload_n (j := 3) (x := a0) C dX3_chain_37 rfl ?_
          refine c_aload_n (j := 4) (x := a1) C dX3_chain_38 rfl ?_
          refine hv2 (Xb1.ty t_a1) (show rvb1 a1 0 = rv a1 0 from (Fb1.r t_a1 rfl 0)) (fun ty14 re1 => ?_)
          rw [hc9] at re1
          refine c_getr (k := 0) C ck_3 dX3_chain_39 w4_46 (by decide) ty14 rfl rfl (by decide) rfl re1 ?_
          refine c_st (st2 := [.ref c9, .ref a0]) rfl ?_
          refine c_iload (j := 0) C dX3_chain_42 rfl ?_
          have ty15 := Xb1.ty tc9
          have ll1 : 200 ≤ lnb1 c9 ∧ lnb1 c9 ≤ 200 := Wb1.len ty15 rfl
          refine c_iald C dX3_chain_44 ty15 rfl (by omega) (by omega) (by omega) ?_
          refine hv2 (show (-2147483648) ≤ ivb1 c9 k.toNat ∧ ivb1 c9 k.toNat ≤ 2147483647 from Wb1.int ty15 k.toNat) (show ivb1 c9 k.toNat = iv c9 k.toNat from Fb1.i tc9 rfl k.toNat) (fun ri5 ie5 => ?_)
          refine c_iload_n (j := 5) C dX3_chain_45 rfl ?_
          refine c_sipush (z := 1000) C dX3_chain_46 (by decide) ?_
          refine c_imul C dX3_chain_49 ?_
          obtain ⟨zz1, hzz1, ezz1⟩ := iI_of (iI (x * 1000))
          refine c_st (st2 := [.int (iI zz1), .int (iI (ivb1 c9 k.toNat)), .ref a0]) (by rw [ezz1]) ?_
          refine c_iload (j := 0) C dX3_chain_50 rfl ?_
          refine c_iadd C dX3_chain_52 ?_
          obtain ⟨zz2, hzz2, ezz2⟩ := iI_of (iI (zz1 + k))
          refine c_st (st2 := [.int (iI zz2), .int (iI (ivb1 c9 k.toNat)), .ref a0]) (by rw [ezz2]) ?_
          refine hv2 (Xb1.ty t_a0) (Phi.le Wb1 skb1) (fun ty16 pl5 => ?_)
          refine d_callV (As := [.int (iI (ivb1 c9 k.toNat)), .int (iI zz2)]) (rest := []) C hM (G_addCell (a0 := a0) (x := ivb1 c9 k.toNat) (y := zz2) Wb1 skb1 ty16 (by omega) (by omega) ) dX3_chain_53 kV_X3_114 rfl ty16 rfl rfl (by decide) ck_4 rfl (Nat.le_of_ble_eq_true rfl) ⟨(Nat.le_of_ble_eq_true rfl), (Nat.le_of_ble_eq_true rfl)⟩ hph pl5 (show 0 + 0 = 0 from rfl) (by decide) (fun rh3 Lh3 clh3 lnh3 ivh3 rvh3 h3 => ?_)
          obtain ⟨rfl, xl3, fl3, W3, exf3⟩ := h3
          refine hv10 (Fb1.call Xb1 fl3 rfl) (Xb1.ty tsk6) (Xb1.ty tsk7) (Xb1.ty tsk8) (Xb1.ty tsk9) (Xb1.ty tsk10) (Xb1.ty tsk24) (Xb1.ty tsk25) (Xb1.trans xl3) (xl3.skl skb1) (fun F2 ty17 ty18 ty19 ty20 ty21 ty22 ty23 X2 sk2 => ?_)
          refine c_st (st2 := []) rfl ?_
          have gf3 : ACX ivb1 rvb1 sk ivh3 rvh3 (ivb1 c9 k.toNat) := exf3
          refine c_iinc (z := k) (j := 0) (lv2 := [(7, .int (iI (k + 1))), (6, .int (iI (iv a1 1))), (5, .int (iI f1)), (0, .ref a0), (1, .ref a1), (2, .int (iI x)), (3, .int (iI y)), (4, .int (iI g))]) C dX3_chain_56 rfl (by decide) rfl ?_
          refine c_goto (tgt := 30) C dX3_chain_59 (by decide) ?_
          refine c_lv (lv2 := [(7, .int (iI (k + 1))), (6, .int (iI (iv a1 1))), (5, .int (iI f1)), (0, .ref a0), (1, .ref a1), (2, .int (iI x)), (3, .int (iI y)), (4, .int (iI g))]) [0, 1, 2, 3, 4, 5, 6, 7] rfl ?_
          exact ih1  (k + 1) _ _ _ _ _ (by omega) X2 W3 F2  (by omega) (by omega) (hI.step (by omega) hc9 (Fb1.i tc9 rfl k.toNat) gf3)
    refine c_lv (lv2 := [(7, .int (iI 0)), (6, .int (iI (iv a1 1))), (5, .int (iI f1)), (0, .ref a0), (1, .ref a1), (2, .int (iI x)), (3, .int (iI y)), (4, .int (iI g))]) [0, 1, 2, 3, 4, 5, 6, 7] rfl ?_
    exact Lp1 203 0 _ _ _ _ _ (by omega) hX0 hW hF0  (by omega) (by omega) CHI.init
  · replace gf1 := (And.intro (gf1.1.resolve_left c1) gf1.2)
    refine c_aload_n (j := 2) (x := a1) C dX3_chain_12 rfl ?_
    refine c_get (k := 1) C ck_3 dX3_chain_13 w4_52 (by decide) t_a1 rfl rfl (by decide) rfl ?_
    refine c_iconst C dX3_chain_16 ?_
    refine c_isub C dX3_chain_17 ?_
    refine c_goto (tgt := 25) C dX3_chain_18 (by decide) ?_
    refine c_istore (lv2 := [(6, .int (iI ((iv a1 1) - 1))), (5, .int (iI f1)), (0, .ref a0), (1, .ref a1), (2, .int (iI x)), (3, .int (iI y)), (4, .int (iI g))]) C dX3_chain_25 (by decide) rfl ?_
    refine c_iconst C dX3_chain_27 ?_
    refine c_istore (lv2 := [(7, .int (iI 0)), (6, .int (iI ((iv a1 1) - 1))), (5, .int (iI f1)), (0, .ref a0), (1, .ref a1), (2, .int (iI x)), (3, .int (iI y)), (4, .int (iI g))]) C dX3_chain_28 (by decide) rfl ?_
    have Lp2 : ∀ (nn : Nat) (k : Int) (Lb2 : List Nat) (clb2 lnb2 : Nat → Nat) (ivb2 : Nat → Nat → Int) (rvb2 : Nat → Nat → Option Nat) , 201 - k < (nn : Int) → XT L cl ln Lb2 clb2 lnb2 → WT (g0 G) sk Lb2 clb2 lnb2 ivb2 rvb2 → fT [8, 38, 9, 39] L cl iv rv ivb2 rvb2 → (0 ≤ k ∧ k ≤ 200) → (k ≤ ((iv a1 1) - 1)) → (CHI iv rv sk ivb2 rvb2 a1 k) → cw p l e 4 ((PHM) + 0 - ((Phi (g0 G) sk) ln rv)) s m args below meth c G A 8 (MQ below (Qu G A (Qp G (Phi (g0 G) sk) ((Phi (g0 G) sk) ln rv) 0 (fun v L2 cl2 ln2 iv2 rv2 => v = none ∧ XT L cl ln L2 cl2 ln2 ∧ fT [8, 38, 9, 39] L cl iv rv iv2 rv2 ∧ WT (g0 G) sk L2 cl2 ln2 iv2 rv2 ∧ (CHX iv rv sk iv2 rv2 a1 y g)))) args s (((PHM) + 0 - ((Phi (g0 G) sk) ln rv)) / 16) ((PHM) + 0 - ((Phi (g0 G) sk) ln rv)) A) (Phi (g0 G) sk) ((Phi (g0 G) sk) ln rv) Lb2 clb2 lnb2 ivb2 rvb2 0 30 [(7, .int (iI k)), (6, .int (iI ((iv a1 1) - 1))), (5, .int (iI f1)), (0, .ref a0), (1, .ref a1), (2, .int (iI x)), (3, .int (iI y)), (4, .int (iI g))] [] := by
      intro nn
      induction nn with
      | zero =>
        intro  k Lb2 clb2 lnb2 ivb2 rvb2 hm Xb2 Wb2 Fb2  hk hkl hI
        have skb2 := Xb2.skl hS
        exact absurd hm (by omega)
      | succ nn ih2 =>
        intro  k Lb2 clb2 lnb2 ivb2 rvb2 hm Xb2 Wb2 Fb2  hk hkl hI
        have skb2 := Xb2.skl hS
        refine c_iload (j := 0) C dX3_chain_30 rfl ?_
        refine c_iload (j := 1) C dX3_chain_32 rfl ?_
        refine c_icmp_ge (tgt := 62) C (r32_c (lo := 0) (hi := 200) hk.1 hk.2 (by decide) (by decide)) ⟨by omega, by omega⟩ dX3_chain_34 (by decide) (fun c5 => ?_) (fun c5 => ?_)
        · refine c_iload (j := 2) C dX3_chain_62 rfl ?_
          refine c_if_ne (tgt := 78) C ⟨by omega, by omega⟩ dX3_chain_64 (by decide) (fun c6 => ?_) (fun c6 => ?_)
          · have ty24 := Xb2.ty t_a1
            refine hv3 (show 0 ≤ ivb2 a1 1 ∧ ivb2 a1 1 ≤ 200 from Wb2.int ty24 1) (show ivb2 a1 1 = iv a1 1 from Fb2.i t_a1 rfl 1) (Phi.le Wb2 skb2) (fun ri6 ie6 pl6 => ?_)
            exact c_vret C dX3_chain_78 rfl (by decide) (rom0 hph pl6 (by decide)) ⟨rfl, Xb2, Fb2, Wb2, (CHX.go hI gf1.2 (by omega) (by omega))⟩
          · refine c_iload (j := 7) C dX3_chain_67 rfl ?_
            refine c_if_ne (tgt := 78) C ⟨by omega, by omega⟩ dX3_chain_69 (by decide) (fun c7 => ?_) (fun c7 => ?_)
            · have ty25 := Xb2.ty t_a1
              refine hv3 (show 0 ≤ ivb2 a1 1 ∧ ivb2 a1 1 ≤ 200 from Wb2.int ty25 1) (show ivb2 a1 1 = iv a1 1 from Fb2.i t_a1 rfl 1) (Phi.le Wb2 skb2) (fun ri7 ie7 pl7 => ?_)
              exact c_vret C dX3_chain_78 rfl (by decide) (rom0 hph pl7 (by decide)) ⟨rfl, Xb2, Fb2, Wb2, (CHX.las hI gf1.2 (by omega) (by omega) (by omega))⟩
            · refine c_aload_n (j := 3) (x := a0) C dX3_chain_72 rfl ?_
              refine c_iconst C dX3_chain_73 ?_
              refine c_iconst C dX3_chain_74 ?_
              refine hv2 (Xb2.ty t_a0) (Phi.le Wb2 skb2) (fun ty26 pl8 => ?_)
              refine d_callV (As := [.int (iI 0), .int (iI (-1))]) (rest := []) C hM (G_addCell (a0 := a0) (x := 0) (y := (-1)) Wb2 skb2 ty26 ⟨by decide, by decide⟩ ⟨by decide, by decide⟩ ) dX3_chain_75 kV_X3_114 rfl ty26 rfl rfl (by decide) ck_4 rfl (Nat.le_of_ble_eq_true rfl) ⟨(Nat.le_of_ble_eq_true rfl), (Nat.le_of_ble_eq_true rfl)⟩ hph pl8 (show 0 + 0 = 0 from rfl) (by decide) (fun rh4 Lh4 clh4 lnh4 ivh4 rvh4 h4 => ?_)
              obtain ⟨rfl, xl4, fl4, W4, exf4⟩ := h4
              refine hv12 (Fb2.call Xb2 fl4 rfl) (Xb2.ty t_a1) (Xb2.ty tsk6) (Xb2.ty tsk7) (Xb2.ty tsk8) (Xb2.ty tsk9) (Xb2.ty tsk10) (Xb2.ty tsk24) (Xb2.ty tsk25) (Xb2.ty tc9) (Xb2.trans xl4) (xl4.skl skb2) (fun F3 ty27 ty28 ty29 ty30 ty31 ty32 ty33 ty34 ty35 X3 sk3 => ?_)
              refine c_st (st2 := []) rfl ?_
              refine hv5 (show ACX ivb2 rvb2 sk ivh4 rvh4 (0 : Int) from exf4) (xl4.ty ty27) (show ivh4 a1 1 = ivb2 a1 1 from fl4.i ty27 rfl 1) (show ivb2 a1 1 = iv a1 1 from Fb2.i t_a1 rfl 1) (Phi.le W4 sk3) (fun gf4 ty36 ie8 ie9 pl9 => ?_)
              have ri8 : 0 ≤ ivh4 a1 1 ∧ ivh4 a1 1 ≤ 200 := W4.int ty36 1
              exact c_vret C dX3_chain_78 rfl (by decide) (rom0 hph pl9 (by decide)) ⟨rfl, X3, F3, W4, (CHX.bl hI gf1.2 (by omega) (by omega) (by omega) gf4)⟩
        · refine c_aload_n (j := 3) (x := a0) C dX3_chain_37 rfl ?_
          refine c_aload_n (j := 4) (x := a1) C dX3_chain_38 rfl ?_
          refine hv2 (Xb2.ty t_a1) (show rvb2 a1 0 = rv a1 0 from (Fb2.r t_a1 rfl 0)) (fun ty37 re2 => ?_)
          rw [hc9] at re2
          refine c_getr (k := 0) C ck_3 dX3_chain_39 w4_46 (by decide) ty37 rfl rfl (by decide) rfl re2 ?_
          refine c_st (st2 := [.ref c9, .ref a0]) rfl ?_
          refine c_iload (j := 0) C dX3_chain_42 rfl ?_
          have ty38 := Xb2.ty tc9
          have ll2 : 200 ≤ lnb2 c9 ∧ lnb2 c9 ≤ 200 := Wb2.len ty38 rfl
          refine c_iald C dX3_chain_44 ty38 rfl (by omega) (by omega) (by omega) ?_
          refine hv2 (show (-2147483648) ≤ ivb2 c9 k.toNat ∧ ivb2 c9 k.toNat ≤ 2147483647 from Wb2.int ty38 k.toNat) (show ivb2 c9 k.toNat = iv c9 k.toNat from Fb2.i tc9 rfl k.toNat) (fun ri9 ie10 => ?_)
          refine c_iload_n (j := 5) C dX3_chain_45 rfl ?_
          refine c_sipush (z := 1000) C dX3_chain_46 (by decide) ?_
          refine c_imul C dX3_chain_49 ?_
          obtain ⟨zz3, hzz3, ezz3⟩ := iI_of (iI (x * 1000))
          refine c_st (st2 := [.int (iI zz3), .int (iI (ivb2 c9 k.toNat)), .ref a0]) (by rw [ezz3]) ?_
          refine c_iload (j := 0) C dX3_chain_50 rfl ?_
          refine c_iadd C dX3_chain_52 ?_
          obtain ⟨zz4, hzz4, ezz4⟩ := iI_of (iI (zz3 + k))
          refine c_st (st2 := [.int (iI zz4), .int (iI (ivb2 c9 k.toNat)), .ref a0]) (by rw [ezz4]) ?_
          refine hv2 (Xb2.ty t_a0) (Phi.le Wb2 skb2) (fun ty39 pl10 => ?_)
          refine d_callV (As := [.int (iI (ivb2 c9 k.toNat)), .int (iI zz4)]) (rest := []) C hM (G_addCell (a0 := a0) (x := ivb2 c9 k.toNat) (y := zz4) Wb2 skb2 ty39 (by omega) (by omega) ) dX3_chain_53 kV_X3_114 rfl ty39 rfl rfl (by decide) ck_4 rfl (Nat.le_of_ble_eq_true rfl) ⟨(Nat.le_of_ble_eq_true rfl), (Nat.le_of_ble_eq_true rfl)⟩ hph pl10 (show 0 + 0 = 0 from rfl) (by decide) (fun rh5 Lh5 clh5 lnh5 ivh5 rvh5 h5 => ?_)
          obtain ⟨rfl, xl5, fl5, W5, exf5⟩ := h5
          refine hv10 (Fb2.call Xb2 fl5 rfl) (Xb2.ty tsk6) (Xb2.ty tsk7) (Xb2.ty tsk8) (Xb2.ty tsk9) (Xb2.ty tsk10) (Xb2.ty tsk24) (Xb2.ty tsk25) (Xb2.trans xl5) (xl5.skl skb2) (fun F4 ty40 ty41 ty42 ty43 ty44 ty45 ty46 X4 sk4 => ?_)
          refine c_st (st2 := []) rfl ?_
          have gf5 : ACX ivb2 rvb2 sk ivh5 rvh5 (ivb2 c9 k.toNat) := exf5
          refine c_iinc (z := k) (j := 0) (lv2 := [(7, .int (iI (k + 1))), (6, .int (iI ((iv a1 1) - 1))), (5, .int (iI f1)), (0, .ref a0), (1, .ref a1), (2, .int (iI x)), (3, .int (iI y)), (4, .int (iI g))]) C dX3_chain_56 rfl (by decide) rfl ?_
          refine c_goto (tgt := 30) C dX3_chain_59 (by decide) ?_
          refine c_lv (lv2 := [(7, .int (iI (k + 1))), (6, .int (iI ((iv a1 1) - 1))), (5, .int (iI f1)), (0, .ref a0), (1, .ref a1), (2, .int (iI x)), (3, .int (iI y)), (4, .int (iI g))]) [0, 1, 2, 3, 4, 5, 6, 7] rfl ?_
          exact ih2  (k + 1) _ _ _ _ _ (by omega) X4 W5 F4  (by omega) (by omega) (hI.step (by omega) hc9 (Fb2.i tc9 rfl k.toNat) gf5)
    refine c_lv (lv2 := [(7, .int (iI 0)), (6, .int (iI ((iv a1 1) - 1))), (5, .int (iI f1)), (0, .ref a0), (1, .ref a1), (2, .int (iI x)), (3, .int (iI y)), (4, .int (iI g))]) [0, 1, 2, 3, 4, 5, 6, 7] rfl ?_
    exact Lp2 203 0 _ _ _ _ _ (by omega) hX0 hW hF0  (by omega) (by omega) CHI.init
end
section
set_option maxHeartbeats 4000000 in
set_option maxRecDepth 100000 in
theorem G_copyOf_6 {l : Launch} {G : GT} {mi : Nat} {sk : Nat → Nat} {L : List Nat} {cl ln : Nat → Nat} {iv : Nat → Nat → Int} {rv : Nat → Nat → Option Nat}  {a0 : Nat} {n : Int} (hW : WT (g0 G) sk L cl ln iv rv) (hS : SKL sk L cl) (t_a0 : ty L cl a0 36) (h_n : -2147483648 ≤ n ∧ n ≤ 2147483647) (hn : ((ln a0 : Nat) : Int) < n ∧ 16 ≤ n ∧ n ≤ 12006) : Mc l G mi zPf 0 yJ7_copyOf_59c91 cJ7_copyOf_59c91 3 (some (.array .int)) 1 [.ref a0, .int (iI n)] L cl ln iv rv (16 + n.toNat) (fun v L2 cl2 ln2 iv2 rv2 => ∃ f : Nat, v = some (.ref f) ∧ XT L cl ln L2 cl2 ln2 ∧ fT [36] L cl iv rv iv2 rv2 ∧ WT (g0 G) sk L2 cl2 ln2 iv2 rv2 ∧ ty L2 cl2 f 36 ∧ (ln2 f = n.toNat ∧ ∀ j : Nat, j < ln a0 → iv2 f j = iv a0 j)) := by
  refine Mc.mk (by decide) (Nat.le_of_ble_eq_true rfl) ?_
  intro p e s m args below meth c A C hM
  refine hv3 ((show zPf ln rv ≤ 0 from Nat.le_refl 0)) (show XT L cl ln L cl ln from XT.refl) (show fT [36] L cl iv rv iv rv from fT.refl) (fun hph hX0 hF0 => ?_)
  refine c_iload_n (j := 1) C dJ7_copyOf_59c91_0 rfl ?_
  refine c_aload_n (j := 0) (x := a0) C dJ7_copyOf_59c91_1 rfl ?_
  have ll1 : 16 ≤ ln a0 ∧ ln a0 ≤ 12006 := hW.len t_a0 rfl
  refine c_alenI C dJ7_copyOf_59c91_2 t_a0 rfl ?_
  refine c_icmp_ne (tgt := 14) C ⟨by omega, by omega⟩ ⟨by omega, by omega⟩ dJ7_copyOf_59c91_3 (by decide) (fun _ => ?_) (fun z => absurd z (by omega))
  refine c_iload_n (j := 1) C dJ7_copyOf_59c91_14 rfl ?_
  refine c_newaI (z := n) (N := n.toNat) C 36 dJ7_copyOf_59c91_15 w1_57 rfl (by omega) (by omega) (rom2 hph hph (by omega)) (fun qn1 cln1 lnn1 ivn1 rvn1 hqn1 hcn1 hln1 hin1 hrn1 => ⟨(0 + (16 + n.toNat)), (z_in (by omega)), ?_⟩)
  refine c_g0 C (fun hg1 => ?_)
  refine hv5 (show ∀ b, b ≠ qn1 → lnn1 b = ln b from (fun b hb => by rw [hln1]; exact va_up_ne _ _ hb)) (show lnn1 qn1 = n.toNat from by rw [hln1]; exact va_up_self _ _ _) (hF0.new hX0 hqn1 hin1 hrn1) (show ty (L ++ [qn1]) cln1 qn1 36 from ty_new hcn1) (show qn1 ∉ L from fun h => hqn1 ((hX0 qn1 h).1)) (fun hxn1 lqn1 F1 tqn1 h0qn1 => ?_)
  refine hv2 (hW.new (ln2 := lnn1) hqn1 (hg1 qn1 (List.mem_append_right _ List.mem_cons_self)) hcn1 hxn1 hin1 hrn1 (fun _ => ⟨(show (-2147483648 : Int) ≤ 0 by decide), (show (0 : Int) ≤ 2147483647 by decide)⟩) (Or.inr (fun _ => rfl)) (fun _ => by show 16 ≤ lnn1 qn1 ∧ lnn1 qn1 ≤ 12006; omega) rfl rfl) (XT.new hqn1 hcn1 hxn1) (fun W1 xl1 => ?_)
  refine hv2 (hX0.trans xl1) (xl1.skl hS) (fun X1 sk1 => ?_)
  refine c_astore_n (lv2 := [(2, .ref qn1), (0, .ref a0), (1, .int (iI n))]) C dJ7_copyOf_59c91_17 (by decide) rfl ?_
  refine c_aload_n (j := 1) (x := a0) C dJ7_copyOf_59c91_18 rfl ?_
  refine c_iconst C dJ7_copyOf_59c91_19 ?_
  refine c_aload_n (j := 0) (x := qn1) C dJ7_copyOf_59c91_20 rfl ?_
  refine c_iconst C dJ7_copyOf_59c91_21 ?_
  refine c_aload_n (j := 1) (x := a0) C dJ7_copyOf_59c91_22 rfl ?_
  have ty1 := xl1.ty t_a0
  have ll2 : 16 ≤ lnn1 a0 ∧ lnn1 a0 ≤ 12006 := W1.len ty1 rfl
  refine c_alenI C dJ7_copyOf_59c91_23 ty1 rfl ?_
  refine c_iload_n (j := 2) C dJ7_copyOf_59c91_24 rfl ?_
  obtain ⟨mn1, hmn1, emn1⟩ := mmin_c (x := ((lnn1 a0 : Nat) : Int)) (y := n) ⟨by omega, by omega⟩ ⟨by omega, by omega⟩
  refine c_mmin (w := iI mn1) C dJ7_copyOf_59c91_25 w2_128 w2_129 w1_14 w2_130 (by decide) (rom0 hph (Nat.le_refl 0) (by omega)) (Nat.le_of_ble_eq_true rfl) emn1 ?_
  have ll3 : 16 ≤ lnn1 qn1 ∧ lnn1 qn1 ≤ 12006 := W1.len tqn1 rfl
  refine c_copyi (sp := 0) (dp := 0) (n := mn1) C dJ7_copyOf_59c91_28 w2_131 w2_133 w2_132 w1_15 ty1 rfl tqn1 rfl (by omega) (by omega) (by omega) (by omega) (by omega) (by omega) (by omega) (by decide) (Nat.le_of_ble_eq_true rfl) (fun iv1 pq1 => ?_)
  refine hv2 (W1.copy pq1 tqn1 ty1 (fun _ => rfl) (fun _ => rfl) (fun _ => rfl) (fun _ => rfl) rfl) (F1.copy X1 pq1 tqn1 rfl) (fun W2 F2 => ?_)
  refine c_aload_n (j := 0) (x := qn1) C dJ7_copyOf_59c91_31 rfl ?_
  have le1 : lnn1 a0 = ln a0 := (xl1 a0 t_a0.1).2.2
  exact c_aret (x := some qn1) C dJ7_copyOf_59c91_32 rfl (Or.inr ⟨_, rfl⟩) (by omega) (rom0 hph (Nat.le_refl 0) (by omega)) ⟨qn1, rfl, X1, F2, W2, tqn1, ⟨lqn1, fun j hj => by
      rw [pq1]
      show (if qn1 = qn1 then (if (0 : Int).toNat ≤ j ∧ j < (0 : Int).toNat + mn1.toNat then ivn1 a0 ((0 : Int).toNat + (j - (0 : Int).toNat)) else ivn1 qn1 j) else ivn1 qn1 j) = _
      rw [if_pos rfl, if_pos ⟨by omega, by omega⟩, hin1, congrFun (up0_a (ne_in t_a0.1 hqn1)) _]
      exact congrArg (iv a0) (by omega)⟩⟩
set_option maxHeartbeats 4000000 in
set_option maxRecDepth 100000 in
theorem G_add_6 {l : Launch} {G : GT} {mi : Nat} {sk : Nat → Nat} {L : List Nat} {cl ln : Nat → Nat} {iv : Nat → Nat → Int} {rv : Nat → Nat → Option Nat}  {a0 : Nat} {x : Int} (hW : WT (g0 G) sk L cl ln iv rv) (hS : SKL sk L cl) (t_a0 : ty L cl a0 6) (h_x : -2147483648 ≤ x ∧ x ≤ 2147483647)  : Mc l G mi (Phi (g0 G) sk) PHM yX1_add cX1_add 2 none 2 [.ref a0, .int (iI x)] L cl ln iv rv 0 (fun v L2 cl2 ln2 iv2 rv2 => v = none ∧ XT L cl ln L2 cl2 ln2 ∧ fT [6, 36] L cl iv rv iv2 rv2 ∧ WT (g0 G) sk L2 cl2 ln2 iv2 rv2 ∧ (((iv2 a0 2 = iv a0 2 ∧ iv a0 2 = 6003) ∨ (iv2 a0 2 = iv a0 2 + 1 ∧ iv a0 2 < 6003)) ∧ (∀ ss, CT iv rv a0 ss → iv a0 2 < 6003 → CT iv2 rv2 a0 (va_up ss (iv a0 2).toNat x)) ∧ (iv a0 2 = 6003 → ∀ ss, CT iv rv a0 ss → CT iv2 rv2 a0 ss))) := by
  refine Mc.mk (by decide) (Nat.le_of_ble_eq_true rfl) ?_
  intro p e s m args below meth c A C hM
  refine hv3 (Phi.le hW hS) (show XT L cl ln L cl ln from XT.refl) (show fT [6, 36] L cl iv rv iv rv from fT.refl) (fun hph hX0 hF0 => ?_)
  refine c_aload_n (j := 0) (x := a0) C dX1_add_0 rfl ?_
  have ri1 : 0 ≤ iv a0 2 ∧ iv a0 2 ≤ 6003 := hW.int t_a0 2
  refine c_get (k := 2) C ck_2 dX1_add_1 w1_43 (by decide) t_a0 rfl rfl (by decide) rfl ?_
  refine c_aload_n (j := 0) (x := a0) C dX1_add_4 rfl ?_
  have ri2 : 6003 ≤ iv a0 0 ∧ iv a0 0 ≤ 6003 := hW.int t_a0 0
  refine c_get (k := 0) C ck_2 dX1_add_5 w1_38 (by decide) t_a0 rfl rfl (by decide) rfl ?_
  refine c_icmp_lt (tgt := 12) C (r32_c (lo := 0) (hi := 6003) ri1.1 ri1.2 (by decide) (by decide)) (r32_c (lo := 6003) (hi := 6003) ri2.1 ri2.2 (by decide) (by decide)) dX1_add_8 (by decide) (fun c1 => ?_) (fun c1 => ?_)
  · refine c_aload_n (j := 0) (x := a0) C dX1_add_12 rfl ?_
    refine c_get (k := 2) C ck_2 dX1_add_13 w1_43 (by decide) t_a0 rfl rfl (by decide) rfl ?_
    refine c_aload_n (j := 0) (x := a0) C dX1_add_16 rfl ?_
    obtain ⟨rb1, rq1, trb1⟩ := hW.ref t_a0 1 rfl rfl rfl
    refine hv2 (show 16 ≤ ln rb1 ∧ ln rb1 ≤ 12006 from hW.len trb1 rfl) (hW.isz t_a0 rfl rfl rq1) (fun lnrb1 szrb1 => ?_)
    refine c_getr (k := 1) C ck_2 dX1_add_17 w1_39 (by decide) t_a0 rfl rfl (by decide) rfl rq1 ?_
    refine c_st (st2 := [.ref rb1, .int (iI (iv a0 2))]) rfl ?_
    have ll1 : 16 ≤ ln rb1 ∧ ln rb1 ≤ 12006 := hW.len trb1 rfl
    refine c_alenI C dX1_add_20 trb1 rfl ?_
    refine c_icmp_lt (tgt := 42) C (r32_c (lo := 0) (hi := 6003) ri1.1 ri1.2 (by decide) (by decide)) ⟨by omega, by omega⟩ dX1_add_21 (by decide) (fun c2 => ?_) (fun c2 => ?_)
    · refine c_aload_n (j := 0) (x := a0) C dX1_add_42 rfl ?_
      refine c_getr (k := 1) C ck_2 dX1_add_43 w1_39 (by decide) t_a0 rfl rfl (by decide) rfl rq1 ?_
      refine c_st (st2 := [.ref rb1]) rfl ?_
      refine c_aload_n (j := 0) (x := a0) C dX1_add_46 rfl ?_
      refine c_get (k := 2) C ck_2 dX1_add_47 w1_43 (by decide) t_a0 rfl rfl (by decide) rfl ?_
      refine c_iload_n (j := 1) C dX1_add_50 rfl ?_
      refine c_iast (x := x) C dX1_add_51 trb1 rfl (by omega) (by omega) (by omega) (fun iv1 pq1 => ?_)
      refine hv2 (hW.puti pq1 trb1 (show (-2147483648) ≤ x ∧ x ≤ 2147483647 by omega) rfl) (hF0.puti hX0 pq1 trb1 rfl) (fun W1 F1 => ?_)
      refine c_aload_n (j := 0) (x := a0) C dX1_add_52 rfl ?_
      refine c_dup C dX1_add_53 rfl ?_
      refine hv2 (show 0 ≤ iv1 a0 2 ∧ iv1 a0 2 ≤ 6003 from W1.int t_a0 2) (show iv1 a0 2 = iv a0 2 from by rw [pq1]; exact up2_k (ne_ty t_a0 trb1 (by decide))) (fun ri3 ie1 => ?_)
      refine c_get (k := 2) C ck_2 dX1_add_54 w1_43 (by decide) t_a0 rfl rfl (by decide) rfl ?_
      refine c_iconst C dX1_add_57 ?_
      refine c_iadd C dX1_add_58 ?_
      refine c_put (z := (iv1 a0 2) + 1) (k := 2) C ck_2 dX1_add_59 w1_43 (by decide) rfl t_a0 rfl rfl (by decide) rfl (by rfl) (by rfl) (fun iv2 pq2 => ?_)
      refine hv3 (W1.isz_put pq2 t_a0 (show 0 ≤ ((iv1 a0 2) + 1) ∧ ((iv1 a0 2) + 1) ≤ 6003 by omega) rfl rfl rq1 (show ((iv1 a0 2) + 1) ≤ ((ln rb1 : Nat) : Int) by omega)) (F1.puti hX0 pq2 t_a0 rfl) (show iv2 a0 2 = (iv1 a0 2) + 1 from by rw [pq2]; exact up2_s) (fun W2 F2 ie2 => ?_)
      have ri4 : 0 ≤ iv2 a0 2 ∧ iv2 a0 2 ≤ 6003 := W2.int t_a0 2
      exact c_vret C dX1_add_62 rfl (by decide) (rom0 hph hph (by decide)) ⟨rfl, hX0, F2, W2, ⟨by omega, (fun ss hs hq b2 hb j hj => by
          rw [rq1] at hb
          cases hb
          rw [pq2, up2_k (ne_ty trb1 t_a0 (by decide)), pq1]
          by_cases e : j = (iv a0 2).toNat
          · subst e; rw [up2_s, va_up_self]
          · rw [up2_j e, va_up_ne _ _ e]; exact hs _ rq1 j (by omega)), (fun e => absurd e (by omega))⟩⟩
    · refine c_aload_n (j := 0) (x := a0) C dX1_add_24 rfl ?_
      refine c_aload_n (j := 0) (x := a0) C dX1_add_25 rfl ?_
      refine c_getr (k := 1) C ck_2 dX1_add_26 w1_39 (by decide) t_a0 rfl rfl (by decide) rfl rq1 ?_
      refine c_st (st2 := [.ref rb1, .ref a0]) rfl ?_
      refine c_aload_n (j := 0) (x := a0) C dX1_add_29 rfl ?_
      refine c_getr (k := 1) C ck_2 dX1_add_30 w1_39 (by decide) t_a0 rfl rfl (by decide) rfl rq1 ?_
      refine c_st (st2 := [.ref rb1, .ref rb1, .ref a0]) rfl ?_
      refine c_alenI C dX1_add_33 trb1 rfl ?_
      refine c_iconst C dX1_add_34 ?_
      refine c_imul C dX1_add_35 ?_
      refine c_g0 C (fun hg0 => ?_)
      refine hv2 (hW.sk t_a0 (by decide) rfl) (cap_of (ln := ln) rq1 (hg0 rb1 trb1.1)) (fun ask0 cp0 => ?_)
      have sl0 := Phi.slack (t := 6) (n := ln rb1) hW hS ⟨by decide, by decide⟩ (by rw [← ask0]; exact cp0) (by show ln rb1 ≤ 6003; omega)
      refine c_callS (As := [.ref rb1, .int (iI (((ln rb1 : Nat) : Int) * 2))]) (rest := [.ref a0]) C hM (G_copyOf_6 (a0 := rb1) (n := ((ln rb1 : Nat) : Int) * 2) hW hS trb1 (by omega) (by show ((ln rb1 : Nat) : Int) < (((ln rb1 : Nat) : Int) * 2) ∧ 16 ≤ (((ln rb1 : Nat) : Int) * 2) ∧ (((ln rb1 : Nat) : Int) * 2) ≤ 12006; omega)) dX1_add_36 kS_X1_20 rfl rfl (Nat.le_of_ble_eq_true rfl) ⟨(Nat.le_of_ble_eq_true rfl), (Nat.le_of_ble_eq_true rfl)⟩ (by unfold zPf; omega) (fun rh1 Lh1 clh1 lnh1 ivh1 rvh1 h1 => ⟨(0 + (16 + (((ln rb1 : Nat) : Int) * 2).toNat)), (zk1 (by obtain ⟨_, _, xlh1x, flh1x, Wh1x, _⟩ := h1; exact Phi.fr hW hS xlh1x flh1x rfl)), ?_⟩)
      obtain ⟨f1, rfl, xl1, fl1, W3, rgf1, exf1⟩ := h1
      refine hv3 (hF0.call hX0 fl1 rfl) (hX0.trans xl1) (xl1.skl hS) (fun F3 X1 sk1 => ?_)
      refine c_st (st2 := [.ref f1, .ref a0]) rfl ?_
      refine hv3 (show lnh1 f1 = (((ln rb1 : Nat) : Int) * 2).toNat ∧ ∀ j : Nat, j < ln rb1 → ivh1 f1 j = iv rb1 j from exf1) (xl1.ty t_a0) (show rvh1 a0 1 = rv a0 1 from (fl1.r t_a0 rfl 1)) (fun gf1 ty1 re1 => ?_)
      rw [rq1] at re1
      refine hv4 (show 0 ≤ ivh1 a0 2 ∧ ivh1 a0 2 ≤ 6003 from W3.int ty1 2) (show ivh1 a0 2 = iv a0 2 from fl1.i t_a0 rfl 2) (xl1.ty trb1) (show lnh1 rb1 = ln rb1 from (xl1 rb1 trb1.1).2.2) (fun ri5 ie3 ty2 le1 => ?_)
      refine c_g0 C (fun hg1 => ?_)
      refine hv2 (W3.sk ty1 (by decide) rfl) (cap_of (ln := lnh1) re1 (hg1 rb1 ty2.1)) (fun ask cpo => ?_)
      refine c_putr (x := (some f1)) (k := 1) C ck_2 dX1_add_39 w1_39 (by decide) rfl ty1 rfl rfl (by decide) rfl (by rfl) (by rfl) (fun rv1 pq3 => ⟨0, (by have gr := Phi.grow (g := g0 G) (rv2 := rv1) (rv := rvh1) (b := f1) (ln := lnh1) (t := 6) sk1 (by rw [← ask]; exact pq3) (hg1 f1 rgf1.1) (Or.inl ⟨by decide, by decide⟩); rw [← ask] at gr; have gr2 : Phi (g0 G) sk lnh1 rv1 + 3 * cap (g0 G) lnh1 rvh1 a0 = Phi (g0 G) sk lnh1 rvh1 + 3 * lnh1 f1 := gr; omega), ?_⟩)
      refine hv2 (W3.putit pq3 ty1 rfl rfl rgf1 (by omega)) (F3.putr X1 pq3 ty1 rfl) (fun W4 F4 => ?_)
      refine c_aload_n (j := 0) (x := a0) C dX1_add_42 rfl ?_
      have rp1 : rv1 a0 1 = (some f1) := by rw [pq3]; exact upr_s
      refine c_getr (k := 1) C ck_2 dX1_add_43 w1_39 (by decide) ty1 rfl rfl (by decide) rfl rp1 ?_
      refine c_st (st2 := [.ref f1]) rfl ?_
      refine c_aload_n (j := 0) (x := a0) C dX1_add_46 rfl ?_
      refine c_get (k := 2) C ck_2 dX1_add_47 w1_43 (by decide) ty1 rfl rfl (by decide) rfl ?_
      refine c_iload_n (j := 1) C dX1_add_50 rfl ?_
      have ll2 : 16 ≤ lnh1 f1 ∧ lnh1 f1 ≤ 12006 := W4.len rgf1 rfl
      refine c_iast (x := x) C dX1_add_51 rgf1 rfl (by omega) (by omega) (by omega) (fun iv3 pq4 => ?_)
      refine hv2 (W4.puti pq4 rgf1 (show (-2147483648) ≤ x ∧ x ≤ 2147483647 by omega) rfl) (F4.puti X1 pq4 rgf1 rfl) (fun W5 F5 => ?_)
      refine c_aload_n (j := 0) (x := a0) C dX1_add_52 rfl ?_
      refine c_dup C dX1_add_53 rfl ?_
      refine hv2 (show 0 ≤ iv3 a0 2 ∧ iv3 a0 2 ≤ 6003 from W5.int ty1 2) (show iv3 a0 2 = ivh1 a0 2 from by rw [pq4]; exact up2_k (ne_ty ty1 rgf1 (by decide))) (fun ri6 ie4 => ?_)
      refine c_get (k := 2) C ck_2 dX1_add_54 w1_43 (by decide) ty1 rfl rfl (by decide) rfl ?_
      refine c_iconst C dX1_add_57 ?_
      refine c_iadd C dX1_add_58 ?_
      refine c_put (z := (iv3 a0 2) + 1) (k := 2) C ck_2 dX1_add_59 w1_43 (by decide) rfl ty1 rfl rfl (by decide) rfl (by rfl) (by rfl) (fun iv4 pq5 => ?_)
      refine hv3 (W5.isz_put pq5 ty1 (show 0 ≤ ((iv3 a0 2) + 1) ∧ ((iv3 a0 2) + 1) ≤ 6003 by omega) rfl rfl rp1 (show ((iv3 a0 2) + 1) ≤ ((lnh1 f1 : Nat) : Int) by omega)) (F5.puti X1 pq5 ty1 rfl) (show iv4 a0 2 = (iv3 a0 2) + 1 from by rw [pq5]; exact up2_s) (fun W6 F6 ie5 => ?_)
      refine hv2 (show 0 ≤ iv4 a0 2 ∧ iv4 a0 2 ≤ 6003 from W6.int ty1 2) (Phi.le W6 sk1) (fun ri7 pl1 => ?_)
      exact c_vret C dX1_add_62 rfl (by decide) (rom0 hph pl1 (by decide)) ⟨rfl, X1, F6, W6, ⟨by omega, (fun ss hs hq b2 hb j hj => by
          rw [rp1] at hb
          cases hb
          rw [pq5, up2_k (ne_ty rgf1 ty1 (by decide)), pq4]
          by_cases e : j = (iv a0 2).toNat
          · subst e; rw [show (iv a0 2).toNat = (ivh1 a0 2).toNat from congrArg Int.toNat (by omega), up2_s, va_up_self]
          · rw [up2_j (fun e2 => e (e2.trans (congrArg Int.toNat (by omega)))), va_up_ne _ _ e, gf1.2 j (by omega)]; exact hs _ rq1 j (by omega)), (fun e => absurd e (by omega))⟩⟩
  · exact c_vret C dX1_add_11 rfl (by decide) (rom0 hph hph (by decide)) ⟨rfl, hX0, hF0, hW, ⟨by omega, (fun ss hs hq => absurd hq (by omega)), fun _ ss hs => hs⟩⟩
set_option maxHeartbeats 4000000 in
set_option maxRecDepth 100000 in
theorem G_copyOf_7 {l : Launch} {G : GT} {mi : Nat} {sk : Nat → Nat} {L : List Nat} {cl ln : Nat → Nat} {iv : Nat → Nat → Int} {rv : Nat → Nat → Option Nat}  {a0 : Nat} {n : Int} (hW : WT (g0 G) sk L cl ln iv rv) (hS : SKL sk L cl) (t_a0 : ty L cl a0 37) (h_n : -2147483648 ≤ n ∧ n ≤ 2147483647) (hn : ((ln a0 : Nat) : Int) < n ∧ 16 ≤ n ∧ n ≤ 12006) : Mc l G mi zPf 0 yJ7_copyOf_59c91 cJ7_copyOf_59c91 3 (some (.array .int)) 1 [.ref a0, .int (iI n)] L cl ln iv rv (16 + n.toNat) (fun v L2 cl2 ln2 iv2 rv2 => ∃ f : Nat, v = some (.ref f) ∧ XT L cl ln L2 cl2 ln2 ∧ fT [37] L cl iv rv iv2 rv2 ∧ WT (g0 G) sk L2 cl2 ln2 iv2 rv2 ∧ ty L2 cl2 f 37 ∧ (ln2 f = n.toNat ∧ ∀ j : Nat, j < ln a0 → iv2 f j = iv a0 j)) := by
  refine Mc.mk (by decide) (Nat.le_of_ble_eq_true rfl) ?_
  intro p e s m args below meth c A C hM
  refine hv3 ((show zPf ln rv ≤ 0 from Nat.le_refl 0)) (show XT L cl ln L cl ln from XT.refl) (show fT [37] L cl iv rv iv rv from fT.refl) (fun hph hX0 hF0 => ?_)
  refine c_iload_n (j := 1) C dJ7_copyOf_59c91_0 rfl ?_
  refine c_aload_n (j := 0) (x := a0) C dJ7_copyOf_59c91_1 rfl ?_
  have ll1 : 16 ≤ ln a0 ∧ ln a0 ≤ 12006 := hW.len t_a0 rfl
  refine c_alenI C dJ7_copyOf_59c91_2 t_a0 rfl ?_
  refine c_icmp_ne (tgt := 14) C ⟨by omega, by omega⟩ ⟨by omega, by omega⟩ dJ7_copyOf_59c91_3 (by decide) (fun _ => ?_) (fun z => absurd z (by omega))
  refine c_iload_n (j := 1) C dJ7_copyOf_59c91_14 rfl ?_
  refine c_newaI (z := n) (N := n.toNat) C 37 dJ7_copyOf_59c91_15 w1_57 rfl (by omega) (by omega) (rom2 hph hph (by omega)) (fun qn1 cln1 lnn1 ivn1 rvn1 hqn1 hcn1 hln1 hin1 hrn1 => ⟨(0 + (16 + n.toNat)), (z_in (by omega)), ?_⟩)
  refine c_g0 C (fun hg1 => ?_)
  refine hv5 (show ∀ b, b ≠ qn1 → lnn1 b = ln b from (fun b hb => by rw [hln1]; exact va_up_ne _ _ hb)) (show lnn1 qn1 = n.toNat from by rw [hln1]; exact va_up_self _ _ _) (hF0.new hX0 hqn1 hin1 hrn1) (show ty (L ++ [qn1]) cln1 qn1 37 from ty_new hcn1) (show qn1 ∉ L from fun h => hqn1 ((hX0 qn1 h).1)) (fun hxn1 lqn1 F1 tqn1 h0qn1 => ?_)
  refine hv2 (hW.new (ln2 := lnn1) hqn1 (hg1 qn1 (List.mem_append_right _ List.mem_cons_self)) hcn1 hxn1 hin1 hrn1 (fun _ => ⟨(show (-2147483648 : Int) ≤ 0 by decide), (show (0 : Int) ≤ 2147483647 by decide)⟩) (Or.inr (fun _ => rfl)) (fun _ => by show 16 ≤ lnn1 qn1 ∧ lnn1 qn1 ≤ 12006; omega) rfl rfl) (XT.new hqn1 hcn1 hxn1) (fun W1 xl1 => ?_)
  refine hv2 (hX0.trans xl1) (xl1.skl hS) (fun X1 sk1 => ?_)
  refine c_astore_n (lv2 := [(2, .ref qn1), (0, .ref a0), (1, .int (iI n))]) C dJ7_copyOf_59c91_17 (by decide) rfl ?_
  refine c_aload_n (j := 1) (x := a0) C dJ7_copyOf_59c91_18 rfl ?_
  refine c_iconst C dJ7_copyOf_59c91_19 ?_
  refine c_aload_n (j := 0) (x := qn1) C dJ7_copyOf_59c91_20 rfl ?_
  refine c_iconst C dJ7_copyOf_59c91_21 ?_
  refine c_aload_n (j := 1) (x := a0) C dJ7_copyOf_59c91_22 rfl ?_
  have ty1 := xl1.ty t_a0
  have ll2 : 16 ≤ lnn1 a0 ∧ lnn1 a0 ≤ 12006 := W1.len ty1 rfl
  refine c_alenI C dJ7_copyOf_59c91_23 ty1 rfl ?_
  refine c_iload_n (j := 2) C dJ7_copyOf_59c91_24 rfl ?_
  obtain ⟨mn1, hmn1, emn1⟩ := mmin_c (x := ((lnn1 a0 : Nat) : Int)) (y := n) ⟨by omega, by omega⟩ ⟨by omega, by omega⟩
  refine c_mmin (w := iI mn1) C dJ7_copyOf_59c91_25 w2_128 w2_129 w1_14 w2_130 (by decide) (rom0 hph (Nat.le_refl 0) (by omega)) (Nat.le_of_ble_eq_true rfl) emn1 ?_
  have ll3 : 16 ≤ lnn1 qn1 ∧ lnn1 qn1 ≤ 12006 := W1.len tqn1 rfl
  refine c_copyi (sp := 0) (dp := 0) (n := mn1) C dJ7_copyOf_59c91_28 w2_131 w2_133 w2_132 w1_15 ty1 rfl tqn1 rfl (by omega) (by omega) (by omega) (by omega) (by omega) (by omega) (by omega) (by decide) (Nat.le_of_ble_eq_true rfl) (fun iv1 pq1 => ?_)
  refine hv2 (W1.copy pq1 tqn1 ty1 (fun _ => rfl) (fun _ => rfl) (fun _ => rfl) (fun _ => rfl) rfl) (F1.copy X1 pq1 tqn1 rfl) (fun W2 F2 => ?_)
  refine c_aload_n (j := 0) (x := qn1) C dJ7_copyOf_59c91_31 rfl ?_
  have le1 : lnn1 a0 = ln a0 := (xl1 a0 t_a0.1).2.2
  exact c_aret (x := some qn1) C dJ7_copyOf_59c91_32 rfl (Or.inr ⟨_, rfl⟩) (by omega) (rom0 hph (Nat.le_refl 0) (by omega)) ⟨qn1, rfl, X1, F2, W2, tqn1, ⟨lqn1, fun j hj => by
      rw [pq1]
      show (if qn1 = qn1 then (if (0 : Int).toNat ≤ j ∧ j < (0 : Int).toNat + mn1.toNat then ivn1 a0 ((0 : Int).toNat + (j - (0 : Int).toNat)) else ivn1 qn1 j) else ivn1 qn1 j) = _
      rw [if_pos rfl, if_pos ⟨by omega, by omega⟩, hin1, congrFun (up0_a (ne_in t_a0.1 hqn1)) _]
      exact congrArg (iv a0) (by omega)⟩⟩
set_option maxHeartbeats 4000000 in
set_option maxRecDepth 100000 in
theorem G_add_7 {l : Launch} {G : GT} {mi : Nat} {sk : Nat → Nat} {L : List Nat} {cl ln : Nat → Nat} {iv : Nat → Nat → Int} {rv : Nat → Nat → Option Nat}  {a0 : Nat} {x : Int} (hW : WT (g0 G) sk L cl ln iv rv) (hS : SKL sk L cl) (t_a0 : ty L cl a0 7) (h_x : -2147483648 ≤ x ∧ x ≤ 2147483647)  : Mc l G mi (Phi (g0 G) sk) PHM yX1_add cX1_add 2 none 2 [.ref a0, .int (iI x)] L cl ln iv rv 0 (fun v L2 cl2 ln2 iv2 rv2 => v = none ∧ XT L cl ln L2 cl2 ln2 ∧ fT [7, 37] L cl iv rv iv2 rv2 ∧ WT (g0 G) sk L2 cl2 ln2 iv2 rv2 ∧ (((iv2 a0 2 = iv a0 2 ∧ iv a0 2 = 6003) ∨ (iv2 a0 2 = iv a0 2 + 1 ∧ iv a0 2 < 6003)) ∧ (∀ ss, CT iv rv a0 ss → iv a0 2 < 6003 → CT iv2 rv2 a0 (va_up ss (iv a0 2).toNat x)) ∧ (iv a0 2 = 6003 → ∀ ss, CT iv rv a0 ss → CT iv2 rv2 a0 ss))) := by
  refine Mc.mk (by decide) (Nat.le_of_ble_eq_true rfl) ?_
  intro p e s m args below meth c A C hM
  refine hv3 (Phi.le hW hS) (show XT L cl ln L cl ln from XT.refl) (show fT [7, 37] L cl iv rv iv rv from fT.refl) (fun hph hX0 hF0 => ?_)
  refine c_aload_n (j := 0) (x := a0) C dX1_add_0 rfl ?_
  have ri1 : 0 ≤ iv a0 2 ∧ iv a0 2 ≤ 6003 := hW.int t_a0 2
  refine c_get (k := 2) C ck_2 dX1_add_1 w1_43 (by decide) t_a0 rfl rfl (by decide) rfl ?_
  refine c_aload_n (j := 0) (x := a0) C dX1_add_4 rfl ?_
  have ri2 : 6003 ≤ iv a0 0 ∧ iv a0 0 ≤ 6003 := hW.int t_a0 0
  refine c_get (k := 0) C ck_2 dX1_add_5 w1_38 (by decide) t_a0 rfl rfl (by decide) rfl ?_
  refine c_icmp_lt (tgt := 12) C (r32_c (lo := 0) (hi := 6003) ri1.1 ri1.2 (by decide) (by decide)) (r32_c (lo := 6003) (hi := 6003) ri2.1 ri2.2 (by decide) (by decide)) dX1_add_8 (by decide) (fun c1 => ?_) (fun c1 => ?_)
  · refine c_aload_n (j := 0) (x := a0) C dX1_add_12 rfl ?_
    refine c_get (k := 2) C ck_2 dX1_add_13 w1_43 (by decide) t_a0 rfl rfl (by decide) rfl ?_
    refine c_aload_n (j := 0) (x := a0) C dX1_add_16 rfl ?_
    obtain ⟨rb1, rq1, trb1⟩ := hW.ref t_a0 1 rfl rfl rfl
    refine hv2 (show 16 ≤ ln rb1 ∧ ln rb1 ≤ 12006 from hW.len trb1 rfl) (hW.isz t_a0 rfl rfl rq1) (fun lnrb1 szrb1 => ?_)
    refine c_getr (k := 1) C ck_2 dX1_add_17 w1_39 (by decide) t_a0 rfl rfl (by decide) rfl rq1 ?_
    refine c_st (st2 := [.ref rb1, .int (iI (iv a0 2))]) rfl ?_
    have ll1 : 16 ≤ ln rb1 ∧ ln rb1 ≤ 12006 := hW.len trb1 rfl
    refine c_alenI C dX1_add_20 trb1 rfl ?_
    refine c_icmp_lt (tgt := 42) C (r32_c (lo := 0) (hi := 6003) ri1.1 ri1.2 (by decide) (by decide)) ⟨by omega, by omega⟩ dX1_add_21 (by decide) (fun c2 => ?_) (fun c2 => ?_)
    · refine c_aload_n (j := 0) (x := a0) C dX1_add_42 rfl ?_
      refine c_getr (k := 1) C ck_2 dX1_add_43 w1_39 (by decide) t_a0 rfl rfl (by decide) rfl rq1 ?_
      refine c_st (st2 := [.ref rb1]) rfl ?_
      refine c_aload_n (j := 0) (x := a0) C dX1_add_46 rfl ?_
      refine c_get (k := 2) C ck_2 dX1_add_47 w1_43 (by decide) t_a0 rfl rfl (by decide) rfl ?_
      refine c_iload_n (j := 1) C dX1_add_50 rfl ?_
      refine c_iast (x := x) C dX1_add_51 trb1 rfl (by omega) (by omega) (by omega) (fun iv1 pq1 => ?_)
      refine hv2 (hW.puti pq1 trb1 (show (-2147483648) ≤ x ∧ x ≤ 2147483647 by omega) rfl) (hF0.puti hX0 pq1 trb1 rfl) (fun W1 F1 => ?_)
      refine c_aload_n (j := 0) (x := a0) C dX1_add_52 rfl ?_
      refine c_dup C dX1_add_53 rfl ?_
      refine hv2 (show 0 ≤ iv1 a0 2 ∧ iv1 a0 2 ≤ 6003 from W1.int t_a0 2) (show iv1 a0 2 = iv a0 2 from by rw [pq1]; exact up2_k (ne_ty t_a0 trb1 (by decide))) (fun ri3 ie1 => ?_)
      refine c_get (k := 2) C ck_2 dX1_add_54 w1_43 (by decide) t_a0 rfl rfl (by decide) rfl ?_
      refine c_iconst C dX1_add_57 ?_
      refine c_iadd C dX1_add_58 ?_
      refine c_put (z := (iv1 a0 2) + 1) (k := 2) C ck_2 dX1_add_59 w1_43 (by decide) rfl t_a0 rfl rfl (by decide) rfl (by rfl) (by rfl) (fun iv2 pq2 => ?_)
      refine hv3 (W1.isz_put pq2 t_a0 (show 0 ≤ ((iv1 a0 2) + 1) ∧ ((iv1 a0 2) + 1) ≤ 6003 by omega) rfl rfl rq1 (show ((iv1 a0 2) + 1) ≤ ((ln rb1 : Nat) : Int) by omega)) (F1.puti hX0 pq2 t_a0 rfl) (show iv2 a0 2 = (iv1 a0 2) + 1 from by rw [pq2]; exact up2_s) (fun W2 F2 ie2 => ?_)
      have ri4 : 0 ≤ iv2 a0 2 ∧ iv2 a0 2 ≤ 6003 := W2.int t_a0 2
      exact c_vret C dX1_add_62 rfl (by decide) (rom0 hph hph (by decide)) ⟨rfl, hX0, F2, W2, ⟨by omega, (fun ss hs hq b2 hb j hj => by
          rw [rq1] at hb
          cases hb
          rw [pq2, up2_k (ne_ty trb1 t_a0 (by decide)), pq1]
          by_cases e : j = (iv a0 2).toNat
          · subst e; rw [up2_s, va_up_self]
          · rw [up2_j e, va_up_ne _ _ e]; exact hs _ rq1 j (by omega)), (fun e => absurd e (by omega))⟩⟩
    · refine c_aload_n (j := 0) (x := a0) C dX1_add_24 rfl ?_
      refine c_aload_n (j := 0) (x := a0) C dX1_add_25 rfl ?_
      refine c_getr (k := 1) C ck_2 dX1_add_26 w1_39 (by decide) t_a0 rfl rfl (by decide) rfl rq1 ?_
      refine c_st (st2 := [.ref rb1, .ref a0]) rfl ?_
      refine c_aload_n (j := 0) (x := a0) C dX1_add_29 rfl ?_
      refine c_getr (k := 1) C ck_2 dX1_add_30 w1_39 (by decide) t_a0 rfl rfl (by decide) rfl rq1 ?_
      refine c_st (st2 := [.ref rb1, .ref rb1, .ref a0]) rfl ?_
      refine c_alenI C dX1_add_33 trb1 rfl ?_
      refine c_iconst C dX1_add_34 ?_
      refine c_imul C dX1_add_35 ?_
      refine c_g0 C (fun hg0 => ?_)
      refine hv2 (hW.sk t_a0 (by decide) rfl) (cap_of (ln := ln) rq1 (hg0 rb1 trb1.1)) (fun ask0 cp0 => ?_)
      have sl0 := Phi.slack (t := 7) (n := ln rb1) hW hS ⟨by decide, by decide⟩ (by rw [← ask0]; exact cp0) (by show ln rb1 ≤ 6003; omega)
      refine c_callS (As := [.ref rb1, .int (iI (((ln rb1 : Nat) : Int) * 2))]) (rest := [.ref a0]) C hM (G_copyOf_7 (a0 := rb1) (n := ((ln rb1 : Nat) : Int) * 2) hW hS trb1 (by omega) (by show ((ln rb1 : Nat) : Int) < (((ln rb1 : Nat) : Int) * 2) ∧ 16 ≤ (((ln rb1 : Nat) : Int) * 2) ∧ (((ln rb1 : Nat) : Int) * 2) ≤ 12006; omega)) dX1_add_36 kS_X1_20 rfl rfl (Nat.le_of_ble_eq_true rfl) ⟨(Nat.le_of_ble_eq_true rfl), (Nat.le_of_ble_eq_true rfl)⟩ (by unfold zPf; omega) (fun rh1 Lh1 clh1 lnh1 ivh1 rvh1 h1 => ⟨(0 + (16 + (((ln rb1 : Nat) : Int) * 2).toNat)), (zk1 (by obtain ⟨_, _, xlh1x, flh1x, Wh1x, _⟩ := h1; exact Phi.fr hW hS xlh1x flh1x rfl)), ?_⟩)
      obtain ⟨f1, rfl, xl1, fl1, W3, rgf1, exf1⟩ := h1
      refine hv3 (hF0.call hX0 fl1 rfl) (hX0.trans xl1) (xl1.skl hS) (fun F3 X1 sk1 => ?_)
      refine c_st (st2 := [.ref f1, .ref a0]) rfl ?_
      refine hv3 (show lnh1 f1 = (((ln rb1 : Nat) : Int) * 2).toNat ∧ ∀ j : Nat, j < ln rb1 → ivh1 f1 j = iv rb1 j from exf1) (xl1.ty t_a0) (show rvh1 a0 1 = rv a0 1 from (fl1.r t_a0 rfl 1)) (fun gf1 ty1 re1 => ?_)
      rw [rq1] at re1
      refine hv4 (show 0 ≤ ivh1 a0 2 ∧ ivh1 a0 2 ≤ 6003 from W3.int ty1 2) (show ivh1 a0 2 = iv a0 2 from fl1.i t_a0 rfl 2) (xl1.ty trb1) (show lnh1 rb1 = ln rb1 from (xl1 rb1 trb1.1).2.2) (fun ri5 ie3 ty2 le1 => ?_)
      refine c_g0 C (fun hg1 => ?_)
      refine hv2 (W3.sk ty1 (by decide) rfl) (cap_of (ln := lnh1) re1 (hg1 rb1 ty2.1)) (fun ask cpo => ?_)
      refine c_putr (x := (some f1)) (k := 1) C ck_2 dX1_add_39 w1_39 (by decide) rfl ty1 rfl rfl (by decide) rfl (by rfl) (by rfl) (fun rv1 pq3 => ⟨0, (by have gr := Phi.grow (g := g0 G) (rv2 := rv1) (rv := rvh1) (b := f1) (ln := lnh1) (t := 7) sk1 (by rw [← ask]; exact pq3) (hg1 f1 rgf1.1) (Or.inl ⟨by decide, by decide⟩); rw [← ask] at gr; have gr2 : Phi (g0 G) sk lnh1 rv1 + 3 * cap (g0 G) lnh1 rvh1 a0 = Phi (g0 G) sk lnh1 rvh1 + 3 * lnh1 f1 := gr; omega), ?_⟩)
      refine hv2 (W3.putit pq3 ty1 rfl rfl rgf1 (by omega)) (F3.putr X1 pq3 ty1 rfl) (fun W4 F4 => ?_)
      refine c_aload_n (j := 0) (x := a0) C dX1_add_42 rfl ?_
      have rp1 : rv1 a0 1 = (some f1) := by rw [pq3]; exact upr_s
      refine c_getr (k := 1) C ck_2 dX1_add_43 w1_39 (by decide) ty1 rfl rfl (by decide) rfl rp1 ?_
      refine c_st (st2 := [.ref f1]) rfl ?_
      refine c_aload_n (j := 0) (x := a0) C dX1_add_46 rfl ?_
      refine c_get (k := 2) C ck_2 dX1_add_47 w1_43 (by decide) ty1 rfl rfl (by decide) rfl ?_
      refine c_iload_n (j := 1) C dX1_add_50 rfl ?_
      have ll2 : 16 ≤ lnh1 f1 ∧ lnh1 f1 ≤ 12006 := W4.len rgf1 rfl
      refine c_iast (x := x) C dX1_add_51 rgf1 rfl (by omega) (by omega) (by omega) (fun iv3 pq4 => ?_)
      refine hv2 (W4.puti pq4 rgf1 (show (-2147483648) ≤ x ∧ x ≤ 2147483647 by omega) rfl) (F4.puti X1 pq4 rgf1 rfl) (fun W5 F5 => ?_)
      refine c_aload_n (j := 0) (x := a0) C dX1_add_52 rfl ?_
      refine c_dup C dX1_add_53 rfl ?_
      refine hv2 (show 0 ≤ iv3 a0 2 ∧ iv3 a0 2 ≤ 6003 from W5.int ty1 2) (show iv3 a0 2 = ivh1 a0 2 from by rw [pq4]; exact up2_k (ne_ty ty1 rgf1 (by decide))) (fun ri6 ie4 => ?_)
      refine c_get (k := 2) C ck_2 dX1_add_54 w1_43 (by decide) ty1 rfl rfl (by decide) rfl ?_
      refine c_iconst C dX1_add_57 ?_
      refine c_iadd C dX1_add_58 ?_
      refine c_put (z := (iv3 a0 2) + 1) (k := 2) C ck_2 dX1_add_59 w1_43 (by decide) rfl ty1 rfl rfl (by decide) rfl (by rfl) (by rfl) (fun iv4 pq5 => ?_)
      refine hv3 (W5.isz_put pq5 ty1 (show 0 ≤ ((iv3 a0 2) + 1) ∧ ((iv3 a0 2) + 1) ≤ 6003 by omega) rfl rfl rp1 (show ((iv3 a0 2) + 1) ≤ ((lnh1 f1 : Nat) : Int) by omega)) (F5.puti X1 pq5 ty1 rfl) (show iv4 a0 2 = (iv3 a0 2) + 1 from by rw [pq5]; exact up2_s) (fun W6 F6 ie5 => ?_)
      refine hv2 (show 0 ≤ iv4 a0 2 ∧ iv4 a0 2 ≤ 6003 from W6.int ty1 2) (Phi.le W6 sk1) (fun ri7 pl1 => ?_)
      exact c_vret C dX1_add_62 rfl (by decide) (rom0 hph pl1 (by decide)) ⟨rfl, X1, F6, W6, ⟨by omega, (fun ss hs hq b2 hb j hj => by
          rw [rp1] at hb
          cases hb
          rw [pq5, up2_k (ne_ty rgf1 ty1 (by decide)), pq4]
          by_cases e : j = (iv a0 2).toNat
          · subst e; rw [show (iv a0 2).toNat = (ivh1 a0 2).toNat from congrArg Int.toNat (by omega), up2_s, va_up_self]
          · rw [up2_j (fun e2 => e (e2.trans (congrArg Int.toNat (by omega)))), va_up_ne _ _ e, gf1.2 j (by omega)]; exact hs _ rq1 j (by omega)), (fun e => absurd e (by omega))⟩⟩
  · exact c_vret C dX1_add_11 rfl (by decide) (rom0 hph hph (by decide)) ⟨rfl, hX0, hF0, hW, ⟨by omega, (fun ss hs hq => absurd hq (by omega)), fun _ ss hs => hs⟩⟩
def MBI (L : List Nat) (cl ln : Nat → Nat) (iv : Nat → Nat → Int) (rv : Nat → Nat → Option Nat) (q : Nat) (iv1 : Nat → Nat → Int) (rv1 : Nat → Nat → Option Nat) (b : Nat) (k : Int) : Prop := ∀ a l, HL L cl ln iv rv a q l → NZL a l → ∃ ss, CT iv1 rv1 b ss ∧ ∀ (r : Nat) (d : Int), ((r : Nat) : Int) < k → l[r]? = some d → ss r = dcl a d 0
def MBX (L : List Nat) (cl ln : Nat → Nat) (iv : Nat → Nat → Int) (rv : Nat → Nat → Option Nat) (q : Nat) (iv2 : Nat → Nat → Int) (rv2 : Nat → Nat → Option Nat) (b : Nat) : Prop := ∀ a l, HL L cl ln iv rv a q l → NZL a l → ∃ ss, CT iv2 rv2 b ss ∧ ∀ (r : Nat) (d : Int), l[r]? = some d → ss r = dcl a d 0
def GBQ (sk ln : Nat → Nat) (iv : Nat → Nat → Int) (rv : Nat → Nat → Option Nat) (b : Nat) (iv2 : Nat → Nat → Int) (rv2 : Nat → Nat → Option Nat) (q u : Nat) (P : (Nat → Nat → Int) → Int → List Int) : Prop := ∀ v a, TRL sk ln iv rv v a → ∀ i : Nat, (i : Int) < v 4 → el rv (sk 22) i = some b → NZL a (P a i) → BGL iv2 rv2 a q u (P a i)
section BEGS
variable {h : Nat} {sk : Nat → Nat} {L L1 : List Nat} {cl ln cl1 ln1 : Nat → Nat} {iv iv1 iv2 iv3 : Nat → Nat → Int} {rv rv1 rv2 rv3 : Nat → Nat → Option Nat} {a : Nat → Nat → Int} {q w b c u T t : Nat} {x k : Int} {ls : List Nat} {P : (Nat → Nat → Int) → Int → List Int}
theorem MBI.init (h0 : iv1 b 2 = 0) : MBI L cl ln iv rv q iv1 rv1 b 0 := fun a l _ _ => ⟨fun _ => 0, CT.zero h0, fun r d hr => absurd hr (by omega)⟩
theorem MBI.step (hM : MBI L cl ln iv rv q iv1 rv1 b k) (hW : WT h sk L cl ln iv rv) (tq : ty L cl q T) (hl : lst T = true) (hn : nul T 1 = false) (hF : fT ls L cl iv rv iv1 rv1) (hX : XT L cl ln L1 cl1 ln1) (c1 : ls.contains T = false) (c2 : ls.contains (1000 + (T - 22)) = false) (c3 : ls.contains 20 = false) (c4 : ls.contains 66 = false) (g : ∀ ss, CT iv1 rv1 b ss → iv1 b 2 < 6003 → CT iv2 rv2 b (va_up ss (iv1 b 2).toNat x)) (hs : iv1 b 2 = k) (hk : 0 ≤ k ∧ k < 6003 ∧ k < iv q 2) (he : el rv1 q k.toNat = some w) (hc : rv1 w 2 = some c) (hx : 0 < ln1 c → x = iv1 c 0) : MBI L cl ln iv rv q iv2 rv2 b (k + 1) := fun a l hH hz => by
  obtain ⟨ss, s1, s2⟩ := hM a l hH hz
  have e0 := hH.1
  have lt : k.toNat < l.length := by omega
  have e := List.getElem?_eq_getElem lt
  obtain ⟨w', p1, p2, p3⟩ := hH.2 _ _ e
  have ee := el_fr hW tq hl hn hF c1 c2 (i := k.toNat) (by omega)
  rw [he, p1] at ee
  cases ee
  obtain ⟨c', d1, d2, d3⟩ := p3.c
  have e2 := hF.r p2 c3 2
  rw [hc, d1] at e2
  cases e2
  obtain ⟨b', w1, tc⟩ := hW.ref p2 2 rfl rfl rfl
  rw [d1] at w1
  cases w1
  refine hv2 ((hz _ _ e).1) (show ln1 c = ln c from (hX c tc.1).2.2) (fun nz lnc => ?_)
  have w := g ss s1 (by omega)
  rw [hs] at w
  refine ⟨_, w, fun r d hr hd => ?_⟩
  by_cases c0 : ((r : Nat) : Int) < k
  · rw [va_up_ne _ _ (by omega)]
    exact s2 r d c0 hd
  · rw [show r = k.toNat by omega, e] at hd
    cases hd
    rw [show r = k.toNat by omega, va_up_self, hx (by omega), hF.i tc c4 0]
    exact d3 0 (by omega)
theorem MBI.fin (hM : MBI L cl ln iv rv q iv1 rv1 b k) (hk : iv q 2 ≤ k) : MBX L cl ln iv rv q iv1 rv1 b := fun a l hH hz => by
  obtain ⟨ss, s1, s2⟩ := hM a l hH hz
  have e0 := hH.1
  exact ⟨ss, s1, fun r d hd => s2 r d (by have := gl_lt hd; omega) hd⟩
theorem GBQ.mk (hg : GLQ sk ln iv rv b L1 cl1 ln1 iv1 rv1 q P) (hm : MBX L1 cl1 ln1 iv1 rv1 q iv2 rv2 u) (hz : iv2 u 2 = iv1 q 2) (hq : iv2 q 2 = iv1 q 2) : GBQ sk ln iv rv b iv2 rv2 q u P := fun v a hR i hi ht nz => by
  obtain ⟨ss, s1, s2⟩ := hm a _ (hg v a hR i hi ht) nz
  exact ⟨hz.trans hq.symm, ss, s1, s2⟩
theorem GBQ.fr (hg : GBQ sk ln iv rv b iv1 rv1 q u P) (hW : WT h sk L1 cl1 ln1 iv1 rv1) (tq : ty L1 cl1 q T) (tb : ty L1 cl1 u t) (hF : fT ls L1 cl1 iv1 rv1 iv2 rv2) (h1 : ls.contains T = false) (h2 : ls.contains t = false) (h3 : ls.contains (tgt t 1) = false) (r1 : raw t = false) (r2 : (lst t && 1 == 1) = false) (r3 : nul t 1 = false) : GBQ sk ln iv rv b iv2 rv2 q u P := fun v a hR i hi ht nz => (hg v a hR i hi ht nz).fr hW tq tb hF h1 h2 h3 r1 r2 r3
end BEGS
set_option maxHeartbeats 4000000 in
set_option maxRecDepth 100000 in
theorem G_markBegins_24 {l : Launch} {G : GT} {mi : Nat} {sk : Nat → Nat} {L : List Nat} {cl ln : Nat → Nat} {iv : Nat → Nat → Int} {rv : Nat → Nat → Option Nat}  {a0 : Nat} {a1 : Nat} (hW : WT (g0 G) sk L cl ln iv rv) (hS : SKL sk L cl) (t_a0 : ty L cl a0 24) (t_a1 : ty L cl a1 6)  : Mc l G mi (Phi (g0 G) sk) PHM yX3_markBegins cX3_markBegins 5 none 3 [.ref a0, .ref a1] L cl ln iv rv 0 (fun v L2 cl2 ln2 iv2 rv2 => v = none ∧ XT L cl ln L2 cl2 ln2 ∧ fT [6, 36] L cl iv rv iv2 rv2 ∧ WT (g0 G) sk L2 cl2 ln2 iv2 rv2 ∧ (iv2 a1 2 = iv a0 2 ∧ MBX L cl ln iv rv a0 iv2 rv2 a1)) := by
  refine Mc.mk (by decide) (Nat.le_of_ble_eq_true rfl) ?_
  intro p e s m args below meth c A C hM
  refine hv5 (Phi.le hW hS) (show XT L cl ln L cl ln from XT.refl) (show fT [6, 36] L cl iv rv iv rv from fT.refl) (show 0 ≤ iv a1 2 ∧ iv a1 2 ≤ 6003 from hW.int t_a1 2) (show 0 ≤ iv a0 2 ∧ iv a0 2 ≤ 6003 from hW.int t_a0 2) (fun hph hX0 hF0 ri1 ri2 => ?_)
  refine c_aload_n (j := 1) (x := a1) C dX3_markBegins_0 rfl ?_
  refine d_callV (As := []) (rest := []) C hM (C_clear_6 (a0 := a1) hW hS t_a1  ) dX3_markBegins_1 kV_X3_77 rfl t_a1 rfl rfl (by decide) ck_2 rfl (Nat.le_of_ble_eq_true rfl) ⟨(Nat.le_of_ble_eq_true rfl), (Nat.le_of_ble_eq_true rfl)⟩ hph hph (show 0 + 0 = 0 from rfl) (by decide) (fun rh1 Lh1 clh1 lnh1 ivh1 rvh1 h1 => ?_)
  obtain ⟨rfl, rfl, rfl, rfl, rfl, fl1, W1, exf1⟩ := h1
  have F1 := hF0.call hX0 fl1 rfl
  refine c_st (st2 := []) rfl ?_
  refine hv2 (show 0 ≤ ivh1 a1 2 ∧ ivh1 a1 2 ≤ 6003 from W1.int t_a1 2) (show ivh1 a1 2 = 0 from exf1) (fun ri3 gf1 => ?_)
  refine c_aload_n (j := 0) (x := a0) C dX3_markBegins_4 rfl ?_
  refine hv2 (show 0 ≤ ivh1 a0 2 ∧ ivh1 a0 2 ≤ 6003 from W1.int t_a0 2) (show ivh1 a0 2 = iv a0 2 from fl1.i t_a0 rfl 2) (fun ri4 ie2 => ?_)
  refine d_callV (As := []) (rest := []) C hM (C_size_24 (a0 := a0) W1 hS t_a0  ) dX3_markBegins_5 kV_X3_78 rfl t_a0 rfl rfl (by decide) ck_0 rfl (Nat.le_of_ble_eq_true rfl) ⟨(Nat.le_of_ble_eq_true rfl), (Nat.le_of_ble_eq_true rfl)⟩ hph hph (show 0 + 0 = 0 from rfl) (by decide) (fun rh2 Lh2 clh2 lnh2 ivh2 rvh2 h2 => ?_)
  obtain ⟨f2, rfl, rfl, rfl, rfl, rfl, rfl, rgf2, exf2⟩ := h2
  refine c_st (st2 := [.int (iI f2)]) rfl ?_
  have gf2 : f2 = ivh1 a0 2 := exf2
  refine c_istore_n (lv2 := [(2, .int (iI f2)), (0, .ref a0), (1, .ref a1)]) C dX3_markBegins_8 (by decide) rfl ?_
  refine c_iconst C dX3_markBegins_9 ?_
  refine c_istore_n (lv2 := [(3, .int (iI 0)), (2, .int (iI f2)), (0, .ref a0), (1, .ref a1)]) C dX3_markBegins_10 (by decide) rfl ?_
  have Lp1 : ∀ (nn : Nat) (k : Int) (Lb1 : List Nat) (clb1 lnb1 : Nat → Nat) (ivb1 : Nat → Nat → Int) (rvb1 : Nat → Nat → Option Nat) , 6004 - k < (nn : Int) → XT L cl ln Lb1 clb1 lnb1 → WT (g0 G) sk Lb1 clb1 lnb1 ivb1 rvb1 → fT [6, 36] L cl iv rv ivb1 rvb1 → (0 ≤ k ∧ k ≤ 6003) → (k ≤ iv a0 2) → (ivb1 a1 2 = k) → (MBI L cl ln iv rv a0 ivb1 rvb1 a1 k) → cw p l e 3 ((PHM) + 0 - ((Phi (g0 G) sk) ln rv)) s m args below meth c G A 5 (MQ below (Qu G A (Qp G (Phi (g0 G) sk) ((Phi (g0 G) sk) ln rv) 0 (fun v L2 cl2 ln2 iv2 rv2 => v = none ∧ XT L cl ln L2 cl2 ln2 ∧ fT [6, 36] L cl iv rv iv2 rv2 ∧ WT (g0 G) sk L2 cl2 ln2 iv2 rv2 ∧ (iv2 a1 2 = iv a0 2 ∧ MBX L cl ln iv rv a0 iv2 rv2 a1)))) args s (((PHM) + 0 - ((Phi (g0 G) sk) ln rv)) / 16) ((PHM) + 0 - ((Phi (g0 G) sk) ln rv)) A) (Phi (g0 G) sk) ((Phi (g0 G) sk) ln rv) Lb1 clb1 lnb1 ivb1 rvb1 0 11 [(3, .int (iI k)), (2, .int (iI f2)), (0, .ref a0), (1, .ref a1)] [] := by
    intro nn
    induction nn with
    | zero =>
      intro  k Lb1 clb1 lnb1 ivb1 rvb1 hm Xb1 Wb1 Fb1  hk hkn hsz hM9
      have skb1 := Xb1.skl hS
      exact absurd hm (by omega)
    | succ nn ih1 =>
      intro  k Lb1 clb1 lnb1 ivb1 rvb1 hm Xb1 Wb1 Fb1  hk hkn hsz hM9
      have skb1 := Xb1.skl hS
      refine c_iload_n (j := 0) C dX3_markBegins_11 rfl ?_
      refine c_iload_n (j := 1) C dX3_markBegins_12 rfl ?_
      refine c_icmp_ge (tgt := 56) C (r32_c (lo := 0) (hi := 6003) hk.1 hk.2 (by decide) (by decide)) ⟨by omega, by omega⟩ dX3_markBegins_13 (by decide) (fun c1 => ?_) (fun c1 => ?_)
      · have ty1 := Xb1.ty t_a1
        refine hv4 (show 0 ≤ ivb1 a1 2 ∧ ivb1 a1 2 ≤ 6003 from Wb1.int ty1 2) (Xb1.ty t_a0) (show ivb1 a0 2 = iv a0 2 from Fb1.i t_a0 rfl 2) (Phi.le Wb1 skb1) (fun ri5 ty2 ie4 pl1 => ?_)
        have ri6 : 0 ≤ ivb1 a0 2 ∧ ivb1 a0 2 ≤ 6003 := Wb1.int ty2 2
        exact c_vret C dX3_markBegins_56 rfl (by decide) (rom0 hph pl1 (by decide)) ⟨rfl, Xb1, Fb1, Wb1, ⟨by omega, MBI.fin hM9 (by omega)⟩⟩
      · refine c_aload_n (j := 2) (x := a0) C dX3_markBegins_16 rfl ?_
        refine c_iload_n (j := 0) C dX3_markBegins_17 rfl ?_
        refine hv3 (Xb1.ty t_a0) (show ivb1 a0 2 = iv a0 2 from Fb1.i t_a0 rfl 2) (Phi.le Wb1 skb1) (fun ty3 ie5 pl2 => ?_)
        have ri7 : 0 ≤ ivb1 a0 2 ∧ ivb1 a0 2 ≤ 6003 := Wb1.int ty3 2
        refine d_callV (As := [.int (iI k)]) (rest := []) C hM (C_get_24 (a0 := a0) (i := k) Wb1 skb1 ty3 (by omega) (by show 0 ≤ k ∧ k < ivb1 a0 2; omega)) dX3_markBegins_18 kV_X3_82 rfl ty3 rfl rfl (by decide) ck_0 rfl (Nat.le_of_ble_eq_true rfl) ⟨(Nat.le_of_ble_eq_true rfl), (Nat.le_of_ble_eq_true rfl)⟩ hph pl2 (show 0 + 0 = 0 from rfl) (by decide) (fun rh3 Lh3 clh3 lnh3 ivh3 rvh3 h3 => ?_)
        obtain ⟨f3, rfl, rfl, rfl, rfl, rfl, rfl, rgf3, exf3⟩ := h3
        refine c_st (st2 := [.ref f3]) rfl ?_
        have gf3 : el rvb1 a0 k.toNat = some f3 := exf3
        refine c_cast C ck_6 dX3_markBegins_21 w5_63 w8_169t rgf3 rfl rfl (by decide) ?_
        refine c_astore (lv2 := [(4, .ref f3), (3, .int (iI k)), (2, .int (iI f2)), (0, .ref a0), (1, .ref a1)]) C dX3_markBegins_24 (by decide) rfl ?_
        refine c_aload_n (j := 4) (x := a1) C dX3_markBegins_26 rfl ?_
        refine c_aload (j := 0) (x := f3) C dX3_markBegins_27 rfl ?_
        obtain ⟨rb1, rq1, trb1⟩ := Wb1.ref rgf3 2 rfl rfl rfl
        have lnrb1 : 1 ≤ lnb1 rb1 ∧ lnb1 rb1 ≤ 4 := Wb1.len trb1 rfl
        refine c_getr (k := 2) C ck_6 dX3_markBegins_29 w3_143 (by decide) rgf3 rfl rfl (by decide) rfl rq1 ?_
        refine c_st (st2 := [.ref rb1, .ref a1]) rfl ?_
        have ll1 : 1 ≤ lnb1 rb1 ∧ lnb1 rb1 ≤ 4 := Wb1.len trb1 rfl
        refine c_alenI C dX3_markBegins_32 trb1 rfl ?_
        refine c_if_le (tgt := 46) C ⟨by omega, by omega⟩ dX3_markBegins_33 (by decide) (fun c2 => ?_) (fun c2 => ?_)
        · refine c_iconst C dX3_markBegins_46 ?_
          have ty4 := Xb1.ty t_a1
          have ri8 : 0 ≤ ivb1 a1 2 ∧ ivb1 a1 2 ≤ 6003 := Wb1.int ty4 2
          refine d_callV (As := [.int (iI 0)]) (rest := []) C hM (G_add_6 (a0 := a1) (x := 0) Wb1 skb1 ty4 ⟨by decide, by decide⟩ ) dX3_markBegins_47 kV_X3_91 rfl ty4 rfl rfl (by decide) ck_2 rfl (Nat.le_of_ble_eq_true rfl) ⟨(Nat.le_of_ble_eq_true rfl), (Nat.le_of_ble_eq_true rfl)⟩ hph pl2 (show 0 + 0 = 0 from rfl) (by decide) (fun rh4 Lh4 clh4 lnh4 ivh4 rvh4 h4 => ?_)
          obtain ⟨rfl, xl4, fl4, W4, exf4⟩ := h4
          refine hv3 (Fb1.call Xb1 fl4 rfl) (Xb1.trans xl4) (xl4.skl skb1) (fun F2 X1 sk1 => ?_)
          refine c_st (st2 := []) rfl ?_
          refine hv2 (xl4.ty ty4) (show ((ivh4 a1 2 = ivb1 a1 2 ∧ ivb1 a1 2 = 6003) ∨ (ivh4 a1 2 = ivb1 a1 2 + 1 ∧ ivb1 a1 2 < 6003)) ∧ (∀ ss, CT ivb1 rvb1 a1 ss → ivb1 a1 2 < 6003 → CT ivh4 rvh4 a1 (va_up ss (ivb1 a1 2).toNat (0 : Int))) ∧ (ivb1 a1 2 = 6003 → ∀ ss, CT ivb1 rvb1 a1 ss → CT ivh4 rvh4 a1 ss) from exf4) (fun ty5 gf4 => ?_)
          have ri9 : 0 ≤ ivh4 a1 2 ∧ ivh4 a1 2 ≤ 6003 := W4.int ty5 2
          refine c_iinc (z := k) (j := 1) (lv2 := [(3, .int (iI (k + 1))), (4, .ref f3), (2, .int (iI f2)), (0, .ref a0), (1, .ref a1)]) C dX3_markBegins_50 rfl (by decide) rfl ?_
          refine c_goto (tgt := 11) C dX3_markBegins_53 (by decide) ?_
          refine hv2 (xl4.ty ty3) (show ivh4 a0 2 = ivb1 a0 2 from fl4.i ty3 rfl 2) (fun ty6 ie8 => ?_)
          have ri10 : 0 ≤ ivh4 a0 2 ∧ ivh4 a0 2 ≤ 6003 := W4.int ty6 2
          refine c_lv (lv2 := [(3, .int (iI (k + 1))), (2, .int (iI f2)), (0, .ref a0), (1, .ref a1)]) [0, 2, 3, 4] rfl ?_
          exact ih1  (k + 1) _ _ _ _ _ (by omega) X1 W4 F2  (by omega) (by omega) (by show ivh4 a1 2 = (k + 1); omega) (hM9.step hW t_a0 rfl rfl Fb1 Xb1 rfl rfl rfl rfl gf4.2.1 (by omega) ⟨by omega, by omega, by omega⟩ exf3 rq1 (fun q => absurd q (by omega)))
        · refine c_aload (j := 0) (x := f3) C dX3_markBegins_36 rfl ?_
          refine c_getr (k := 2) C ck_6 dX3_markBegins_38 w3_143 (by decide) rgf3 rfl rfl (by decide) rfl rq1 ?_
          refine c_st (st2 := [.ref rb1, .ref a1]) rfl ?_
          refine c_iconst C dX3_markBegins_41 ?_
          refine c_iald C dX3_markBegins_42 trb1 rfl (by omega) (by omega) (by omega) ?_
          have ri11 : (-2147483648) ≤ ivb1 rb1 ((0 : Int).toNat) ∧ ivb1 rb1 ((0 : Int).toNat) ≤ 2147483647 := Wb1.int trb1 ((0 : Int).toNat)
          refine c_goto (tgt := 47) C dX3_markBegins_43 (by decide) ?_
          have ty7 := Xb1.ty t_a1
          have ri12 : 0 ≤ ivb1 a1 2 ∧ ivb1 a1 2 ≤ 6003 := Wb1.int ty7 2
          refine d_callV (As := [.int (iI (ivb1 rb1 (0 : Int).toNat))]) (rest := []) C hM (G_add_6 (a0 := a1) (x := ivb1 rb1 (0 : Int).toNat) Wb1 skb1 ty7 (by omega) ) dX3_markBegins_47 kV_X3_91 rfl ty7 rfl rfl (by decide) ck_2 rfl (Nat.le_of_ble_eq_true rfl) ⟨(Nat.le_of_ble_eq_true rfl), (Nat.le_of_ble_eq_true rfl)⟩ hph pl2 (show 0 + 0 = 0 from rfl) (by decide) (fun rh5 Lh5 clh5 lnh5 ivh5 rvh5 h5 => ?_)
          obtain ⟨rfl, xl5, fl5, W5, exf5⟩ := h5
          refine hv3 (Fb1.call Xb1 fl5 rfl) (Xb1.trans xl5) (xl5.skl skb1) (fun F3 X2 sk2 => ?_)
          refine c_st (st2 := []) rfl ?_
          refine hv2 (xl5.ty ty7) (show ((ivh5 a1 2 = ivb1 a1 2 ∧ ivb1 a1 2 = 6003) ∨ (ivh5 a1 2 = ivb1 a1 2 + 1 ∧ ivb1 a1 2 < 6003)) ∧ (∀ ss, CT ivb1 rvb1 a1 ss → ivb1 a1 2 < 6003 → CT ivh5 rvh5 a1 (va_up ss (ivb1 a1 2).toNat (ivb1 rb1 (0 : Int).toNat))) ∧ (ivb1 a1 2 = 6003 → ∀ ss, CT ivb1 rvb1 a1 ss → CT ivh5 rvh5 a1 ss) from exf5) (fun ty8 gf5 => ?_)
          have ri13 : 0 ≤ ivh5 a1 2 ∧ ivh5 a1 2 ≤ 6003 := W5.int ty8 2
          refine c_iinc (z := k) (j := 1) (lv2 := [(3, .int (iI (k + 1))), (4, .ref f3), (2, .int (iI f2)), (0, .ref a0), (1, .ref a1)]) C dX3_markBegins_50 rfl (by decide) rfl ?_
          refine c_goto (tgt := 11) C dX3_markBegins_53 (by decide) ?_
          refine hv2 (xl5.ty ty3) (show ivh5 a0 2 = ivb1 a0 2 from fl5.i ty3 rfl 2) (fun ty9 ie12 => ?_)
          have ri14 : 0 ≤ ivh5 a0 2 ∧ ivh5 a0 2 ≤ 6003 := W5.int ty9 2
          refine c_lv (lv2 := [(3, .int (iI (k + 1))), (2, .int (iI f2)), (0, .ref a0), (1, .ref a1)]) [0, 2, 3, 4] rfl ?_
          exact ih1  (k + 1) _ _ _ _ _ (by omega) X2 W5 F3  (by omega) (by omega) (by show ivh5 a1 2 = (k + 1); omega) (hM9.step hW t_a0 rfl rfl Fb1 Xb1 rfl rfl rfl rfl gf5.2.1 (by omega) ⟨by omega, by omega, by omega⟩ exf3 rq1 (fun _ => rfl))
  refine c_lv (lv2 := [(3, .int (iI 0)), (2, .int (iI f2)), (0, .ref a0), (1, .ref a1)]) [0, 1, 2, 3] rfl ?_
  exact Lp1 6006 0 _ _ _ _ _ (by omega) hX0 W1 F1  (by omega) (by omega) gf1 (MBI.init (by omega))
set_option maxHeartbeats 4000000 in
set_option maxRecDepth 100000 in
theorem G_markBegins_25 {l : Launch} {G : GT} {mi : Nat} {sk : Nat → Nat} {L : List Nat} {cl ln : Nat → Nat} {iv : Nat → Nat → Int} {rv : Nat → Nat → Option Nat}  {a0 : Nat} {a1 : Nat} (hW : WT (g0 G) sk L cl ln iv rv) (hS : SKL sk L cl) (t_a0 : ty L cl a0 25) (t_a1 : ty L cl a1 7)  : Mc l G mi (Phi (g0 G) sk) PHM yX3_markBegins cX3_markBegins 5 none 3 [.ref a0, .ref a1] L cl ln iv rv 0 (fun v L2 cl2 ln2 iv2 rv2 => v = none ∧ XT L cl ln L2 cl2 ln2 ∧ fT [7, 37] L cl iv rv iv2 rv2 ∧ WT (g0 G) sk L2 cl2 ln2 iv2 rv2 ∧ (iv2 a1 2 = iv a0 2 ∧ MBX L cl ln iv rv a0 iv2 rv2 a1)) := by
  refine Mc.mk (by decide) (Nat.le_of_ble_eq_true rfl) ?_
  intro p e s m args below meth c A C hM
  refine hv5 (Phi.le hW hS) (show XT L cl ln L cl ln from XT.refl) (show fT [7, 37] L cl iv rv iv rv from fT.refl) (show 0 ≤ iv a1 2 ∧ iv a1 2 ≤ 6003 from hW.int t_a1 2) (show 0 ≤ iv a0 2 ∧ iv a0 2 ≤ 6003 from hW.int t_a0 2) (fun hph hX0 hF0 ri1 ri2 => ?_)
  refine c_aload_n (j := 1) (x := a1) C dX3_markBegins_0 rfl ?_
  refine d_callV (As := []) (rest := []) C hM (C_clear_7 (a0 := a1) hW hS t_a1  ) dX3_markBegins_1 kV_X3_77 rfl t_a1 rfl rfl (by decide) ck_2 rfl (Nat.le_of_ble_eq_true rfl) ⟨(Nat.le_of_ble_eq_true rfl), (Nat.le_of_ble_eq_true rfl)⟩ hph hph (show 0 + 0 = 0 from rfl) (by decide) (fun rh1 Lh1 clh1 lnh1 ivh1 rvh1 h1 => ?_)
  obtain ⟨rfl, rfl, rfl, rfl, rfl, fl1, W1, exf1⟩ := h1
  have F1 := hF0.call hX0 fl1 rfl
  refine c_st (st2 := []) rfl ?_
  refine hv2 (show 0 ≤ ivh1 a1 2 ∧ ivh1 a1 2 ≤ 6003 from W1.int t_a1 2) (show ivh1 a1 2 = 0 from exf1) (fun ri3 gf1 => ?_)
  refine c_aload_n (j := 0) (x := a0) C dX3_markBegins_4 rfl ?_
  refine hv2 (show 0 ≤ ivh1 a0 2 ∧ ivh1 a0 2 ≤ 6003 from W1.int t_a0 2) (show ivh1 a0 2 = iv a0 2 from fl1.i t_a0 rfl 2) (fun ri4 ie2 => ?_)
  refine d_callV (As := []) (rest := []) C hM (C_size_25 (a0 := a0) W1 hS t_a0  ) dX3_markBegins_5 kV_X3_78 rfl t_a0 rfl rfl (by decide) ck_0 rfl (Nat.le_of_ble_eq_true rfl) ⟨(Nat.le_of_ble_eq_true rfl), (Nat.le_of_ble_eq_true rfl)⟩ hph hph (show 0 + 0 = 0 from rfl) (by decide) (fun rh2 Lh2 clh2 lnh2 ivh2 rvh2 h2 => ?_)
  obtain ⟨f2, rfl, rfl, rfl, rfl, rfl, rfl, rgf2, exf2⟩ := h2
  refine c_st (st2 := [.int (iI f2)]) rfl ?_
  have gf2 : f2 = ivh1 a0 2 := exf2
  refine c_istore_n (lv2 := [(2, .int (iI f2)), (0, .ref a0), (1, .ref a1)]) C dX3_markBegins_8 (by decide) rfl ?_
  refine c_iconst C dX3_markBegins_9 ?_
  refine c_istore_n (lv2 := [(3, .int (iI 0)), (2, .int (iI f2)), (0, .ref a0), (1, .ref a1)]) C dX3_markBegins_10 (by decide) rfl ?_
  have Lp1 : ∀ (nn : Nat) (k : Int) (Lb1 : List Nat) (clb1 lnb1 : Nat → Nat) (ivb1 : Nat → Nat → Int) (rvb1 : Nat → Nat → Option Nat) , 6004 - k < (nn : Int) → XT L cl ln Lb1 clb1 lnb1 → WT (g0 G) sk Lb1 clb1 lnb1 ivb1 rvb1 → fT [7, 37] L cl iv rv ivb1 rvb1 → (0 ≤ k ∧ k ≤ 6003) → (k ≤ iv a0 2) → (ivb1 a1 2 = k) → (MBI L cl ln iv rv a0 ivb1 rvb1 a1 k) → cw p l e 3 ((PHM) + 0 - ((Phi (g0 G) sk) ln rv)) s m args below meth c G A 5 (MQ below (Qu G A (Qp G (Phi (g0 G) sk) ((Phi (g0 G) sk) ln rv) 0 (fun v L2 cl2 ln2 iv2 rv2 => v = none ∧ XT L cl ln L2 cl2 ln2 ∧ fT [7, 37] L cl iv rv iv2 rv2 ∧ WT (g0 G) sk L2 cl2 ln2 iv2 rv2 ∧ (iv2 a1 2 = iv a0 2 ∧ MBX L cl ln iv rv a0 iv2 rv2 a1)))) args s (((PHM) + 0 - ((Phi (g0 G) sk) ln rv)) / 16) ((PHM) + 0 - ((Phi (g0 G) sk) ln rv)) A) (Phi (g0 G) sk) ((Phi (g0 G) sk) ln rv) Lb1 clb1 lnb1 ivb1 rvb1 0 11 [(3, .int (iI k)), (2, .int (iI f2)), (0, .ref a0), (1, .ref a1)] [] := by
    intro nn
    induction nn with
    | zero =>
      intro  k Lb1 clb1 lnb1 ivb1 rvb1 hm Xb1 Wb1 Fb1  hk hkn hsz hM9
      have skb1 := Xb1.skl hS
      exact absurd hm (by omega)
    | succ nn ih1 =>
      intro  k Lb1 clb1 lnb1 ivb1 rvb1 hm Xb1 Wb1 Fb1  hk hkn hsz hM9
      have skb1 := Xb1.skl hS
      refine c_iload_n (j := 0) C dX3_markBegins_11 rfl ?_
      refine c_iload_n (j := 1) C dX3_markBegins_12 rfl ?_
      refine c_icmp_ge (tgt := 56) C (r32_c (lo := 0) (hi := 6003) hk.1 hk.2 (by decide) (by decide)) ⟨by omega, by omega⟩ dX3_markBegins_13 (by decide) (fun c1 => ?_) (fun c1 => ?_)
      · have ty1 := Xb1.ty t_a1
        refine hv4 (show 0 ≤ ivb1 a1 2 ∧ ivb1 a1 2 ≤ 6003 from Wb1.int ty1 2) (Xb1.ty t_a0) (show ivb1 a0 2 = iv a0 2 from Fb1.i t_a0 rfl 2) (Phi.le Wb1 skb1) (fun ri5 ty2 ie4 pl1 => ?_)
        have ri6 : 0 ≤ ivb1 a0 2 ∧ ivb1 a0 2 ≤ 6003 := Wb1.int ty2 2
        exact c_vret C dX3_markBegins_56 rfl (by decide) (rom0 hph pl1 (by decide)) ⟨rfl, Xb1, Fb1, Wb1, ⟨by omega, MBI.fin hM9 (by omega)⟩⟩
      · refine c_aload_n (j := 2) (x := a0) C dX3_markBegins_16 rfl ?_
        refine c_iload_n (j := 0) C dX3_markBegins_17 rfl ?_
        refine hv3 (Xb1.ty t_a0) (show ivb1 a0 2 = iv a0 2 from Fb1.i t_a0 rfl 2) (Phi.le Wb1 skb1) (fun ty3 ie5 pl2 => ?_)
        have ri7 : 0 ≤ ivb1 a0 2 ∧ ivb1 a0 2 ≤ 6003 := Wb1.int ty3 2
        refine d_callV (As := [.int (iI k)]) (rest := []) C hM (C_get_25 (a0 := a0) (i := k) Wb1 skb1 ty3 (by omega) (by show 0 ≤ k ∧ k < ivb1 a0 2; omega)) dX3_markBegins_18 kV_X3_82 rfl ty3 rfl rfl (by decide) ck_0 rfl (Nat.le_of_ble_eq_true rfl) ⟨(Nat.le_of_ble_eq_true rfl), (Nat.le_of_ble_eq_true rfl)⟩ hph pl2 (show 0 + 0 = 0 from rfl) (by decide) (fun rh3 Lh3 clh3 lnh3 ivh3 rvh3 h3 => ?_)
        obtain ⟨f3, rfl, rfl, rfl, rfl, rfl, rfl, rgf3, exf3⟩ := h3
        refine c_st (st2 := [.ref f3]) rfl ?_
        have gf3 : el rvb1 a0 k.toNat = some f3 := exf3
        refine c_cast C ck_6 dX3_markBegins_21 w5_63 w8_169t rgf3 rfl rfl (by decide) ?_
        refine c_astore (lv2 := [(4, .ref f3), (3, .int (iI k)), (2, .int (iI f2)), (0, .ref a0), (1, .ref a1)]) C dX3_markBegins_24 (by decide) rfl ?_
        refine c_aload_n (j := 4) (x := a1) C dX3_markBegins_26 rfl ?_
        refine c_aload (j := 0) (x := f3) C dX3_markBegins_27 rfl ?_
        obtain ⟨rb1, rq1, trb1⟩ := Wb1.ref rgf3 2 rfl rfl rfl
        have lnrb1 : 1 ≤ lnb1 rb1 ∧ lnb1 rb1 ≤ 4 := Wb1.len trb1 rfl
        refine c_getr (k := 2) C ck_6 dX3_markBegins_29 w3_143 (by decide) rgf3 rfl rfl (by decide) rfl rq1 ?_
        refine c_st (st2 := [.ref rb1, .ref a1]) rfl ?_
        have ll1 : 1 ≤ lnb1 rb1 ∧ lnb1 rb1 ≤ 4 := Wb1.len trb1 rfl
        refine c_alenI C dX3_markBegins_32 trb1 rfl ?_
        refine c_if_le (tgt := 46) C ⟨by omega, by omega⟩ dX3_markBegins_33 (by decide) (fun c2 => ?_) (fun c2 => ?_)
        · refine c_iconst C dX3_markBegins_46 ?_
          have ty4 := Xb1.ty t_a1
          have ri8 : 0 ≤ ivb1 a1 2 ∧ ivb1 a1 2 ≤ 6003 := Wb1.int ty4 2
          refine d_callV (As := [.int (iI 0)]) (rest := []) C hM (G_add_7 (a0 := a1) (x := 0) Wb1 skb1 ty4 ⟨by decide, by decide⟩ ) dX3_markBegins_47 kV_X3_91 rfl ty4 rfl rfl (by decide) ck_2 rfl (Nat.le_of_ble_eq_true rfl) ⟨(Nat.le_of_ble_eq_true rfl), (Nat.le_of_ble_eq_true rfl)⟩ hph pl2 (show 0 + 0 = 0 from rfl) (by decide) (fun rh4 Lh4 clh4 lnh4 ivh4 rvh4 h4 => ?_)
          obtain ⟨rfl, xl4, fl4, W4, exf4⟩ := h4
          refine hv3 (Fb1.call Xb1 fl4 rfl) (Xb1.trans xl4) (xl4.skl skb1) (fun F2 X1 sk1 => ?_)
          refine c_st (st2 := []) rfl ?_
          refine hv2 (xl4.ty ty4) (show ((ivh4 a1 2 = ivb1 a1 2 ∧ ivb1 a1 2 = 6003) ∨ (ivh4 a1 2 = ivb1 a1 2 + 1 ∧ ivb1 a1 2 < 6003)) ∧ (∀ ss, CT ivb1 rvb1 a1 ss → ivb1 a1 2 < 6003 → CT ivh4 rvh4 a1 (va_up ss (ivb1 a1 2).toNat (0 : Int))) ∧ (ivb1 a1 2 = 6003 → ∀ ss, CT ivb1 rvb1 a1 ss → CT ivh4 rvh4 a1 ss) from exf4) (fun ty5 gf4 => ?_)
          have ri9 : 0 ≤ ivh4 a1 2 ∧ ivh4 a1 2 ≤ 6003 := W4.int ty5 2
          refine c_iinc (z := k) (j := 1) (lv2 := [(3, .int (iI (k + 1))), (4, .ref f3), (2, .int (iI f2)), (0, .ref a0), (1, .ref a1)]) C dX3_markBegins_50 rfl (by decide) rfl ?_
          refine c_goto (tgt := 11) C dX3_markBegins_53 (by decide) ?_
          refine hv2 (xl4.ty ty3) (show ivh4 a0 2 = ivb1 a0 2 from fl4.i ty3 rfl 2) (fun ty6 ie8 => ?_)
          have ri10 : 0 ≤ ivh4 a0 2 ∧ ivh4 a0 2 ≤ 6003 := W4.int ty6 2
          refine c_lv (lv2 := [(3, .int (iI (k + 1))), (2, .int (iI f2)), (0, .ref a0), (1, .ref a1)]) [0, 2, 3, 4] rfl ?_
          exact ih1  (k + 1) _ _ _ _ _ (by omega) X1 W4 F2  (by omega) (by omega) (by show ivh4 a1 2 = (k + 1); omega) (hM9.step hW t_a0 rfl rfl Fb1 Xb1 rfl rfl rfl rfl gf4.2.1 (by omega) ⟨by omega, by omega, by omega⟩ exf3 rq1 (fun q => absurd q (by omega)))
        · refine c_aload (j := 0) (x := f3) C dX3_markBegins_36 rfl ?_
          refine c_getr (k := 2) C ck_6 dX3_markBegins_38 w3_143 (by decide) rgf3 rfl rfl (by decide) rfl rq1 ?_
          refine c_st (st2 := [.ref rb1, .ref a1]) rfl ?_
          refine c_iconst C dX3_markBegins_41 ?_
          refine c_iald C dX3_markBegins_42 trb1 rfl (by omega) (by omega) (by omega) ?_
          have ri11 : (-2147483648) ≤ ivb1 rb1 ((0 : Int).toNat) ∧ ivb1 rb1 ((0 : Int).toNat) ≤ 2147483647 := Wb1.int trb1 ((0 : Int).toNat)
          refine c_goto (tgt := 47) C dX3_markBegins_43 (by decide) ?_
          have ty7 := Xb1.ty t_a1
          have ri12 : 0 ≤ ivb1 a1 2 ∧ ivb1 a1 2 ≤ 6003 := Wb1.int ty7 2
          refine d_callV (As := [.int (iI (ivb1 rb1 (0 : Int).toNat))]) (rest := []) C hM (G_add_7 (a0 := a1) (x := ivb1 rb1 (0 : Int).toNat) Wb1 skb1 ty7 (by omega) ) dX3_markBegins_47 kV_X3_91 rfl ty7 rfl rfl (by decide) ck_2 rfl (Nat.le_of_ble_eq_true rfl) ⟨(Nat.le_of_ble_eq_true rfl), (Nat.le_of_ble_eq_true rfl)⟩ hph pl2 (show 0 + 0 = 0 from rfl) (by decide) (fun rh5 Lh5 clh5 lnh5 ivh5 rvh5 h5 => ?_)
          obtain ⟨rfl, xl5, fl5, W5, exf5⟩ := h5
          refine hv3 (Fb1.call Xb1 fl5 rfl) (Xb1.trans xl5) (xl5.skl skb1) (fun F3 X2 sk2 => ?_)
          refine c_st (st2 := []) rfl ?_
          refine hv2 (xl5.ty ty7) (show ((ivh5 a1 2 = ivb1 a1 2 ∧ ivb1 a1 2 = 6003) ∨ (ivh5 a1 2 = ivb1 a1 2 + 1 ∧ ivb1 a1 2 < 6003)) ∧ (∀ ss, CT ivb1 rvb1 a1 ss → ivb1 a1 2 < 6003 → CT ivh5 rvh5 a1 (va_up ss (ivb1 a1 2).toNat (ivb1 rb1 (0 : Int).toNat))) ∧ (ivb1 a1 2 = 6003 → ∀ ss, CT ivb1 rvb1 a1 ss → CT ivh5 rvh5 a1 ss) from exf5) (fun ty8 gf5 => ?_)
          have ri13 : 0 ≤ ivh5 a1 2 ∧ ivh5 a1 2 ≤ 6003 := W5.int ty8 2
          refine c_iinc (z := k) (j := 1) (lv2 := [(3, .int (iI (k + 1))), (4, .ref f3), (2, .int (iI f2)), (0, .ref a0), (1, .ref a1)]) C dX3_markBegins_50 rfl (by decide) rfl ?_
          refine c_goto (tgt := 11) C dX3_markBegins_53 (by decide) ?_
          refine hv2 (xl5.ty ty3) (show ivh5 a0 2 = ivb1 a0 2 from fl5.i ty3 rfl 2) (fun ty9 ie12 => ?_)
          have ri14 : 0 ≤ ivh5 a0 2 ∧ ivh5 a0 2 ≤ 6003 := W5.int ty9 2
          refine c_lv (lv2 := [(3, .int (iI (k + 1))), (2, .int (iI f2)), (0, .ref a0), (1, .ref a1)]) [0, 2, 3, 4] rfl ?_
          exact ih1  (k + 1) _ _ _ _ _ (by omega) X2 W5 F3  (by omega) (by omega) (by show ivh5 a1 2 = (k + 1); omega) (hM9.step hW t_a0 rfl rfl Fb1 Xb1 rfl rfl rfl rfl gf5.2.1 (by omega) ⟨by omega, by omega, by omega⟩ exf3 rq1 (fun _ => rfl))
  refine c_lv (lv2 := [(3, .int (iI 0)), (2, .int (iI f2)), (0, .ref a0), (1, .ref a1)]) [0, 1, 2, 3] rfl ?_
  exact Lp1 6006 0 _ _ _ _ _ (by omega) hX0 W1 F1  (by omega) (by omega) gf1 (MBI.init (by omega))
set_option maxHeartbeats 4000000 in
set_option maxRecDepth 100000 in
theorem G_gather2 {l : Launch} {G : GT} {mi : Nat} {sk : Nat → Nat} {L : List Nat} {cl ln : Nat → Nat} {iv : Nat → Nat → Int} {rv : Nat → Nat → Option Nat}  {a0 : Nat} {a1 : Nat} (hW : WT (g0 G) sk L cl ln iv rv) (hS : SKL sk L cl) (t_a0 : ty L cl a0 16) (t_a1 : ty L cl a1 100)  : Mc l G mi (Phi (g0 G) sk) PHM yX3_gather cX3_gather 2 none 9 [.ref a0, .ref a1] L cl ln iv rv 0 (fun v L2 cl2 ln2 iv2 rv2 => v = none ∧ XT L cl ln L2 cl2 ln2 ∧ fT [24, 1002, 25, 1003, 6, 36, 7, 37] L cl iv rv iv2 rv2 ∧ WT (g0 G) sk L2 cl2 ln2 iv2 rv2 ∧ (True) ∧ (GLQ sk ln iv rv a1 L2 cl2 ln2 iv2 rv2 (sk 24) gat0 ∧ GLQ sk ln iv rv a1 L2 cl2 ln2 iv2 rv2 (sk 25) gat1) ∧ (GBQ sk ln iv rv a1 iv2 rv2 (sk 24) (sk 6) gat0 ∧ GBQ sk ln iv rv a1 iv2 rv2 (sk 25) (sk 7) gat1)) := by
  refine Mc.mk (by decide) (Nat.le_of_ble_eq_true rfl) ?_
  intro p e s m args below meth c A C hM
  refine hv11 (Phi.le hW hS) (show ty L cl (sk 6) 6 from ⟨(hS 6 rfl).1, by rw [(hS 6 rfl).2]; rfl⟩) (show ty L cl (sk 7) 7 from ⟨(hS 7 rfl).1, by rw [(hS 7 rfl).2]; rfl⟩) (show ty L cl (sk 8) 8 from ⟨(hS 8 rfl).1, by rw [(hS 8 rfl).2]; rfl⟩) (show ty L cl (sk 9) 9 from ⟨(hS 9 rfl).1, by rw [(hS 9 rfl).2]; rfl⟩) (show ty L cl (sk 10) 10 from ⟨(hS 10 rfl).1, by rw [(hS 10 rfl).2]; rfl⟩) (show ty L cl (sk 24) 24 from ⟨(hS 24 rfl).1, by rw [(hS 24 rfl).2]; rfl⟩) (show ty L cl (sk 25) 25 from ⟨(hS 25 rfl).1, by rw [(hS 25 rfl).2]; rfl⟩) (show XT L cl ln L cl ln from XT.refl) (show fT [24, 1002, 25, 1003, 6, 36, 7, 37] L cl iv rv iv rv from fT.refl) (show (-2147483648) ≤ iv a1 0 ∧ iv a1 0 ≤ 2147483647 from hW.int t_a1 0) (fun hph tsk6 tsk7 tsk8 tsk9 tsk10 tsk24 tsk25 hX0 hF0 ri1 => ?_)
  refine c_aload_n (j := 0) (x := a0) C dX3_gather_0 rfl ?_
  obtain ⟨rb1, rq1, trb1⟩ := hW.ref t_a0 0 rfl rfl rfl
  have erb1 := hW.sk trb1 (by decide) rfl
  subst erb1
  refine c_getr (k := 0) C ck_4 dX3_gather_1 w1_190 (by decide) t_a0 rfl rfl (by decide) rfl rq1 ?_
  refine c_st (st2 := [.ref (sk 24)]) rfl ?_
  refine d_callV (As := []) (rest := []) C hM (C_lclear_24 (a0 := (sk 24)) hW hS tsk24  ) dX3_gather_4 kV_X3_47 rfl tsk24 rfl rfl (by decide) ck_0 rfl (Nat.le_of_ble_eq_true rfl) ⟨(Nat.le_of_ble_eq_true rfl), (Nat.le_of_ble_eq_true rfl)⟩ hph hph (show 0 + 0 = 0 from rfl) (by decide) (fun rh1 Lh1 clh1 lnh1 ivh1 rvh1 h1 => ?_)
  obtain ⟨rfl, rfl, rfl, rfl, fl1, W1, exf1⟩ := h1
  have F1 := hF0.call hX0 fl1 rfl
  refine c_st (st2 := []) rfl ?_
  refine hv2 (show 0 ≤ ivh1 (sk 24) 2 ∧ ivh1 (sk 24) 2 ≤ 6003 from W1.int tsk24 2) (show ivh1 (sk 24) 2 = 0 from exf1) (fun ri2 gf1 => ?_)
  have gl1 : GLQ sk ln iv rv a1 L cl ln ivh1 rvh1 (sk 24) (fun _ _ => []) := (GLQ.nil (by omega))
  refine c_aload_n (j := 0) (x := a0) C dX3_gather_7 rfl ?_
  obtain ⟨rb2, rq2, trb2⟩ := W1.ref t_a0 1 rfl rfl rfl
  have erb2 := W1.sk trb2 (by decide) rfl
  subst erb2
  refine c_getr (k := 1) C ck_4 dX3_gather_8 w1_193 (by decide) t_a0 rfl rfl (by decide) rfl rq2 ?_
  refine c_st (st2 := [.ref (sk 25)]) rfl ?_
  have pl1 := Phi.le W1 hS
  refine d_callV (As := []) (rest := []) C hM (C_lclear_25 (a0 := (sk 25)) W1 hS tsk25  ) dX3_gather_11 kV_X3_47 rfl tsk25 rfl rfl (by decide) ck_0 rfl (Nat.le_of_ble_eq_true rfl) ⟨(Nat.le_of_ble_eq_true rfl), (Nat.le_of_ble_eq_true rfl)⟩ hph pl1 (show 0 + 0 = 0 from rfl) (by decide) (fun rh2 Lh2 clh2 lnh2 ivh2 rvh2 h2 => ?_)
  obtain ⟨rfl, rfl, rfl, rfl, fl2, W2, exf2⟩ := h2
  have F2 := F1.call hX0 fl2 rfl
  refine c_st (st2 := []) rfl ?_
  refine hv3 (show 0 ≤ ivh2 (sk 25) 2 ∧ ivh2 (sk 25) 2 ≤ 6003 from W2.int tsk25 2) (show ivh2 (sk 25) 2 = 0 from exf2) (show GLQ sk ln iv rv a1 L cl ln ivh2 rvh2 (sk 24) (fun _ _ => []) from (gl1.mv (QT.of W1 hS XT.refl fl2 rfl rfl rfl rfl rfl) (el24.fr W1 hS fl2 rfl rfl).1 (el24.fr W1 hS fl2 rfl rfl).2)) (fun ri3 gf2 gl2 => ?_)
  have gl3 : GLQ sk ln iv rv a1 L cl ln ivh2 rvh2 (sk 25) (fun _ _ => []) := (GLQ.nil (by omega))
  refine c_aload_n (j := 1) (x := a1) C dX3_gather_14 rfl ?_
  refine hv3 (show (-2147483648) ≤ ivh2 a1 0 ∧ ivh2 a1 0 ≤ 2147483647 from W2.int t_a1 0) (show ivh2 a1 0 = ivh1 a1 0 from fl2.i t_a1 rfl 0) (show ivh1 a1 0 = iv a1 0 from fl1.i t_a1 rfl 0) (fun ri4 ie3 ie4 => ?_)
  refine c_get (k := 0) C ck_10 dX3_gather_15 w2_175 (by decide) t_a1 rfl rfl (by decide) rfl ?_
  refine c_iconst C dX3_gather_18 ?_
  refine c_icmp_ne (tgt := 73) C (r32_c (lo := (-2147483648)) (hi := 2147483647) ri4.1 ri4.2 (by decide) (by decide)) ⟨by decide, by decide⟩ dX3_gather_19 (by decide) (fun c1 => ?_) (fun c1 => ?_)
  · refine c_aload_n (j := 0) (x := a0) C dX3_gather_73 rfl ?_
    have re1 : rvh1 a0 0 = rv a0 0 := (fl1.r t_a0 rfl 0)
    rw [rq1] at re1
    have re2 : rvh2 a0 0 = rvh1 a0 0 := (fl2.r t_a0 rfl 0)
    rw [re1] at re2
    refine c_getr (k := 0) C ck_4 dX3_gather_74 w1_190 (by decide) t_a0 rfl rfl (by decide) rfl re2 ?_
    refine c_st (st2 := [.ref (sk 24)]) rfl ?_
    refine c_aload_n (j := 1) (x := a1) C dX3_gather_77 rfl ?_
    refine hv3 (show 0 ≤ ivh2 (sk 24) 2 ∧ ivh2 (sk 24) 2 ≤ 6003 from W2.int tsk24 2) (show ivh2 (sk 24) 2 = ivh1 (sk 24) 2 from fl2.i tsk24 rfl 2) (Phi.le W2 hS) (fun ri5 ie5 pl2 => ?_)
    refine d_callS (As := [.ref (sk 24), .ref a1]) (rest := []) C hM (G_gatherPart_24 (a0 := (sk 24)) (a1 := a1) W2 hS tsk24 t_a1  (by show ivh2 (sk 24) 2 = 0; omega)) dX3_gather_78 kS_X3_59 rfl rfl (Nat.le_of_ble_eq_true rfl) ⟨(Nat.le_of_ble_eq_true rfl), (Nat.le_of_ble_eq_true rfl)⟩ hph pl2 (show 0 + 0 = 0 from rfl) (by decide) (fun rh3 Lh3 clh3 lnh3 ivh3 rvh3 h3 => ?_)
    obtain ⟨rfl, xl3, fl3, W3, exf3, gpxf3⟩ := h3
    refine hv3 (F2.call hX0 fl3 rfl) (hX0.trans xl3) (xl3.skl hS) (fun F3 X1 sk1 => ?_)
    refine c_st (st2 := []) rfl ?_
    refine hv6 (xl3.ty tsk24) (show ivh3 (sk 24) 2 ≤ 6002 from exf3) (show GLQ sk ln iv rv a1 Lh3 clh3 lnh3 ivh3 rvh3 (sk 24) rws1 from (GLQ.slf gpxf3 (QT.of hW hS hX0 F2 rfl rfl rfl rfl rfl))) (show GLQ sk ln iv rv a1 Lh3 clh3 lnh3 ivh3 rvh3 (sk 25) (fun _ _ => []) from (gl3.mv (QT.of W2 hS xl3 fl3 rfl rfl rfl rfl rfl) (el25.fr W2 hS fl3 rfl rfl).1 (el25.fr W2 hS fl3 rfl rfl).2)) (xl3.ty t_a1) (show ivh3 a1 0 = ivh2 a1 0 from fl3.i t_a1 rfl 0) (fun ty1 gf3 gl4 gl5 ty2 ie7 => ?_)
    refine hv2 (show 0 ≤ ivh3 (sk 24) 2 ∧ ivh3 (sk 24) 2 ≤ 6003 from W3.int ty1 2) (show (-2147483648) ≤ ivh3 a1 0 ∧ ivh3 a1 0 ≤ 2147483647 from W3.int ty2 0) (fun ri6 ri7 => ?_)
    have gl6 : GLQ sk ln iv rv a1 Lh3 clh3 lnh3 ivh3 rvh3 (sk 24) gat0 := (gl4.n0 (by omega))
    have gl7 : GLQ sk ln iv rv a1 Lh3 clh3 lnh3 ivh3 rvh3 (sk 25) gat1 := (gl5.n1 (by omega))
    refine c_aload_n (j := 0) (x := a0) C dX3_gather_81 rfl ?_
    refine hv2 (xl3.ty t_a0) (show rvh3 a0 0 = rvh2 a0 0 from (fl3.r t_a0 rfl 0)) (fun ty3 re3 => ?_)
    rw [re2] at re3
    refine c_getr (k := 0) C ck_4 dX3_gather_82 w1_190 (by decide) ty3 rfl rfl (by decide) rfl re3 ?_
    refine c_st (st2 := [.ref (sk 24)]) rfl ?_
    refine c_aload_n (j := 0) (x := a0) C dX3_gather_85 rfl ?_
    obtain ⟨rb3, rq3, trb3⟩ := W3.ref ty3 2 rfl rfl rfl
    have erb3 := W3.sk trb3 (by decide) rfl
    subst erb3
    refine c_getr (k := 2) C ck_4 dX3_gather_86 w1_196 (by decide) ty3 rfl rfl (by decide) rfl rq3 ?_
    refine c_st (st2 := [.ref (sk 6), .ref (sk 24)]) rfl ?_
    refine hv2 (xl3.ty tsk6) (Phi.le W3 sk1) (fun ty4 pl3 => ?_)
    refine d_callS (As := [.ref (sk 24), .ref (sk 6)]) (rest := []) C hM (G_markBegins_24 (a0 := (sk 24)) (a1 := (sk 6)) W3 sk1 ty1 ty4  ) dX3_gather_89 kS_X3_73 rfl rfl (Nat.le_of_ble_eq_true rfl) ⟨(Nat.le_of_ble_eq_true rfl), (Nat.le_of_ble_eq_true rfl)⟩ hph pl3 (show 0 + 0 = 0 from rfl) (by decide) (fun rh4 Lh4 clh4 lnh4 ivh4 rvh4 h4 => ?_)
    obtain ⟨rfl, xl4, fl4, W4, exf4⟩ := h4
    refine hv8 (F3.call X1 fl4 rfl) (xl3.ty tsk7) (xl3.ty tsk8) (xl3.ty tsk9) (xl3.ty tsk10) (xl3.ty tsk25) (X1.trans xl4) (xl4.skl sk1) (fun F4 ty5 ty6 ty7 ty8 ty9 X2 sk2 => ?_)
    refine c_st (st2 := []) rfl ?_
    refine hv6 (xl4.ty ty4) (show ivh4 (sk 6) 2 = ivh3 (sk 24) 2 ∧ MBX Lh3 clh3 lnh3 ivh3 rvh3 (sk 24) ivh4 rvh4 (sk 6) from exf4) (show GLQ sk ln iv rv a1 Lh4 clh4 lnh4 ivh4 rvh4 (sk 24) gat0 from (gl6.mv (QT.of W3 sk1 xl4 fl4 rfl rfl rfl rfl rfl) (el24.fr W3 sk1 fl4 rfl rfl).1 (el24.fr W3 sk1 fl4 rfl rfl).2)) (show GLQ sk ln iv rv a1 Lh4 clh4 lnh4 ivh4 rvh4 (sk 25) gat1 from (gl7.mv (QT.of W3 sk1 xl4 fl4 rfl rfl rfl rfl rfl) (el25.fr W3 sk1 fl4 rfl rfl).1 (el25.fr W3 sk1 fl4 rfl rfl).2)) (xl4.ty ty1) (show ivh4 (sk 24) 2 = ivh3 (sk 24) 2 from fl4.i ty1 rfl 2) (fun ty10 gf4 gl8 gl9 ty11 ie9 => ?_)
    refine hv2 (show 0 ≤ ivh4 (sk 6) 2 ∧ ivh4 (sk 6) 2 ≤ 6003 from W4.int ty10 2) (show 0 ≤ ivh4 (sk 24) 2 ∧ ivh4 (sk 24) 2 ≤ 6003 from W4.int ty11 2) (fun ri8 ri9 => ?_)
    have gb1 := GBQ.mk gl6 gf4.2 (by omega) (by omega)
    refine c_aload_n (j := 0) (x := a0) C dX3_gather_92 rfl ?_
    refine hv2 (xl4.ty ty3) (show rvh2 a0 1 = rvh1 a0 1 from (fl2.r t_a0 rfl 1)) (fun ty12 re4 => ?_)
    rw [rq2] at re4
    have re5 : rvh3 a0 1 = rvh2 a0 1 := (fl3.r t_a0 rfl 1)
    rw [re4] at re5
    have re6 : rvh4 a0 1 = rvh3 a0 1 := (fl4.r ty3 rfl 1)
    rw [re5] at re6
    refine c_getr (k := 1) C ck_4 dX3_gather_93 w1_193 (by decide) ty12 rfl rfl (by decide) rfl re6 ?_
    refine c_st (st2 := [.ref (sk 25)]) rfl ?_
    refine c_aload_n (j := 0) (x := a0) C dX3_gather_96 rfl ?_
    obtain ⟨rb4, rq4, trb4⟩ := W4.ref ty12 3 rfl rfl rfl
    have erb4 := W4.sk trb4 (by decide) rfl
    subst erb4
    refine c_getr (k := 3) C ck_4 dX3_gather_97 w1_197 (by decide) ty12 rfl rfl (by decide) rfl rq4 ?_
    refine c_st (st2 := [.ref (sk 7), .ref (sk 25)]) rfl ?_
    refine hv5 (xl4.ty ty9) (show ivh4 (sk 25) 2 = ivh3 (sk 25) 2 from fl4.i ty9 rfl 2) (show ivh3 (sk 25) 2 = ivh2 (sk 25) 2 from fl3.i tsk25 rfl 2) (xl4.ty ty5) (Phi.le W4 sk2) (fun ty13 ie10 ie11 ty14 pl4 => ?_)
    have ri10 : 0 ≤ ivh4 (sk 25) 2 ∧ ivh4 (sk 25) 2 ≤ 6003 := W4.int ty13 2
    refine d_callS (As := [.ref (sk 25), .ref (sk 7)]) (rest := []) C hM (G_markBegins_25 (a0 := (sk 25)) (a1 := (sk 7)) W4 sk2 ty13 ty14  ) dX3_gather_100 kS_X3_73 rfl rfl (Nat.le_of_ble_eq_true rfl) ⟨(Nat.le_of_ble_eq_true rfl), (Nat.le_of_ble_eq_true rfl)⟩ hph pl4 (show 0 + 0 = 0 from rfl) (by decide) (fun rh5 Lh5 clh5 lnh5 ivh5 rvh5 h5 => ?_)
    obtain ⟨rfl, xl5, fl5, W5, exf5⟩ := h5
    refine hv7 (F4.call X2 fl5 rfl) (xl4.ty ty2) (xl4.ty ty6) (xl4.ty ty7) (xl4.ty ty8) (X2.trans xl5) (xl5.skl sk2) (fun F5 ty15 ty16 ty17 ty18 X3 sk3 => ?_)
    refine c_st (st2 := []) rfl ?_
    refine hv8 (xl5.ty ty14) (show ivh5 (sk 7) 2 = ivh4 (sk 25) 2 ∧ MBX Lh4 clh4 lnh4 ivh4 rvh4 (sk 25) ivh5 rvh5 (sk 7) from exf5) (show GLQ sk ln iv rv a1 Lh5 clh5 lnh5 ivh5 rvh5 (sk 24) gat0 from (gl8.mv (QT.of W4 sk2 xl5 fl5 rfl rfl rfl rfl rfl) (el24.fr W4 sk2 fl5 rfl rfl).1 (el24.fr W4 sk2 fl5 rfl rfl).2)) (show GLQ sk ln iv rv a1 Lh5 clh5 lnh5 ivh5 rvh5 (sk 25) gat1 from (gl9.mv (QT.of W4 sk2 xl5 fl5 rfl rfl rfl rfl rfl) (el25.fr W4 sk2 fl5 rfl rfl).1 (el25.fr W4 sk2 fl5 rfl rfl).2)) (xl5.ty ty13) (show ivh5 (sk 25) 2 = ivh4 (sk 25) 2 from fl5.i ty13 rfl 2) (gb1.fr W4 ty11 ty10 fl5 rfl rfl rfl rfl rfl rfl) (Phi.le W5 sk3) (fun ty19 gf5 gl10 gl11 ty20 ie13 gb3 pl5 => ?_)
    refine hv2 (show 0 ≤ ivh5 (sk 7) 2 ∧ ivh5 (sk 7) 2 ≤ 6003 from W5.int ty19 2) (show 0 ≤ ivh5 (sk 25) 2 ∧ ivh5 (sk 25) 2 ≤ 6003 from W5.int ty20 2) (fun ri11 ri12 => ?_)
    have gb2 := GBQ.mk gl9 gf5.2 (by omega) (by omega)
    exact c_vret C dX3_gather_103 rfl (by decide) (rom0 hph pl5 (by decide)) ⟨rfl, X3, F5, W5, trivial, ⟨gl10, gl11⟩, ⟨gb3, gb2⟩⟩
  · refine c_aload_n (j := 0) (x := a0) C dX3_gather_22 rfl ?_
    have re7 : rvh1 a0 0 = rv a0 0 := (fl1.r t_a0 rfl 0)
    rw [rq1] at re7
    have re8 : rvh2 a0 0 = rvh1 a0 0 := (fl2.r t_a0 rfl 0)
    rw [re7] at re8
    refine c_getr (k := 0) C ck_4 dX3_gather_23 w1_190 (by decide) t_a0 rfl rfl (by decide) rfl re8 ?_
    refine c_st (st2 := [.ref (sk 24)]) rfl ?_
    refine c_aload_n (j := 1) (x := a1) C dX3_gather_26 rfl ?_
    rcases W2.opt t_a1 2 rfl rfl with ⟨nq1, _⟩ | ⟨nb1, nq1, tnb1⟩
    · refine c_getr (k := 2) C ck_10 dX3_gather_27 w2_181 (by decide) t_a1 rfl rfl (by decide) rfl nq1 ?_
      refine c_st (st2 := [.null, .ref (sk 24)]) rfl ?_
      refine hv3 (show 0 ≤ ivh2 (sk 24) 2 ∧ ivh2 (sk 24) 2 ≤ 6003 from W2.int tsk24 2) (show ivh2 (sk 24) 2 = ivh1 (sk 24) 2 from fl2.i tsk24 rfl 2) (Phi.le W2 hS) (fun ri13 ie14 pl6 => ?_)
      refine d_callS (As := [.ref (sk 24), .null]) (rest := []) C hM (C_gatherPart_24 (a0 := (sk 24)) (r := none) W2 hS tsk24 (fun _ q => by cases q)  (by show ivh2 (sk 24) 2 = 0; omega)) dX3_gather_30 kS_X3_59 rfl rfl (Nat.le_of_ble_eq_true rfl) ⟨(Nat.le_of_ble_eq_true rfl), (Nat.le_of_ble_eq_true rfl)⟩ hph pl6 (show 0 + 0 = 0 from rfl) (by decide) (fun rh6 Lh6 clh6 lnh6 ivh6 rvh6 h6 => ?_)
      obtain ⟨rfl, xl6, fl6, W6, exf6⟩ := h6
      refine hv3 (F2.call hX0 fl6 rfl) (hX0.trans xl6) (xl6.skl hS) (fun F6 X4 sk4 => ?_)
      refine c_st (st2 := []) rfl ?_
      refine hv3 (xl6.ty tsk24) (show ivh6 (sk 24) 2 ≤ 6002 from exf6) (show GLQ sk ln iv rv a1 Lh6 clh6 lnh6 ivh6 rvh6 (sk 25) (fun _ _ => []) from (gl3.mv (QT.of W2 hS xl6 fl6 rfl rfl rfl rfl rfl) (el25.fr W2 hS fl6 rfl rfl).1 (el25.fr W2 hS fl6 rfl rfl).2)) (fun ty21 gf6 gl13 => ?_)
      have ri14 : 0 ≤ ivh6 (sk 24) 2 ∧ ivh6 (sk 24) 2 ≤ 6003 := W6.int ty21 2
      have gl12 : GLQ sk ln iv rv a1 Lh6 clh6 lnh6 ivh6 rvh6 (sk 24) (fun a i => rws1 a (a 8 i.toNat)) := (GLQ.no2 (QT.of hW hS hX0 F2 rfl rfl rfl rfl rfl) (by omega) nq1)
      refine c_aload_n (j := 0) (x := a0) C dX3_gather_33 rfl ?_
      refine hv2 (xl6.ty t_a0) (show rvh6 a0 0 = rvh2 a0 0 from (fl6.r t_a0 rfl 0)) (fun ty22 re9 => ?_)
      rw [re8] at re9
      refine c_getr (k := 0) C ck_4 dX3_gather_34 w1_190 (by decide) ty22 rfl rfl (by decide) rfl re9 ?_
      refine c_st (st2 := [.ref (sk 24)]) rfl ?_
      refine c_aload_n (j := 1) (x := a1) C dX3_gather_37 rfl ?_
      have ty23 := xl6.ty t_a1
      obtain ⟨rb5, rq5, trb5⟩ := W6.ref ty23 6 rfl rfl rfl
      have lnrb5 : 4 ≤ lnh6 rb5 ∧ lnh6 rb5 ≤ 4 := W6.len trb5 rfl
      refine c_getr (k := 6) C ck_10 dX3_gather_38 w2_193 (by decide) ty23 rfl rfl (by decide) rfl rq5 ?_
      refine c_st (st2 := [.ref rb5, .ref (sk 24)]) rfl ?_
      refine c_iconst C dX3_gather_41 ?_
      have ll1 : 4 ≤ lnh6 rb5 ∧ lnh6 rb5 ≤ 4 := W6.len trb5 rfl
      rcases W6.opt trb5 ((2 : Int).toNat) rfl rfl with ⟨nq2, _⟩ | ⟨nb2, nq2, tnb2⟩
      · refine c_aaldR C dX3_gather_42 trb5 rfl (by omega) (by omega) (by omega) nq2 ?_
        refine c_st (st2 := [.null, .ref (sk 24)]) rfl ?_
        have pl7 := Phi.le W6 sk4
        refine d_callS (As := [.ref (sk 24), .null]) (rest := []) C hM (G_addInd_24 (a0 := (sk 24)) (r := none) W6 sk4 ty21 (fun _ q => by cases q)  (by show ivh6 (sk 24) 2 < 6003; omega)) dX3_gather_43 kS_X3_67 rfl rfl (Nat.le_of_ble_eq_true rfl) ⟨(Nat.le_of_ble_eq_true rfl), (Nat.le_of_ble_eq_true rfl)⟩ hph pl7 (show 0 + 0 = 0 from rfl) (by decide) (fun rh7 Lh7 clh7 lnh7 ivh7 rvh7 h7 => ?_)
        obtain ⟨rfl, xl7, fl7, W7, exf7, ladf7⟩ := h7
        refine hv9 (F6.call X4 fl7 rfl) (xl6.ty tsk6) (xl6.ty tsk7) (xl6.ty tsk8) (xl6.ty tsk9) (xl6.ty tsk10) (xl6.ty tsk25) (X4.trans xl7) (xl7.skl sk4) (fun F7 ty24 ty25 ty26 ty27 ty28 ty29 X5 sk5 => ?_)
        refine c_st (st2 := []) rfl ?_
        refine hv4 (xl7.ty ty21) (show ivh6 (sk 24) 2 ≤ ivh7 (sk 24) 2 ∧ ivh7 (sk 24) 2 ≤ ivh6 (sk 24) 2 + 1 from exf7) (show GLQ sk ln iv rv a1 Lh7 clh7 lnh7 ivh7 rvh7 (sk 24) (fun a i => rws1 a (a 8 i.toNat) ++ indl a (4 * i + ((2 : Nat) : Int))) from (gl12.ind (j := 2) (QT.of hW hS X4 F6 rfl rfl rfl rfl rfl) (QT.of W6 sk4 xl7 fl7 rfl rfl rfl rfl rfl) trb5 rq5 nq2 ladf7 (by decide))) (show GLQ sk ln iv rv a1 Lh7 clh7 lnh7 ivh7 rvh7 (sk 25) (fun _ _ => []) from (gl13.mv (QT.of W6 sk4 xl7 fl7 rfl rfl rfl rfl rfl) (el25.fr W6 sk4 fl7 rfl rfl).1 (el25.fr W6 sk4 fl7 rfl rfl).2)) (fun ty30 gf7 gl14 gl15 => ?_)
        have ri15 : 0 ≤ ivh7 (sk 24) 2 ∧ ivh7 (sk 24) 2 ≤ 6003 := W7.int ty30 2
        refine c_aload_n (j := 0) (x := a0) C dX3_gather_46 rfl ?_
        refine hv2 (xl7.ty ty22) (show rvh2 a0 1 = rvh1 a0 1 from (fl2.r t_a0 rfl 1)) (fun ty31 re10 => ?_)
        rw [rq2] at re10
        have re11 : rvh6 a0 1 = rvh2 a0 1 := (fl6.r t_a0 rfl 1)
        rw [re10] at re11
        have re12 : rvh7 a0 1 = rvh6 a0 1 := (fl7.r ty22 rfl 1)
        rw [re11] at re12
        refine c_getr (k := 1) C ck_4 dX3_gather_47 w1_193 (by decide) ty31 rfl rfl (by decide) rfl re12 ?_
        refine c_st (st2 := [.ref (sk 25)]) rfl ?_
        refine c_aload_n (j := 1) (x := a1) C dX3_gather_50 rfl ?_
        have ty32 := xl7.ty ty23
        rcases W7.opt ty32 3 rfl rfl with ⟨nq3, _⟩ | ⟨nb3, nq3, tnb3⟩
        · refine c_getr (k := 3) C ck_10 dX3_gather_51 w2_184 (by decide) ty32 rfl rfl (by decide) rfl nq3 ?_
          refine c_st (st2 := [.null, .ref (sk 25)]) rfl ?_
          refine hv7 (show (-2147483648) ≤ ivh7 a1 0 ∧ ivh7 a1 0 ≤ 2147483647 from W7.int ty32 0) (show ivh7 a1 0 = ivh6 a1 0 from fl7.i ty23 rfl 0) (show ivh6 a1 0 = ivh2 a1 0 from fl6.i t_a1 rfl 0) (xl7.ty ty29) (show ivh7 (sk 25) 2 = ivh6 (sk 25) 2 from fl7.i ty29 rfl 2) (show ivh6 (sk 25) 2 = ivh2 (sk 25) 2 from fl6.i tsk25 rfl 2) (Phi.le W7 sk5) (fun ri16 ie17 ie18 ty33 ie19 ie20 pl8 => ?_)
          have ri17 : 0 ≤ ivh7 (sk 25) 2 ∧ ivh7 (sk 25) 2 ≤ 6003 := W7.int ty33 2
          refine d_callS (As := [.ref (sk 25), .null]) (rest := []) C hM (C_gatherPart_25 (a0 := (sk 25)) (r := none) W7 sk5 ty33 (fun _ q => by cases q)  (by show ivh7 (sk 25) 2 = 0; omega)) dX3_gather_54 kS_X3_59 rfl rfl (Nat.le_of_ble_eq_true rfl) ⟨(Nat.le_of_ble_eq_true rfl), (Nat.le_of_ble_eq_true rfl)⟩ hph pl8 (show 0 + 0 = 0 from rfl) (by decide) (fun rh8 Lh8 clh8 lnh8 ivh8 rvh8 h8 => ?_)
          obtain ⟨rfl, xl8, fl8, W8, exf8⟩ := h8
          refine hv9 (F7.call X5 fl8 rfl) (xl7.ty ty24) (xl7.ty ty25) (xl7.ty ty26) (xl7.ty ty27) (xl7.ty ty28) (xl7.ty trb5) (X5.trans xl8) (xl8.skl sk5) (fun F8 ty34 ty35 ty36 ty37 ty38 ty39 X6 sk6 => ?_)
          refine c_st (st2 := []) rfl ?_
          refine hv3 (xl8.ty ty33) (show ivh8 (sk 25) 2 ≤ 6002 from exf8) (show GLQ sk ln iv rv a1 Lh8 clh8 lnh8 ivh8 rvh8 (sk 24) (fun a i => rws1 a (a 8 i.toNat) ++ indl a (4 * i + ((2 : Nat) : Int))) from (gl14.mv (QT.of W7 sk5 xl8 fl8 rfl rfl rfl rfl rfl) (el24.fr W7 sk5 fl8 rfl rfl).1 (el24.fr W7 sk5 fl8 rfl rfl).2)) (fun ty40 gf8 gl17 => ?_)
          have ri18 : 0 ≤ ivh8 (sk 25) 2 ∧ ivh8 (sk 25) 2 ≤ 6003 := W8.int ty40 2
          have gl16 : GLQ sk ln iv rv a1 Lh8 clh8 lnh8 ivh8 rvh8 (sk 25) (fun a i => rws1 a (a 9 i.toNat)) := (GLQ.no3 (QT.of hW hS X5 F7 rfl rfl rfl rfl rfl) (by omega) nq3)
          refine c_aload_n (j := 0) (x := a0) C dX3_gather_57 rfl ?_
          refine hv2 (xl8.ty ty31) (show rvh8 a0 1 = rvh7 a0 1 from (fl8.r ty31 rfl 1)) (fun ty41 re13 => ?_)
          rw [re12] at re13
          refine c_getr (k := 1) C ck_4 dX3_gather_58 w1_193 (by decide) ty41 rfl rfl (by decide) rfl re13 ?_
          refine c_st (st2 := [.ref (sk 25)]) rfl ?_
          refine c_aload_n (j := 1) (x := a1) C dX3_gather_61 rfl ?_
          refine hv2 (xl8.ty ty32) (show rvh7 a1 6 = rvh6 a1 6 from (fl7.r ty23 rfl 6)) (fun ty42 re14 => ?_)
          rw [rq5] at re14
          have re15 : rvh8 a1 6 = rvh7 a1 6 := (fl8.r ty32 rfl 6)
          rw [re14] at re15
          refine c_getr (k := 6) C ck_10 dX3_gather_62 w2_193 (by decide) ty42 rfl rfl (by decide) rfl re15 ?_
          refine c_st (st2 := [.ref rb5, .ref (sk 25)]) rfl ?_
          refine c_iconst C dX3_gather_65 ?_
          have ty43 := xl8.ty ty39
          have ll2 : 4 ≤ lnh8 rb5 ∧ lnh8 rb5 ≤ 4 := W8.len ty43 rfl
          rcases W8.opt ty43 ((3 : Int).toNat) rfl rfl with ⟨nq4, _⟩ | ⟨nb4, nq4, tnb4⟩
          · refine c_aaldR C dX3_gather_66 ty43 rfl (by omega) (by omega) (by omega) nq4 ?_
            refine c_st (st2 := [.null, .ref (sk 25)]) rfl ?_
            have pl9 := Phi.le W8 sk6
            refine d_callS (As := [.ref (sk 25), .null]) (rest := []) C hM (G_addInd_25 (a0 := (sk 25)) (r := none) W8 sk6 ty40 (fun _ q => by cases q)  (by show ivh8 (sk 25) 2 < 6003; omega)) dX3_gather_67 kS_X3_67 rfl rfl (Nat.le_of_ble_eq_true rfl) ⟨(Nat.le_of_ble_eq_true rfl), (Nat.le_of_ble_eq_true rfl)⟩ hph pl9 (show 0 + 0 = 0 from rfl) (by decide) (fun rh9 Lh9 clh9 lnh9 ivh9 rvh9 h9 => ?_)
            obtain ⟨rfl, xl9, fl9, W9, exf9, ladf9⟩ := h9
            refine hv9 (F8.call X6 fl9 rfl) (xl8.ty ty34) (xl8.ty ty35) (xl8.ty ty36) (xl8.ty ty37) (xl8.ty ty38) (xl8.ty ty30) (X6.trans xl9) (xl9.skl sk6) (fun F9 ty44 ty45 ty46 ty47 ty48 ty49 X7 sk7 => ?_)
            refine c_st (st2 := []) rfl ?_
            refine hv4 (xl9.ty ty40) (show ivh8 (sk 25) 2 ≤ ivh9 (sk 25) 2 ∧ ivh9 (sk 25) 2 ≤ ivh8 (sk 25) 2 + 1 from exf9) (show GLQ sk ln iv rv a1 Lh9 clh9 lnh9 ivh9 rvh9 (sk 25) (fun a i => rws1 a (a 9 i.toNat) ++ indl a (4 * i + ((3 : Nat) : Int))) from (gl16.ind (j := 3) (QT.of hW hS X6 F8 rfl rfl rfl rfl rfl) (QT.of W8 sk6 xl9 fl9 rfl rfl rfl rfl rfl) ty43 re15 nq4 ladf9 (by decide))) (show GLQ sk ln iv rv a1 Lh9 clh9 lnh9 ivh9 rvh9 (sk 24) (fun a i => rws1 a (a 8 i.toNat) ++ indl a (4 * i + ((2 : Nat) : Int))) from (gl17.mv (QT.of W8 sk6 xl9 fl9 rfl rfl rfl rfl rfl) (el24.fr W8 sk6 fl9 rfl rfl).1 (el24.fr W8 sk6 fl9 rfl rfl).2)) (fun ty50 gf9 gl18 gl19 => ?_)
            have ri19 : 0 ≤ ivh9 (sk 25) 2 ∧ ivh9 (sk 25) 2 ≤ 6003 := W9.int ty50 2
            refine c_goto (tgt := 81) C dX3_gather_70 (by decide) ?_
            refine hv3 (xl9.ty ty42) (show ivh9 a1 0 = ivh8 a1 0 from fl9.i ty42 rfl 0) (show ivh8 a1 0 = ivh7 a1 0 from fl8.i ty32 rfl 0) (fun ty51 ie23 ie24 => ?_)
            have ri20 : (-2147483648) ≤ ivh9 a1 0 ∧ ivh9 a1 0 ≤ 2147483647 := W9.int ty51 0
            have gl20 : GLQ sk ln iv rv a1 Lh9 clh9 lnh9 ivh9 rvh9 (sk 24) gat0 := (gl19.g0 (by omega))
            have gl21 : GLQ sk ln iv rv a1 Lh9 clh9 lnh9 ivh9 rvh9 (sk 25) gat1 := (gl18.g1 (by omega))
            refine c_aload_n (j := 0) (x := a0) C dX3_gather_81 rfl ?_
            refine hv2 (xl9.ty ty41) (show rvh7 a0 0 = rvh6 a0 0 from (fl7.r ty22 rfl 0)) (fun ty52 re16 => ?_)
            rw [re9] at re16
            have re17 : rvh8 a0 0 = rvh7 a0 0 := (fl8.r ty31 rfl 0)
            rw [re16] at re17
            have re18 : rvh9 a0 0 = rvh8 a0 0 := (fl9.r ty41 rfl 0)
            rw [re17] at re18
            refine c_getr (k := 0) C ck_4 dX3_gather_82 w1_190 (by decide) ty52 rfl rfl (by decide) rfl re18 ?_
            refine c_st (st2 := [.ref (sk 24)]) rfl ?_
            refine c_aload_n (j := 0) (x := a0) C dX3_gather_85 rfl ?_
            obtain ⟨rb6, rq6, trb6⟩ := W9.ref ty52 2 rfl rfl rfl
            have erb6 := W9.sk trb6 (by decide) rfl
            subst erb6
            refine c_getr (k := 2) C ck_4 dX3_gather_86 w1_196 (by decide) ty52 rfl rfl (by decide) rfl rq6 ?_
            refine c_st (st2 := [.ref (sk 6), .ref (sk 24)]) rfl ?_
            refine hv5 (xl9.ty ty49) (show ivh9 (sk 24) 2 = ivh8 (sk 24) 2 from fl9.i ty49 rfl 2) (show ivh8 (sk 24) 2 = ivh7 (sk 24) 2 from fl8.i ty30 rfl 2) (xl9.ty ty44) (Phi.le W9 sk7) (fun ty53 ie25 ie26 ty54 pl10 => ?_)
            have ri21 : 0 ≤ ivh9 (sk 24) 2 ∧ ivh9 (sk 24) 2 ≤ 6003 := W9.int ty53 2
            refine d_callS (As := [.ref (sk 24), .ref (sk 6)]) (rest := []) C hM (G_markBegins_24 (a0 := (sk 24)) (a1 := (sk 6)) W9 sk7 ty53 ty54  ) dX3_gather_89 kS_X3_73 rfl rfl (Nat.le_of_ble_eq_true rfl) ⟨(Nat.le_of_ble_eq_true rfl), (Nat.le_of_ble_eq_true rfl)⟩ hph pl10 (show 0 + 0 = 0 from rfl) (by decide) (fun rh10 Lh10 clh10 lnh10 ivh10 rvh10 h10 => ?_)
            obtain ⟨rfl, xl10, fl10, W10, exf10⟩ := h10
            refine hv8 (F9.call X7 fl10 rfl) (xl9.ty ty45) (xl9.ty ty46) (xl9.ty ty47) (xl9.ty ty48) (xl9.ty ty43) (X7.trans xl10) (xl10.skl sk7) (fun F10 ty55 ty56 ty57 ty58 ty59 X8 sk8 => ?_)
            refine c_st (st2 := []) rfl ?_
            refine hv6 (xl10.ty ty54) (show ivh10 (sk 6) 2 = ivh9 (sk 24) 2 ∧ MBX Lh9 clh9 lnh9 ivh9 rvh9 (sk 24) ivh10 rvh10 (sk 6) from exf10) (show GLQ sk ln iv rv a1 Lh10 clh10 lnh10 ivh10 rvh10 (sk 24) gat0 from (gl20.mv (QT.of W9 sk7 xl10 fl10 rfl rfl rfl rfl rfl) (el24.fr W9 sk7 fl10 rfl rfl).1 (el24.fr W9 sk7 fl10 rfl rfl).2)) (show GLQ sk ln iv rv a1 Lh10 clh10 lnh10 ivh10 rvh10 (sk 25) gat1 from (gl21.mv (QT.of W9 sk7 xl10 fl10 rfl rfl rfl rfl rfl) (el25.fr W9 sk7 fl10 rfl rfl).1 (el25.fr W9 sk7 fl10 rfl rfl).2)) (xl10.ty ty53) (show ivh10 (sk 24) 2 = ivh9 (sk 24) 2 from fl10.i ty53 rfl 2) (fun ty60 gf10 gl22 gl23 ty61 ie28 => ?_)
            refine hv2 (show 0 ≤ ivh10 (sk 6) 2 ∧ ivh10 (sk 6) 2 ≤ 6003 from W10.int ty60 2) (show 0 ≤ ivh10 (sk 24) 2 ∧ ivh10 (sk 24) 2 ≤ 6003 from W10.int ty61 2) (fun ri22 ri23 => ?_)
            have gb4 := GBQ.mk gl20 gf10.2 (by omega) (by omega)
            refine c_aload_n (j := 0) (x := a0) C dX3_gather_92 rfl ?_
            refine hv2 (xl10.ty ty52) (show rvh9 a0 1 = rvh8 a0 1 from (fl9.r ty41 rfl 1)) (fun ty62 re19 => ?_)
            rw [re13] at re19
            have re20 : rvh10 a0 1 = rvh9 a0 1 := (fl10.r ty52 rfl 1)
            rw [re19] at re20
            refine c_getr (k := 1) C ck_4 dX3_gather_93 w1_193 (by decide) ty62 rfl rfl (by decide) rfl re20 ?_
            refine c_st (st2 := [.ref (sk 25)]) rfl ?_
            refine c_aload_n (j := 0) (x := a0) C dX3_gather_96 rfl ?_
            obtain ⟨rb7, rq7, trb7⟩ := W10.ref ty62 3 rfl rfl rfl
            have erb7 := W10.sk trb7 (by decide) rfl
            subst erb7
            refine c_getr (k := 3) C ck_4 dX3_gather_97 w1_197 (by decide) ty62 rfl rfl (by decide) rfl rq7 ?_
            refine c_st (st2 := [.ref (sk 7), .ref (sk 25)]) rfl ?_
            refine hv4 (xl10.ty ty50) (show ivh10 (sk 25) 2 = ivh9 (sk 25) 2 from fl10.i ty50 rfl 2) (xl10.ty ty55) (Phi.le W10 sk8) (fun ty63 ie29 ty64 pl11 => ?_)
            have ri24 : 0 ≤ ivh10 (sk 25) 2 ∧ ivh10 (sk 25) 2 ≤ 6003 := W10.int ty63 2
            refine d_callS (As := [.ref (sk 25), .ref (sk 7)]) (rest := []) C hM (G_markBegins_25 (a0 := (sk 25)) (a1 := (sk 7)) W10 sk8 ty63 ty64  ) dX3_gather_100 kS_X3_73 rfl rfl (Nat.le_of_ble_eq_true rfl) ⟨(Nat.le_of_ble_eq_true rfl), (Nat.le_of_ble_eq_true rfl)⟩ hph pl11 (show 0 + 0 = 0 from rfl) (by decide) (fun rh11 Lh11 clh11 lnh11 ivh11 rvh11 h11 => ?_)
            obtain ⟨rfl, xl11, fl11, W11, exf11⟩ := h11
            refine hv8 (F10.call X8 fl11 rfl) (xl10.ty ty51) (xl10.ty ty56) (xl10.ty ty57) (xl10.ty ty58) (xl10.ty ty59) (X8.trans xl11) (xl11.skl sk8) (fun F11 ty65 ty66 ty67 ty68 ty69 X9 sk9 => ?_)
            refine c_st (st2 := []) rfl ?_
            refine hv8 (xl11.ty ty64) (show ivh11 (sk 7) 2 = ivh10 (sk 25) 2 ∧ MBX Lh10 clh10 lnh10 ivh10 rvh10 (sk 25) ivh11 rvh11 (sk 7) from exf11) (show GLQ sk ln iv rv a1 Lh11 clh11 lnh11 ivh11 rvh11 (sk 24) gat0 from (gl22.mv (QT.of W10 sk8 xl11 fl11 rfl rfl rfl rfl rfl) (el24.fr W10 sk8 fl11 rfl rfl).1 (el24.fr W10 sk8 fl11 rfl rfl).2)) (show GLQ sk ln iv rv a1 Lh11 clh11 lnh11 ivh11 rvh11 (sk 25) gat1 from (gl23.mv (QT.of W10 sk8 xl11 fl11 rfl rfl rfl rfl rfl) (el25.fr W10 sk8 fl11 rfl rfl).1 (el25.fr W10 sk8 fl11 rfl rfl).2)) (xl11.ty ty63) (show ivh11 (sk 25) 2 = ivh10 (sk 25) 2 from fl11.i ty63 rfl 2) (gb4.fr W10 ty61 ty60 fl11 rfl rfl rfl rfl rfl rfl) (Phi.le W11 sk9) (fun ty70 gf11 gl24 gl25 ty71 ie31 gb6 pl12 => ?_)
            refine hv2 (show 0 ≤ ivh11 (sk 7) 2 ∧ ivh11 (sk 7) 2 ≤ 6003 from W11.int ty70 2) (show 0 ≤ ivh11 (sk 25) 2 ∧ ivh11 (sk 25) 2 ≤ 6003 from W11.int ty71 2) (fun ri25 ri26 => ?_)
            have gb5 := GBQ.mk gl23 gf11.2 (by omega) (by omega)
            exact c_vret C dX3_gather_103 rfl (by decide) (rom0 hph pl12 (by decide)) ⟨rfl, X9, F11, W11, trivial, ⟨gl24, gl25⟩, ⟨gb6, gb5⟩⟩
          · have tnb4 : ty Lh8 clh8 nb4 20 := tnb4
            refine c_aaldR C dX3_gather_66 ty43 rfl (by omega) (by omega) (by omega) nq4 ?_
            refine c_st (st2 := [.ref nb4, .ref (sk 25)]) rfl ?_
            have pl13 := Phi.le W8 sk6
            refine d_callS (As := [.ref (sk 25), .ref nb4]) (rest := []) C hM (G_addInd_25 (a0 := (sk 25)) (r := (some nb4)) W8 sk6 ty40 (fun _ q => by cases q; exact tnb4)  (by show ivh8 (sk 25) 2 < 6003; omega)) dX3_gather_67 kS_X3_67 rfl rfl (Nat.le_of_ble_eq_true rfl) ⟨(Nat.le_of_ble_eq_true rfl), (Nat.le_of_ble_eq_true rfl)⟩ hph pl13 (show 0 + 0 = 0 from rfl) (by decide) (fun rh12 Lh12 clh12 lnh12 ivh12 rvh12 h12 => ?_)
            obtain ⟨rfl, xl12, fl12, W12, exf12, ladf12⟩ := h12
            refine hv9 (F8.call X6 fl12 rfl) (xl8.ty ty34) (xl8.ty ty35) (xl8.ty ty36) (xl8.ty ty37) (xl8.ty ty38) (xl8.ty ty30) (X6.trans xl12) (xl12.skl sk6) (fun F12 ty72 ty73 ty74 ty75 ty76 ty77 X10 sk10 => ?_)
            refine c_st (st2 := []) rfl ?_
            refine hv4 (xl12.ty ty40) (show ivh8 (sk 25) 2 ≤ ivh12 (sk 25) 2 ∧ ivh12 (sk 25) 2 ≤ ivh8 (sk 25) 2 + 1 from exf12) (show GLQ sk ln iv rv a1 Lh12 clh12 lnh12 ivh12 rvh12 (sk 25) (fun a i => rws1 a (a 9 i.toNat) ++ indl a (4 * i + ((3 : Nat) : Int))) from (gl16.ind (j := 3) (QT.of hW hS X6 F8 rfl rfl rfl rfl rfl) (QT.of W8 sk6 xl12 fl12 rfl rfl rfl rfl rfl) ty43 re15 nq4 ladf12 (by decide))) (show GLQ sk ln iv rv a1 Lh12 clh12 lnh12 ivh12 rvh12 (sk 24) (fun a i => rws1 a (a 8 i.toNat) ++ indl a (4 * i + ((2 : Nat) : Int))) from (gl17.mv (QT.of W8 sk6 xl12 fl12 rfl rfl rfl rfl rfl) (el24.fr W8 sk6 fl12 rfl rfl).1 (el24.fr W8 sk6 fl12 rfl rfl).2)) (fun ty78 gf12 gl26 gl27 => ?_)
            have ri27 : 0 ≤ ivh12 (sk 25) 2 ∧ ivh12 (sk 25) 2 ≤ 6003 := W12.int ty78 2
            refine c_goto (tgt := 81) C dX3_gather_70 (by decide) ?_
            refine hv3 (xl12.ty ty42) (show ivh12 a1 0 = ivh8 a1 0 from fl12.i ty42 rfl 0) (show ivh8 a1 0 = ivh7 a1 0 from fl8.i ty32 rfl 0) (fun ty79 ie33 ie34 => ?_)
            have ri28 : (-2147483648) ≤ ivh12 a1 0 ∧ ivh12 a1 0 ≤ 2147483647 := W12.int ty79 0
            have gl28 : GLQ sk ln iv rv a1 Lh12 clh12 lnh12 ivh12 rvh12 (sk 24) gat0 := (gl27.g0 (by omega))
            have gl29 : GLQ sk ln iv rv a1 Lh12 clh12 lnh12 ivh12 rvh12 (sk 25) gat1 := (gl26.g1 (by omega))
            refine c_aload_n (j := 0) (x := a0) C dX3_gather_81 rfl ?_
            refine hv2 (xl12.ty ty41) (show rvh7 a0 0 = rvh6 a0 0 from (fl7.r ty22 rfl 0)) (fun ty80 re21 => ?_)
            rw [re9] at re21
            have re22 : rvh8 a0 0 = rvh7 a0 0 := (fl8.r ty31 rfl 0)
            rw [re21] at re22
            have re23 : rvh12 a0 0 = rvh8 a0 0 := (fl12.r ty41 rfl 0)
            rw [re22] at re23
            refine c_getr (k := 0) C ck_4 dX3_gather_82 w1_190 (by decide) ty80 rfl rfl (by decide) rfl re23 ?_
            refine c_st (st2 := [.ref (sk 24)]) rfl ?_
            refine c_aload_n (j := 0) (x := a0) C dX3_gather_85 rfl ?_
            obtain ⟨rb8, rq8, trb8⟩ := W12.ref ty80 2 rfl rfl rfl
            have erb8 := W12.sk trb8 (by decide) rfl
            subst erb8
            refine c_getr (k := 2) C ck_4 dX3_gather_86 w1_196 (by decide) ty80 rfl rfl (by decide) rfl rq8 ?_
            refine c_st (st2 := [.ref (sk 6), .ref (sk 24)]) rfl ?_
            refine hv5 (xl12.ty ty77) (show ivh12 (sk 24) 2 = ivh8 (sk 24) 2 from fl12.i ty77 rfl 2) (show ivh8 (sk 24) 2 = ivh7 (sk 24) 2 from fl8.i ty30 rfl 2) (xl12.ty ty72) (Phi.le W12 sk10) (fun ty81 ie35 ie36 ty82 pl14 => ?_)
            have ri29 : 0 ≤ ivh12 (sk 24) 2 ∧ ivh12 (sk 24) 2 ≤ 6003 := W12.int ty81 2
            refine d_callS (As := [.ref (sk 24), .ref (sk 6)]) (rest := []) C hM (G_markBegins_24 (a0 := (sk 24)) (a1 := (sk 6)) W12 sk10 ty81 ty82  ) dX3_gather_89 kS_X3_73 rfl rfl (Nat.le_of_ble_eq_true rfl) ⟨(Nat.le_of_ble_eq_true rfl), (Nat.le_of_ble_eq_true rfl)⟩ hph pl14 (show 0 + 0 = 0 from rfl) (by decide) (fun rh13 Lh13 clh13 lnh13 ivh13 rvh13 h13 => ?_)
            obtain ⟨rfl, xl13, fl13, W13, exf13⟩ := h13
            refine hv9 (F12.call X10 fl13 rfl) (xl12.ty ty73) (xl12.ty ty74) (xl12.ty ty75) (xl12.ty ty76) (xl12.ty ty43) (xl12.ty tnb4) (X10.trans xl13) (xl13.skl sk10) (fun F13 ty83 ty84 ty85 ty86 ty87 ty88 X11 sk11 => ?_)
            refine c_st (st2 := []) rfl ?_
            refine hv6 (xl13.ty ty82) (show ivh13 (sk 6) 2 = ivh12 (sk 24) 2 ∧ MBX Lh12 clh12 lnh12 ivh12 rvh12 (sk 24) ivh13 rvh13 (sk 6) from exf13) (show GLQ sk ln iv rv a1 Lh13 clh13 lnh13 ivh13 rvh13 (sk 24) gat0 from (gl28.mv (QT.of W12 sk10 xl13 fl13 rfl rfl rfl rfl rfl) (el24.fr W12 sk10 fl13 rfl rfl).1 (el24.fr W12 sk10 fl13 rfl rfl).2)) (show GLQ sk ln iv rv a1 Lh13 clh13 lnh13 ivh13 rvh13 (sk 25) gat1 from (gl29.mv (QT.of W12 sk10 xl13 fl13 rfl rfl rfl rfl rfl) (el25.fr W12 sk10 fl13 rfl rfl).1 (el25.fr W12 sk10 fl13 rfl rfl).2)) (xl13.ty ty81) (show ivh13 (sk 24) 2 = ivh12 (sk 24) 2 from fl13.i ty81 rfl 2) (fun ty89 gf13 gl30 gl31 ty90 ie38 => ?_)
            refine hv2 (show 0 ≤ ivh13 (sk 6) 2 ∧ ivh13 (sk 6) 2 ≤ 6003 from W13.int ty89 2) (show 0 ≤ ivh13 (sk 24) 2 ∧ ivh13 (sk 24) 2 ≤ 6003 from W13.int ty90 2) (fun ri30 ri31 => ?_)
            have gb7 := GBQ.mk gl28 gf13.2 (by omega) (by omega)
            refine c_aload_n (j := 0) (x := a0) C dX3_gather_92 rfl ?_
            refine hv2 (xl13.ty ty80) (show rvh12 a0 1 = rvh8 a0 1 from (fl12.r ty41 rfl 1)) (fun ty91 re24 => ?_)
            rw [re13] at re24
            have re25 : rvh13 a0 1 = rvh12 a0 1 := (fl13.r ty80 rfl 1)
            rw [re24] at re25
            refine c_getr (k := 1) C ck_4 dX3_gather_93 w1_193 (by decide) ty91 rfl rfl (by decide) rfl re25 ?_
            refine c_st (st2 := [.ref (sk 25)]) rfl ?_
            refine c_aload_n (j := 0) (x := a0) C dX3_gather_96 rfl ?_
            obtain ⟨rb9, rq9, trb9⟩ := W13.ref ty91 3 rfl rfl rfl
            have erb9 := W13.sk trb9 (by decide) rfl
            subst erb9
            refine c_getr (k := 3) C ck_4 dX3_gather_97 w1_197 (by decide) ty91 rfl rfl (by decide) rfl rq9 ?_
            refine c_st (st2 := [.ref (sk 7), .ref (sk 25)]) rfl ?_
            refine hv4 (xl13.ty ty78) (show ivh13 (sk 25) 2 = ivh12 (sk 25) 2 from fl13.i ty78 rfl 2) (xl13.ty ty83) (Phi.le W13 sk11) (fun ty92 ie39 ty93 pl15 => ?_)
            have ri32 : 0 ≤ ivh13 (sk 25) 2 ∧ ivh13 (sk 25) 2 ≤ 6003 := W13.int ty92 2
            refine d_callS (As := [.ref (sk 25), .ref (sk 7)]) (rest := []) C hM (G_markBegins_25 (a0 := (sk 25)) (a1 := (sk 7)) W13 sk11 ty92 ty93  ) dX3_gather_100 kS_X3_73 rfl rfl (Nat.le_of_ble_eq_true rfl) ⟨(Nat.le_of_ble_eq_true rfl), (Nat.le_of_ble_eq_true rfl)⟩ hph pl15 (show 0 + 0 = 0 from rfl) (by decide) (fun rh14 Lh14 clh14 lnh14 ivh14 rvh14 h14 => ?_)
            obtain ⟨rfl, xl14, fl14, W14, exf14⟩ := h14
            refine hv9 (F13.call X11 fl14 rfl) (xl13.ty ty79) (xl13.ty ty84) (xl13.ty ty85) (xl13.ty ty86) (xl13.ty ty87) (xl13.ty ty88) (X11.trans xl14) (xl14.skl sk11) (fun F14 ty94 ty95 ty96 ty97 ty98 ty99 X12 sk12 => ?_)
            refine c_st (st2 := []) rfl ?_
            refine hv8 (xl14.ty ty93) (show ivh14 (sk 7) 2 = ivh13 (sk 25) 2 ∧ MBX Lh13 clh13 lnh13 ivh13 rvh13 (sk 25) ivh14 rvh14 (sk 7) from exf14) (show GLQ sk ln iv rv a1 Lh14 clh14 lnh14 ivh14 rvh14 (sk 24) gat0 from (gl30.mv (QT.of W13 sk11 xl14 fl14 rfl rfl rfl rfl rfl) (el24.fr W13 sk11 fl14 rfl rfl).1 (el24.fr W13 sk11 fl14 rfl rfl).2)) (show GLQ sk ln iv rv a1 Lh14 clh14 lnh14 ivh14 rvh14 (sk 25) gat1 from (gl31.mv (QT.of W13 sk11 xl14 fl14 rfl rfl rfl rfl rfl) (el25.fr W13 sk11 fl14 rfl rfl).1 (el25.fr W13 sk11 fl14 rfl rfl).2)) (xl14.ty ty92) (show ivh14 (sk 25) 2 = ivh13 (sk 25) 2 from fl14.i ty92 rfl 2) (gb7.fr W13 ty90 ty89 fl14 rfl rfl rfl rfl rfl rfl) (Phi.le W14 sk12) (fun ty100 gf14 gl32 gl33 ty101 ie41 gb9 pl16 => ?_)
            refine hv2 (show 0 ≤ ivh14 (sk 7) 2 ∧ ivh14 (sk 7) 2 ≤ 6003 from W14.int ty100 2) (show 0 ≤ ivh14 (sk 25) 2 ∧ ivh14 (sk 25) 2 ≤ 6003 from W14.int ty101 2) (fun ri33 ri34 => ?_)
            have gb8 := GBQ.mk gl31 gf14.2 (by omega) (by omega)
            exact c_vret C dX3_gather_103 rfl (by decide) (rom0 hph pl16 (by decide)) ⟨rfl, X12, F14, W14, trivial, ⟨gl32, gl33⟩, ⟨gb9, gb8⟩⟩
        · have rknb3 := W7.rank ty32 (k := 3) (by decide) nq3
          refine c_getr (k := 3) C ck_10 dX3_gather_51 w2_184 (by decide) ty32 rfl rfl (by decide) rfl nq3 ?_
          refine c_st (st2 := [.ref nb3, .ref (sk 25)]) rfl ?_
          refine hv4 (xl7.ty ty29) (show ivh7 (sk 25) 2 = ivh6 (sk 25) 2 from fl7.i ty29 rfl 2) (show ivh6 (sk 25) 2 = ivh2 (sk 25) 2 from fl6.i tsk25 rfl 2) (Phi.le W7 sk5) (fun ty102 ie42 ie43 pl17 => ?_)
          have ri35 : 0 ≤ ivh7 (sk 25) 2 ∧ ivh7 (sk 25) 2 ≤ 6003 := W7.int ty102 2
          refine d_callS (As := [.ref (sk 25), .ref nb3]) (rest := []) C hM (G_gatherPart_25 (a0 := (sk 25)) (a1 := nb3) W7 sk5 ty102 tnb3  (by show ivh7 (sk 25) 2 = 0; omega)) dX3_gather_54 kS_X3_59 rfl rfl (Nat.le_of_ble_eq_true rfl) ⟨(Nat.le_of_ble_eq_true rfl), (Nat.le_of_ble_eq_true rfl)⟩ hph pl17 (show 0 + 0 = 0 from rfl) (by decide) (fun rh15 Lh15 clh15 lnh15 ivh15 rvh15 h15 => ?_)
          obtain ⟨rfl, xl15, fl15, W15, exf15, gpxf15⟩ := h15
          refine hv9 (F7.call X5 fl15 rfl) (xl7.ty ty24) (xl7.ty ty25) (xl7.ty ty26) (xl7.ty ty27) (xl7.ty ty28) (xl7.ty trb5) (X5.trans xl15) (xl15.skl sk5) (fun F15 ty103 ty104 ty105 ty106 ty107 ty108 X13 sk13 => ?_)
          refine c_st (st2 := []) rfl ?_
          refine hv4 (xl15.ty ty102) (show ivh15 (sk 25) 2 ≤ 6002 from exf15) (show GLQ sk ln iv rv a1 Lh15 clh15 lnh15 ivh15 rvh15 (sk 25) (fun a i => rws1 a (a 9 i.toNat)) from (GLQ.sub3 gpxf15 (QT.of hW hS X5 F7 rfl rfl rfl rfl rfl) nq3)) (show GLQ sk ln iv rv a1 Lh15 clh15 lnh15 ivh15 rvh15 (sk 24) (fun a i => rws1 a (a 8 i.toNat) ++ indl a (4 * i + ((2 : Nat) : Int))) from (gl14.mv (QT.of W7 sk5 xl15 fl15 rfl rfl rfl rfl rfl) (el24.fr W7 sk5 fl15 rfl rfl).1 (el24.fr W7 sk5 fl15 rfl rfl).2)) (fun ty109 gf15 gl34 gl35 => ?_)
          have ri36 : 0 ≤ ivh15 (sk 25) 2 ∧ ivh15 (sk 25) 2 ≤ 6003 := W15.int ty109 2
          refine c_aload_n (j := 0) (x := a0) C dX3_gather_57 rfl ?_
          refine hv2 (xl15.ty ty31) (show rvh15 a0 1 = rvh7 a0 1 from (fl15.r ty31 rfl 1)) (fun ty110 re26 => ?_)
          rw [re12] at re26
          refine c_getr (k := 1) C ck_4 dX3_gather_58 w1_193 (by decide) ty110 rfl rfl (by decide) rfl re26 ?_
          refine c_st (st2 := [.ref (sk 25)]) rfl ?_
          refine c_aload_n (j := 1) (x := a1) C dX3_gather_61 rfl ?_
          refine hv2 (xl15.ty ty32) (show rvh7 a1 6 = rvh6 a1 6 from (fl7.r ty23 rfl 6)) (fun ty111 re27 => ?_)
          rw [rq5] at re27
          have re28 : rvh15 a1 6 = rvh7 a1 6 := (fl15.r ty32 rfl 6)
          rw [re27] at re28
          refine c_getr (k := 6) C ck_10 dX3_gather_62 w2_193 (by decide) ty111 rfl rfl (by decide) rfl re28 ?_
          refine c_st (st2 := [.ref rb5, .ref (sk 25)]) rfl ?_
          refine c_iconst C dX3_gather_65 ?_
          have ty112 := xl15.ty ty108
          have ll3 : 4 ≤ lnh15 rb5 ∧ lnh15 rb5 ≤ 4 := W15.len ty112 rfl
          rcases W15.opt ty112 ((3 : Int).toNat) rfl rfl with ⟨nq5, _⟩ | ⟨nb5, nq5, tnb5⟩
          · refine c_aaldR C dX3_gather_66 ty112 rfl (by omega) (by omega) (by omega) nq5 ?_
            refine c_st (st2 := [.null, .ref (sk 25)]) rfl ?_
            have pl18 := Phi.le W15 sk13
            refine d_callS (As := [.ref (sk 25), .null]) (rest := []) C hM (G_addInd_25 (a0 := (sk 25)) (r := none) W15 sk13 ty109 (fun _ q => by cases q)  (by show ivh15 (sk 25) 2 < 6003; omega)) dX3_gather_67 kS_X3_67 rfl rfl (Nat.le_of_ble_eq_true rfl) ⟨(Nat.le_of_ble_eq_true rfl), (Nat.le_of_ble_eq_true rfl)⟩ hph pl18 (show 0 + 0 = 0 from rfl) (by decide) (fun rh16 Lh16 clh16 lnh16 ivh16 rvh16 h16 => ?_)
            obtain ⟨rfl, xl16, fl16, W16, exf16, ladf16⟩ := h16
            refine hv10 (F15.call X13 fl16 rfl) (xl15.ty ty103) (xl15.ty ty104) (xl15.ty ty105) (xl15.ty ty106) (xl15.ty ty107) (xl15.ty ty30) (xl15.ty tnb3) (X13.trans xl16) (xl16.skl sk13) (fun F16 ty113 ty114 ty115 ty116 ty117 ty118 ty119 X14 sk14 => ?_)
            refine c_st (st2 := []) rfl ?_
            refine hv4 (xl16.ty ty109) (show ivh15 (sk 25) 2 ≤ ivh16 (sk 25) 2 ∧ ivh16 (sk 25) 2 ≤ ivh15 (sk 25) 2 + 1 from exf16) (show GLQ sk ln iv rv a1 Lh16 clh16 lnh16 ivh16 rvh16 (sk 25) (fun a i => rws1 a (a 9 i.toNat) ++ indl a (4 * i + ((3 : Nat) : Int))) from (gl34.ind (j := 3) (QT.of hW hS X13 F15 rfl rfl rfl rfl rfl) (QT.of W15 sk13 xl16 fl16 rfl rfl rfl rfl rfl) ty112 re28 nq5 ladf16 (by decide))) (show GLQ sk ln iv rv a1 Lh16 clh16 lnh16 ivh16 rvh16 (sk 24) (fun a i => rws1 a (a 8 i.toNat) ++ indl a (4 * i + ((2 : Nat) : Int))) from (gl35.mv (QT.of W15 sk13 xl16 fl16 rfl rfl rfl rfl rfl) (el24.fr W15 sk13 fl16 rfl rfl).1 (el24.fr W15 sk13 fl16 rfl rfl).2)) (fun ty120 gf16 gl36 gl37 => ?_)
            have ri37 : 0 ≤ ivh16 (sk 25) 2 ∧ ivh16 (sk 25) 2 ≤ 6003 := W16.int ty120 2
            refine c_goto (tgt := 81) C dX3_gather_70 (by decide) ?_
            refine hv5 (xl16.ty ty111) (show ivh16 a1 0 = ivh15 a1 0 from fl16.i ty111 rfl 0) (show ivh15 a1 0 = ivh7 a1 0 from fl15.i ty32 rfl 0) (show ivh7 a1 0 = ivh6 a1 0 from fl7.i ty23 rfl 0) (show ivh6 a1 0 = ivh2 a1 0 from fl6.i t_a1 rfl 0) (fun ty121 ie46 ie47 ie48 ie49 => ?_)
            have ri38 : (-2147483648) ≤ ivh16 a1 0 ∧ ivh16 a1 0 ≤ 2147483647 := W16.int ty121 0
            have gl38 : GLQ sk ln iv rv a1 Lh16 clh16 lnh16 ivh16 rvh16 (sk 24) gat0 := (gl37.g0 (by omega))
            have gl39 : GLQ sk ln iv rv a1 Lh16 clh16 lnh16 ivh16 rvh16 (sk 25) gat1 := (gl36.g1 (by omega))
            refine c_aload_n (j := 0) (x := a0) C dX3_gather_81 rfl ?_
            refine hv2 (xl16.ty ty110) (show rvh7 a0 0 = rvh6 a0 0 from (fl7.r ty22 rfl 0)) (fun ty122 re29 => ?_)
            rw [re9] at re29
            have re30 : rvh15 a0 0 = rvh7 a0 0 := (fl15.r ty31 rfl 0)
            rw [re29] at re30
            have re31 : rvh16 a0 0 = rvh15 a0 0 := (fl16.r ty110 rfl 0)
            rw [re30] at re31
            refine c_getr (k := 0) C ck_4 dX3_gather_82 w1_190 (by decide) ty122 rfl rfl (by decide) rfl re31 ?_
            refine c_st (st2 := [.ref (sk 24)]) rfl ?_
            refine c_aload_n (j := 0) (x := a0) C dX3_gather_85 rfl ?_
            obtain ⟨rb10, rq10, trb10⟩ := W16.ref ty122 2 rfl rfl rfl
            have erb10 := W16.sk trb10 (by decide) rfl
            subst erb10
            refine c_getr (k := 2) C ck_4 dX3_gather_86 w1_196 (by decide) ty122 rfl rfl (by decide) rfl rq10 ?_
            refine c_st (st2 := [.ref (sk 6), .ref (sk 24)]) rfl ?_
            refine hv5 (xl16.ty ty118) (show ivh16 (sk 24) 2 = ivh15 (sk 24) 2 from fl16.i ty118 rfl 2) (show ivh15 (sk 24) 2 = ivh7 (sk 24) 2 from fl15.i ty30 rfl 2) (xl16.ty ty113) (Phi.le W16 sk14) (fun ty123 ie50 ie51 ty124 pl19 => ?_)
            have ri39 : 0 ≤ ivh16 (sk 24) 2 ∧ ivh16 (sk 24) 2 ≤ 6003 := W16.int ty123 2
            refine d_callS (As := [.ref (sk 24), .ref (sk 6)]) (rest := []) C hM (G_markBegins_24 (a0 := (sk 24)) (a1 := (sk 6)) W16 sk14 ty123 ty124  ) dX3_gather_89 kS_X3_73 rfl rfl (Nat.le_of_ble_eq_true rfl) ⟨(Nat.le_of_ble_eq_true rfl), (Nat.le_of_ble_eq_true rfl)⟩ hph pl19 (show 0 + 0 = 0 from rfl) (by decide) (fun rh17 Lh17 clh17 lnh17 ivh17 rvh17 h17 => ?_)
            obtain ⟨rfl, xl17, fl17, W17, exf17⟩ := h17
            refine hv9 (F16.call X14 fl17 rfl) (xl16.ty ty114) (xl16.ty ty115) (xl16.ty ty116) (xl16.ty ty117) (xl16.ty ty112) (xl16.ty ty119) (X14.trans xl17) (xl17.skl sk14) (fun F17 ty125 ty126 ty127 ty128 ty129 ty130 X15 sk15 => ?_)
            refine c_st (st2 := []) rfl ?_
            refine hv6 (xl17.ty ty124) (show ivh17 (sk 6) 2 = ivh16 (sk 24) 2 ∧ MBX Lh16 clh16 lnh16 ivh16 rvh16 (sk 24) ivh17 rvh17 (sk 6) from exf17) (show GLQ sk ln iv rv a1 Lh17 clh17 lnh17 ivh17 rvh17 (sk 24) gat0 from (gl38.mv (QT.of W16 sk14 xl17 fl17 rfl rfl rfl rfl rfl) (el24.fr W16 sk14 fl17 rfl rfl).1 (el24.fr W16 sk14 fl17 rfl rfl).2)) (show GLQ sk ln iv rv a1 Lh17 clh17 lnh17 ivh17 rvh17 (sk 25) gat1 from (gl39.mv (QT.of W16 sk14 xl17 fl17 rfl rfl rfl rfl rfl) (el25.fr W16 sk14 fl17 rfl rfl).1 (el25.fr W16 sk14 fl17 rfl rfl).2)) (xl17.ty ty123) (show ivh17 (sk 24) 2 = ivh16 (sk 24) 2 from fl17.i ty123 rfl 2) (fun ty131 gf17 gl40 gl41 ty132 ie53 => ?_)
            refine hv2 (show 0 ≤ ivh17 (sk 6) 2 ∧ ivh17 (sk 6) 2 ≤ 6003 from W17.int ty131 2) (show 0 ≤ ivh17 (sk 24) 2 ∧ ivh17 (sk 24) 2 ≤ 6003 from W17.int ty132 2) (fun ri40 ri41 => ?_)
            have gb10 := GBQ.mk gl38 gf17.2 (by omega) (by omega)
            refine c_aload_n (j := 0) (x := a0) C dX3_gather_92 rfl ?_
            refine hv2 (xl17.ty ty122) (show rvh16 a0 1 = rvh15 a0 1 from (fl16.r ty110 rfl 1)) (fun ty133 re32 => ?_)
            rw [re26] at re32
            have re33 : rvh17 a0 1 = rvh16 a0 1 := (fl17.r ty122 rfl 1)
            rw [re32] at re33
            refine c_getr (k := 1) C ck_4 dX3_gather_93 w1_193 (by decide) ty133 rfl rfl (by decide) rfl re33 ?_
            refine c_st (st2 := [.ref (sk 25)]) rfl ?_
            refine c_aload_n (j := 0) (x := a0) C dX3_gather_96 rfl ?_
            obtain ⟨rb11, rq11, trb11⟩ := W17.ref ty133 3 rfl rfl rfl
            have erb11 := W17.sk trb11 (by decide) rfl
            subst erb11
            refine c_getr (k := 3) C ck_4 dX3_gather_97 w1_197 (by decide) ty133 rfl rfl (by decide) rfl rq11 ?_
            refine c_st (st2 := [.ref (sk 7), .ref (sk 25)]) rfl ?_
            refine hv4 (xl17.ty ty120) (show ivh17 (sk 25) 2 = ivh16 (sk 25) 2 from fl17.i ty120 rfl 2) (xl17.ty ty125) (Phi.le W17 sk15) (fun ty134 ie54 ty135 pl20 => ?_)
            have ri42 : 0 ≤ ivh17 (sk 25) 2 ∧ ivh17 (sk 25) 2 ≤ 6003 := W17.int ty134 2
            refine d_callS (As := [.ref (sk 25), .ref (sk 7)]) (rest := []) C hM (G_markBegins_25 (a0 := (sk 25)) (a1 := (sk 7)) W17 sk15 ty134 ty135  ) dX3_gather_100 kS_X3_73 rfl rfl (Nat.le_of_ble_eq_true rfl) ⟨(Nat.le_of_ble_eq_true rfl), (Nat.le_of_ble_eq_true rfl)⟩ hph pl20 (show 0 + 0 = 0 from rfl) (by decide) (fun rh18 Lh18 clh18 lnh18 ivh18 rvh18 h18 => ?_)
            obtain ⟨rfl, xl18, fl18, W18, exf18⟩ := h18
            refine hv9 (F17.call X15 fl18 rfl) (xl17.ty ty121) (xl17.ty ty126) (xl17.ty ty127) (xl17.ty ty128) (xl17.ty ty129) (xl17.ty ty130) (X15.trans xl18) (xl18.skl sk15) (fun F18 ty136 ty137 ty138 ty139 ty140 ty141 X16 sk16 => ?_)
            refine c_st (st2 := []) rfl ?_
            refine hv8 (xl18.ty ty135) (show ivh18 (sk 7) 2 = ivh17 (sk 25) 2 ∧ MBX Lh17 clh17 lnh17 ivh17 rvh17 (sk 25) ivh18 rvh18 (sk 7) from exf18) (show GLQ sk ln iv rv a1 Lh18 clh18 lnh18 ivh18 rvh18 (sk 24) gat0 from (gl40.mv (QT.of W17 sk15 xl18 fl18 rfl rfl rfl rfl rfl) (el24.fr W17 sk15 fl18 rfl rfl).1 (el24.fr W17 sk15 fl18 rfl rfl).2)) (show GLQ sk ln iv rv a1 Lh18 clh18 lnh18 ivh18 rvh18 (sk 25) gat1 from (gl41.mv (QT.of W17 sk15 xl18 fl18 rfl rfl rfl rfl rfl) (el25.fr W17 sk15 fl18 rfl rfl).1 (el25.fr W17 sk15 fl18 rfl rfl).2)) (xl18.ty ty134) (show ivh18 (sk 25) 2 = ivh17 (sk 25) 2 from fl18.i ty134 rfl 2) (gb10.fr W17 ty132 ty131 fl18 rfl rfl rfl rfl rfl rfl) (Phi.le W18 sk16) (fun ty142 gf18 gl42 gl43 ty143 ie56 gb12 pl21 => ?_)
            refine hv2 (show 0 ≤ ivh18 (sk 7) 2 ∧ ivh18 (sk 7) 2 ≤ 6003 from W18.int ty142 2) (show 0 ≤ ivh18 (sk 25) 2 ∧ ivh18 (sk 25) 2 ≤ 6003 from W18.int ty143 2) (fun ri43 ri44 => ?_)
            have gb11 := GBQ.mk gl41 gf18.2 (by omega) (by omega)
            exact c_vret C dX3_gather_103 rfl (by decide) (rom0 hph pl21 (by decide)) ⟨rfl, X16, F18, W18, trivial, ⟨gl42, gl43⟩, ⟨gb12, gb11⟩⟩
          · have tnb5 : ty Lh15 clh15 nb5 20 := tnb5
            refine c_aaldR C dX3_gather_66 ty112 rfl (by omega) (by omega) (by omega) nq5 ?_
            refine c_st (st2 := [.ref nb5, .ref (sk 25)]) rfl ?_
            have pl22 := Phi.le W15 sk13
            refine d_callS (As := [.ref (sk 25), .ref nb5]) (rest := []) C hM (G_addInd_25 (a0 := (sk 25)) (r := (some nb5)) W15 sk13 ty109 (fun _ q => by cases q; exact tnb5)  (by show ivh15 (sk 25) 2 < 6003; omega)) dX3_gather_67 kS_X3_67 rfl rfl (Nat.le_of_ble_eq_true rfl) ⟨(Nat.le_of_ble_eq_true rfl), (Nat.le_of_ble_eq_true rfl)⟩ hph pl22 (show 0 + 0 = 0 from rfl) (by decide) (fun rh19 Lh19 clh19 lnh19 ivh19 rvh19 h19 => ?_)
            obtain ⟨rfl, xl19, fl19, W19, exf19, ladf19⟩ := h19
            refine hv10 (F15.call X13 fl19 rfl) (xl15.ty ty103) (xl15.ty ty104) (xl15.ty ty105) (xl15.ty ty106) (xl15.ty ty107) (xl15.ty ty30) (xl15.ty tnb3) (X13.trans xl19) (xl19.skl sk13) (fun F19 ty144 ty145 ty146 ty147 ty148 ty149 ty150 X17 sk17 => ?_)
            refine c_st (st2 := []) rfl ?_
            refine hv4 (xl19.ty ty109) (show ivh15 (sk 25) 2 ≤ ivh19 (sk 25) 2 ∧ ivh19 (sk 25) 2 ≤ ivh15 (sk 25) 2 + 1 from exf19) (show GLQ sk ln iv rv a1 Lh19 clh19 lnh19 ivh19 rvh19 (sk 25) (fun a i => rws1 a (a 9 i.toNat) ++ indl a (4 * i + ((3 : Nat) : Int))) from (gl34.ind (j := 3) (QT.of hW hS X13 F15 rfl rfl rfl rfl rfl) (QT.of W15 sk13 xl19 fl19 rfl rfl rfl rfl rfl) ty112 re28 nq5 ladf19 (by decide))) (show GLQ sk ln iv rv a1 Lh19 clh19 lnh19 ivh19 rvh19 (sk 24) (fun a i => rws1 a (a 8 i.toNat) ++ indl a (4 * i + ((2 : Nat) : Int))) from (gl35.mv (QT.of W15 sk13 xl19 fl19 rfl rfl rfl rfl rfl) (el24.fr W15 sk13 fl19 rfl rfl).1 (el24.fr W15 sk13 fl19 rfl rfl).2)) (fun ty151 gf19 gl44 gl45 => ?_)
            have ri45 : 0 ≤ ivh19 (sk 25) 2 ∧ ivh19 (sk 25) 2 ≤ 6003 := W19.int ty151 2
            refine c_goto (tgt := 81) C dX3_gather_70 (by decide) ?_
            refine hv5 (xl19.ty ty111) (show ivh19 a1 0 = ivh15 a1 0 from fl19.i ty111 rfl 0) (show ivh15 a1 0 = ivh7 a1 0 from fl15.i ty32 rfl 0) (show ivh7 a1 0 = ivh6 a1 0 from fl7.i ty23 rfl 0) (show ivh6 a1 0 = ivh2 a1 0 from fl6.i t_a1 rfl 0) (fun ty152 ie58 ie59 ie60 ie61 => ?_)
            have ri46 : (-2147483648) ≤ ivh19 a1 0 ∧ ivh19 a1 0 ≤ 2147483647 := W19.int ty152 0
            have gl46 : GLQ sk ln iv rv a1 Lh19 clh19 lnh19 ivh19 rvh19 (sk 24) gat0 := (gl45.g0 (by omega))
            have gl47 : GLQ sk ln iv rv a1 Lh19 clh19 lnh19 ivh19 rvh19 (sk 25) gat1 := (gl44.g1 (by omega))
            refine c_aload_n (j := 0) (x := a0) C dX3_gather_81 rfl ?_
            refine hv2 (xl19.ty ty110) (show rvh7 a0 0 = rvh6 a0 0 from (fl7.r ty22 rfl 0)) (fun ty153 re34 => ?_)
            rw [re9] at re34
            have re35 : rvh15 a0 0 = rvh7 a0 0 := (fl15.r ty31 rfl 0)
            rw [re34] at re35
            have re36 : rvh19 a0 0 = rvh15 a0 0 := (fl19.r ty110 rfl 0)
            rw [re35] at re36
            refine c_getr (k := 0) C ck_4 dX3_gather_82 w1_190 (by decide) ty153 rfl rfl (by decide) rfl re36 ?_
            refine c_st (st2 := [.ref (sk 24)]) rfl ?_
            refine c_aload_n (j := 0) (x := a0) C dX3_gather_85 rfl ?_
            obtain ⟨rb12, rq12, trb12⟩ := W19.ref ty153 2 rfl rfl rfl
            have erb12 := W19.sk trb12 (by decide) rfl
            subst erb12
            refine c_getr (k := 2) C ck_4 dX3_gather_86 w1_196 (by decide) ty153 rfl rfl (by decide) rfl rq12 ?_
            refine c_st (st2 := [.ref (sk 6), .ref (sk 24)]) rfl ?_
            refine hv5 (xl19.ty ty149) (show ivh19 (sk 24) 2 = ivh15 (sk 24) 2 from fl19.i ty149 rfl 2) (show ivh15 (sk 24) 2 = ivh7 (sk 24) 2 from fl15.i ty30 rfl 2) (xl19.ty ty144) (Phi.le W19 sk17) (fun ty154 ie62 ie63 ty155 pl23 => ?_)
            have ri47 : 0 ≤ ivh19 (sk 24) 2 ∧ ivh19 (sk 24) 2 ≤ 6003 := W19.int ty154 2
            refine d_callS (As := [.ref (sk 24), .ref (sk 6)]) (rest := []) C hM (G_markBegins_24 (a0 := (sk 24)) (a1 := (sk 6)) W19 sk17 ty154 ty155  ) dX3_gather_89 kS_X3_73 rfl rfl (Nat.le_of_ble_eq_true rfl) ⟨(Nat.le_of_ble_eq_true rfl), (Nat.le_of_ble_eq_true rfl)⟩ hph pl23 (show 0 + 0 = 0 from rfl) (by decide) (fun rh20 Lh20 clh20 lnh20 ivh20 rvh20 h20 => ?_)
            obtain ⟨rfl, xl20, fl20, W20, exf20⟩ := h20
            refine hv10 (F19.call X17 fl20 rfl) (xl19.ty ty145) (xl19.ty ty146) (xl19.ty ty147) (xl19.ty ty148) (xl19.ty ty112) (xl19.ty ty150) (xl19.ty tnb5) (X17.trans xl20) (xl20.skl sk17) (fun F20 ty156 ty157 ty158 ty159 ty160 ty161 ty162 X18 sk18 => ?_)
            refine c_st (st2 := []) rfl ?_
            refine hv6 (xl20.ty ty155) (show ivh20 (sk 6) 2 = ivh19 (sk 24) 2 ∧ MBX Lh19 clh19 lnh19 ivh19 rvh19 (sk 24) ivh20 rvh20 (sk 6) from exf20) (show GLQ sk ln iv rv a1 Lh20 clh20 lnh20 ivh20 rvh20 (sk 24) gat0 from (gl46.mv (QT.of W19 sk17 xl20 fl20 rfl rfl rfl rfl rfl) (el24.fr W19 sk17 fl20 rfl rfl).1 (el24.fr W19 sk17 fl20 rfl rfl).2)) (show GLQ sk ln iv rv a1 Lh20 clh20 lnh20 ivh20 rvh20 (sk 25) gat1 from (gl47.mv (QT.of W19 sk17 xl20 fl20 rfl rfl rfl rfl rfl) (el25.fr W19 sk17 fl20 rfl rfl).1 (el25.fr W19 sk17 fl20 rfl rfl).2)) (xl20.ty ty154) (show ivh20 (sk 24) 2 = ivh19 (sk 24) 2 from fl20.i ty154 rfl 2) (fun ty163 gf20 gl48 gl49 ty164 ie65 => ?_)
            refine hv2 (show 0 ≤ ivh20 (sk 6) 2 ∧ ivh20 (sk 6) 2 ≤ 6003 from W20.int ty163 2) (show 0 ≤ ivh20 (sk 24) 2 ∧ ivh20 (sk 24) 2 ≤ 6003 from W20.int ty164 2) (fun ri48 ri49 => ?_)
            have gb13 := GBQ.mk gl46 gf20.2 (by omega) (by omega)
            refine c_aload_n (j := 0) (x := a0) C dX3_gather_92 rfl ?_
            refine hv2 (xl20.ty ty153) (show rvh19 a0 1 = rvh15 a0 1 from (fl19.r ty110 rfl 1)) (fun ty165 re37 => ?_)
            rw [re26] at re37
            have re38 : rvh20 a0 1 = rvh19 a0 1 := (fl20.r ty153 rfl 1)
            rw [re37] at re38
            refine c_getr (k := 1) C ck_4 dX3_gather_93 w1_193 (by decide) ty165 rfl rfl (by decide) rfl re38 ?_
            refine c_st (st2 := [.ref (sk 25)]) rfl ?_
            refine c_aload_n (j := 0) (x := a0) C dX3_gather_96 rfl ?_
            obtain ⟨rb13, rq13, trb13⟩ := W20.ref ty165 3 rfl rfl rfl
            have erb13 := W20.sk trb13 (by decide) rfl
            subst erb13
            refine c_getr (k := 3) C ck_4 dX3_gather_97 w1_197 (by decide) ty165 rfl rfl (by decide) rfl rq13 ?_
            refine c_st (st2 := [.ref (sk 7), .ref (sk 25)]) rfl ?_
            refine hv4 (xl20.ty ty151) (show ivh20 (sk 25) 2 = ivh19 (sk 25) 2 from fl20.i ty151 rfl 2) (xl20.ty ty156) (Phi.le W20 sk18) (fun ty166 ie66 ty167 pl24 => ?_)
            have ri50 : 0 ≤ ivh20 (sk 25) 2 ∧ ivh20 (sk 25) 2 ≤ 6003 := W20.int ty166 2
            refine d_callS (As := [.ref (sk 25), .ref (sk 7)]) (rest := []) C hM (G_markBegins_25 (a0 := (sk 25)) (a1 := (sk 7)) W20 sk18 ty166 ty167  ) dX3_gather_100 kS_X3_73 rfl rfl (Nat.le_of_ble_eq_true rfl) ⟨(Nat.le_of_ble_eq_true rfl), (Nat.le_of_ble_eq_true rfl)⟩ hph pl24 (show 0 + 0 = 0 from rfl) (by decide) (fun rh21 Lh21 clh21 lnh21 ivh21 rvh21 h21 => ?_)
            obtain ⟨rfl, xl21, fl21, W21, exf21⟩ := h21
            refine hv10 (F20.call X18 fl21 rfl) (xl20.ty ty152) (xl20.ty ty157) (xl20.ty ty158) (xl20.ty ty159) (xl20.ty ty160) (xl20.ty ty161) (xl20.ty ty162) (X18.trans xl21) (xl21.skl sk18) (fun F21 ty168 ty169 ty170 ty171 ty172 ty173 ty174 X19 sk19 => ?_)
            refine c_st (st2 := []) rfl ?_
            refine hv8 (xl21.ty ty167) (show ivh21 (sk 7) 2 = ivh20 (sk 25) 2 ∧ MBX Lh20 clh20 lnh20 ivh20 rvh20 (sk 25) ivh21 rvh21 (sk 7) from exf21) (show GLQ sk ln iv rv a1 Lh21 clh21 lnh21 ivh21 rvh21 (sk 24) gat0 from (gl48.mv (QT.of W20 sk18 xl21 fl21 rfl rfl rfl rfl rfl) (el24.fr W20 sk18 fl21 rfl rfl).1 (el24.fr W20 sk18 fl21 rfl rfl).2)) (show GLQ sk ln iv rv a1 Lh21 clh21 lnh21 ivh21 rvh21 (sk 25) gat1 from (gl49.mv (QT.of W20 sk18 xl21 fl21 rfl rfl rfl rfl rfl) (el25.fr W20 sk18 fl21 rfl rfl).1 (el25.fr W20 sk18 fl21 rfl rfl).2)) (xl21.ty ty166) (show ivh21 (sk 25) 2 = ivh20 (sk 25) 2 from fl21.i ty166 rfl 2) (gb13.fr W20 ty164 ty163 fl21 rfl rfl rfl rfl rfl rfl) (Phi.le W21 sk19) (fun ty175 gf21 gl50 gl51 ty176 ie68 gb15 pl25 => ?_)
            refine hv2 (show 0 ≤ ivh21 (sk 7) 2 ∧ ivh21 (sk 7) 2 ≤ 6003 from W21.int ty175 2) (show 0 ≤ ivh21 (sk 25) 2 ∧ ivh21 (sk 25) 2 ≤ 6003 from W21.int ty176 2) (fun ri51 ri52 => ?_)
            have gb14 := GBQ.mk gl49 gf21.2 (by omega) (by omega)
            exact c_vret C dX3_gather_103 rfl (by decide) (rom0 hph pl25 (by decide)) ⟨rfl, X19, F21, W21, trivial, ⟨gl50, gl51⟩, ⟨gb15, gb14⟩⟩
      · have tnb2 : ty Lh6 clh6 nb2 20 := tnb2
        refine c_aaldR C dX3_gather_42 trb5 rfl (by omega) (by omega) (by omega) nq2 ?_
        refine c_st (st2 := [.ref nb2, .ref (sk 24)]) rfl ?_
        have pl26 := Phi.le W6 sk4
        refine d_callS (As := [.ref (sk 24), .ref nb2]) (rest := []) C hM (G_addInd_24 (a0 := (sk 24)) (r := (some nb2)) W6 sk4 ty21 (fun _ q => by cases q; exact tnb2)  (by show ivh6 (sk 24) 2 < 6003; omega)) dX3_gather_43 kS_X3_67 rfl rfl (Nat.le_of_ble_eq_true rfl) ⟨(Nat.le_of_ble_eq_true rfl), (Nat.le_of_ble_eq_true rfl)⟩ hph pl26 (show 0 + 0 = 0 from rfl) (by decide) (fun rh22 Lh22 clh22 lnh22 ivh22 rvh22 h22 => ?_)
        obtain ⟨rfl, xl22, fl22, W22, exf22, ladf22⟩ := h22
        refine hv9 (F6.call X4 fl22 rfl) (xl6.ty tsk6) (xl6.ty tsk7) (xl6.ty tsk8) (xl6.ty tsk9) (xl6.ty tsk10) (xl6.ty tsk25) (X4.trans xl22) (xl22.skl sk4) (fun F22 ty177 ty178 ty179 ty180 ty181 ty182 X20 sk20 => ?_)
        refine c_st (st2 := []) rfl ?_
        refine hv4 (xl22.ty ty21) (show ivh6 (sk 24) 2 ≤ ivh22 (sk 24) 2 ∧ ivh22 (sk 24) 2 ≤ ivh6 (sk 24) 2 + 1 from exf22) (show GLQ sk ln iv rv a1 Lh22 clh22 lnh22 ivh22 rvh22 (sk 24) (fun a i => rws1 a (a 8 i.toNat) ++ indl a (4 * i + ((2 : Nat) : Int))) from (gl12.ind (j := 2) (QT.of hW hS X4 F6 rfl rfl rfl rfl rfl) (QT.of W6 sk4 xl22 fl22 rfl rfl rfl rfl rfl) trb5 rq5 nq2 ladf22 (by decide))) (show GLQ sk ln iv rv a1 Lh22 clh22 lnh22 ivh22 rvh22 (sk 25) (fun _ _ => []) from (gl13.mv (QT.of W6 sk4 xl22 fl22 rfl rfl rfl rfl rfl) (el25.fr W6 sk4 fl22 rfl rfl).1 (el25.fr W6 sk4 fl22 rfl rfl).2)) (fun ty183 gf22 gl52 gl53 => ?_)
        have ri53 : 0 ≤ ivh22 (sk 24) 2 ∧ ivh22 (sk 24) 2 ≤ 6003 := W22.int ty183 2
        refine c_aload_n (j := 0) (x := a0) C dX3_gather_46 rfl ?_
        refine hv2 (xl22.ty ty22) (show rvh2 a0 1 = rvh1 a0 1 from (fl2.r t_a0 rfl 1)) (fun ty184 re39 => ?_)
        rw [rq2] at re39
        have re40 : rvh6 a0 1 = rvh2 a0 1 := (fl6.r t_a0 rfl 1)
        rw [re39] at re40
        have re41 : rvh22 a0 1 = rvh6 a0 1 := (fl22.r ty22 rfl 1)
        rw [re40] at re41
        refine c_getr (k := 1) C ck_4 dX3_gather_47 w1_193 (by decide) ty184 rfl rfl (by decide) rfl re41 ?_
        refine c_st (st2 := [.ref (sk 25)]) rfl ?_
        refine c_aload_n (j := 1) (x := a1) C dX3_gather_50 rfl ?_
        have ty185 := xl22.ty ty23
        rcases W22.opt ty185 3 rfl rfl with ⟨nq6, _⟩ | ⟨nb6, nq6, tnb6⟩
        · refine c_getr (k := 3) C ck_10 dX3_gather_51 w2_184 (by decide) ty185 rfl rfl (by decide) rfl nq6 ?_
          refine c_st (st2 := [.null, .ref (sk 25)]) rfl ?_
          refine hv7 (show (-2147483648) ≤ ivh22 a1 0 ∧ ivh22 a1 0 ≤ 2147483647 from W22.int ty185 0) (show ivh22 a1 0 = ivh6 a1 0 from fl22.i ty23 rfl 0) (show ivh6 a1 0 = ivh2 a1 0 from fl6.i t_a1 rfl 0) (xl22.ty ty182) (show ivh22 (sk 25) 2 = ivh6 (sk 25) 2 from fl22.i ty182 rfl 2) (show ivh6 (sk 25) 2 = ivh2 (sk 25) 2 from fl6.i tsk25 rfl 2) (Phi.le W22 sk20) (fun ri54 ie70 ie71 ty186 ie72 ie73 pl27 => ?_)
          have ri55 : 0 ≤ ivh22 (sk 25) 2 ∧ ivh22 (sk 25) 2 ≤ 6003 := W22.int ty186 2
          refine d_callS (As := [.ref (sk 25), .null]) (rest := []) C hM (C_gatherPart_25 (a0 := (sk 25)) (r := none) W22 sk20 ty186 (fun _ q => by cases q)  (by show ivh22 (sk 25) 2 = 0; omega)) dX3_gather_54 kS_X3_59 rfl rfl (Nat.le_of_ble_eq_true rfl) ⟨(Nat.le_of_ble_eq_true rfl), (Nat.le_of_ble_eq_true rfl)⟩ hph pl27 (show 0 + 0 = 0 from rfl) (by decide) (fun rh23 Lh23 clh23 lnh23 ivh23 rvh23 h23 => ?_)
          obtain ⟨rfl, xl23, fl23, W23, exf23⟩ := h23
          refine hv10 (F22.call X20 fl23 rfl) (xl22.ty ty177) (xl22.ty ty178) (xl22.ty ty179) (xl22.ty ty180) (xl22.ty ty181) (xl22.ty trb5) (xl22.ty tnb2) (X20.trans xl23) (xl23.skl sk20) (fun F23 ty187 ty188 ty189 ty190 ty191 ty192 ty193 X21 sk21 => ?_)
          refine c_st (st2 := []) rfl ?_
          refine hv3 (xl23.ty ty186) (show ivh23 (sk 25) 2 ≤ 6002 from exf23) (show GLQ sk ln iv rv a1 Lh23 clh23 lnh23 ivh23 rvh23 (sk 24) (fun a i => rws1 a (a 8 i.toNat) ++ indl a (4 * i + ((2 : Nat) : Int))) from (gl52.mv (QT.of W22 sk20 xl23 fl23 rfl rfl rfl rfl rfl) (el24.fr W22 sk20 fl23 rfl rfl).1 (el24.fr W22 sk20 fl23 rfl rfl).2)) (fun ty194 gf23 gl55 => ?_)
          have ri56 : 0 ≤ ivh23 (sk 25) 2 ∧ ivh23 (sk 25) 2 ≤ 6003 := W23.int ty194 2
          have gl54 : GLQ sk ln iv rv a1 Lh23 clh23 lnh23 ivh23 rvh23 (sk 25) (fun a i => rws1 a (a 9 i.toNat)) := (GLQ.no3 (QT.of hW hS X20 F22 rfl rfl rfl rfl rfl) (by omega) nq6)
          refine c_aload_n (j := 0) (x := a0) C dX3_gather_57 rfl ?_
          refine hv2 (xl23.ty ty184) (show rvh23 a0 1 = rvh22 a0 1 from (fl23.r ty184 rfl 1)) (fun ty195 re42 => ?_)
          rw [re41] at re42
          refine c_getr (k := 1) C ck_4 dX3_gather_58 w1_193 (by decide) ty195 rfl rfl (by decide) rfl re42 ?_
          refine c_st (st2 := [.ref (sk 25)]) rfl ?_
          refine c_aload_n (j := 1) (x := a1) C dX3_gather_61 rfl ?_
          refine hv2 (xl23.ty ty185) (show rvh22 a1 6 = rvh6 a1 6 from (fl22.r ty23 rfl 6)) (fun ty196 re43 => ?_)
          rw [rq5] at re43
          have re44 : rvh23 a1 6 = rvh22 a1 6 := (fl23.r ty185 rfl 6)
          rw [re43] at re44
          refine c_getr (k := 6) C ck_10 dX3_gather_62 w2_193 (by decide) ty196 rfl rfl (by decide) rfl re44 ?_
          refine c_st (st2 := [.ref rb5, .ref (sk 25)]) rfl ?_
          refine c_iconst C dX3_gather_65 ?_
          have ty197 := xl23.ty ty192
          have ll4 : 4 ≤ lnh23 rb5 ∧ lnh23 rb5 ≤ 4 := W23.len ty197 rfl
          rcases W23.opt ty197 ((3 : Int).toNat) rfl rfl with ⟨nq7, _⟩ | ⟨nb7, nq7, tnb7⟩
          · refine c_aaldR C dX3_gather_66 ty197 rfl (by omega) (by omega) (by omega) nq7 ?_
            refine c_st (st2 := [.null, .ref (sk 25)]) rfl ?_
            have pl28 := Phi.le W23 sk21
            refine d_callS (As := [.ref (sk 25), .null]) (rest := []) C hM (G_addInd_25 (a0 := (sk 25)) (r := none) W23 sk21 ty194 (fun _ q => by cases q)  (by show ivh23 (sk 25) 2 < 6003; omega)) dX3_gather_67 kS_X3_67 rfl rfl (Nat.le_of_ble_eq_true rfl) ⟨(Nat.le_of_ble_eq_true rfl), (Nat.le_of_ble_eq_true rfl)⟩ hph pl28 (show 0 + 0 = 0 from rfl) (by decide) (fun rh24 Lh24 clh24 lnh24 ivh24 rvh24 h24 => ?_)
            obtain ⟨rfl, xl24, fl24, W24, exf24, ladf24⟩ := h24
            refine hv10 (F23.call X21 fl24 rfl) (xl23.ty ty187) (xl23.ty ty188) (xl23.ty ty189) (xl23.ty ty190) (xl23.ty ty191) (xl23.ty ty183) (xl23.ty ty193) (X21.trans xl24) (xl24.skl sk21) (fun F24 ty198 ty199 ty200 ty201 ty202 ty203 ty204 X22 sk22 => ?_)
            refine c_st (st2 := []) rfl ?_
            refine hv4 (xl24.ty ty194) (show ivh23 (sk 25) 2 ≤ ivh24 (sk 25) 2 ∧ ivh24 (sk 25) 2 ≤ ivh23 (sk 25) 2 + 1 from exf24) (show GLQ sk ln iv rv a1 Lh24 clh24 lnh24 ivh24 rvh24 (sk 25) (fun a i => rws1 a (a 9 i.toNat) ++ indl a (4 * i + ((3 : Nat) : Int))) from (gl54.ind (j := 3) (QT.of hW hS X21 F23 rfl rfl rfl rfl rfl) (QT.of W23 sk21 xl24 fl24 rfl rfl rfl rfl rfl) ty197 re44 nq7 ladf24 (by decide))) (show GLQ sk ln iv rv a1 Lh24 clh24 lnh24 ivh24 rvh24 (sk 24) (fun a i => rws1 a (a 8 i.toNat) ++ indl a (4 * i + ((2 : Nat) : Int))) from (gl55.mv (QT.of W23 sk21 xl24 fl24 rfl rfl rfl rfl rfl) (el24.fr W23 sk21 fl24 rfl rfl).1 (el24.fr W23 sk21 fl24 rfl rfl).2)) (fun ty205 gf24 gl56 gl57 => ?_)
            have ri57 : 0 ≤ ivh24 (sk 25) 2 ∧ ivh24 (sk 25) 2 ≤ 6003 := W24.int ty205 2
            refine c_goto (tgt := 81) C dX3_gather_70 (by decide) ?_
            refine hv3 (xl24.ty ty196) (show ivh24 a1 0 = ivh23 a1 0 from fl24.i ty196 rfl 0) (show ivh23 a1 0 = ivh22 a1 0 from fl23.i ty185 rfl 0) (fun ty206 ie76 ie77 => ?_)
            have ri58 : (-2147483648) ≤ ivh24 a1 0 ∧ ivh24 a1 0 ≤ 2147483647 := W24.int ty206 0
            have gl58 : GLQ sk ln iv rv a1 Lh24 clh24 lnh24 ivh24 rvh24 (sk 24) gat0 := (gl57.g0 (by omega))
            have gl59 : GLQ sk ln iv rv a1 Lh24 clh24 lnh24 ivh24 rvh24 (sk 25) gat1 := (gl56.g1 (by omega))
            refine c_aload_n (j := 0) (x := a0) C dX3_gather_81 rfl ?_
            refine hv2 (xl24.ty ty195) (show rvh22 a0 0 = rvh6 a0 0 from (fl22.r ty22 rfl 0)) (fun ty207 re45 => ?_)
            rw [re9] at re45
            have re46 : rvh23 a0 0 = rvh22 a0 0 := (fl23.r ty184 rfl 0)
            rw [re45] at re46
            have re47 : rvh24 a0 0 = rvh23 a0 0 := (fl24.r ty195 rfl 0)
            rw [re46] at re47
            refine c_getr (k := 0) C ck_4 dX3_gather_82 w1_190 (by decide) ty207 rfl rfl (by decide) rfl re47 ?_
            refine c_st (st2 := [.ref (sk 24)]) rfl ?_
            refine c_aload_n (j := 0) (x := a0) C dX3_gather_85 rfl ?_
            obtain ⟨rb14, rq14, trb14⟩ := W24.ref ty207 2 rfl rfl rfl
            have erb14 := W24.sk trb14 (by decide) rfl
            subst erb14
            refine c_getr (k := 2) C ck_4 dX3_gather_86 w1_196 (by decide) ty207 rfl rfl (by decide) rfl rq14 ?_
            refine c_st (st2 := [.ref (sk 6), .ref (sk 24)]) rfl ?_
            refine hv5 (xl24.ty ty203) (show ivh24 (sk 24) 2 = ivh23 (sk 24) 2 from fl24.i ty203 rfl 2) (show ivh23 (sk 24) 2 = ivh22 (sk 24) 2 from fl23.i ty183 rfl 2) (xl24.ty ty198) (Phi.le W24 sk22) (fun ty208 ie78 ie79 ty209 pl29 => ?_)
            have ri59 : 0 ≤ ivh24 (sk 24) 2 ∧ ivh24 (sk 24) 2 ≤ 6003 := W24.int ty208 2
            refine d_callS (As := [.ref (sk 24), .ref (sk 6)]) (rest := []) C hM (G_markBegins_24 (a0 := (sk 24)) (a1 := (sk 6)) W24 sk22 ty208 ty209  ) dX3_gather_89 kS_X3_73 rfl rfl (Nat.le_of_ble_eq_true rfl) ⟨(Nat.le_of_ble_eq_true rfl), (Nat.le_of_ble_eq_true rfl)⟩ hph pl29 (show 0 + 0 = 0 from rfl) (by decide) (fun rh25 Lh25 clh25 lnh25 ivh25 rvh25 h25 => ?_)
            obtain ⟨rfl, xl25, fl25, W25, exf25⟩ := h25
            refine hv9 (F24.call X22 fl25 rfl) (xl24.ty ty199) (xl24.ty ty200) (xl24.ty ty201) (xl24.ty ty202) (xl24.ty ty197) (xl24.ty ty204) (X22.trans xl25) (xl25.skl sk22) (fun F25 ty210 ty211 ty212 ty213 ty214 ty215 X23 sk23 => ?_)
            refine c_st (st2 := []) rfl ?_
            refine hv6 (xl25.ty ty209) (show ivh25 (sk 6) 2 = ivh24 (sk 24) 2 ∧ MBX Lh24 clh24 lnh24 ivh24 rvh24 (sk 24) ivh25 rvh25 (sk 6) from exf25) (show GLQ sk ln iv rv a1 Lh25 clh25 lnh25 ivh25 rvh25 (sk 24) gat0 from (gl58.mv (QT.of W24 sk22 xl25 fl25 rfl rfl rfl rfl rfl) (el24.fr W24 sk22 fl25 rfl rfl).1 (el24.fr W24 sk22 fl25 rfl rfl).2)) (show GLQ sk ln iv rv a1 Lh25 clh25 lnh25 ivh25 rvh25 (sk 25) gat1 from (gl59.mv (QT.of W24 sk22 xl25 fl25 rfl rfl rfl rfl rfl) (el25.fr W24 sk22 fl25 rfl rfl).1 (el25.fr W24 sk22 fl25 rfl rfl).2)) (xl25.ty ty208) (show ivh25 (sk 24) 2 = ivh24 (sk 24) 2 from fl25.i ty208 rfl 2) (fun ty216 gf25 gl60 gl61 ty217 ie81 => ?_)
            refine hv2 (show 0 ≤ ivh25 (sk 6) 2 ∧ ivh25 (sk 6) 2 ≤ 6003 from W25.int ty216 2) (show 0 ≤ ivh25 (sk 24) 2 ∧ ivh25 (sk 24) 2 ≤ 6003 from W25.int ty217 2) (fun ri60 ri61 => ?_)
            have gb16 := GBQ.mk gl58 gf25.2 (by omega) (by omega)
            refine c_aload_n (j := 0) (x := a0) C dX3_gather_92 rfl ?_
            refine hv2 (xl25.ty ty207) (show rvh24 a0 1 = rvh23 a0 1 from (fl24.r ty195 rfl 1)) (fun ty218 re48 => ?_)
            rw [re42] at re48
            have re49 : rvh25 a0 1 = rvh24 a0 1 := (fl25.r ty207 rfl 1)
            rw [re48] at re49
            refine c_getr (k := 1) C ck_4 dX3_gather_93 w1_193 (by decide) ty218 rfl rfl (by decide) rfl re49 ?_
            refine c_st (st2 := [.ref (sk 25)]) rfl ?_
            refine c_aload_n (j := 0) (x := a0) C dX3_gather_96 rfl ?_
            obtain ⟨rb15, rq15, trb15⟩ := W25.ref ty218 3 rfl rfl rfl
            have erb15 := W25.sk trb15 (by decide) rfl
            subst erb15
            refine c_getr (k := 3) C ck_4 dX3_gather_97 w1_197 (by decide) ty218 rfl rfl (by decide) rfl rq15 ?_
            refine c_st (st2 := [.ref (sk 7), .ref (sk 25)]) rfl ?_
            refine hv4 (xl25.ty ty205) (show ivh25 (sk 25) 2 = ivh24 (sk 25) 2 from fl25.i ty205 rfl 2) (xl25.ty ty210) (Phi.le W25 sk23) (fun ty219 ie82 ty220 pl30 => ?_)
            have ri62 : 0 ≤ ivh25 (sk 25) 2 ∧ ivh25 (sk 25) 2 ≤ 6003 := W25.int ty219 2
            refine d_callS (As := [.ref (sk 25), .ref (sk 7)]) (rest := []) C hM (G_markBegins_25 (a0 := (sk 25)) (a1 := (sk 7)) W25 sk23 ty219 ty220  ) dX3_gather_100 kS_X3_73 rfl rfl (Nat.le_of_ble_eq_true rfl) ⟨(Nat.le_of_ble_eq_true rfl), (Nat.le_of_ble_eq_true rfl)⟩ hph pl30 (show 0 + 0 = 0 from rfl) (by decide) (fun rh26 Lh26 clh26 lnh26 ivh26 rvh26 h26 => ?_)
            obtain ⟨rfl, xl26, fl26, W26, exf26⟩ := h26
            refine hv9 (F25.call X23 fl26 rfl) (xl25.ty ty206) (xl25.ty ty211) (xl25.ty ty212) (xl25.ty ty213) (xl25.ty ty214) (xl25.ty ty215) (X23.trans xl26) (xl26.skl sk23) (fun F26 ty221 ty222 ty223 ty224 ty225 ty226 X24 sk24 => ?_)
            refine c_st (st2 := []) rfl ?_
            refine hv8 (xl26.ty ty220) (show ivh26 (sk 7) 2 = ivh25 (sk 25) 2 ∧ MBX Lh25 clh25 lnh25 ivh25 rvh25 (sk 25) ivh26 rvh26 (sk 7) from exf26) (show GLQ sk ln iv rv a1 Lh26 clh26 lnh26 ivh26 rvh26 (sk 24) gat0 from (gl60.mv (QT.of W25 sk23 xl26 fl26 rfl rfl rfl rfl rfl) (el24.fr W25 sk23 fl26 rfl rfl).1 (el24.fr W25 sk23 fl26 rfl rfl).2)) (show GLQ sk ln iv rv a1 Lh26 clh26 lnh26 ivh26 rvh26 (sk 25) gat1 from (gl61.mv (QT.of W25 sk23 xl26 fl26 rfl rfl rfl rfl rfl) (el25.fr W25 sk23 fl26 rfl rfl).1 (el25.fr W25 sk23 fl26 rfl rfl).2)) (xl26.ty ty219) (show ivh26 (sk 25) 2 = ivh25 (sk 25) 2 from fl26.i ty219 rfl 2) (gb16.fr W25 ty217 ty216 fl26 rfl rfl rfl rfl rfl rfl) (Phi.le W26 sk24) (fun ty227 gf26 gl62 gl63 ty228 ie84 gb18 pl31 => ?_)
            refine hv2 (show 0 ≤ ivh26 (sk 7) 2 ∧ ivh26 (sk 7) 2 ≤ 6003 from W26.int ty227 2) (show 0 ≤ ivh26 (sk 25) 2 ∧ ivh26 (sk 25) 2 ≤ 6003 from W26.int ty228 2) (fun ri63 ri64 => ?_)
            have gb17 := GBQ.mk gl61 gf26.2 (by omega) (by omega)
            exact c_vret C dX3_gather_103 rfl (by decide) (rom0 hph pl31 (by decide)) ⟨rfl, X24, F26, W26, trivial, ⟨gl62, gl63⟩, ⟨gb18, gb17⟩⟩
          · have tnb7 : ty Lh23 clh23 nb7 20 := tnb7
            refine c_aaldR C dX3_gather_66 ty197 rfl (by omega) (by omega) (by omega) nq7 ?_
            refine c_st (st2 := [.ref nb7, .ref (sk 25)]) rfl ?_
            have pl32 := Phi.le W23 sk21
            refine d_callS (As := [.ref (sk 25), .ref nb7]) (rest := []) C hM (G_addInd_25 (a0 := (sk 25)) (r := (some nb7)) W23 sk21 ty194 (fun _ q => by cases q; exact tnb7)  (by show ivh23 (sk 25) 2 < 6003; omega)) dX3_gather_67 kS_X3_67 rfl rfl (Nat.le_of_ble_eq_true rfl) ⟨(Nat.le_of_ble_eq_true rfl), (Nat.le_of_ble_eq_true rfl)⟩ hph pl32 (show 0 + 0 = 0 from rfl) (by decide) (fun rh27 Lh27 clh27 lnh27 ivh27 rvh27 h27 => ?_)
            obtain ⟨rfl, xl27, fl27, W27, exf27, ladf27⟩ := h27
            refine hv10 (F23.call X21 fl27 rfl) (xl23.ty ty187) (xl23.ty ty188) (xl23.ty ty189) (xl23.ty ty190) (xl23.ty ty191) (xl23.ty ty183) (xl23.ty ty193) (X21.trans xl27) (xl27.skl sk21) (fun F27 ty229 ty230 ty231 ty232 ty233 ty234 ty235 X25 sk25 => ?_)
            refine c_st (st2 := []) rfl ?_
            refine hv4 (xl27.ty ty194) (show ivh23 (sk 25) 2 ≤ ivh27 (sk 25) 2 ∧ ivh27 (sk 25) 2 ≤ ivh23 (sk 25) 2 + 1 from exf27) (show GLQ sk ln iv rv a1 Lh27 clh27 lnh27 ivh27 rvh27 (sk 25) (fun a i => rws1 a (a 9 i.toNat) ++ indl a (4 * i + ((3 : Nat) : Int))) from (gl54.ind (j := 3) (QT.of hW hS X21 F23 rfl rfl rfl rfl rfl) (QT.of W23 sk21 xl27 fl27 rfl rfl rfl rfl rfl) ty197 re44 nq7 ladf27 (by decide))) (show GLQ sk ln iv rv a1 Lh27 clh27 lnh27 ivh27 rvh27 (sk 24) (fun a i => rws1 a (a 8 i.toNat) ++ indl a (4 * i + ((2 : Nat) : Int))) from (gl55.mv (QT.of W23 sk21 xl27 fl27 rfl rfl rfl rfl rfl) (el24.fr W23 sk21 fl27 rfl rfl).1 (el24.fr W23 sk21 fl27 rfl rfl).2)) (fun ty236 gf27 gl64 gl65 => ?_)
            have ri65 : 0 ≤ ivh27 (sk 25) 2 ∧ ivh27 (sk 25) 2 ≤ 6003 := W27.int ty236 2
            refine c_goto (tgt := 81) C dX3_gather_70 (by decide) ?_
            refine hv3 (xl27.ty ty196) (show ivh27 a1 0 = ivh23 a1 0 from fl27.i ty196 rfl 0) (show ivh23 a1 0 = ivh22 a1 0 from fl23.i ty185 rfl 0) (fun ty237 ie86 ie87 => ?_)
            have ri66 : (-2147483648) ≤ ivh27 a1 0 ∧ ivh27 a1 0 ≤ 2147483647 := W27.int ty237 0
            have gl66 : GLQ sk ln iv rv a1 Lh27 clh27 lnh27 ivh27 rvh27 (sk 24) gat0 := (gl65.g0 (by omega))
            have gl67 : GLQ sk ln iv rv a1 Lh27 clh27 lnh27 ivh27 rvh27 (sk 25) gat1 := (gl64.g1 (by omega))
            refine c_aload_n (j := 0) (x := a0) C dX3_gather_81 rfl ?_
            refine hv2 (xl27.ty ty195) (show rvh22 a0 0 = rvh6 a0 0 from (fl22.r ty22 rfl 0)) (fun ty238 re50 => ?_)
            rw [re9] at re50
            have re51 : rvh23 a0 0 = rvh22 a0 0 := (fl23.r ty184 rfl 0)
            rw [re50] at re51
            have re52 : rvh27 a0 0 = rvh23 a0 0 := (fl27.r ty195 rfl 0)
            rw [re51] at re52
            refine c_getr (k := 0) C ck_4 dX3_gather_82 w1_190 (by decide) ty238 rfl rfl (by decide) rfl re52 ?_
            refine c_st (st2 := [.ref (sk 24)]) rfl ?_
            refine c_aload_n (j := 0) (x := a0) C dX3_gather_85 rfl ?_
            obtain ⟨rb16, rq16, trb16⟩ := W27.ref ty238 2 rfl rfl rfl
            have erb16 := W27.sk trb16 (by decide) rfl
            subst erb16
            refine c_getr (k := 2) C ck_4 dX3_gather_86 w1_196 (by decide) ty238 rfl rfl (by decide) rfl rq16 ?_
            refine c_st (st2 := [.ref (sk 6), .ref (sk 24)]) rfl ?_
            refine hv5 (xl27.ty ty234) (show ivh27 (sk 24) 2 = ivh23 (sk 24) 2 from fl27.i ty234 rfl 2) (show ivh23 (sk 24) 2 = ivh22 (sk 24) 2 from fl23.i ty183 rfl 2) (xl27.ty ty229) (Phi.le W27 sk25) (fun ty239 ie88 ie89 ty240 pl33 => ?_)
            have ri67 : 0 ≤ ivh27 (sk 24) 2 ∧ ivh27 (sk 24) 2 ≤ 6003 := W27.int ty239 2
            refine d_callS (As := [.ref (sk 24), .ref (sk 6)]) (rest := []) C hM (G_markBegins_24 (a0 := (sk 24)) (a1 := (sk 6)) W27 sk25 ty239 ty240  ) dX3_gather_89 kS_X3_73 rfl rfl (Nat.le_of_ble_eq_true rfl) ⟨(Nat.le_of_ble_eq_true rfl), (Nat.le_of_ble_eq_true rfl)⟩ hph pl33 (show 0 + 0 = 0 from rfl) (by decide) (fun rh28 Lh28 clh28 lnh28 ivh28 rvh28 h28 => ?_)
            obtain ⟨rfl, xl28, fl28, W28, exf28⟩ := h28
            refine hv10 (F27.call X25 fl28 rfl) (xl27.ty ty230) (xl27.ty ty231) (xl27.ty ty232) (xl27.ty ty233) (xl27.ty ty197) (xl27.ty ty235) (xl27.ty tnb7) (X25.trans xl28) (xl28.skl sk25) (fun F28 ty241 ty242 ty243 ty244 ty245 ty246 ty247 X26 sk26 => ?_)
            refine c_st (st2 := []) rfl ?_
            refine hv6 (xl28.ty ty240) (show ivh28 (sk 6) 2 = ivh27 (sk 24) 2 ∧ MBX Lh27 clh27 lnh27 ivh27 rvh27 (sk 24) ivh28 rvh28 (sk 6) from exf28) (show GLQ sk ln iv rv a1 Lh28 clh28 lnh28 ivh28 rvh28 (sk 24) gat0 from (gl66.mv (QT.of W27 sk25 xl28 fl28 rfl rfl rfl rfl rfl) (el24.fr W27 sk25 fl28 rfl rfl).1 (el24.fr W27 sk25 fl28 rfl rfl).2)) (show GLQ sk ln iv rv a1 Lh28 clh28 lnh28 ivh28 rvh28 (sk 25) gat1 from (gl67.mv (QT.of W27 sk25 xl28 fl28 rfl rfl rfl rfl rfl) (el25.fr W27 sk25 fl28 rfl rfl).1 (el25.fr W27 sk25 fl28 rfl rfl).2)) (xl28.ty ty239) (show ivh28 (sk 24) 2 = ivh27 (sk 24) 2 from fl28.i ty239 rfl 2) (fun ty248 gf28 gl68 gl69 ty249 ie91 => ?_)
            refine hv2 (show 0 ≤ ivh28 (sk 6) 2 ∧ ivh28 (sk 6) 2 ≤ 6003 from W28.int ty248 2) (show 0 ≤ ivh28 (sk 24) 2 ∧ ivh28 (sk 24) 2 ≤ 6003 from W28.int ty249 2) (fun ri68 ri69 => ?_)
            have gb19 := GBQ.mk gl66 gf28.2 (by omega) (by omega)
            refine c_aload_n (j := 0) (x := a0) C dX3_gather_92 rfl ?_
            refine hv2 (xl28.ty ty238) (show rvh27 a0 1 = rvh23 a0 1 from (fl27.r ty195 rfl 1)) (fun ty250 re53 => ?_)
            rw [re42] at re53
            have re54 : rvh28 a0 1 = rvh27 a0 1 := (fl28.r ty238 rfl 1)
            rw [re53] at re54
            refine c_getr (k := 1) C ck_4 dX3_gather_93 w1_193 (by decide) ty250 rfl rfl (by decide) rfl re54 ?_
            refine c_st (st2 := [.ref (sk 25)]) rfl ?_
            refine c_aload_n (j := 0) (x := a0) C dX3_gather_96 rfl ?_
            obtain ⟨rb17, rq17, trb17⟩ := W28.ref ty250 3 rfl rfl rfl
            have erb17 := W28.sk trb17 (by decide) rfl
            subst erb17
            refine c_getr (k := 3) C ck_4 dX3_gather_97 w1_197 (by decide) ty250 rfl rfl (by decide) rfl rq17 ?_
            refine c_st (st2 := [.ref (sk 7), .ref (sk 25)]) rfl ?_
            refine hv4 (xl28.ty ty236) (show ivh28 (sk 25) 2 = ivh27 (sk 25) 2 from fl28.i ty236 rfl 2) (xl28.ty ty241) (Phi.le W28 sk26) (fun ty251 ie92 ty252 pl34 => ?_)
            have ri70 : 0 ≤ ivh28 (sk 25) 2 ∧ ivh28 (sk 25) 2 ≤ 6003 := W28.int ty251 2
            refine d_callS (As := [.ref (sk 25), .ref (sk 7)]) (rest := []) C hM (G_markBegins_25 (a0 := (sk 25)) (a1 := (sk 7)) W28 sk26 ty251 ty252  ) dX3_gather_100 kS_X3_73 rfl rfl (Nat.le_of_ble_eq_true rfl) ⟨(Nat.le_of_ble_eq_true rfl), (Nat.le_of_ble_eq_true rfl)⟩ hph pl34 (show 0 + 0 = 0 from rfl) (by decide) (fun rh29 Lh29 clh29 lnh29 ivh29 rvh29 h29 => ?_)
            obtain ⟨rfl, xl29, fl29, W29, exf29⟩ := h29
            refine hv10 (F28.call X26 fl29 rfl) (xl28.ty ty237) (xl28.ty ty242) (xl28.ty ty243) (xl28.ty ty244) (xl28.ty ty245) (xl28.ty ty246) (xl28.ty ty247) (X26.trans xl29) (xl29.skl sk26) (fun F29 ty253 ty254 ty255 ty256 ty257 ty258 ty259 X27 sk27 => ?_)
            refine c_st (st2 := []) rfl ?_
            refine hv8 (xl29.ty ty252) (show ivh29 (sk 7) 2 = ivh28 (sk 25) 2 ∧ MBX Lh28 clh28 lnh28 ivh28 rvh28 (sk 25) ivh29 rvh29 (sk 7) from exf29) (show GLQ sk ln iv rv a1 Lh29 clh29 lnh29 ivh29 rvh29 (sk 24) gat0 from (gl68.mv (QT.of W28 sk26 xl29 fl29 rfl rfl rfl rfl rfl) (el24.fr W28 sk26 fl29 rfl rfl).1 (el24.fr W28 sk26 fl29 rfl rfl).2)) (show GLQ sk ln iv rv a1 Lh29 clh29 lnh29 ivh29 rvh29 (sk 25) gat1 from (gl69.mv (QT.of W28 sk26 xl29 fl29 rfl rfl rfl rfl rfl) (el25.fr W28 sk26 fl29 rfl rfl).1 (el25.fr W28 sk26 fl29 rfl rfl).2)) (xl29.ty ty251) (show ivh29 (sk 25) 2 = ivh28 (sk 25) 2 from fl29.i ty251 rfl 2) (gb19.fr W28 ty249 ty248 fl29 rfl rfl rfl rfl rfl rfl) (Phi.le W29 sk27) (fun ty260 gf29 gl70 gl71 ty261 ie94 gb21 pl35 => ?_)
            refine hv2 (show 0 ≤ ivh29 (sk 7) 2 ∧ ivh29 (sk 7) 2 ≤ 6003 from W29.int ty260 2) (show 0 ≤ ivh29 (sk 25) 2 ∧ ivh29 (sk 25) 2 ≤ 6003 from W29.int ty261 2) (fun ri71 ri72 => ?_)
            have gb20 := GBQ.mk gl69 gf29.2 (by omega) (by omega)
            exact c_vret C dX3_gather_103 rfl (by decide) (rom0 hph pl35 (by decide)) ⟨rfl, X27, F29, W29, trivial, ⟨gl70, gl71⟩, ⟨gb21, gb20⟩⟩
        · have rknb6 := W22.rank ty185 (k := 3) (by decide) nq6
          refine c_getr (k := 3) C ck_10 dX3_gather_51 w2_184 (by decide) ty185 rfl rfl (by decide) rfl nq6 ?_
          refine c_st (st2 := [.ref nb6, .ref (sk 25)]) rfl ?_
          refine hv4 (xl22.ty ty182) (show ivh22 (sk 25) 2 = ivh6 (sk 25) 2 from fl22.i ty182 rfl 2) (show ivh6 (sk 25) 2 = ivh2 (sk 25) 2 from fl6.i tsk25 rfl 2) (Phi.le W22 sk20) (fun ty262 ie95 ie96 pl36 => ?_)
          have ri73 : 0 ≤ ivh22 (sk 25) 2 ∧ ivh22 (sk 25) 2 ≤ 6003 := W22.int ty262 2
          refine d_callS (As := [.ref (sk 25), .ref nb6]) (rest := []) C hM (G_gatherPart_25 (a0 := (sk 25)) (a1 := nb6) W22 sk20 ty262 tnb6  (by show ivh22 (sk 25) 2 = 0; omega)) dX3_gather_54 kS_X3_59 rfl rfl (Nat.le_of_ble_eq_true rfl) ⟨(Nat.le_of_ble_eq_true rfl), (Nat.le_of_ble_eq_true rfl)⟩ hph pl36 (show 0 + 0 = 0 from rfl) (by decide) (fun rh30 Lh30 clh30 lnh30 ivh30 rvh30 h30 => ?_)
          obtain ⟨rfl, xl30, fl30, W30, exf30, gpxf30⟩ := h30
          refine hv10 (F22.call X20 fl30 rfl) (xl22.ty ty177) (xl22.ty ty178) (xl22.ty ty179) (xl22.ty ty180) (xl22.ty ty181) (xl22.ty trb5) (xl22.ty tnb2) (X20.trans xl30) (xl30.skl sk20) (fun F30 ty263 ty264 ty265 ty266 ty267 ty268 ty269 X28 sk28 => ?_)
          refine c_st (st2 := []) rfl ?_
          refine hv4 (xl30.ty ty262) (show ivh30 (sk 25) 2 ≤ 6002 from exf30) (show GLQ sk ln iv rv a1 Lh30 clh30 lnh30 ivh30 rvh30 (sk 25) (fun a i => rws1 a (a 9 i.toNat)) from (GLQ.sub3 gpxf30 (QT.of hW hS X20 F22 rfl rfl rfl rfl rfl) nq6)) (show GLQ sk ln iv rv a1 Lh30 clh30 lnh30 ivh30 rvh30 (sk 24) (fun a i => rws1 a (a 8 i.toNat) ++ indl a (4 * i + ((2 : Nat) : Int))) from (gl52.mv (QT.of W22 sk20 xl30 fl30 rfl rfl rfl rfl rfl) (el24.fr W22 sk20 fl30 rfl rfl).1 (el24.fr W22 sk20 fl30 rfl rfl).2)) (fun ty270 gf30 gl72 gl73 => ?_)
          have ri74 : 0 ≤ ivh30 (sk 25) 2 ∧ ivh30 (sk 25) 2 ≤ 6003 := W30.int ty270 2
          refine c_aload_n (j := 0) (x := a0) C dX3_gather_57 rfl ?_
          refine hv2 (xl30.ty ty184) (show rvh30 a0 1 = rvh22 a0 1 from (fl30.r ty184 rfl 1)) (fun ty271 re55 => ?_)
          rw [re41] at re55
          refine c_getr (k := 1) C ck_4 dX3_gather_58 w1_193 (by decide) ty271 rfl rfl (by decide) rfl re55 ?_
          refine c_st (st2 := [.ref (sk 25)]) rfl ?_
          refine c_aload_n (j := 1) (x := a1) C dX3_gather_61 rfl ?_
          refine hv2 (xl30.ty ty185) (show rvh22 a1 6 = rvh6 a1 6 from (fl22.r ty23 rfl 6)) (fun ty272 re56 => ?_)
          rw [rq5] at re56
          have re57 : rvh30 a1 6 = rvh22 a1 6 := (fl30.r ty185 rfl 6)
          rw [re56] at re57
          refine c_getr (k := 6) C ck_10 dX3_gather_62 w2_193 (by decide) ty272 rfl rfl (by decide) rfl re57 ?_
          refine c_st (st2 := [.ref rb5, .ref (sk 25)]) rfl ?_
          refine c_iconst C dX3_gather_65 ?_
          have ty273 := xl30.ty ty268
          have ll5 : 4 ≤ lnh30 rb5 ∧ lnh30 rb5 ≤ 4 := W30.len ty273 rfl
          rcases W30.opt ty273 ((3 : Int).toNat) rfl rfl with ⟨nq8, _⟩ | ⟨nb8, nq8, tnb8⟩
          · refine c_aaldR C dX3_gather_66 ty273 rfl (by omega) (by omega) (by omega) nq8 ?_
            refine c_st (st2 := [.null, .ref (sk 25)]) rfl ?_
            have pl37 := Phi.le W30 sk28
            refine d_callS (As := [.ref (sk 25), .null]) (rest := []) C hM (G_addInd_25 (a0 := (sk 25)) (r := none) W30 sk28 ty270 (fun _ q => by cases q)  (by show ivh30 (sk 25) 2 < 6003; omega)) dX3_gather_67 kS_X3_67 rfl rfl (Nat.le_of_ble_eq_true rfl) ⟨(Nat.le_of_ble_eq_true rfl), (Nat.le_of_ble_eq_true rfl)⟩ hph pl37 (show 0 + 0 = 0 from rfl) (by decide) (fun rh31 Lh31 clh31 lnh31 ivh31 rvh31 h31 => ?_)
            obtain ⟨rfl, xl31, fl31, W31, exf31, ladf31⟩ := h31
            refine hv11 (F30.call X28 fl31 rfl) (xl30.ty ty263) (xl30.ty ty264) (xl30.ty ty265) (xl30.ty ty266) (xl30.ty ty267) (xl30.ty ty183) (xl30.ty ty269) (xl30.ty tnb6) (X28.trans xl31) (xl31.skl sk28) (fun F31 ty274 ty275 ty276 ty277 ty278 ty279 ty280 ty281 X29 sk29 => ?_)
            refine c_st (st2 := []) rfl ?_
            refine hv4 (xl31.ty ty270) (show ivh30 (sk 25) 2 ≤ ivh31 (sk 25) 2 ∧ ivh31 (sk 25) 2 ≤ ivh30 (sk 25) 2 + 1 from exf31) (show GLQ sk ln iv rv a1 Lh31 clh31 lnh31 ivh31 rvh31 (sk 25) (fun a i => rws1 a (a 9 i.toNat) ++ indl a (4 * i + ((3 : Nat) : Int))) from (gl72.ind (j := 3) (QT.of hW hS X28 F30 rfl rfl rfl rfl rfl) (QT.of W30 sk28 xl31 fl31 rfl rfl rfl rfl rfl) ty273 re57 nq8 ladf31 (by decide))) (show GLQ sk ln iv rv a1 Lh31 clh31 lnh31 ivh31 rvh31 (sk 24) (fun a i => rws1 a (a 8 i.toNat) ++ indl a (4 * i + ((2 : Nat) : Int))) from (gl73.mv (QT.of W30 sk28 xl31 fl31 rfl rfl rfl rfl rfl) (el24.fr W30 sk28 fl31 rfl rfl).1 (el24.fr W30 sk28 fl31 rfl rfl).2)) (fun ty282 gf31 gl74 gl75 => ?_)
            have ri75 : 0 ≤ ivh31 (sk 25) 2 ∧ ivh31 (sk 25) 2 ≤ 6003 := W31.int ty282 2
            refine c_goto (tgt := 81) C dX3_gather_70 (by decide) ?_
            refine hv5 (xl31.ty ty272) (show ivh31 a1 0 = ivh30 a1 0 from fl31.i ty272 rfl 0) (show ivh30 a1 0 = ivh22 a1 0 from fl30.i ty185 rfl 0) (show ivh22 a1 0 = ivh6 a1 0 from fl22.i ty23 rfl 0) (show ivh6 a1 0 = ivh2 a1 0 from fl6.i t_a1 rfl 0) (fun ty283 ie99 ie100 ie101 ie102 => ?_)
            have ri76 : (-2147483648) ≤ ivh31 a1 0 ∧ ivh31 a1 0 ≤ 2147483647 := W31.int ty283 0
            have gl76 : GLQ sk ln iv rv a1 Lh31 clh31 lnh31 ivh31 rvh31 (sk 24) gat0 := (gl75.g0 (by omega))
            have gl77 : GLQ sk ln iv rv a1 Lh31 clh31 lnh31 ivh31 rvh31 (sk 25) gat1 := (gl74.g1 (by omega))
            refine c_aload_n (j := 0) (x := a0) C dX3_gather_81 rfl ?_
            refine hv2 (xl31.ty ty271) (show rvh22 a0 0 = rvh6 a0 0 from (fl22.r ty22 rfl 0)) (fun ty284 re58 => ?_)
            rw [re9] at re58
            have re59 : rvh30 a0 0 = rvh22 a0 0 := (fl30.r ty184 rfl 0)
            rw [re58] at re59
            have re60 : rvh31 a0 0 = rvh30 a0 0 := (fl31.r ty271 rfl 0)
            rw [re59] at re60
            refine c_getr (k := 0) C ck_4 dX3_gather_82 w1_190 (by decide) ty284 rfl rfl (by decide) rfl re60 ?_
            refine c_st (st2 := [.ref (sk 24)]) rfl ?_
            refine c_aload_n (j := 0) (x := a0) C dX3_gather_85 rfl ?_
            obtain ⟨rb18, rq18, trb18⟩ := W31.ref ty284 2 rfl rfl rfl
            have erb18 := W31.sk trb18 (by decide) rfl
            subst erb18
            refine c_getr (k := 2) C ck_4 dX3_gather_86 w1_196 (by decide) ty284 rfl rfl (by decide) rfl rq18 ?_
            refine c_st (st2 := [.ref (sk 6), .ref (sk 24)]) rfl ?_
            refine hv5 (xl31.ty ty279) (show ivh31 (sk 24) 2 = ivh30 (sk 24) 2 from fl31.i ty279 rfl 2) (show ivh30 (sk 24) 2 = ivh22 (sk 24) 2 from fl30.i ty183 rfl 2) (xl31.ty ty274) (Phi.le W31 sk29) (fun ty285 ie103 ie104 ty286 pl38 => ?_)
            have ri77 : 0 ≤ ivh31 (sk 24) 2 ∧ ivh31 (sk 24) 2 ≤ 6003 := W31.int ty285 2
            refine d_callS (As := [.ref (sk 24), .ref (sk 6)]) (rest := []) C hM (G_markBegins_24 (a0 := (sk 24)) (a1 := (sk 6)) W31 sk29 ty285 ty286  ) dX3_gather_89 kS_X3_73 rfl rfl (Nat.le_of_ble_eq_true rfl) ⟨(Nat.le_of_ble_eq_true rfl), (Nat.le_of_ble_eq_true rfl)⟩ hph pl38 (show 0 + 0 = 0 from rfl) (by decide) (fun rh32 Lh32 clh32 lnh32 ivh32 rvh32 h32 => ?_)
            obtain ⟨rfl, xl32, fl32, W32, exf32⟩ := h32
            refine hv10 (F31.call X29 fl32 rfl) (xl31.ty ty275) (xl31.ty ty276) (xl31.ty ty277) (xl31.ty ty278) (xl31.ty ty273) (xl31.ty ty280) (xl31.ty ty281) (X29.trans xl32) (xl32.skl sk29) (fun F32 ty287 ty288 ty289 ty290 ty291 ty292 ty293 X30 sk30 => ?_)
            refine c_st (st2 := []) rfl ?_
            refine hv6 (xl32.ty ty286) (show ivh32 (sk 6) 2 = ivh31 (sk 24) 2 ∧ MBX Lh31 clh31 lnh31 ivh31 rvh31 (sk 24) ivh32 rvh32 (sk 6) from exf32) (show GLQ sk ln iv rv a1 Lh32 clh32 lnh32 ivh32 rvh32 (sk 24) gat0 from (gl76.mv (QT.of W31 sk29 xl32 fl32 rfl rfl rfl rfl rfl) (el24.fr W31 sk29 fl32 rfl rfl).1 (el24.fr W31 sk29 fl32 rfl rfl).2)) (show GLQ sk ln iv rv a1 Lh32 clh32 lnh32 ivh32 rvh32 (sk 25) gat1 from (gl77.mv (QT.of W31 sk29 xl32 fl32 rfl rfl rfl rfl rfl) (el25.fr W31 sk29 fl32 rfl rfl).1 (el25.fr W31 sk29 fl32 rfl rfl).2)) (xl32.ty ty285) (show ivh32 (sk 24) 2 = ivh31 (sk 24) 2 from fl32.i ty285 rfl 2) (fun ty294 gf32 gl78 gl79 ty295 ie106 => ?_)
            refine hv2 (show 0 ≤ ivh32 (sk 6) 2 ∧ ivh32 (sk 6) 2 ≤ 6003 from W32.int ty294 2) (show 0 ≤ ivh32 (sk 24) 2 ∧ ivh32 (sk 24) 2 ≤ 6003 from W32.int ty295 2) (fun ri78 ri79 => ?_)
            have gb22 := GBQ.mk gl76 gf32.2 (by omega) (by omega)
            refine c_aload_n (j := 0) (x := a0) C dX3_gather_92 rfl ?_
            refine hv2 (xl32.ty ty284) (show rvh31 a0 1 = rvh30 a0 1 from (fl31.r ty271 rfl 1)) (fun ty296 re61 => ?_)
            rw [re55] at re61
            have re62 : rvh32 a0 1 = rvh31 a0 1 := (fl32.r ty284 rfl 1)
            rw [re61] at re62
            refine c_getr (k := 1) C ck_4 dX3_gather_93 w1_193 (by decide) ty296 rfl rfl (by decide) rfl re62 ?_
            refine c_st (st2 := [.ref (sk 25)]) rfl ?_
            refine c_aload_n (j := 0) (x := a0) C dX3_gather_96 rfl ?_
            obtain ⟨rb19, rq19, trb19⟩ := W32.ref ty296 3 rfl rfl rfl
            have erb19 := W32.sk trb19 (by decide) rfl
            subst erb19
            refine c_getr (k := 3) C ck_4 dX3_gather_97 w1_197 (by decide) ty296 rfl rfl (by decide) rfl rq19 ?_
            refine c_st (st2 := [.ref (sk 7), .ref (sk 25)]) rfl ?_
            refine hv4 (xl32.ty ty282) (show ivh32 (sk 25) 2 = ivh31 (sk 25) 2 from fl32.i ty282 rfl 2) (xl32.ty ty287) (Phi.le W32 sk30) (fun ty297 ie107 ty298 pl39 => ?_)
            have ri80 : 0 ≤ ivh32 (sk 25) 2 ∧ ivh32 (sk 25) 2 ≤ 6003 := W32.int ty297 2
            refine d_callS (As := [.ref (sk 25), .ref (sk 7)]) (rest := []) C hM (G_markBegins_25 (a0 := (sk 25)) (a1 := (sk 7)) W32 sk30 ty297 ty298  ) dX3_gather_100 kS_X3_73 rfl rfl (Nat.le_of_ble_eq_true rfl) ⟨(Nat.le_of_ble_eq_true rfl), (Nat.le_of_ble_eq_true rfl)⟩ hph pl39 (show 0 + 0 = 0 from rfl) (by decide) (fun rh33 Lh33 clh33 lnh33 ivh33 rvh33 h33 => ?_)
            obtain ⟨rfl, xl33, fl33, W33, exf33⟩ := h33
            refine hv10 (F32.call X30 fl33 rfl) (xl32.ty ty283) (xl32.ty ty288) (xl32.ty ty289) (xl32.ty ty290) (xl32.ty ty291) (xl32.ty ty292) (xl32.ty ty293) (X30.trans xl33) (xl33.skl sk30) (fun F33 ty299 ty300 ty301 ty302 ty303 ty304 ty305 X31 sk31 => ?_)
            refine c_st (st2 := []) rfl ?_
            refine hv8 (xl33.ty ty298) (show ivh33 (sk 7) 2 = ivh32 (sk 25) 2 ∧ MBX Lh32 clh32 lnh32 ivh32 rvh32 (sk 25) ivh33 rvh33 (sk 7) from exf33) (show GLQ sk ln iv rv a1 Lh33 clh33 lnh33 ivh33 rvh33 (sk 24) gat0 from (gl78.mv (QT.of W32 sk30 xl33 fl33 rfl rfl rfl rfl rfl) (el24.fr W32 sk30 fl33 rfl rfl).1 (el24.fr W32 sk30 fl33 rfl rfl).2)) (show GLQ sk ln iv rv a1 Lh33 clh33 lnh33 ivh33 rvh33 (sk 25) gat1 from (gl79.mv (QT.of W32 sk30 xl33 fl33 rfl rfl rfl rfl rfl) (el25.fr W32 sk30 fl33 rfl rfl).1 (el25.fr W32 sk30 fl33 rfl rfl).2)) (xl33.ty ty297) (show ivh33 (sk 25) 2 = ivh32 (sk 25) 2 from fl33.i ty297 rfl 2) (gb22.fr W32 ty295 ty294 fl33 rfl rfl rfl rfl rfl rfl) (Phi.le W33 sk31) (fun ty306 gf33 gl80 gl81 ty307 ie109 gb24 pl40 => ?_)
            refine hv2 (show 0 ≤ ivh33 (sk 7) 2 ∧ ivh33 (sk 7) 2 ≤ 6003 from W33.int ty306 2) (show 0 ≤ ivh33 (sk 25) 2 ∧ ivh33 (sk 25) 2 ≤ 6003 from W33.int ty307 2) (fun ri81 ri82 => ?_)
            have gb23 := GBQ.mk gl79 gf33.2 (by omega) (by omega)
            exact c_vret C dX3_gather_103 rfl (by decide) (rom0 hph pl40 (by decide)) ⟨rfl, X31, F33, W33, trivial, ⟨gl80, gl81⟩, ⟨gb24, gb23⟩⟩
          · have tnb8 : ty Lh30 clh30 nb8 20 := tnb8
            refine c_aaldR C dX3_gather_66 ty273 rfl (by omega) (by omega) (by omega) nq8 ?_
            refine c_st (st2 := [.ref nb8, .ref (sk 25)]) rfl ?_
            have pl41 := Phi.le W30 sk28
            refine d_callS (As := [.ref (sk 25), .ref nb8]) (rest := []) C hM (G_addInd_25 (a0 := (sk 25)) (r := (some nb8)) W30 sk28 ty270 (fun _ q => by cases q; exact tnb8)  (by show ivh30 (sk 25) 2 < 6003; omega)) dX3_gather_67 kS_X3_67 rfl rfl (Nat.le_of_ble_eq_true rfl) ⟨(Nat.le_of_ble_eq_true rfl), (Nat.le_of_ble_eq_true rfl)⟩ hph pl41 (show 0 + 0 = 0 from rfl) (by decide) (fun rh34 Lh34 clh34 lnh34 ivh34 rvh34 h34 => ?_)
            obtain ⟨rfl, xl34, fl34, W34, exf34, ladf34⟩ := h34
            refine hv11 (F30.call X28 fl34 rfl) (xl30.ty ty263) (xl30.ty ty264) (xl30.ty ty265) (xl30.ty ty266) (xl30.ty ty267) (xl30.ty ty183) (xl30.ty ty269) (xl30.ty tnb6) (X28.trans xl34) (xl34.skl sk28) (fun F34 ty308 ty309 ty310 ty311 ty312 ty313 ty314 ty315 X32 sk32 => ?_)
            refine c_st (st2 := []) rfl ?_
            refine hv4 (xl34.ty ty270) (show ivh30 (sk 25) 2 ≤ ivh34 (sk 25) 2 ∧ ivh34 (sk 25) 2 ≤ ivh30 (sk 25) 2 + 1 from exf34) (show GLQ sk ln iv rv a1 Lh34 clh34 lnh34 ivh34 rvh34 (sk 25) (fun a i => rws1 a (a 9 i.toNat) ++ indl a (4 * i + ((3 : Nat) : Int))) from (gl72.ind (j := 3) (QT.of hW hS X28 F30 rfl rfl rfl rfl rfl) (QT.of W30 sk28 xl34 fl34 rfl rfl rfl rfl rfl) ty273 re57 nq8 ladf34 (by decide))) (show GLQ sk ln iv rv a1 Lh34 clh34 lnh34 ivh34 rvh34 (sk 24) (fun a i => rws1 a (a 8 i.toNat) ++ indl a (4 * i + ((2 : Nat) : Int))) from (gl73.mv (QT.of W30 sk28 xl34 fl34 rfl rfl rfl rfl rfl) (el24.fr W30 sk28 fl34 rfl rfl).1 (el24.fr W30 sk28 fl34 rfl rfl).2)) (fun ty316 gf34 gl82 gl83 => ?_)
            have ri83 : 0 ≤ ivh34 (sk 25) 2 ∧ ivh34 (sk 25) 2 ≤ 6003 := W34.int ty316 2
            refine c_goto (tgt := 81) C dX3_gather_70 (by decide) ?_
            refine hv5 (xl34.ty ty272) (show ivh34 a1 0 = ivh30 a1 0 from fl34.i ty272 rfl 0) (show ivh30 a1 0 = ivh22 a1 0 from fl30.i ty185 rfl 0) (show ivh22 a1 0 = ivh6 a1 0 from fl22.i ty23 rfl 0) (show ivh6 a1 0 = ivh2 a1 0 from fl6.i t_a1 rfl 0) (fun ty317 ie111 ie112 ie113 ie114 => ?_)
            have ri84 : (-2147483648) ≤ ivh34 a1 0 ∧ ivh34 a1 0 ≤ 2147483647 := W34.int ty317 0
            have gl84 : GLQ sk ln iv rv a1 Lh34 clh34 lnh34 ivh34 rvh34 (sk 24) gat0 := (gl83.g0 (by omega))
            have gl85 : GLQ sk ln iv rv a1 Lh34 clh34 lnh34 ivh34 rvh34 (sk 25) gat1 := (gl82.g1 (by omega))
            refine c_aload_n (j := 0) (x := a0) C dX3_gather_81 rfl ?_
            refine hv2 (xl34.ty ty271) (show rvh22 a0 0 = rvh6 a0 0 from (fl22.r ty22 rfl 0)) (fun ty318 re63 => ?_)
            rw [re9] at re63
            have re64 : rvh30 a0 0 = rvh22 a0 0 := (fl30.r ty184 rfl 0)
            rw [re63] at re64
            have re65 : rvh34 a0 0 = rvh30 a0 0 := (fl34.r ty271 rfl 0)
            rw [re64] at re65
            refine c_getr (k := 0) C ck_4 dX3_gather_82 w1_190 (by decide) ty318 rfl rfl (by decide) rfl re65 ?_
            refine c_st (st2 := [.ref (sk 24)]) rfl ?_
            refine c_aload_n (j := 0) (x := a0) C dX3_gather_85 rfl ?_
            obtain ⟨rb20, rq20, trb20⟩ := W34.ref ty318 2 rfl rfl rfl
            have erb20 := W34.sk trb20 (by decide) rfl
            subst erb20
            refine c_getr (k := 2) C ck_4 dX3_gather_86 w1_196 (by decide) ty318 rfl rfl (by decide) rfl rq20 ?_
            refine c_st (st2 := [.ref (sk 6), .ref (sk 24)]) rfl ?_
            refine hv5 (xl34.ty ty313) (show ivh34 (sk 24) 2 = ivh30 (sk 24) 2 from fl34.i ty313 rfl 2) (show ivh30 (sk 24) 2 = ivh22 (sk 24) 2 from fl30.i ty183 rfl 2) (xl34.ty ty308) (Phi.le W34 sk32) (fun ty319 ie115 ie116 ty320 pl42 => ?_)
            have ri85 : 0 ≤ ivh34 (sk 24) 2 ∧ ivh34 (sk 24) 2 ≤ 6003 := W34.int ty319 2
            refine d_callS (As := [.ref (sk 24), .ref (sk 6)]) (rest := []) C hM (G_markBegins_24 (a0 := (sk 24)) (a1 := (sk 6)) W34 sk32 ty319 ty320  ) dX3_gather_89 kS_X3_73 rfl rfl (Nat.le_of_ble_eq_true rfl) ⟨(Nat.le_of_ble_eq_true rfl), (Nat.le_of_ble_eq_true rfl)⟩ hph pl42 (show 0 + 0 = 0 from rfl) (by decide) (fun rh35 Lh35 clh35 lnh35 ivh35 rvh35 h35 => ?_)
            obtain ⟨rfl, xl35, fl35, W35, exf35⟩ := h35
            refine hv11 (F34.call X32 fl35 rfl) (xl34.ty ty309) (xl34.ty ty310) (xl34.ty ty311) (xl34.ty ty312) (xl34.ty ty273) (xl34.ty ty314) (xl34.ty ty315) (xl34.ty tnb8) (X32.trans xl35) (xl35.skl sk32) (fun F35 ty321 ty322 ty323 ty324 ty325 ty326 ty327 ty328 X33 sk33 => ?_)
            refine c_st (st2 := []) rfl ?_
            refine hv6 (xl35.ty ty320) (show ivh35 (sk 6) 2 = ivh34 (sk 24) 2 ∧ MBX Lh34 clh34 lnh34 ivh34 rvh34 (sk 24) ivh35 rvh35 (sk 6) from exf35) (show GLQ sk ln iv rv a1 Lh35 clh35 lnh35 ivh35 rvh35 (sk 24) gat0 from (gl84.mv (QT.of W34 sk32 xl35 fl35 rfl rfl rfl rfl rfl) (el24.fr W34 sk32 fl35 rfl rfl).1 (el24.fr W34 sk32 fl35 rfl rfl).2)) (show GLQ sk ln iv rv a1 Lh35 clh35 lnh35 ivh35 rvh35 (sk 25) gat1 from (gl85.mv (QT.of W34 sk32 xl35 fl35 rfl rfl rfl rfl rfl) (el25.fr W34 sk32 fl35 rfl rfl).1 (el25.fr W34 sk32 fl35 rfl rfl).2)) (xl35.ty ty319) (show ivh35 (sk 24) 2 = ivh34 (sk 24) 2 from fl35.i ty319 rfl 2) (fun ty329 gf35 gl86 gl87 ty330 ie118 => ?_)
            refine hv2 (show 0 ≤ ivh35 (sk 6) 2 ∧ ivh35 (sk 6) 2 ≤ 6003 from W35.int ty329 2) (show 0 ≤ ivh35 (sk 24) 2 ∧ ivh35 (sk 24) 2 ≤ 6003 from W35.int ty330 2) (fun ri86 ri87 => ?_)
            have gb25 := GBQ.mk gl84 gf35.2 (by omega) (by omega)
            refine c_aload_n (j := 0) (x := a0) C dX3_gather_92 rfl ?_
            refine hv2 (xl35.ty ty318) (show rvh34 a0 1 = rvh30 a0 1 from (fl34.r ty271 rfl 1)) (fun ty331 re66 => ?_)
            rw [re55] at re66
            have re67 : rvh35 a0 1 = rvh34 a0 1 := (fl35.r ty318 rfl 1)
            rw [re66] at re67
            refine c_getr (k := 1) C ck_4 dX3_gather_93 w1_193 (by decide) ty331 rfl rfl (by decide) rfl re67 ?_
            refine c_st (st2 := [.ref (sk 25)]) rfl ?_
            refine c_aload_n (j := 0) (x := a0) C dX3_gather_96 rfl ?_
            obtain ⟨rb21, rq21, trb21⟩ := W35.ref ty331 3 rfl rfl rfl
            have erb21 := W35.sk trb21 (by decide) rfl
            subst erb21
            refine c_getr (k := 3) C ck_4 dX3_gather_97 w1_197 (by decide) ty331 rfl rfl (by decide) rfl rq21 ?_
            refine c_st (st2 := [.ref (sk 7), .ref (sk 25)]) rfl ?_
            refine hv4 (xl35.ty ty316) (show ivh35 (sk 25) 2 = ivh34 (sk 25) 2 from fl35.i ty316 rfl 2) (xl35.ty ty321) (Phi.le W35 sk33) (fun ty332 ie119 ty333 pl43 => ?_)
            have ri88 : 0 ≤ ivh35 (sk 25) 2 ∧ ivh35 (sk 25) 2 ≤ 6003 := W35.int ty332 2
            refine d_callS (As := [.ref (sk 25), .ref (sk 7)]) (rest := []) C hM (G_markBegins_25 (a0 := (sk 25)) (a1 := (sk 7)) W35 sk33 ty332 ty333  ) dX3_gather_100 kS_X3_73 rfl rfl (Nat.le_of_ble_eq_true rfl) ⟨(Nat.le_of_ble_eq_true rfl), (Nat.le_of_ble_eq_true rfl)⟩ hph pl43 (show 0 + 0 = 0 from rfl) (by decide) (fun rh36 Lh36 clh36 lnh36 ivh36 rvh36 h36 => ?_)
            obtain ⟨rfl, xl36, fl36, W36, exf36⟩ := h36
            refine hv11 (F35.call X33 fl36 rfl) (xl35.ty ty317) (xl35.ty ty322) (xl35.ty ty323) (xl35.ty ty324) (xl35.ty ty325) (xl35.ty ty326) (xl35.ty ty327) (xl35.ty ty328) (X33.trans xl36) (xl36.skl sk33) (fun F36 ty334 ty335 ty336 ty337 ty338 ty339 ty340 ty341 X34 sk34 => ?_)
            refine c_st (st2 := []) rfl ?_
            refine hv8 (xl36.ty ty333) (show ivh36 (sk 7) 2 = ivh35 (sk 25) 2 ∧ MBX Lh35 clh35 lnh35 ivh35 rvh35 (sk 25) ivh36 rvh36 (sk 7) from exf36) (show GLQ sk ln iv rv a1 Lh36 clh36 lnh36 ivh36 rvh36 (sk 24) gat0 from (gl86.mv (QT.of W35 sk33 xl36 fl36 rfl rfl rfl rfl rfl) (el24.fr W35 sk33 fl36 rfl rfl).1 (el24.fr W35 sk33 fl36 rfl rfl).2)) (show GLQ sk ln iv rv a1 Lh36 clh36 lnh36 ivh36 rvh36 (sk 25) gat1 from (gl87.mv (QT.of W35 sk33 xl36 fl36 rfl rfl rfl rfl rfl) (el25.fr W35 sk33 fl36 rfl rfl).1 (el25.fr W35 sk33 fl36 rfl rfl).2)) (xl36.ty ty332) (show ivh36 (sk 25) 2 = ivh35 (sk 25) 2 from fl36.i ty332 rfl 2) (gb25.fr W35 ty330 ty329 fl36 rfl rfl rfl rfl rfl rfl) (Phi.le W36 sk34) (fun ty342 gf36 gl88 gl89 ty343 ie121 gb27 pl44 => ?_)
            refine hv2 (show 0 ≤ ivh36 (sk 7) 2 ∧ ivh36 (sk 7) 2 ≤ 6003 from W36.int ty342 2) (show 0 ≤ ivh36 (sk 25) 2 ∧ ivh36 (sk 25) 2 ≤ 6003 from W36.int ty343 2) (fun ri89 ri90 => ?_)
            have gb26 := GBQ.mk gl87 gf36.2 (by omega) (by omega)
            exact c_vret C dX3_gather_103 rfl (by decide) (rom0 hph pl44 (by decide)) ⟨rfl, X34, F36, W36, trivial, ⟨gl88, gl89⟩, ⟨gb27, gb26⟩⟩
    · have rknb1 := W2.rank t_a1 (k := 2) (by decide) nq1
      refine c_getr (k := 2) C ck_10 dX3_gather_27 w2_181 (by decide) t_a1 rfl rfl (by decide) rfl nq1 ?_
      refine c_st (st2 := [.ref nb1, .ref (sk 24)]) rfl ?_
      refine hv3 (show 0 ≤ ivh2 (sk 24) 2 ∧ ivh2 (sk 24) 2 ≤ 6003 from W2.int tsk24 2) (show ivh2 (sk 24) 2 = ivh1 (sk 24) 2 from fl2.i tsk24 rfl 2) (Phi.le W2 hS) (fun ri91 ie122 pl45 => ?_)
      refine d_callS (As := [.ref (sk 24), .ref nb1]) (rest := []) C hM (G_gatherPart_24 (a0 := (sk 24)) (a1 := nb1) W2 hS tsk24 tnb1  (by show ivh2 (sk 24) 2 = 0; omega)) dX3_gather_30 kS_X3_59 rfl rfl (Nat.le_of_ble_eq_true rfl) ⟨(Nat.le_of_ble_eq_true rfl), (Nat.le_of_ble_eq_true rfl)⟩ hph pl45 (show 0 + 0 = 0 from rfl) (by decide) (fun rh37 Lh37 clh37 lnh37 ivh37 rvh37 h37 => ?_)
      obtain ⟨rfl, xl37, fl37, W37, exf37, gpxf37⟩ := h37
      refine hv3 (F2.call hX0 fl37 rfl) (hX0.trans xl37) (xl37.skl hS) (fun F37 X35 sk35 => ?_)
      refine c_st (st2 := []) rfl ?_
      refine hv4 (xl37.ty tsk24) (show ivh37 (sk 24) 2 ≤ 6002 from exf37) (show GLQ sk ln iv rv a1 Lh37 clh37 lnh37 ivh37 rvh37 (sk 24) (fun a i => rws1 a (a 8 i.toNat)) from (GLQ.sub gpxf37 (QT.of hW hS hX0 F2 rfl rfl rfl rfl rfl) nq1)) (show GLQ sk ln iv rv a1 Lh37 clh37 lnh37 ivh37 rvh37 (sk 25) (fun _ _ => []) from (gl3.mv (QT.of W2 hS xl37 fl37 rfl rfl rfl rfl rfl) (el25.fr W2 hS fl37 rfl rfl).1 (el25.fr W2 hS fl37 rfl rfl).2)) (fun ty344 gf37 gl90 gl91 => ?_)
      have ri92 : 0 ≤ ivh37 (sk 24) 2 ∧ ivh37 (sk 24) 2 ≤ 6003 := W37.int ty344 2
      refine c_aload_n (j := 0) (x := a0) C dX3_gather_33 rfl ?_
      refine hv2 (xl37.ty t_a0) (show rvh37 a0 0 = rvh2 a0 0 from (fl37.r t_a0 rfl 0)) (fun ty345 re68 => ?_)
      rw [re8] at re68
      refine c_getr (k := 0) C ck_4 dX3_gather_34 w1_190 (by decide) ty345 rfl rfl (by decide) rfl re68 ?_
      refine c_st (st2 := [.ref (sk 24)]) rfl ?_
      refine c_aload_n (j := 1) (x := a1) C dX3_gather_37 rfl ?_
      have ty346 := xl37.ty t_a1
      obtain ⟨rb22, rq22, trb22⟩ := W37.ref ty346 6 rfl rfl rfl
      have lnrb22 : 4 ≤ lnh37 rb22 ∧ lnh37 rb22 ≤ 4 := W37.len trb22 rfl
      refine c_getr (k := 6) C ck_10 dX3_gather_38 w2_193 (by decide) ty346 rfl rfl (by decide) rfl rq22 ?_
      refine c_st (st2 := [.ref rb22, .ref (sk 24)]) rfl ?_
      refine c_iconst C dX3_gather_41 ?_
      have ll6 : 4 ≤ lnh37 rb22 ∧ lnh37 rb22 ≤ 4 := W37.len trb22 rfl
      rcases W37.opt trb22 ((2 : Int).toNat) rfl rfl with ⟨nq9, _⟩ | ⟨nb9, nq9, tnb9⟩
      · refine c_aaldR C dX3_gather_42 trb22 rfl (by omega) (by omega) (by omega) nq9 ?_
        refine c_st (st2 := [.null, .ref (sk 24)]) rfl ?_
        have pl46 := Phi.le W37 sk35
        refine d_callS (As := [.ref (sk 24), .null]) (rest := []) C hM (G_addInd_24 (a0 := (sk 24)) (r := none) W37 sk35 ty344 (fun _ q => by cases q)  (by show ivh37 (sk 24) 2 < 6003; omega)) dX3_gather_43 kS_X3_67 rfl rfl (Nat.le_of_ble_eq_true rfl) ⟨(Nat.le_of_ble_eq_true rfl), (Nat.le_of_ble_eq_true rfl)⟩ hph pl46 (show 0 + 0 = 0 from rfl) (by decide) (fun rh38 Lh38 clh38 lnh38 ivh38 rvh38 h38 => ?_)
        obtain ⟨rfl, xl38, fl38, W38, exf38, ladf38⟩ := h38
        refine hv10 (F37.call X35 fl38 rfl) (xl37.ty tsk6) (xl37.ty tsk7) (xl37.ty tsk8) (xl37.ty tsk9) (xl37.ty tsk10) (xl37.ty tsk25) (xl37.ty tnb1) (X35.trans xl38) (xl38.skl sk35) (fun F38 ty347 ty348 ty349 ty350 ty351 ty352 ty353 X36 sk36 => ?_)
        refine c_st (st2 := []) rfl ?_
        refine hv4 (xl38.ty ty344) (show ivh37 (sk 24) 2 ≤ ivh38 (sk 24) 2 ∧ ivh38 (sk 24) 2 ≤ ivh37 (sk 24) 2 + 1 from exf38) (show GLQ sk ln iv rv a1 Lh38 clh38 lnh38 ivh38 rvh38 (sk 24) (fun a i => rws1 a (a 8 i.toNat) ++ indl a (4 * i + ((2 : Nat) : Int))) from (gl90.ind (j := 2) (QT.of hW hS X35 F37 rfl rfl rfl rfl rfl) (QT.of W37 sk35 xl38 fl38 rfl rfl rfl rfl rfl) trb22 rq22 nq9 ladf38 (by decide))) (show GLQ sk ln iv rv a1 Lh38 clh38 lnh38 ivh38 rvh38 (sk 25) (fun _ _ => []) from (gl91.mv (QT.of W37 sk35 xl38 fl38 rfl rfl rfl rfl rfl) (el25.fr W37 sk35 fl38 rfl rfl).1 (el25.fr W37 sk35 fl38 rfl rfl).2)) (fun ty354 gf38 gl92 gl93 => ?_)
        have ri93 : 0 ≤ ivh38 (sk 24) 2 ∧ ivh38 (sk 24) 2 ≤ 6003 := W38.int ty354 2
        refine c_aload_n (j := 0) (x := a0) C dX3_gather_46 rfl ?_
        refine hv2 (xl38.ty ty345) (show rvh2 a0 1 = rvh1 a0 1 from (fl2.r t_a0 rfl 1)) (fun ty355 re69 => ?_)
        rw [rq2] at re69
        have re70 : rvh37 a0 1 = rvh2 a0 1 := (fl37.r t_a0 rfl 1)
        rw [re69] at re70
        have re71 : rvh38 a0 1 = rvh37 a0 1 := (fl38.r ty345 rfl 1)
        rw [re70] at re71
        refine c_getr (k := 1) C ck_4 dX3_gather_47 w1_193 (by decide) ty355 rfl rfl (by decide) rfl re71 ?_
        refine c_st (st2 := [.ref (sk 25)]) rfl ?_
        refine c_aload_n (j := 1) (x := a1) C dX3_gather_50 rfl ?_
        have ty356 := xl38.ty ty346
        rcases W38.opt ty356 3 rfl rfl with ⟨nq10, _⟩ | ⟨nb10, nq10, tnb10⟩
        · refine c_getr (k := 3) C ck_10 dX3_gather_51 w2_184 (by decide) ty356 rfl rfl (by decide) rfl nq10 ?_
          refine c_st (st2 := [.null, .ref (sk 25)]) rfl ?_
          refine hv7 (show (-2147483648) ≤ ivh38 a1 0 ∧ ivh38 a1 0 ≤ 2147483647 from W38.int ty356 0) (show ivh38 a1 0 = ivh37 a1 0 from fl38.i ty346 rfl 0) (show ivh37 a1 0 = ivh2 a1 0 from fl37.i t_a1 rfl 0) (xl38.ty ty352) (show ivh38 (sk 25) 2 = ivh37 (sk 25) 2 from fl38.i ty352 rfl 2) (show ivh37 (sk 25) 2 = ivh2 (sk 25) 2 from fl37.i tsk25 rfl 2) (Phi.le W38 sk36) (fun ri94 ie125 ie126 ty357 ie127 ie128 pl47 => ?_)
          have ri95 : 0 ≤ ivh38 (sk 25) 2 ∧ ivh38 (sk 25) 2 ≤ 6003 := W38.int ty357 2
          refine d_callS (As := [.ref (sk 25), .null]) (rest := []) C hM (C_gatherPart_25 (a0 := (sk 25)) (r := none) W38 sk36 ty357 (fun _ q => by cases q)  (by show ivh38 (sk 25) 2 = 0; omega)) dX3_gather_54 kS_X3_59 rfl rfl (Nat.le_of_ble_eq_true rfl) ⟨(Nat.le_of_ble_eq_true rfl), (Nat.le_of_ble_eq_true rfl)⟩ hph pl47 (show 0 + 0 = 0 from rfl) (by decide) (fun rh39 Lh39 clh39 lnh39 ivh39 rvh39 h39 => ?_)
          obtain ⟨rfl, xl39, fl39, W39, exf39⟩ := h39
          refine hv10 (F38.call X36 fl39 rfl) (xl38.ty ty347) (xl38.ty ty348) (xl38.ty ty349) (xl38.ty ty350) (xl38.ty ty351) (xl38.ty ty353) (xl38.ty trb22) (X36.trans xl39) (xl39.skl sk36) (fun F39 ty358 ty359 ty360 ty361 ty362 ty363 ty364 X37 sk37 => ?_)
          refine c_st (st2 := []) rfl ?_
          refine hv3 (xl39.ty ty357) (show ivh39 (sk 25) 2 ≤ 6002 from exf39) (show GLQ sk ln iv rv a1 Lh39 clh39 lnh39 ivh39 rvh39 (sk 24) (fun a i => rws1 a (a 8 i.toNat) ++ indl a (4 * i + ((2 : Nat) : Int))) from (gl92.mv (QT.of W38 sk36 xl39 fl39 rfl rfl rfl rfl rfl) (el24.fr W38 sk36 fl39 rfl rfl).1 (el24.fr W38 sk36 fl39 rfl rfl).2)) (fun ty365 gf39 gl95 => ?_)
          have ri96 : 0 ≤ ivh39 (sk 25) 2 ∧ ivh39 (sk 25) 2 ≤ 6003 := W39.int ty365 2
          have gl94 : GLQ sk ln iv rv a1 Lh39 clh39 lnh39 ivh39 rvh39 (sk 25) (fun a i => rws1 a (a 9 i.toNat)) := (GLQ.no3 (QT.of hW hS X36 F38 rfl rfl rfl rfl rfl) (by omega) nq10)
          refine c_aload_n (j := 0) (x := a0) C dX3_gather_57 rfl ?_
          refine hv2 (xl39.ty ty355) (show rvh39 a0 1 = rvh38 a0 1 from (fl39.r ty355 rfl 1)) (fun ty366 re72 => ?_)
          rw [re71] at re72
          refine c_getr (k := 1) C ck_4 dX3_gather_58 w1_193 (by decide) ty366 rfl rfl (by decide) rfl re72 ?_
          refine c_st (st2 := [.ref (sk 25)]) rfl ?_
          refine c_aload_n (j := 1) (x := a1) C dX3_gather_61 rfl ?_
          refine hv2 (xl39.ty ty356) (show rvh38 a1 6 = rvh37 a1 6 from (fl38.r ty346 rfl 6)) (fun ty367 re73 => ?_)
          rw [rq22] at re73
          have re74 : rvh39 a1 6 = rvh38 a1 6 := (fl39.r ty356 rfl 6)
          rw [re73] at re74
          refine c_getr (k := 6) C ck_10 dX3_gather_62 w2_193 (by decide) ty367 rfl rfl (by decide) rfl re74 ?_
          refine c_st (st2 := [.ref rb22, .ref (sk 25)]) rfl ?_
          refine c_iconst C dX3_gather_65 ?_
          have ty368 := xl39.ty ty364
          have ll7 : 4 ≤ lnh39 rb22 ∧ lnh39 rb22 ≤ 4 := W39.len ty368 rfl
          rcases W39.opt ty368 ((3 : Int).toNat) rfl rfl with ⟨nq11, _⟩ | ⟨nb11, nq11, tnb11⟩
          · refine c_aaldR C dX3_gather_66 ty368 rfl (by omega) (by omega) (by omega) nq11 ?_
            refine c_st (st2 := [.null, .ref (sk 25)]) rfl ?_
            have pl48 := Phi.le W39 sk37
            refine d_callS (As := [.ref (sk 25), .null]) (rest := []) C hM (G_addInd_25 (a0 := (sk 25)) (r := none) W39 sk37 ty365 (fun _ q => by cases q)  (by show ivh39 (sk 25) 2 < 6003; omega)) dX3_gather_67 kS_X3_67 rfl rfl (Nat.le_of_ble_eq_true rfl) ⟨(Nat.le_of_ble_eq_true rfl), (Nat.le_of_ble_eq_true rfl)⟩ hph pl48 (show 0 + 0 = 0 from rfl) (by decide) (fun rh40 Lh40 clh40 lnh40 ivh40 rvh40 h40 => ?_)
            obtain ⟨rfl, xl40, fl40, W40, exf40, ladf40⟩ := h40
            refine hv10 (F39.call X37 fl40 rfl) (xl39.ty ty358) (xl39.ty ty359) (xl39.ty ty360) (xl39.ty ty361) (xl39.ty ty362) (xl39.ty ty354) (xl39.ty ty363) (X37.trans xl40) (xl40.skl sk37) (fun F40 ty369 ty370 ty371 ty372 ty373 ty374 ty375 X38 sk38 => ?_)
            refine c_st (st2 := []) rfl ?_
            refine hv4 (xl40.ty ty365) (show ivh39 (sk 25) 2 ≤ ivh40 (sk 25) 2 ∧ ivh40 (sk 25) 2 ≤ ivh39 (sk 25) 2 + 1 from exf40) (show GLQ sk ln iv rv a1 Lh40 clh40 lnh40 ivh40 rvh40 (sk 25) (fun a i => rws1 a (a 9 i.toNat) ++ indl a (4 * i + ((3 : Nat) : Int))) from (gl94.ind (j := 3) (QT.of hW hS X37 F39 rfl rfl rfl rfl rfl) (QT.of W39 sk37 xl40 fl40 rfl rfl rfl rfl rfl) ty368 re74 nq11 ladf40 (by decide))) (show GLQ sk ln iv rv a1 Lh40 clh40 lnh40 ivh40 rvh40 (sk 24) (fun a i => rws1 a (a 8 i.toNat) ++ indl a (4 * i + ((2 : Nat) : Int))) from (gl95.mv (QT.of W39 sk37 xl40 fl40 rfl rfl rfl rfl rfl) (el24.fr W39 sk37 fl40 rfl rfl).1 (el24.fr W39 sk37 fl40 rfl rfl).2)) (fun ty376 gf40 gl96 gl97 => ?_)
            have ri97 : 0 ≤ ivh40 (sk 25) 2 ∧ ivh40 (sk 25) 2 ≤ 6003 := W40.int ty376 2
            refine c_goto (tgt := 81) C dX3_gather_70 (by decide) ?_
            refine hv3 (xl40.ty ty367) (show ivh40 a1 0 = ivh39 a1 0 from fl40.i ty367 rfl 0) (show ivh39 a1 0 = ivh38 a1 0 from fl39.i ty356 rfl 0) (fun ty377 ie131 ie132 => ?_)
            have ri98 : (-2147483648) ≤ ivh40 a1 0 ∧ ivh40 a1 0 ≤ 2147483647 := W40.int ty377 0
            have gl98 : GLQ sk ln iv rv a1 Lh40 clh40 lnh40 ivh40 rvh40 (sk 24) gat0 := (gl97.g0 (by omega))
            have gl99 : GLQ sk ln iv rv a1 Lh40 clh40 lnh40 ivh40 rvh40 (sk 25) gat1 := (gl96.g1 (by omega))
            refine c_aload_n (j := 0) (x := a0) C dX3_gather_81 rfl ?_
            refine hv2 (xl40.ty ty366) (show rvh38 a0 0 = rvh37 a0 0 from (fl38.r ty345 rfl 0)) (fun ty378 re75 => ?_)
            rw [re68] at re75
            have re76 : rvh39 a0 0 = rvh38 a0 0 := (fl39.r ty355 rfl 0)
            rw [re75] at re76
            have re77 : rvh40 a0 0 = rvh39 a0 0 := (fl40.r ty366 rfl 0)
            rw [re76] at re77
            refine c_getr (k := 0) C ck_4 dX3_gather_82 w1_190 (by decide) ty378 rfl rfl (by decide) rfl re77 ?_
            refine c_st (st2 := [.ref (sk 24)]) rfl ?_
            refine c_aload_n (j := 0) (x := a0) C dX3_gather_85 rfl ?_
            obtain ⟨rb23, rq23, trb23⟩ := W40.ref ty378 2 rfl rfl rfl
            have erb23 := W40.sk trb23 (by decide) rfl
            subst erb23
            refine c_getr (k := 2) C ck_4 dX3_gather_86 w1_196 (by decide) ty378 rfl rfl (by decide) rfl rq23 ?_
            refine c_st (st2 := [.ref (sk 6), .ref (sk 24)]) rfl ?_
            refine hv5 (xl40.ty ty374) (show ivh40 (sk 24) 2 = ivh39 (sk 24) 2 from fl40.i ty374 rfl 2) (show ivh39 (sk 24) 2 = ivh38 (sk 24) 2 from fl39.i ty354 rfl 2) (xl40.ty ty369) (Phi.le W40 sk38) (fun ty379 ie133 ie134 ty380 pl49 => ?_)
            have ri99 : 0 ≤ ivh40 (sk 24) 2 ∧ ivh40 (sk 24) 2 ≤ 6003 := W40.int ty379 2
            refine d_callS (As := [.ref (sk 24), .ref (sk 6)]) (rest := []) C hM (G_markBegins_24 (a0 := (sk 24)) (a1 := (sk 6)) W40 sk38 ty379 ty380  ) dX3_gather_89 kS_X3_73 rfl rfl (Nat.le_of_ble_eq_true rfl) ⟨(Nat.le_of_ble_eq_true rfl), (Nat.le_of_ble_eq_true rfl)⟩ hph pl49 (show 0 + 0 = 0 from rfl) (by decide) (fun rh41 Lh41 clh41 lnh41 ivh41 rvh41 h41 => ?_)
            obtain ⟨rfl, xl41, fl41, W41, exf41⟩ := h41
            refine hv9 (F40.call X38 fl41 rfl) (xl40.ty ty370) (xl40.ty ty371) (xl40.ty ty372) (xl40.ty ty373) (xl40.ty ty375) (xl40.ty ty368) (X38.trans xl41) (xl41.skl sk38) (fun F41 ty381 ty382 ty383 ty384 ty385 ty386 X39 sk39 => ?_)
            refine c_st (st2 := []) rfl ?_
            refine hv6 (xl41.ty ty380) (show ivh41 (sk 6) 2 = ivh40 (sk 24) 2 ∧ MBX Lh40 clh40 lnh40 ivh40 rvh40 (sk 24) ivh41 rvh41 (sk 6) from exf41) (show GLQ sk ln iv rv a1 Lh41 clh41 lnh41 ivh41 rvh41 (sk 24) gat0 from (gl98.mv (QT.of W40 sk38 xl41 fl41 rfl rfl rfl rfl rfl) (el24.fr W40 sk38 fl41 rfl rfl).1 (el24.fr W40 sk38 fl41 rfl rfl).2)) (show GLQ sk ln iv rv a1 Lh41 clh41 lnh41 ivh41 rvh41 (sk 25) gat1 from (gl99.mv (QT.of W40 sk38 xl41 fl41 rfl rfl rfl rfl rfl) (el25.fr W40 sk38 fl41 rfl rfl).1 (el25.fr W40 sk38 fl41 rfl rfl).2)) (xl41.ty ty379) (show ivh41 (sk 24) 2 = ivh40 (sk 24) 2 from fl41.i ty379 rfl 2) (fun ty387 gf41 gl100 gl101 ty388 ie136 => ?_)
            refine hv2 (show 0 ≤ ivh41 (sk 6) 2 ∧ ivh41 (sk 6) 2 ≤ 6003 from W41.int ty387 2) (show 0 ≤ ivh41 (sk 24) 2 ∧ ivh41 (sk 24) 2 ≤ 6003 from W41.int ty388 2) (fun ri100 ri101 => ?_)
            have gb28 := GBQ.mk gl98 gf41.2 (by omega) (by omega)
            refine c_aload_n (j := 0) (x := a0) C dX3_gather_92 rfl ?_
            refine hv2 (xl41.ty ty378) (show rvh40 a0 1 = rvh39 a0 1 from (fl40.r ty366 rfl 1)) (fun ty389 re78 => ?_)
            rw [re72] at re78
            have re79 : rvh41 a0 1 = rvh40 a0 1 := (fl41.r ty378 rfl 1)
            rw [re78] at re79
            refine c_getr (k := 1) C ck_4 dX3_gather_93 w1_193 (by decide) ty389 rfl rfl (by decide) rfl re79 ?_
            refine c_st (st2 := [.ref (sk 25)]) rfl ?_
            refine c_aload_n (j := 0) (x := a0) C dX3_gather_96 rfl ?_
            obtain ⟨rb24, rq24, trb24⟩ := W41.ref ty389 3 rfl rfl rfl
            have erb24 := W41.sk trb24 (by decide) rfl
            subst erb24
            refine c_getr (k := 3) C ck_4 dX3_gather_97 w1_197 (by decide) ty389 rfl rfl (by decide) rfl rq24 ?_
            refine c_st (st2 := [.ref (sk 7), .ref (sk 25)]) rfl ?_
            refine hv4 (xl41.ty ty376) (show ivh41 (sk 25) 2 = ivh40 (sk 25) 2 from fl41.i ty376 rfl 2) (xl41.ty ty381) (Phi.le W41 sk39) (fun ty390 ie137 ty391 pl50 => ?_)
            have ri102 : 0 ≤ ivh41 (sk 25) 2 ∧ ivh41 (sk 25) 2 ≤ 6003 := W41.int ty390 2
            refine d_callS (As := [.ref (sk 25), .ref (sk 7)]) (rest := []) C hM (G_markBegins_25 (a0 := (sk 25)) (a1 := (sk 7)) W41 sk39 ty390 ty391  ) dX3_gather_100 kS_X3_73 rfl rfl (Nat.le_of_ble_eq_true rfl) ⟨(Nat.le_of_ble_eq_true rfl), (Nat.le_of_ble_eq_true rfl)⟩ hph pl50 (show 0 + 0 = 0 from rfl) (by decide) (fun rh42 Lh42 clh42 lnh42 ivh42 rvh42 h42 => ?_)
            obtain ⟨rfl, xl42, fl42, W42, exf42⟩ := h42
            refine hv9 (F41.call X39 fl42 rfl) (xl41.ty ty377) (xl41.ty ty382) (xl41.ty ty383) (xl41.ty ty384) (xl41.ty ty385) (xl41.ty ty386) (X39.trans xl42) (xl42.skl sk39) (fun F42 ty392 ty393 ty394 ty395 ty396 ty397 X40 sk40 => ?_)
            refine c_st (st2 := []) rfl ?_
            refine hv8 (xl42.ty ty391) (show ivh42 (sk 7) 2 = ivh41 (sk 25) 2 ∧ MBX Lh41 clh41 lnh41 ivh41 rvh41 (sk 25) ivh42 rvh42 (sk 7) from exf42) (show GLQ sk ln iv rv a1 Lh42 clh42 lnh42 ivh42 rvh42 (sk 24) gat0 from (gl100.mv (QT.of W41 sk39 xl42 fl42 rfl rfl rfl rfl rfl) (el24.fr W41 sk39 fl42 rfl rfl).1 (el24.fr W41 sk39 fl42 rfl rfl).2)) (show GLQ sk ln iv rv a1 Lh42 clh42 lnh42 ivh42 rvh42 (sk 25) gat1 from (gl101.mv (QT.of W41 sk39 xl42 fl42 rfl rfl rfl rfl rfl) (el25.fr W41 sk39 fl42 rfl rfl).1 (el25.fr W41 sk39 fl42 rfl rfl).2)) (xl42.ty ty390) (show ivh42 (sk 25) 2 = ivh41 (sk 25) 2 from fl42.i ty390 rfl 2) (gb28.fr W41 ty388 ty387 fl42 rfl rfl rfl rfl rfl rfl) (Phi.le W42 sk40) (fun ty398 gf42 gl102 gl103 ty399 ie139 gb30 pl51 => ?_)
            refine hv2 (show 0 ≤ ivh42 (sk 7) 2 ∧ ivh42 (sk 7) 2 ≤ 6003 from W42.int ty398 2) (show 0 ≤ ivh42 (sk 25) 2 ∧ ivh42 (sk 25) 2 ≤ 6003 from W42.int ty399 2) (fun ri103 ri104 => ?_)
            have gb29 := GBQ.mk gl101 gf42.2 (by omega) (by omega)
            exact c_vret C dX3_gather_103 rfl (by decide) (rom0 hph pl51 (by decide)) ⟨rfl, X40, F42, W42, trivial, ⟨gl102, gl103⟩, ⟨gb30, gb29⟩⟩
          · have tnb11 : ty Lh39 clh39 nb11 20 := tnb11
            refine c_aaldR C dX3_gather_66 ty368 rfl (by omega) (by omega) (by omega) nq11 ?_
            refine c_st (st2 := [.ref nb11, .ref (sk 25)]) rfl ?_
            have pl52 := Phi.le W39 sk37
            refine d_callS (As := [.ref (sk 25), .ref nb11]) (rest := []) C hM (G_addInd_25 (a0 := (sk 25)) (r := (some nb11)) W39 sk37 ty365 (fun _ q => by cases q; exact tnb11)  (by show ivh39 (sk 25) 2 < 6003; omega)) dX3_gather_67 kS_X3_67 rfl rfl (Nat.le_of_ble_eq_true rfl) ⟨(Nat.le_of_ble_eq_true rfl), (Nat.le_of_ble_eq_true rfl)⟩ hph pl52 (show 0 + 0 = 0 from rfl) (by decide) (fun rh43 Lh43 clh43 lnh43 ivh43 rvh43 h43 => ?_)
            obtain ⟨rfl, xl43, fl43, W43, exf43, ladf43⟩ := h43
            refine hv10 (F39.call X37 fl43 rfl) (xl39.ty ty358) (xl39.ty ty359) (xl39.ty ty360) (xl39.ty ty361) (xl39.ty ty362) (xl39.ty ty354) (xl39.ty ty363) (X37.trans xl43) (xl43.skl sk37) (fun F43 ty400 ty401 ty402 ty403 ty404 ty405 ty406 X41 sk41 => ?_)
            refine c_st (st2 := []) rfl ?_
            refine hv4 (xl43.ty ty365) (show ivh39 (sk 25) 2 ≤ ivh43 (sk 25) 2 ∧ ivh43 (sk 25) 2 ≤ ivh39 (sk 25) 2 + 1 from exf43) (show GLQ sk ln iv rv a1 Lh43 clh43 lnh43 ivh43 rvh43 (sk 25) (fun a i => rws1 a (a 9 i.toNat) ++ indl a (4 * i + ((3 : Nat) : Int))) from (gl94.ind (j := 3) (QT.of hW hS X37 F39 rfl rfl rfl rfl rfl) (QT.of W39 sk37 xl43 fl43 rfl rfl rfl rfl rfl) ty368 re74 nq11 ladf43 (by decide))) (show GLQ sk ln iv rv a1 Lh43 clh43 lnh43 ivh43 rvh43 (sk 24) (fun a i => rws1 a (a 8 i.toNat) ++ indl a (4 * i + ((2 : Nat) : Int))) from (gl95.mv (QT.of W39 sk37 xl43 fl43 rfl rfl rfl rfl rfl) (el24.fr W39 sk37 fl43 rfl rfl).1 (el24.fr W39 sk37 fl43 rfl rfl).2)) (fun ty407 gf43 gl104 gl105 => ?_)
            have ri105 : 0 ≤ ivh43 (sk 25) 2 ∧ ivh43 (sk 25) 2 ≤ 6003 := W43.int ty407 2
            refine c_goto (tgt := 81) C dX3_gather_70 (by decide) ?_
            refine hv3 (xl43.ty ty367) (show ivh43 a1 0 = ivh39 a1 0 from fl43.i ty367 rfl 0) (show ivh39 a1 0 = ivh38 a1 0 from fl39.i ty356 rfl 0) (fun ty408 ie141 ie142 => ?_)
            have ri106 : (-2147483648) ≤ ivh43 a1 0 ∧ ivh43 a1 0 ≤ 2147483647 := W43.int ty408 0
            have gl106 : GLQ sk ln iv rv a1 Lh43 clh43 lnh43 ivh43 rvh43 (sk 24) gat0 := (gl105.g0 (by omega))
            have gl107 : GLQ sk ln iv rv a1 Lh43 clh43 lnh43 ivh43 rvh43 (sk 25) gat1 := (gl104.g1 (by omega))
            refine c_aload_n (j := 0) (x := a0) C dX3_gather_81 rfl ?_
            refine hv2 (xl43.ty ty366) (show rvh38 a0 0 = rvh37 a0 0 from (fl38.r ty345 rfl 0)) (fun ty409 re80 => ?_)
            rw [re68] at re80
            have re81 : rvh39 a0 0 = rvh38 a0 0 := (fl39.r ty355 rfl 0)
            rw [re80] at re81
            have re82 : rvh43 a0 0 = rvh39 a0 0 := (fl43.r ty366 rfl 0)
            rw [re81] at re82
            refine c_getr (k := 0) C ck_4 dX3_gather_82 w1_190 (by decide) ty409 rfl rfl (by decide) rfl re82 ?_
            refine c_st (st2 := [.ref (sk 24)]) rfl ?_
            refine c_aload_n (j := 0) (x := a0) C dX3_gather_85 rfl ?_
            obtain ⟨rb25, rq25, trb25⟩ := W43.ref ty409 2 rfl rfl rfl
            have erb25 := W43.sk trb25 (by decide) rfl
            subst erb25
            refine c_getr (k := 2) C ck_4 dX3_gather_86 w1_196 (by decide) ty409 rfl rfl (by decide) rfl rq25 ?_
            refine c_st (st2 := [.ref (sk 6), .ref (sk 24)]) rfl ?_
            refine hv5 (xl43.ty ty405) (show ivh43 (sk 24) 2 = ivh39 (sk 24) 2 from fl43.i ty405 rfl 2) (show ivh39 (sk 24) 2 = ivh38 (sk 24) 2 from fl39.i ty354 rfl 2) (xl43.ty ty400) (Phi.le W43 sk41) (fun ty410 ie143 ie144 ty411 pl53 => ?_)
            have ri107 : 0 ≤ ivh43 (sk 24) 2 ∧ ivh43 (sk 24) 2 ≤ 6003 := W43.int ty410 2
            refine d_callS (As := [.ref (sk 24), .ref (sk 6)]) (rest := []) C hM (G_markBegins_24 (a0 := (sk 24)) (a1 := (sk 6)) W43 sk41 ty410 ty411  ) dX3_gather_89 kS_X3_73 rfl rfl (Nat.le_of_ble_eq_true rfl) ⟨(Nat.le_of_ble_eq_true rfl), (Nat.le_of_ble_eq_true rfl)⟩ hph pl53 (show 0 + 0 = 0 from rfl) (by decide) (fun rh44 Lh44 clh44 lnh44 ivh44 rvh44 h44 => ?_)
            obtain ⟨rfl, xl44, fl44, W44, exf44⟩ := h44
            refine hv10 (F43.call X41 fl44 rfl) (xl43.ty ty401) (xl43.ty ty402) (xl43.ty ty403) (xl43.ty ty404) (xl43.ty ty406) (xl43.ty ty368) (xl43.ty tnb11) (X41.trans xl44) (xl44.skl sk41) (fun F44 ty412 ty413 ty414 ty415 ty416 ty417 ty418 X42 sk42 => ?_)
            refine c_st (st2 := []) rfl ?_
            refine hv6 (xl44.ty ty411) (show ivh44 (sk 6) 2 = ivh43 (sk 24) 2 ∧ MBX Lh43 clh43 lnh43 ivh43 rvh43 (sk 24) ivh44 rvh44 (sk 6) from exf44) (show GLQ sk ln iv rv a1 Lh44 clh44 lnh44 ivh44 rvh44 (sk 24) gat0 from (gl106.mv (QT.of W43 sk41 xl44 fl44 rfl rfl rfl rfl rfl) (el24.fr W43 sk41 fl44 rfl rfl).1 (el24.fr W43 sk41 fl44 rfl rfl).2)) (show GLQ sk ln iv rv a1 Lh44 clh44 lnh44 ivh44 rvh44 (sk 25) gat1 from (gl107.mv (QT.of W43 sk41 xl44 fl44 rfl rfl rfl rfl rfl) (el25.fr W43 sk41 fl44 rfl rfl).1 (el25.fr W43 sk41 fl44 rfl rfl).2)) (xl44.ty ty410) (show ivh44 (sk 24) 2 = ivh43 (sk 24) 2 from fl44.i ty410 rfl 2) (fun ty419 gf44 gl108 gl109 ty420 ie146 => ?_)
            refine hv2 (show 0 ≤ ivh44 (sk 6) 2 ∧ ivh44 (sk 6) 2 ≤ 6003 from W44.int ty419 2) (show 0 ≤ ivh44 (sk 24) 2 ∧ ivh44 (sk 24) 2 ≤ 6003 from W44.int ty420 2) (fun ri108 ri109 => ?_)
            have gb31 := GBQ.mk gl106 gf44.2 (by omega) (by omega)
            refine c_aload_n (j := 0) (x := a0) C dX3_gather_92 rfl ?_
            refine hv2 (xl44.ty ty409) (show rvh43 a0 1 = rvh39 a0 1 from (fl43.r ty366 rfl 1)) (fun ty421 re83 => ?_)
            rw [re72] at re83
            have re84 : rvh44 a0 1 = rvh43 a0 1 := (fl44.r ty409 rfl 1)
            rw [re83] at re84
            refine c_getr (k := 1) C ck_4 dX3_gather_93 w1_193 (by decide) ty421 rfl rfl (by decide) rfl re84 ?_
            refine c_st (st2 := [.ref (sk 25)]) rfl ?_
            refine c_aload_n (j := 0) (x := a0) C dX3_gather_96 rfl ?_
            obtain ⟨rb26, rq26, trb26⟩ := W44.ref ty421 3 rfl rfl rfl
            have erb26 := W44.sk trb26 (by decide) rfl
            subst erb26
            refine c_getr (k := 3) C ck_4 dX3_gather_97 w1_197 (by decide) ty421 rfl rfl (by decide) rfl rq26 ?_
            refine c_st (st2 := [.ref (sk 7), .ref (sk 25)]) rfl ?_
            refine hv4 (xl44.ty ty407) (show ivh44 (sk 25) 2 = ivh43 (sk 25) 2 from fl44.i ty407 rfl 2) (xl44.ty ty412) (Phi.le W44 sk42) (fun ty422 ie147 ty423 pl54 => ?_)
            have ri110 : 0 ≤ ivh44 (sk 25) 2 ∧ ivh44 (sk 25) 2 ≤ 6003 := W44.int ty422 2
            refine d_callS (As := [.ref (sk 25), .ref (sk 7)]) (rest := []) C hM (G_markBegins_25 (a0 := (sk 25)) (a1 := (sk 7)) W44 sk42 ty422 ty423  ) dX3_gather_100 kS_X3_73 rfl rfl (Nat.le_of_ble_eq_true rfl) ⟨(Nat.le_of_ble_eq_true rfl), (Nat.le_of_ble_eq_true rfl)⟩ hph pl54 (show 0 + 0 = 0 from rfl) (by decide) (fun rh45 Lh45 clh45 lnh45 ivh45 rvh45 h45 => ?_)
            obtain ⟨rfl, xl45, fl45, W45, exf45⟩ := h45
            refine hv10 (F44.call X42 fl45 rfl) (xl44.ty ty408) (xl44.ty ty413) (xl44.ty ty414) (xl44.ty ty415) (xl44.ty ty416) (xl44.ty ty417) (xl44.ty ty418) (X42.trans xl45) (xl45.skl sk42) (fun F45 ty424 ty425 ty426 ty427 ty428 ty429 ty430 X43 sk43 => ?_)
            refine c_st (st2 := []) rfl ?_
            refine hv8 (xl45.ty ty423) (show ivh45 (sk 7) 2 = ivh44 (sk 25) 2 ∧ MBX Lh44 clh44 lnh44 ivh44 rvh44 (sk 25) ivh45 rvh45 (sk 7) from exf45) (show GLQ sk ln iv rv a1 Lh45 clh45 lnh45 ivh45 rvh45 (sk 24) gat0 from (gl108.mv (QT.of W44 sk42 xl45 fl45 rfl rfl rfl rfl rfl) (el24.fr W44 sk42 fl45 rfl rfl).1 (el24.fr W44 sk42 fl45 rfl rfl).2)) (show GLQ sk ln iv rv a1 Lh45 clh45 lnh45 ivh45 rvh45 (sk 25) gat1 from (gl109.mv (QT.of W44 sk42 xl45 fl45 rfl rfl rfl rfl rfl) (el25.fr W44 sk42 fl45 rfl rfl).1 (el25.fr W44 sk42 fl45 rfl rfl).2)) (xl45.ty ty422) (show ivh45 (sk 25) 2 = ivh44 (sk 25) 2 from fl45.i ty422 rfl 2) (gb31.fr W44 ty420 ty419 fl45 rfl rfl rfl rfl rfl rfl) (Phi.le W45 sk43) (fun ty431 gf45 gl110 gl111 ty432 ie149 gb33 pl55 => ?_)
            refine hv2 (show 0 ≤ ivh45 (sk 7) 2 ∧ ivh45 (sk 7) 2 ≤ 6003 from W45.int ty431 2) (show 0 ≤ ivh45 (sk 25) 2 ∧ ivh45 (sk 25) 2 ≤ 6003 from W45.int ty432 2) (fun ri111 ri112 => ?_)
            have gb32 := GBQ.mk gl109 gf45.2 (by omega) (by omega)
            exact c_vret C dX3_gather_103 rfl (by decide) (rom0 hph pl55 (by decide)) ⟨rfl, X43, F45, W45, trivial, ⟨gl110, gl111⟩, ⟨gb33, gb32⟩⟩
        · have rknb10 := W38.rank ty356 (k := 3) (by decide) nq10
          refine c_getr (k := 3) C ck_10 dX3_gather_51 w2_184 (by decide) ty356 rfl rfl (by decide) rfl nq10 ?_
          refine c_st (st2 := [.ref nb10, .ref (sk 25)]) rfl ?_
          refine hv4 (xl38.ty ty352) (show ivh38 (sk 25) 2 = ivh37 (sk 25) 2 from fl38.i ty352 rfl 2) (show ivh37 (sk 25) 2 = ivh2 (sk 25) 2 from fl37.i tsk25 rfl 2) (Phi.le W38 sk36) (fun ty433 ie150 ie151 pl56 => ?_)
          have ri113 : 0 ≤ ivh38 (sk 25) 2 ∧ ivh38 (sk 25) 2 ≤ 6003 := W38.int ty433 2
          refine d_callS (As := [.ref (sk 25), .ref nb10]) (rest := []) C hM (G_gatherPart_25 (a0 := (sk 25)) (a1 := nb10) W38 sk36 ty433 tnb10  (by show ivh38 (sk 25) 2 = 0; omega)) dX3_gather_54 kS_X3_59 rfl rfl (Nat.le_of_ble_eq_true rfl) ⟨(Nat.le_of_ble_eq_true rfl), (Nat.le_of_ble_eq_true rfl)⟩ hph pl56 (show 0 + 0 = 0 from rfl) (by decide) (fun rh46 Lh46 clh46 lnh46 ivh46 rvh46 h46 => ?_)
          obtain ⟨rfl, xl46, fl46, W46, exf46, gpxf46⟩ := h46
          refine hv10 (F38.call X36 fl46 rfl) (xl38.ty ty347) (xl38.ty ty348) (xl38.ty ty349) (xl38.ty ty350) (xl38.ty ty351) (xl38.ty ty353) (xl38.ty trb22) (X36.trans xl46) (xl46.skl sk36) (fun F46 ty434 ty435 ty436 ty437 ty438 ty439 ty440 X44 sk44 => ?_)
          refine c_st (st2 := []) rfl ?_
          refine hv4 (xl46.ty ty433) (show ivh46 (sk 25) 2 ≤ 6002 from exf46) (show GLQ sk ln iv rv a1 Lh46 clh46 lnh46 ivh46 rvh46 (sk 25) (fun a i => rws1 a (a 9 i.toNat)) from (GLQ.sub3 gpxf46 (QT.of hW hS X36 F38 rfl rfl rfl rfl rfl) nq10)) (show GLQ sk ln iv rv a1 Lh46 clh46 lnh46 ivh46 rvh46 (sk 24) (fun a i => rws1 a (a 8 i.toNat) ++ indl a (4 * i + ((2 : Nat) : Int))) from (gl92.mv (QT.of W38 sk36 xl46 fl46 rfl rfl rfl rfl rfl) (el24.fr W38 sk36 fl46 rfl rfl).1 (el24.fr W38 sk36 fl46 rfl rfl).2)) (fun ty441 gf46 gl112 gl113 => ?_)
          have ri114 : 0 ≤ ivh46 (sk 25) 2 ∧ ivh46 (sk 25) 2 ≤ 6003 := W46.int ty441 2
          refine c_aload_n (j := 0) (x := a0) C dX3_gather_57 rfl ?_
          refine hv2 (xl46.ty ty355) (show rvh46 a0 1 = rvh38 a0 1 from (fl46.r ty355 rfl 1)) (fun ty442 re85 => ?_)
          rw [re71] at re85
          refine c_getr (k := 1) C ck_4 dX3_gather_58 w1_193 (by decide) ty442 rfl rfl (by decide) rfl re85 ?_
          refine c_st (st2 := [.ref (sk 25)]) rfl ?_
          refine c_aload_n (j := 1) (x := a1) C dX3_gather_61 rfl ?_
          refine hv2 (xl46.ty ty356) (show rvh38 a1 6 = rvh37 a1 6 from (fl38.r ty346 rfl 6)) (fun ty443 re86 => ?_)
          rw [rq22] at re86
          have re87 : rvh46 a1 6 = rvh38 a1 6 := (fl46.r ty356 rfl 6)
          rw [re86] at re87
          refine c_getr (k := 6) C ck_10 dX3_gather_62 w2_193 (by decide) ty443 rfl rfl (by decide) rfl re87 ?_
          refine c_st (st2 := [.ref rb22, .ref (sk 25)]) rfl ?_
          refine c_iconst C dX3_gather_65 ?_
          have ty444 := xl46.ty ty440
          have ll8 : 4 ≤ lnh46 rb22 ∧ lnh46 rb22 ≤ 4 := W46.len ty444 rfl
          rcases W46.opt ty444 ((3 : Int).toNat) rfl rfl with ⟨nq12, _⟩ | ⟨nb12, nq12, tnb12⟩
          · refine c_aaldR C dX3_gather_66 ty444 rfl (by omega) (by omega) (by omega) nq12 ?_
            refine c_st (st2 := [.null, .ref (sk 25)]) rfl ?_
            have pl57 := Phi.le W46 sk44
            refine d_callS (As := [.ref (sk 25), .null]) (rest := []) C hM (G_addInd_25 (a0 := (sk 25)) (r := none) W46 sk44 ty441 (fun _ q => by cases q)  (by show ivh46 (sk 25) 2 < 6003; omega)) dX3_gather_67 kS_X3_67 rfl rfl (Nat.le_of_ble_eq_true rfl) ⟨(Nat.le_of_ble_eq_true rfl), (Nat.le_of_ble_eq_true rfl)⟩ hph pl57 (show 0 + 0 = 0 from rfl) (by decide) (fun rh47 Lh47 clh47 lnh47 ivh47 rvh47 h47 => ?_)
            obtain ⟨rfl, xl47, fl47, W47, exf47, ladf47⟩ := h47
            refine hv11 (F46.call X44 fl47 rfl) (xl46.ty ty434) (xl46.ty ty435) (xl46.ty ty436) (xl46.ty ty437) (xl46.ty ty438) (xl46.ty ty354) (xl46.ty ty439) (xl46.ty tnb10) (X44.trans xl47) (xl47.skl sk44) (fun F47 ty445 ty446 ty447 ty448 ty449 ty450 ty451 ty452 X45 sk45 => ?_)
            refine c_st (st2 := []) rfl ?_
            refine hv4 (xl47.ty ty441) (show ivh46 (sk 25) 2 ≤ ivh47 (sk 25) 2 ∧ ivh47 (sk 25) 2 ≤ ivh46 (sk 25) 2 + 1 from exf47) (show GLQ sk ln iv rv a1 Lh47 clh47 lnh47 ivh47 rvh47 (sk 25) (fun a i => rws1 a (a 9 i.toNat) ++ indl a (4 * i + ((3 : Nat) : Int))) from (gl112.ind (j := 3) (QT.of hW hS X44 F46 rfl rfl rfl rfl rfl) (QT.of W46 sk44 xl47 fl47 rfl rfl rfl rfl rfl) ty444 re87 nq12 ladf47 (by decide))) (show GLQ sk ln iv rv a1 Lh47 clh47 lnh47 ivh47 rvh47 (sk 24) (fun a i => rws1 a (a 8 i.toNat) ++ indl a (4 * i + ((2 : Nat) : Int))) from (gl113.mv (QT.of W46 sk44 xl47 fl47 rfl rfl rfl rfl rfl) (el24.fr W46 sk44 fl47 rfl rfl).1 (el24.fr W46 sk44 fl47 rfl rfl).2)) (fun ty453 gf47 gl114 gl115 => ?_)
            have ri115 : 0 ≤ ivh47 (sk 25) 2 ∧ ivh47 (sk 25) 2 ≤ 6003 := W47.int ty453 2
            refine c_goto (tgt := 81) C dX3_gather_70 (by decide) ?_
            refine hv5 (xl47.ty ty443) (show ivh47 a1 0 = ivh46 a1 0 from fl47.i ty443 rfl 0) (show ivh46 a1 0 = ivh38 a1 0 from fl46.i ty356 rfl 0) (show ivh38 a1 0 = ivh37 a1 0 from fl38.i ty346 rfl 0) (show ivh37 a1 0 = ivh2 a1 0 from fl37.i t_a1 rfl 0) (fun ty454 ie154 ie155 ie156 ie157 => ?_)
            have ri116 : (-2147483648) ≤ ivh47 a1 0 ∧ ivh47 a1 0 ≤ 2147483647 := W47.int ty454 0
            have gl116 : GLQ sk ln iv rv a1 Lh47 clh47 lnh47 ivh47 rvh47 (sk 24) gat0 := (gl115.g0 (by omega))
            have gl117 : GLQ sk ln iv rv a1 Lh47 clh47 lnh47 ivh47 rvh47 (sk 25) gat1 := (gl114.g1 (by omega))
            refine c_aload_n (j := 0) (x := a0) C dX3_gather_81 rfl ?_
            refine hv2 (xl47.ty ty442) (show rvh38 a0 0 = rvh37 a0 0 from (fl38.r ty345 rfl 0)) (fun ty455 re88 => ?_)
            rw [re68] at re88
            have re89 : rvh46 a0 0 = rvh38 a0 0 := (fl46.r ty355 rfl 0)
            rw [re88] at re89
            have re90 : rvh47 a0 0 = rvh46 a0 0 := (fl47.r ty442 rfl 0)
            rw [re89] at re90
            refine c_getr (k := 0) C ck_4 dX3_gather_82 w1_190 (by decide) ty455 rfl rfl (by decide) rfl re90 ?_
            refine c_st (st2 := [.ref (sk 24)]) rfl ?_
            refine c_aload_n (j := 0) (x := a0) C dX3_gather_85 rfl ?_
            obtain ⟨rb27, rq27, trb27⟩ := W47.ref ty455 2 rfl rfl rfl
            have erb27 := W47.sk trb27 (by decide) rfl
            subst erb27
            refine c_getr (k := 2) C ck_4 dX3_gather_86 w1_196 (by decide) ty455 rfl rfl (by decide) rfl rq27 ?_
            refine c_st (st2 := [.ref (sk 6), .ref (sk 24)]) rfl ?_
            refine hv5 (xl47.ty ty450) (show ivh47 (sk 24) 2 = ivh46 (sk 24) 2 from fl47.i ty450 rfl 2) (show ivh46 (sk 24) 2 = ivh38 (sk 24) 2 from fl46.i ty354 rfl 2) (xl47.ty ty445) (Phi.le W47 sk45) (fun ty456 ie158 ie159 ty457 pl58 => ?_)
            have ri117 : 0 ≤ ivh47 (sk 24) 2 ∧ ivh47 (sk 24) 2 ≤ 6003 := W47.int ty456 2
            refine d_callS (As := [.ref (sk 24), .ref (sk 6)]) (rest := []) C hM (G_markBegins_24 (a0 := (sk 24)) (a1 := (sk 6)) W47 sk45 ty456 ty457  ) dX3_gather_89 kS_X3_73 rfl rfl (Nat.le_of_ble_eq_true rfl) ⟨(Nat.le_of_ble_eq_true rfl), (Nat.le_of_ble_eq_true rfl)⟩ hph pl58 (show 0 + 0 = 0 from rfl) (by decide) (fun rh48 Lh48 clh48 lnh48 ivh48 rvh48 h48 => ?_)
            obtain ⟨rfl, xl48, fl48, W48, exf48⟩ := h48
            refine hv10 (F47.call X45 fl48 rfl) (xl47.ty ty446) (xl47.ty ty447) (xl47.ty ty448) (xl47.ty ty449) (xl47.ty ty451) (xl47.ty ty444) (xl47.ty ty452) (X45.trans xl48) (xl48.skl sk45) (fun F48 ty458 ty459 ty460 ty461 ty462 ty463 ty464 X46 sk46 => ?_)
            refine c_st (st2 := []) rfl ?_
            refine hv6 (xl48.ty ty457) (show ivh48 (sk 6) 2 = ivh47 (sk 24) 2 ∧ MBX Lh47 clh47 lnh47 ivh47 rvh47 (sk 24) ivh48 rvh48 (sk 6) from exf48) (show GLQ sk ln iv rv a1 Lh48 clh48 lnh48 ivh48 rvh48 (sk 24) gat0 from (gl116.mv (QT.of W47 sk45 xl48 fl48 rfl rfl rfl rfl rfl) (el24.fr W47 sk45 fl48 rfl rfl).1 (el24.fr W47 sk45 fl48 rfl rfl).2)) (show GLQ sk ln iv rv a1 Lh48 clh48 lnh48 ivh48 rvh48 (sk 25) gat1 from (gl117.mv (QT.of W47 sk45 xl48 fl48 rfl rfl rfl rfl rfl) (el25.fr W47 sk45 fl48 rfl rfl).1 (el25.fr W47 sk45 fl48 rfl rfl).2)) (xl48.ty ty456) (show ivh48 (sk 24) 2 = ivh47 (sk 24) 2 from fl48.i ty456 rfl 2) (fun ty465 gf48 gl118 gl119 ty466 ie161 => ?_)
            refine hv2 (show 0 ≤ ivh48 (sk 6) 2 ∧ ivh48 (sk 6) 2 ≤ 6003 from W48.int ty465 2) (show 0 ≤ ivh48 (sk 24) 2 ∧ ivh48 (sk 24) 2 ≤ 6003 from W48.int ty466 2) (fun ri118 ri119 => ?_)
            have gb34 := GBQ.mk gl116 gf48.2 (by omega) (by omega)
            refine c_aload_n (j := 0) (x := a0) C dX3_gather_92 rfl ?_
            refine hv2 (xl48.ty ty455) (show rvh47 a0 1 = rvh46 a0 1 from (fl47.r ty442 rfl 1)) (fun ty467 re91 => ?_)
            rw [re85] at re91
            have re92 : rvh48 a0 1 = rvh47 a0 1 := (fl48.r ty455 rfl 1)
            rw [re91] at re92
            refine c_getr (k := 1) C ck_4 dX3_gather_93 w1_193 (by decide) ty467 rfl rfl (by decide) rfl re92 ?_
            refine c_st (st2 := [.ref (sk 25)]) rfl ?_
            refine c_aload_n (j := 0) (x := a0) C dX3_gather_96 rfl ?_
            obtain ⟨rb28, rq28, trb28⟩ := W48.ref ty467 3 rfl rfl rfl
            have erb28 := W48.sk trb28 (by decide) rfl
            subst erb28
            refine c_getr (k := 3) C ck_4 dX3_gather_97 w1_197 (by decide) ty467 rfl rfl (by decide) rfl rq28 ?_
            refine c_st (st2 := [.ref (sk 7), .ref (sk 25)]) rfl ?_
            refine hv4 (xl48.ty ty453) (show ivh48 (sk 25) 2 = ivh47 (sk 25) 2 from fl48.i ty453 rfl 2) (xl48.ty ty458) (Phi.le W48 sk46) (fun ty468 ie162 ty469 pl59 => ?_)
            have ri120 : 0 ≤ ivh48 (sk 25) 2 ∧ ivh48 (sk 25) 2 ≤ 6003 := W48.int ty468 2
            refine d_callS (As := [.ref (sk 25), .ref (sk 7)]) (rest := []) C hM (G_markBegins_25 (a0 := (sk 25)) (a1 := (sk 7)) W48 sk46 ty468 ty469  ) dX3_gather_100 kS_X3_73 rfl rfl (Nat.le_of_ble_eq_true rfl) ⟨(Nat.le_of_ble_eq_true rfl), (Nat.le_of_ble_eq_true rfl)⟩ hph pl59 (show 0 + 0 = 0 from rfl) (by decide) (fun rh49 Lh49 clh49 lnh49 ivh49 rvh49 h49 => ?_)
            obtain ⟨rfl, xl49, fl49, W49, exf49⟩ := h49
            refine hv10 (F48.call X46 fl49 rfl) (xl48.ty ty454) (xl48.ty ty459) (xl48.ty ty460) (xl48.ty ty461) (xl48.ty ty462) (xl48.ty ty463) (xl48.ty ty464) (X46.trans xl49) (xl49.skl sk46) (fun F49 ty470 ty471 ty472 ty473 ty474 ty475 ty476 X47 sk47 => ?_)
            refine c_st (st2 := []) rfl ?_
            refine hv8 (xl49.ty ty469) (show ivh49 (sk 7) 2 = ivh48 (sk 25) 2 ∧ MBX Lh48 clh48 lnh48 ivh48 rvh48 (sk 25) ivh49 rvh49 (sk 7) from exf49) (show GLQ sk ln iv rv a1 Lh49 clh49 lnh49 ivh49 rvh49 (sk 24) gat0 from (gl118.mv (QT.of W48 sk46 xl49 fl49 rfl rfl rfl rfl rfl) (el24.fr W48 sk46 fl49 rfl rfl).1 (el24.fr W48 sk46 fl49 rfl rfl).2)) (show GLQ sk ln iv rv a1 Lh49 clh49 lnh49 ivh49 rvh49 (sk 25) gat1 from (gl119.mv (QT.of W48 sk46 xl49 fl49 rfl rfl rfl rfl rfl) (el25.fr W48 sk46 fl49 rfl rfl).1 (el25.fr W48 sk46 fl49 rfl rfl).2)) (xl49.ty ty468) (show ivh49 (sk 25) 2 = ivh48 (sk 25) 2 from fl49.i ty468 rfl 2) (gb34.fr W48 ty466 ty465 fl49 rfl rfl rfl rfl rfl rfl) (Phi.le W49 sk47) (fun ty477 gf49 gl120 gl121 ty478 ie164 gb36 pl60 => ?_)
            refine hv2 (show 0 ≤ ivh49 (sk 7) 2 ∧ ivh49 (sk 7) 2 ≤ 6003 from W49.int ty477 2) (show 0 ≤ ivh49 (sk 25) 2 ∧ ivh49 (sk 25) 2 ≤ 6003 from W49.int ty478 2) (fun ri121 ri122 => ?_)
            have gb35 := GBQ.mk gl119 gf49.2 (by omega) (by omega)
            exact c_vret C dX3_gather_103 rfl (by decide) (rom0 hph pl60 (by decide)) ⟨rfl, X47, F49, W49, trivial, ⟨gl120, gl121⟩, ⟨gb36, gb35⟩⟩
          · have tnb12 : ty Lh46 clh46 nb12 20 := tnb12
            refine c_aaldR C dX3_gather_66 ty444 rfl (by omega) (by omega) (by omega) nq12 ?_
            refine c_st (st2 := [.ref nb12, .ref (sk 25)]) rfl ?_
            have pl61 := Phi.le W46 sk44
            refine d_callS (As := [.ref (sk 25), .ref nb12]) (rest := []) C hM (G_addInd_25 (a0 := (sk 25)) (r := (some nb12)) W46 sk44 ty441 (fun _ q => by cases q; exact tnb12)  (by show ivh46 (sk 25) 2 < 6003; omega)) dX3_gather_67 kS_X3_67 rfl rfl (Nat.le_of_ble_eq_true rfl) ⟨(Nat.le_of_ble_eq_true rfl), (Nat.le_of_ble_eq_true rfl)⟩ hph pl61 (show 0 + 0 = 0 from rfl) (by decide) (fun rh50 Lh50 clh50 lnh50 ivh50 rvh50 h50 => ?_)
            obtain ⟨rfl, xl50, fl50, W50, exf50, ladf50⟩ := h50
            refine hv11 (F46.call X44 fl50 rfl) (xl46.ty ty434) (xl46.ty ty435) (xl46.ty ty436) (xl46.ty ty437) (xl46.ty ty438) (xl46.ty ty354) (xl46.ty ty439) (xl46.ty tnb10) (X44.trans xl50) (xl50.skl sk44) (fun F50 ty479 ty480 ty481 ty482 ty483 ty484 ty485 ty486 X48 sk48 => ?_)
            refine c_st (st2 := []) rfl ?_
            refine hv4 (xl50.ty ty441) (show ivh46 (sk 25) 2 ≤ ivh50 (sk 25) 2 ∧ ivh50 (sk 25) 2 ≤ ivh46 (sk 25) 2 + 1 from exf50) (show GLQ sk ln iv rv a1 Lh50 clh50 lnh50 ivh50 rvh50 (sk 25) (fun a i => rws1 a (a 9 i.toNat) ++ indl a (4 * i + ((3 : Nat) : Int))) from (gl112.ind (j := 3) (QT.of hW hS X44 F46 rfl rfl rfl rfl rfl) (QT.of W46 sk44 xl50 fl50 rfl rfl rfl rfl rfl) ty444 re87 nq12 ladf50 (by decide))) (show GLQ sk ln iv rv a1 Lh50 clh50 lnh50 ivh50 rvh50 (sk 24) (fun a i => rws1 a (a 8 i.toNat) ++ indl a (4 * i + ((2 : Nat) : Int))) from (gl113.mv (QT.of W46 sk44 xl50 fl50 rfl rfl rfl rfl rfl) (el24.fr W46 sk44 fl50 rfl rfl).1 (el24.fr W46 sk44 fl50 rfl rfl).2)) (fun ty487 gf50 gl122 gl123 => ?_)
            have ri123 : 0 ≤ ivh50 (sk 25) 2 ∧ ivh50 (sk 25) 2 ≤ 6003 := W50.int ty487 2
            refine c_goto (tgt := 81) C dX3_gather_70 (by decide) ?_
            refine hv5 (xl50.ty ty443) (show ivh50 a1 0 = ivh46 a1 0 from fl50.i ty443 rfl 0) (show ivh46 a1 0 = ivh38 a1 0 from fl46.i ty356 rfl 0) (show ivh38 a1 0 = ivh37 a1 0 from fl38.i ty346 rfl 0) (show ivh37 a1 0 = ivh2 a1 0 from fl37.i t_a1 rfl 0) (fun ty488 ie166 ie167 ie168 ie169 => ?_)
            have ri124 : (-2147483648) ≤ ivh50 a1 0 ∧ ivh50 a1 0 ≤ 2147483647 := W50.int ty488 0
            have gl124 : GLQ sk ln iv rv a1 Lh50 clh50 lnh50 ivh50 rvh50 (sk 24) gat0 := (gl123.g0 (by omega))
            have gl125 : GLQ sk ln iv rv a1 Lh50 clh50 lnh50 ivh50 rvh50 (sk 25) gat1 := (gl122.g1 (by omega))
            refine c_aload_n (j := 0) (x := a0) C dX3_gather_81 rfl ?_
            refine hv2 (xl50.ty ty442) (show rvh38 a0 0 = rvh37 a0 0 from (fl38.r ty345 rfl 0)) (fun ty489 re93 => ?_)
            rw [re68] at re93
            have re94 : rvh46 a0 0 = rvh38 a0 0 := (fl46.r ty355 rfl 0)
            rw [re93] at re94
            have re95 : rvh50 a0 0 = rvh46 a0 0 := (fl50.r ty442 rfl 0)
            rw [re94] at re95
            refine c_getr (k := 0) C ck_4 dX3_gather_82 w1_190 (by decide) ty489 rfl rfl (by decide) rfl re95 ?_
            refine c_st (st2 := [.ref (sk 24)]) rfl ?_
            refine c_aload_n (j := 0) (x := a0) C dX3_gather_85 rfl ?_
            obtain ⟨rb29, rq29, trb29⟩ := W50.ref ty489 2 rfl rfl rfl
            have erb29 := W50.sk trb29 (by decide) rfl
            subst erb29
            refine c_getr (k := 2) C ck_4 dX3_gather_86 w1_196 (by decide) ty489 rfl rfl (by decide) rfl rq29 ?_
            refine c_st (st2 := [.ref (sk 6), .ref (sk 24)]) rfl ?_
            refine hv5 (xl50.ty ty484) (show ivh50 (sk 24) 2 = ivh46 (sk 24) 2 from fl50.i ty484 rfl 2) (show ivh46 (sk 24) 2 = ivh38 (sk 24) 2 from fl46.i ty354 rfl 2) (xl50.ty ty479) (Phi.le W50 sk48) (fun ty490 ie170 ie171 ty491 pl62 => ?_)
            have ri125 : 0 ≤ ivh50 (sk 24) 2 ∧ ivh50 (sk 24) 2 ≤ 6003 := W50.int ty490 2
            refine d_callS (As := [.ref (sk 24), .ref (sk 6)]) (rest := []) C hM (G_markBegins_24 (a0 := (sk 24)) (a1 := (sk 6)) W50 sk48 ty490 ty491  ) dX3_gather_89 kS_X3_73 rfl rfl (Nat.le_of_ble_eq_true rfl) ⟨(Nat.le_of_ble_eq_true rfl), (Nat.le_of_ble_eq_true rfl)⟩ hph pl62 (show 0 + 0 = 0 from rfl) (by decide) (fun rh51 Lh51 clh51 lnh51 ivh51 rvh51 h51 => ?_)
            obtain ⟨rfl, xl51, fl51, W51, exf51⟩ := h51
            refine hv11 (F50.call X48 fl51 rfl) (xl50.ty ty480) (xl50.ty ty481) (xl50.ty ty482) (xl50.ty ty483) (xl50.ty ty485) (xl50.ty ty444) (xl50.ty ty486) (xl50.ty tnb12) (X48.trans xl51) (xl51.skl sk48) (fun F51 ty492 ty493 ty494 ty495 ty496 ty497 ty498 ty499 X49 sk49 => ?_)
            refine c_st (st2 := []) rfl ?_
            refine hv6 (xl51.ty ty491) (show ivh51 (sk 6) 2 = ivh50 (sk 24) 2 ∧ MBX Lh50 clh50 lnh50 ivh50 rvh50 (sk 24) ivh51 rvh51 (sk 6) from exf51) (show GLQ sk ln iv rv a1 Lh51 clh51 lnh51 ivh51 rvh51 (sk 24) gat0 from (gl124.mv (QT.of W50 sk48 xl51 fl51 rfl rfl rfl rfl rfl) (el24.fr W50 sk48 fl51 rfl rfl).1 (el24.fr W50 sk48 fl51 rfl rfl).2)) (show GLQ sk ln iv rv a1 Lh51 clh51 lnh51 ivh51 rvh51 (sk 25) gat1 from (gl125.mv (QT.of W50 sk48 xl51 fl51 rfl rfl rfl rfl rfl) (el25.fr W50 sk48 fl51 rfl rfl).1 (el25.fr W50 sk48 fl51 rfl rfl).2)) (xl51.ty ty490) (show ivh51 (sk 24) 2 = ivh50 (sk 24) 2 from fl51.i ty490 rfl 2) (fun ty500 gf51 gl126 gl127 ty501 ie173 => ?_)
            refine hv2 (show 0 ≤ ivh51 (sk 6) 2 ∧ ivh51 (sk 6) 2 ≤ 6003 from W51.int ty500 2) (show 0 ≤ ivh51 (sk 24) 2 ∧ ivh51 (sk 24) 2 ≤ 6003 from W51.int ty501 2) (fun ri126 ri127 => ?_)
            have gb37 := GBQ.mk gl124 gf51.2 (by omega) (by omega)
            refine c_aload_n (j := 0) (x := a0) C dX3_gather_92 rfl ?_
            refine hv2 (xl51.ty ty489) (show rvh50 a0 1 = rvh46 a0 1 from (fl50.r ty442 rfl 1)) (fun ty502 re96 => ?_)
            rw [re85] at re96
            have re97 : rvh51 a0 1 = rvh50 a0 1 := (fl51.r ty489 rfl 1)
            rw [re96] at re97
            refine c_getr (k := 1) C ck_4 dX3_gather_93 w1_193 (by decide) ty502 rfl rfl (by decide) rfl re97 ?_
            refine c_st (st2 := [.ref (sk 25)]) rfl ?_
            refine c_aload_n (j := 0) (x := a0) C dX3_gather_96 rfl ?_
            obtain ⟨rb30, rq30, trb30⟩ := W51.ref ty502 3 rfl rfl rfl
            have erb30 := W51.sk trb30 (by decide) rfl
            subst erb30
            refine c_getr (k := 3) C ck_4 dX3_gather_97 w1_197 (by decide) ty502 rfl rfl (by decide) rfl rq30 ?_
            refine c_st (st2 := [.ref (sk 7), .ref (sk 25)]) rfl ?_
            refine hv4 (xl51.ty ty487) (show ivh51 (sk 25) 2 = ivh50 (sk 25) 2 from fl51.i ty487 rfl 2) (xl51.ty ty492) (Phi.le W51 sk49) (fun ty503 ie174 ty504 pl63 => ?_)
            have ri128 : 0 ≤ ivh51 (sk 25) 2 ∧ ivh51 (sk 25) 2 ≤ 6003 := W51.int ty503 2
            refine d_callS (As := [.ref (sk 25), .ref (sk 7)]) (rest := []) C hM (G_markBegins_25 (a0 := (sk 25)) (a1 := (sk 7)) W51 sk49 ty503 ty504  ) dX3_gather_100 kS_X3_73 rfl rfl (Nat.le_of_ble_eq_true rfl) ⟨(Nat.le_of_ble_eq_true rfl), (Nat.le_of_ble_eq_true rfl)⟩ hph pl63 (show 0 + 0 = 0 from rfl) (by decide) (fun rh52 Lh52 clh52 lnh52 ivh52 rvh52 h52 => ?_)
            obtain ⟨rfl, xl52, fl52, W52, exf52⟩ := h52
            refine hv11 (F51.call X49 fl52 rfl) (xl51.ty ty488) (xl51.ty ty493) (xl51.ty ty494) (xl51.ty ty495) (xl51.ty ty496) (xl51.ty ty497) (xl51.ty ty498) (xl51.ty ty499) (X49.trans xl52) (xl52.skl sk49) (fun F52 ty505 ty506 ty507 ty508 ty509 ty510 ty511 ty512 X50 sk50 => ?_)
            refine c_st (st2 := []) rfl ?_
            refine hv8 (xl52.ty ty504) (show ivh52 (sk 7) 2 = ivh51 (sk 25) 2 ∧ MBX Lh51 clh51 lnh51 ivh51 rvh51 (sk 25) ivh52 rvh52 (sk 7) from exf52) (show GLQ sk ln iv rv a1 Lh52 clh52 lnh52 ivh52 rvh52 (sk 24) gat0 from (gl126.mv (QT.of W51 sk49 xl52 fl52 rfl rfl rfl rfl rfl) (el24.fr W51 sk49 fl52 rfl rfl).1 (el24.fr W51 sk49 fl52 rfl rfl).2)) (show GLQ sk ln iv rv a1 Lh52 clh52 lnh52 ivh52 rvh52 (sk 25) gat1 from (gl127.mv (QT.of W51 sk49 xl52 fl52 rfl rfl rfl rfl rfl) (el25.fr W51 sk49 fl52 rfl rfl).1 (el25.fr W51 sk49 fl52 rfl rfl).2)) (xl52.ty ty503) (show ivh52 (sk 25) 2 = ivh51 (sk 25) 2 from fl52.i ty503 rfl 2) (gb37.fr W51 ty501 ty500 fl52 rfl rfl rfl rfl rfl rfl) (Phi.le W52 sk50) (fun ty513 gf52 gl128 gl129 ty514 ie176 gb39 pl64 => ?_)
            refine hv2 (show 0 ≤ ivh52 (sk 7) 2 ∧ ivh52 (sk 7) 2 ≤ 6003 from W52.int ty513 2) (show 0 ≤ ivh52 (sk 25) 2 ∧ ivh52 (sk 25) 2 ≤ 6003 from W52.int ty514 2) (fun ri129 ri130 => ?_)
            have gb38 := GBQ.mk gl127 gf52.2 (by omega) (by omega)
            exact c_vret C dX3_gather_103 rfl (by decide) (rom0 hph pl64 (by decide)) ⟨rfl, X50, F52, W52, trivial, ⟨gl128, gl129⟩, ⟨gb39, gb38⟩⟩
      · have tnb9 : ty Lh37 clh37 nb9 20 := tnb9
        refine c_aaldR C dX3_gather_42 trb22 rfl (by omega) (by omega) (by omega) nq9 ?_
        refine c_st (st2 := [.ref nb9, .ref (sk 24)]) rfl ?_
        have pl65 := Phi.le W37 sk35
        refine d_callS (As := [.ref (sk 24), .ref nb9]) (rest := []) C hM (G_addInd_24 (a0 := (sk 24)) (r := (some nb9)) W37 sk35 ty344 (fun _ q => by cases q; exact tnb9)  (by show ivh37 (sk 24) 2 < 6003; omega)) dX3_gather_43 kS_X3_67 rfl rfl (Nat.le_of_ble_eq_true rfl) ⟨(Nat.le_of_ble_eq_true rfl), (Nat.le_of_ble_eq_true rfl)⟩ hph pl65 (show 0 + 0 = 0 from rfl) (by decide) (fun rh53 Lh53 clh53 lnh53 ivh53 rvh53 h53 => ?_)
        obtain ⟨rfl, xl53, fl53, W53, exf53, ladf53⟩ := h53
        refine hv10 (F37.call X35 fl53 rfl) (xl37.ty tsk6) (xl37.ty tsk7) (xl37.ty tsk8) (xl37.ty tsk9) (xl37.ty tsk10) (xl37.ty tsk25) (xl37.ty tnb1) (X35.trans xl53) (xl53.skl sk35) (fun F53 ty515 ty516 ty517 ty518 ty519 ty520 ty521 X51 sk51 => ?_)
        refine c_st (st2 := []) rfl ?_
        refine hv4 (xl53.ty ty344) (show ivh37 (sk 24) 2 ≤ ivh53 (sk 24) 2 ∧ ivh53 (sk 24) 2 ≤ ivh37 (sk 24) 2 + 1 from exf53) (show GLQ sk ln iv rv a1 Lh53 clh53 lnh53 ivh53 rvh53 (sk 24) (fun a i => rws1 a (a 8 i.toNat) ++ indl a (4 * i + ((2 : Nat) : Int))) from (gl90.ind (j := 2) (QT.of hW hS X35 F37 rfl rfl rfl rfl rfl) (QT.of W37 sk35 xl53 fl53 rfl rfl rfl rfl rfl) trb22 rq22 nq9 ladf53 (by decide))) (show GLQ sk ln iv rv a1 Lh53 clh53 lnh53 ivh53 rvh53 (sk 25) (fun _ _ => []) from (gl91.mv (QT.of W37 sk35 xl53 fl53 rfl rfl rfl rfl rfl) (el25.fr W37 sk35 fl53 rfl rfl).1 (el25.fr W37 sk35 fl53 rfl rfl).2)) (fun ty522 gf53 gl130 gl131 => ?_)
        have ri131 : 0 ≤ ivh53 (sk 24) 2 ∧ ivh53 (sk 24) 2 ≤ 6003 := W53.int ty522 2
        refine c_aload_n (j := 0) (x := a0) C dX3_gather_46 rfl ?_
        refine hv2 (xl53.ty ty345) (show rvh2 a0 1 = rvh1 a0 1 from (fl2.r t_a0 rfl 1)) (fun ty523 re98 => ?_)
        rw [rq2] at re98
        have re99 : rvh37 a0 1 = rvh2 a0 1 := (fl37.r t_a0 rfl 1)
        rw [re98] at re99
        have re100 : rvh53 a0 1 = rvh37 a0 1 := (fl53.r ty345 rfl 1)
        rw [re99] at re100
        refine c_getr (k := 1) C ck_4 dX3_gather_47 w1_193 (by decide) ty523 rfl rfl (by decide) rfl re100 ?_
        refine c_st (st2 := [.ref (sk 25)]) rfl ?_
        refine c_aload_n (j := 1) (x := a1) C dX3_gather_50 rfl ?_
        have ty524 := xl53.ty ty346
        rcases W53.opt ty524 3 rfl rfl with ⟨nq13, _⟩ | ⟨nb13, nq13, tnb13⟩
        · refine c_getr (k := 3) C ck_10 dX3_gather_51 w2_184 (by decide) ty524 rfl rfl (by decide) rfl nq13 ?_
          refine c_st (st2 := [.null, .ref (sk 25)]) rfl ?_
          refine hv7 (show (-2147483648) ≤ ivh53 a1 0 ∧ ivh53 a1 0 ≤ 2147483647 from W53.int ty524 0) (show ivh53 a1 0 = ivh37 a1 0 from fl53.i ty346 rfl 0) (show ivh37 a1 0 = ivh2 a1 0 from fl37.i t_a1 rfl 0) (xl53.ty ty520) (show ivh53 (sk 25) 2 = ivh37 (sk 25) 2 from fl53.i ty520 rfl 2) (show ivh37 (sk 25) 2 = ivh2 (sk 25) 2 from fl37.i tsk25 rfl 2) (Phi.le W53 sk51) (fun ri132 ie178 ie179 ty525 ie180 ie181 pl66 => ?_)
          have ri133 : 0 ≤ ivh53 (sk 25) 2 ∧ ivh53 (sk 25) 2 ≤ 6003 := W53.int ty525 2
          refine d_callS (As := [.ref (sk 25), .null]) (rest := []) C hM (C_gatherPart_25 (a0 := (sk 25)) (r := none) W53 sk51 ty525 (fun _ q => by cases q)  (by show ivh53 (sk 25) 2 = 0; omega)) dX3_gather_54 kS_X3_59 rfl rfl (Nat.le_of_ble_eq_true rfl) ⟨(Nat.le_of_ble_eq_true rfl), (Nat.le_of_ble_eq_true rfl)⟩ hph pl66 (show 0 + 0 = 0 from rfl) (by decide) (fun rh54 Lh54 clh54 lnh54 ivh54 rvh54 h54 => ?_)
          obtain ⟨rfl, xl54, fl54, W54, exf54⟩ := h54
          refine hv11 (F53.call X51 fl54 rfl) (xl53.ty ty515) (xl53.ty ty516) (xl53.ty ty517) (xl53.ty ty518) (xl53.ty ty519) (xl53.ty ty521) (xl53.ty trb22) (xl53.ty tnb9) (X51.trans xl54) (xl54.skl sk51) (fun F54 ty526 ty527 ty528 ty529 ty530 ty531 ty532 ty533 X52 sk52 => ?_)
          refine c_st (st2 := []) rfl ?_
          refine hv3 (xl54.ty ty525) (show ivh54 (sk 25) 2 ≤ 6002 from exf54) (show GLQ sk ln iv rv a1 Lh54 clh54 lnh54 ivh54 rvh54 (sk 24) (fun a i => rws1 a (a 8 i.toNat) ++ indl a (4 * i + ((2 : Nat) : Int))) from (gl130.mv (QT.of W53 sk51 xl54 fl54 rfl rfl rfl rfl rfl) (el24.fr W53 sk51 fl54 rfl rfl).1 (el24.fr W53 sk51 fl54 rfl rfl).2)) (fun ty534 gf54 gl133 => ?_)
          have ri134 : 0 ≤ ivh54 (sk 25) 2 ∧ ivh54 (sk 25) 2 ≤ 6003 := W54.int ty534 2
          have gl132 : GLQ sk ln iv rv a1 Lh54 clh54 lnh54 ivh54 rvh54 (sk 25) (fun a i => rws1 a (a 9 i.toNat)) := (GLQ.no3 (QT.of hW hS X51 F53 rfl rfl rfl rfl rfl) (by omega) nq13)
          refine c_aload_n (j := 0) (x := a0) C dX3_gather_57 rfl ?_
          refine hv2 (xl54.ty ty523) (show rvh54 a0 1 = rvh53 a0 1 from (fl54.r ty523 rfl 1)) (fun ty535 re101 => ?_)
          rw [re100] at re101
          refine c_getr (k := 1) C ck_4 dX3_gather_58 w1_193 (by decide) ty535 rfl rfl (by decide) rfl re101 ?_
          refine c_st (st2 := [.ref (sk 25)]) rfl ?_
          refine c_aload_n (j := 1) (x := a1) C dX3_gather_61 rfl ?_
          refine hv2 (xl54.ty ty524) (show rvh53 a1 6 = rvh37 a1 6 from (fl53.r ty346 rfl 6)) (fun ty536 re102 => ?_)
          rw [rq22] at re102
          have re103 : rvh54 a1 6 = rvh53 a1 6 := (fl54.r ty524 rfl 6)
          rw [re102] at re103
          refine c_getr (k := 6) C ck_10 dX3_gather_62 w2_193 (by decide) ty536 rfl rfl (by decide) rfl re103 ?_
          refine c_st (st2 := [.ref rb22, .ref (sk 25)]) rfl ?_
          refine c_iconst C dX3_gather_65 ?_
          have ty537 := xl54.ty ty532
          have ll9 : 4 ≤ lnh54 rb22 ∧ lnh54 rb22 ≤ 4 := W54.len ty537 rfl
          rcases W54.opt ty537 ((3 : Int).toNat) rfl rfl with ⟨nq14, _⟩ | ⟨nb14, nq14, tnb14⟩
          · refine c_aaldR C dX3_gather_66 ty537 rfl (by omega) (by omega) (by omega) nq14 ?_
            refine c_st (st2 := [.null, .ref (sk 25)]) rfl ?_
            have pl67 := Phi.le W54 sk52
            refine d_callS (As := [.ref (sk 25), .null]) (rest := []) C hM (G_addInd_25 (a0 := (sk 25)) (r := none) W54 sk52 ty534 (fun _ q => by cases q)  (by show ivh54 (sk 25) 2 < 6003; omega)) dX3_gather_67 kS_X3_67 rfl rfl (Nat.le_of_ble_eq_true rfl) ⟨(Nat.le_of_ble_eq_true rfl), (Nat.le_of_ble_eq_true rfl)⟩ hph pl67 (show 0 + 0 = 0 from rfl) (by decide) (fun rh55 Lh55 clh55 lnh55 ivh55 rvh55 h55 => ?_)
            obtain ⟨rfl, xl55, fl55, W55, exf55, ladf55⟩ := h55
            refine hv11 (F54.call X52 fl55 rfl) (xl54.ty ty526) (xl54.ty ty527) (xl54.ty ty528) (xl54.ty ty529) (xl54.ty ty530) (xl54.ty ty522) (xl54.ty ty531) (xl54.ty ty533) (X52.trans xl55) (xl55.skl sk52) (fun F55 ty538 ty539 ty540 ty541 ty542 ty543 ty544 ty545 X53 sk53 => ?_)
            refine c_st (st2 := []) rfl ?_
            refine hv4 (xl55.ty ty534) (show ivh54 (sk 25) 2 ≤ ivh55 (sk 25) 2 ∧ ivh55 (sk 25) 2 ≤ ivh54 (sk 25) 2 + 1 from exf55) (show GLQ sk ln iv rv a1 Lh55 clh55 lnh55 ivh55 rvh55 (sk 25) (fun a i => rws1 a (a 9 i.toNat) ++ indl a (4 * i + ((3 : Nat) : Int))) from (gl132.ind (j := 3) (QT.of hW hS X52 F54 rfl rfl rfl rfl rfl) (QT.of W54 sk52 xl55 fl55 rfl rfl rfl rfl rfl) ty537 re103 nq14 ladf55 (by decide))) (show GLQ sk ln iv rv a1 Lh55 clh55 lnh55 ivh55 rvh55 (sk 24) (fun a i => rws1 a (a 8 i.toNat) ++ indl a (4 * i + ((2 : Nat) : Int))) from (gl133.mv (QT.of W54 sk52 xl55 fl55 rfl rfl rfl rfl rfl) (el24.fr W54 sk52 fl55 rfl rfl).1 (el24.fr W54 sk52 fl55 rfl rfl).2)) (fun ty546 gf55 gl134 gl135 => ?_)
            have ri135 : 0 ≤ ivh55 (sk 25) 2 ∧ ivh55 (sk 25) 2 ≤ 6003 := W55.int ty546 2
            refine c_goto (tgt := 81) C dX3_gather_70 (by decide) ?_
            refine hv3 (xl55.ty ty536) (show ivh55 a1 0 = ivh54 a1 0 from fl55.i ty536 rfl 0) (show ivh54 a1 0 = ivh53 a1 0 from fl54.i ty524 rfl 0) (fun ty547 ie184 ie185 => ?_)
            have ri136 : (-2147483648) ≤ ivh55 a1 0 ∧ ivh55 a1 0 ≤ 2147483647 := W55.int ty547 0
            have gl136 : GLQ sk ln iv rv a1 Lh55 clh55 lnh55 ivh55 rvh55 (sk 24) gat0 := (gl135.g0 (by omega))
            have gl137 : GLQ sk ln iv rv a1 Lh55 clh55 lnh55 ivh55 rvh55 (sk 25) gat1 := (gl134.g1 (by omega))
            refine c_aload_n (j := 0) (x := a0) C dX3_gather_81 rfl ?_
            refine hv2 (xl55.ty ty535) (show rvh53 a0 0 = rvh37 a0 0 from (fl53.r ty345 rfl 0)) (fun ty548 re104 => ?_)
            rw [re68] at re104
            have re105 : rvh54 a0 0 = rvh53 a0 0 := (fl54.r ty523 rfl 0)
            rw [re104] at re105
            have re106 : rvh55 a0 0 = rvh54 a0 0 := (fl55.r ty535 rfl 0)
            rw [re105] at re106
            refine c_getr (k := 0) C ck_4 dX3_gather_82 w1_190 (by decide) ty548 rfl rfl (by decide) rfl re106 ?_
            refine c_st (st2 := [.ref (sk 24)]) rfl ?_
            refine c_aload_n (j := 0) (x := a0) C dX3_gather_85 rfl ?_
            obtain ⟨rb31, rq31, trb31⟩ := W55.ref ty548 2 rfl rfl rfl
            have erb31 := W55.sk trb31 (by decide) rfl
            subst erb31
            refine c_getr (k := 2) C ck_4 dX3_gather_86 w1_196 (by decide) ty548 rfl rfl (by decide) rfl rq31 ?_
            refine c_st (st2 := [.ref (sk 6), .ref (sk 24)]) rfl ?_
            refine hv5 (xl55.ty ty543) (show ivh55 (sk 24) 2 = ivh54 (sk 24) 2 from fl55.i ty543 rfl 2) (show ivh54 (sk 24) 2 = ivh53 (sk 24) 2 from fl54.i ty522 rfl 2) (xl55.ty ty538) (Phi.le W55 sk53) (fun ty549 ie186 ie187 ty550 pl68 => ?_)
            have ri137 : 0 ≤ ivh55 (sk 24) 2 ∧ ivh55 (sk 24) 2 ≤ 6003 := W55.int ty549 2
            refine d_callS (As := [.ref (sk 24), .ref (sk 6)]) (rest := []) C hM (G_markBegins_24 (a0 := (sk 24)) (a1 := (sk 6)) W55 sk53 ty549 ty550  ) dX3_gather_89 kS_X3_73 rfl rfl (Nat.le_of_ble_eq_true rfl) ⟨(Nat.le_of_ble_eq_true rfl), (Nat.le_of_ble_eq_true rfl)⟩ hph pl68 (show 0 + 0 = 0 from rfl) (by decide) (fun rh56 Lh56 clh56 lnh56 ivh56 rvh56 h56 => ?_)
            obtain ⟨rfl, xl56, fl56, W56, exf56⟩ := h56
            refine hv10 (F55.call X53 fl56 rfl) (xl55.ty ty539) (xl55.ty ty540) (xl55.ty ty541) (xl55.ty ty542) (xl55.ty ty544) (xl55.ty ty537) (xl55.ty ty545) (X53.trans xl56) (xl56.skl sk53) (fun F56 ty551 ty552 ty553 ty554 ty555 ty556 ty557 X54 sk54 => ?_)
            refine c_st (st2 := []) rfl ?_
            refine hv6 (xl56.ty ty550) (show ivh56 (sk 6) 2 = ivh55 (sk 24) 2 ∧ MBX Lh55 clh55 lnh55 ivh55 rvh55 (sk 24) ivh56 rvh56 (sk 6) from exf56) (show GLQ sk ln iv rv a1 Lh56 clh56 lnh56 ivh56 rvh56 (sk 24) gat0 from (gl136.mv (QT.of W55 sk53 xl56 fl56 rfl rfl rfl rfl rfl) (el24.fr W55 sk53 fl56 rfl rfl).1 (el24.fr W55 sk53 fl56 rfl rfl).2)) (show GLQ sk ln iv rv a1 Lh56 clh56 lnh56 ivh56 rvh56 (sk 25) gat1 from (gl137.mv (QT.of W55 sk53 xl56 fl56 rfl rfl rfl rfl rfl) (el25.fr W55 sk53 fl56 rfl rfl).1 (el25.fr W55 sk53 fl56 rfl rfl).2)) (xl56.ty ty549) (show ivh56 (sk 24) 2 = ivh55 (sk 24) 2 from fl56.i ty549 rfl 2) (fun ty558 gf56 gl138 gl139 ty559 ie189 => ?_)
            refine hv2 (show 0 ≤ ivh56 (sk 6) 2 ∧ ivh56 (sk 6) 2 ≤ 6003 from W56.int ty558 2) (show 0 ≤ ivh56 (sk 24) 2 ∧ ivh56 (sk 24) 2 ≤ 6003 from W56.int ty559 2) (fun ri138 ri139 => ?_)
            have gb40 := GBQ.mk gl136 gf56.2 (by omega) (by omega)
            refine c_aload_n (j := 0) (x := a0) C dX3_gather_92 rfl ?_
            refine hv2 (xl56.ty ty548) (show rvh55 a0 1 = rvh54 a0 1 from (fl55.r ty535 rfl 1)) (fun ty560 re107 => ?_)
            rw [re101] at re107
            have re108 : rvh56 a0 1 = rvh55 a0 1 := (fl56.r ty548 rfl 1)
            rw [re107] at re108
            refine c_getr (k := 1) C ck_4 dX3_gather_93 w1_193 (by decide) ty560 rfl rfl (by decide) rfl re108 ?_
            refine c_st (st2 := [.ref (sk 25)]) rfl ?_
            refine c_aload_n (j := 0) (x := a0) C dX3_gather_96 rfl ?_
            obtain ⟨rb32, rq32, trb32⟩ := W56.ref ty560 3 rfl rfl rfl
            have erb32 := W56.sk trb32 (by decide) rfl
            subst erb32
            refine c_getr (k := 3) C ck_4 dX3_gather_97 w1_197 (by decide) ty560 rfl rfl (by decide) rfl rq32 ?_
            refine c_st (st2 := [.ref (sk 7), .ref (sk 25)]) rfl ?_
            refine hv4 (xl56.ty ty546) (show ivh56 (sk 25) 2 = ivh55 (sk 25) 2 from fl56.i ty546 rfl 2) (xl56.ty ty551) (Phi.le W56 sk54) (fun ty561 ie190 ty562 pl69 => ?_)
            have ri140 : 0 ≤ ivh56 (sk 25) 2 ∧ ivh56 (sk 25) 2 ≤ 6003 := W56.int ty561 2
            refine d_callS (As := [.ref (sk 25), .ref (sk 7)]) (rest := []) C hM (G_markBegins_25 (a0 := (sk 25)) (a1 := (sk 7)) W56 sk54 ty561 ty562  ) dX3_gather_100 kS_X3_73 rfl rfl (Nat.le_of_ble_eq_true rfl) ⟨(Nat.le_of_ble_eq_true rfl), (Nat.le_of_ble_eq_true rfl)⟩ hph pl69 (show 0 + 0 = 0 from rfl) (by decide) (fun rh57 Lh57 clh57 lnh57 ivh57 rvh57 h57 => ?_)
            obtain ⟨rfl, xl57, fl57, W57, exf57⟩ := h57
            refine hv10 (F56.call X54 fl57 rfl) (xl56.ty ty547) (xl56.ty ty552) (xl56.ty ty553) (xl56.ty ty554) (xl56.ty ty555) (xl56.ty ty556) (xl56.ty ty557) (X54.trans xl57) (xl57.skl sk54) (fun F57 ty563 ty564 ty565 ty566 ty567 ty568 ty569 X55 sk55 => ?_)
            refine c_st (st2 := []) rfl ?_
            refine hv8 (xl57.ty ty562) (show ivh57 (sk 7) 2 = ivh56 (sk 25) 2 ∧ MBX Lh56 clh56 lnh56 ivh56 rvh56 (sk 25) ivh57 rvh57 (sk 7) from exf57) (show GLQ sk ln iv rv a1 Lh57 clh57 lnh57 ivh57 rvh57 (sk 24) gat0 from (gl138.mv (QT.of W56 sk54 xl57 fl57 rfl rfl rfl rfl rfl) (el24.fr W56 sk54 fl57 rfl rfl).1 (el24.fr W56 sk54 fl57 rfl rfl).2)) (show GLQ sk ln iv rv a1 Lh57 clh57 lnh57 ivh57 rvh57 (sk 25) gat1 from (gl139.mv (QT.of W56 sk54 xl57 fl57 rfl rfl rfl rfl rfl) (el25.fr W56 sk54 fl57 rfl rfl).1 (el25.fr W56 sk54 fl57 rfl rfl).2)) (xl57.ty ty561) (show ivh57 (sk 25) 2 = ivh56 (sk 25) 2 from fl57.i ty561 rfl 2) (gb40.fr W56 ty559 ty558 fl57 rfl rfl rfl rfl rfl rfl) (Phi.le W57 sk55) (fun ty570 gf57 gl140 gl141 ty571 ie192 gb42 pl70 => ?_)
            refine hv2 (show 0 ≤ ivh57 (sk 7) 2 ∧ ivh57 (sk 7) 2 ≤ 6003 from W57.int ty570 2) (show 0 ≤ ivh57 (sk 25) 2 ∧ ivh57 (sk 25) 2 ≤ 6003 from W57.int ty571 2) (fun ri141 ri142 => ?_)
            have gb41 := GBQ.mk gl139 gf57.2 (by omega) (by omega)
            exact c_vret C dX3_gather_103 rfl (by decide) (rom0 hph pl70 (by decide)) ⟨rfl, X55, F57, W57, trivial, ⟨gl140, gl141⟩, ⟨gb42, gb41⟩⟩
          · have tnb14 : ty Lh54 clh54 nb14 20 := tnb14
            refine c_aaldR C dX3_gather_66 ty537 rfl (by omega) (by omega) (by omega) nq14 ?_
            refine c_st (st2 := [.ref nb14, .ref (sk 25)]) rfl ?_
            have pl71 := Phi.le W54 sk52
            refine d_callS (As := [.ref (sk 25), .ref nb14]) (rest := []) C hM (G_addInd_25 (a0 := (sk 25)) (r := (some nb14)) W54 sk52 ty534 (fun _ q => by cases q; exact tnb14)  (by show ivh54 (sk 25) 2 < 6003; omega)) dX3_gather_67 kS_X3_67 rfl rfl (Nat.le_of_ble_eq_true rfl) ⟨(Nat.le_of_ble_eq_true rfl), (Nat.le_of_ble_eq_true rfl)⟩ hph pl71 (show 0 + 0 = 0 from rfl) (by decide) (fun rh58 Lh58 clh58 lnh58 ivh58 rvh58 h58 => ?_)
            obtain ⟨rfl, xl58, fl58, W58, exf58, ladf58⟩ := h58
            refine hv11 (F54.call X52 fl58 rfl) (xl54.ty ty526) (xl54.ty ty527) (xl54.ty ty528) (xl54.ty ty529) (xl54.ty ty530) (xl54.ty ty522) (xl54.ty ty531) (xl54.ty ty533) (X52.trans xl58) (xl58.skl sk52) (fun F58 ty572 ty573 ty574 ty575 ty576 ty577 ty578 ty579 X56 sk56 => ?_)
            refine c_st (st2 := []) rfl ?_
            refine hv4 (xl58.ty ty534) (show ivh54 (sk 25) 2 ≤ ivh58 (sk 25) 2 ∧ ivh58 (sk 25) 2 ≤ ivh54 (sk 25) 2 + 1 from exf58) (show GLQ sk ln iv rv a1 Lh58 clh58 lnh58 ivh58 rvh58 (sk 25) (fun a i => rws1 a (a 9 i.toNat) ++ indl a (4 * i + ((3 : Nat) : Int))) from (gl132.ind (j := 3) (QT.of hW hS X52 F54 rfl rfl rfl rfl rfl) (QT.of W54 sk52 xl58 fl58 rfl rfl rfl rfl rfl) ty537 re103 nq14 ladf58 (by decide))) (show GLQ sk ln iv rv a1 Lh58 clh58 lnh58 ivh58 rvh58 (sk 24) (fun a i => rws1 a (a 8 i.toNat) ++ indl a (4 * i + ((2 : Nat) : Int))) from (gl133.mv (QT.of W54 sk52 xl58 fl58 rfl rfl rfl rfl rfl) (el24.fr W54 sk52 fl58 rfl rfl).1 (el24.fr W54 sk52 fl58 rfl rfl).2)) (fun ty580 gf58 gl142 gl143 => ?_)
            have ri143 : 0 ≤ ivh58 (sk 25) 2 ∧ ivh58 (sk 25) 2 ≤ 6003 := W58.int ty580 2
            refine c_goto (tgt := 81) C dX3_gather_70 (by decide) ?_
            refine hv3 (xl58.ty ty536) (show ivh58 a1 0 = ivh54 a1 0 from fl58.i ty536 rfl 0) (show ivh54 a1 0 = ivh53 a1 0 from fl54.i ty524 rfl 0) (fun ty581 ie194 ie195 => ?_)
            have ri144 : (-2147483648) ≤ ivh58 a1 0 ∧ ivh58 a1 0 ≤ 2147483647 := W58.int ty581 0
            have gl144 : GLQ sk ln iv rv a1 Lh58 clh58 lnh58 ivh58 rvh58 (sk 24) gat0 := (gl143.g0 (by omega))
            have gl145 : GLQ sk ln iv rv a1 Lh58 clh58 lnh58 ivh58 rvh58 (sk 25) gat1 := (gl142.g1 (by omega))
            refine c_aload_n (j := 0) (x := a0) C dX3_gather_81 rfl ?_
            refine hv2 (xl58.ty ty535) (show rvh53 a0 0 = rvh37 a0 0 from (fl53.r ty345 rfl 0)) (fun ty582 re109 => ?_)
            rw [re68] at re109
            have re110 : rvh54 a0 0 = rvh53 a0 0 := (fl54.r ty523 rfl 0)
            rw [re109] at re110
            have re111 : rvh58 a0 0 = rvh54 a0 0 := (fl58.r ty535 rfl 0)
            rw [re110] at re111
            refine c_getr (k := 0) C ck_4 dX3_gather_82 w1_190 (by decide) ty582 rfl rfl (by decide) rfl re111 ?_
            refine c_st (st2 := [.ref (sk 24)]) rfl ?_
            refine c_aload_n (j := 0) (x := a0) C dX3_gather_85 rfl ?_
            obtain ⟨rb33, rq33, trb33⟩ := W58.ref ty582 2 rfl rfl rfl
            have erb33 := W58.sk trb33 (by decide) rfl
            subst erb33
            refine c_getr (k := 2) C ck_4 dX3_gather_86 w1_196 (by decide) ty582 rfl rfl (by decide) rfl rq33 ?_
            refine c_st (st2 := [.ref (sk 6), .ref (sk 24)]) rfl ?_
            refine hv5 (xl58.ty ty577) (show ivh58 (sk 24) 2 = ivh54 (sk 24) 2 from fl58.i ty577 rfl 2) (show ivh54 (sk 24) 2 = ivh53 (sk 24) 2 from fl54.i ty522 rfl 2) (xl58.ty ty572) (Phi.le W58 sk56) (fun ty583 ie196 ie197 ty584 pl72 => ?_)
            have ri145 : 0 ≤ ivh58 (sk 24) 2 ∧ ivh58 (sk 24) 2 ≤ 6003 := W58.int ty583 2
            refine d_callS (As := [.ref (sk 24), .ref (sk 6)]) (rest := []) C hM (G_markBegins_24 (a0 := (sk 24)) (a1 := (sk 6)) W58 sk56 ty583 ty584  ) dX3_gather_89 kS_X3_73 rfl rfl (Nat.le_of_ble_eq_true rfl) ⟨(Nat.le_of_ble_eq_true rfl), (Nat.le_of_ble_eq_true rfl)⟩ hph pl72 (show 0 + 0 = 0 from rfl) (by decide) (fun rh59 Lh59 clh59 lnh59 ivh59 rvh59 h59 => ?_)
            obtain ⟨rfl, xl59, fl59, W59, exf59⟩ := h59
            refine hv11 (F58.call X56 fl59 rfl) (xl58.ty ty573) (xl58.ty ty574) (xl58.ty ty575) (xl58.ty ty576) (xl58.ty ty578) (xl58.ty ty537) (xl58.ty ty579) (xl58.ty tnb14) (X56.trans xl59) (xl59.skl sk56) (fun F59 ty585 ty586 ty587 ty588 ty589 ty590 ty591 ty592 X57 sk57 => ?_)
            refine c_st (st2 := []) rfl ?_
            refine hv6 (xl59.ty ty584) (show ivh59 (sk 6) 2 = ivh58 (sk 24) 2 ∧ MBX Lh58 clh58 lnh58 ivh58 rvh58 (sk 24) ivh59 rvh59 (sk 6) from exf59) (show GLQ sk ln iv rv a1 Lh59 clh59 lnh59 ivh59 rvh59 (sk 24) gat0 from (gl144.mv (QT.of W58 sk56 xl59 fl59 rfl rfl rfl rfl rfl) (el24.fr W58 sk56 fl59 rfl rfl).1 (el24.fr W58 sk56 fl59 rfl rfl).2)) (show GLQ sk ln iv rv a1 Lh59 clh59 lnh59 ivh59 rvh59 (sk 25) gat1 from (gl145.mv (QT.of W58 sk56 xl59 fl59 rfl rfl rfl rfl rfl) (el25.fr W58 sk56 fl59 rfl rfl).1 (el25.fr W58 sk56 fl59 rfl rfl).2)) (xl59.ty ty583) (show ivh59 (sk 24) 2 = ivh58 (sk 24) 2 from fl59.i ty583 rfl 2) (fun ty593 gf59 gl146 gl147 ty594 ie199 => ?_)
            refine hv2 (show 0 ≤ ivh59 (sk 6) 2 ∧ ivh59 (sk 6) 2 ≤ 6003 from W59.int ty593 2) (show 0 ≤ ivh59 (sk 24) 2 ∧ ivh59 (sk 24) 2 ≤ 6003 from W59.int ty594 2) (fun ri146 ri147 => ?_)
            have gb43 := GBQ.mk gl144 gf59.2 (by omega) (by omega)
            refine c_aload_n (j := 0) (x := a0) C dX3_gather_92 rfl ?_
            refine hv2 (xl59.ty ty582) (show rvh58 a0 1 = rvh54 a0 1 from (fl58.r ty535 rfl 1)) (fun ty595 re112 => ?_)
            rw [re101] at re112
            have re113 : rvh59 a0 1 = rvh58 a0 1 := (fl59.r ty582 rfl 1)
            rw [re112] at re113
            refine c_getr (k := 1) C ck_4 dX3_gather_93 w1_193 (by decide) ty595 rfl rfl (by decide) rfl re113 ?_
            refine c_st (st2 := [.ref (sk 25)]) rfl ?_
            refine c_aload_n (j := 0) (x := a0) C dX3_gather_96 rfl ?_
            obtain ⟨rb34, rq34, trb34⟩ := W59.ref ty595 3 rfl rfl rfl
            have erb34 := W59.sk trb34 (by decide) rfl
            subst erb34
            refine c_getr (k := 3) C ck_4 dX3_gather_97 w1_197 (by decide) ty595 rfl rfl (by decide) rfl rq34 ?_
            refine c_st (st2 := [.ref (sk 7), .ref (sk 25)]) rfl ?_
            refine hv4 (xl59.ty ty580) (show ivh59 (sk 25) 2 = ivh58 (sk 25) 2 from fl59.i ty580 rfl 2) (xl59.ty ty585) (Phi.le W59 sk57) (fun ty596 ie200 ty597 pl73 => ?_)
            have ri148 : 0 ≤ ivh59 (sk 25) 2 ∧ ivh59 (sk 25) 2 ≤ 6003 := W59.int ty596 2
            refine d_callS (As := [.ref (sk 25), .ref (sk 7)]) (rest := []) C hM (G_markBegins_25 (a0 := (sk 25)) (a1 := (sk 7)) W59 sk57 ty596 ty597  ) dX3_gather_100 kS_X3_73 rfl rfl (Nat.le_of_ble_eq_true rfl) ⟨(Nat.le_of_ble_eq_true rfl), (Nat.le_of_ble_eq_true rfl)⟩ hph pl73 (show 0 + 0 = 0 from rfl) (by decide) (fun rh60 Lh60 clh60 lnh60 ivh60 rvh60 h60 => ?_)
            obtain ⟨rfl, xl60, fl60, W60, exf60⟩ := h60
            refine hv11 (F59.call X57 fl60 rfl) (xl59.ty ty581) (xl59.ty ty586) (xl59.ty ty587) (xl59.ty ty588) (xl59.ty ty589) (xl59.ty ty590) (xl59.ty ty591) (xl59.ty ty592) (X57.trans xl60) (xl60.skl sk57) (fun F60 ty598 ty599 ty600 ty601 ty602 ty603 ty604 ty605 X58 sk58 => ?_)
            refine c_st (st2 := []) rfl ?_
            refine hv8 (xl60.ty ty597) (show ivh60 (sk 7) 2 = ivh59 (sk 25) 2 ∧ MBX Lh59 clh59 lnh59 ivh59 rvh59 (sk 25) ivh60 rvh60 (sk 7) from exf60) (show GLQ sk ln iv rv a1 Lh60 clh60 lnh60 ivh60 rvh60 (sk 24) gat0 from (gl146.mv (QT.of W59 sk57 xl60 fl60 rfl rfl rfl rfl rfl) (el24.fr W59 sk57 fl60 rfl rfl).1 (el24.fr W59 sk57 fl60 rfl rfl).2)) (show GLQ sk ln iv rv a1 Lh60 clh60 lnh60 ivh60 rvh60 (sk 25) gat1 from (gl147.mv (QT.of W59 sk57 xl60 fl60 rfl rfl rfl rfl rfl) (el25.fr W59 sk57 fl60 rfl rfl).1 (el25.fr W59 sk57 fl60 rfl rfl).2)) (xl60.ty ty596) (show ivh60 (sk 25) 2 = ivh59 (sk 25) 2 from fl60.i ty596 rfl 2) (gb43.fr W59 ty594 ty593 fl60 rfl rfl rfl rfl rfl rfl) (Phi.le W60 sk58) (fun ty606 gf60 gl148 gl149 ty607 ie202 gb45 pl74 => ?_)
            refine hv2 (show 0 ≤ ivh60 (sk 7) 2 ∧ ivh60 (sk 7) 2 ≤ 6003 from W60.int ty606 2) (show 0 ≤ ivh60 (sk 25) 2 ∧ ivh60 (sk 25) 2 ≤ 6003 from W60.int ty607 2) (fun ri149 ri150 => ?_)
            have gb44 := GBQ.mk gl147 gf60.2 (by omega) (by omega)
            exact c_vret C dX3_gather_103 rfl (by decide) (rom0 hph pl74 (by decide)) ⟨rfl, X58, F60, W60, trivial, ⟨gl148, gl149⟩, ⟨gb45, gb44⟩⟩
        · have rknb13 := W53.rank ty524 (k := 3) (by decide) nq13
          refine c_getr (k := 3) C ck_10 dX3_gather_51 w2_184 (by decide) ty524 rfl rfl (by decide) rfl nq13 ?_
          refine c_st (st2 := [.ref nb13, .ref (sk 25)]) rfl ?_
          refine hv4 (xl53.ty ty520) (show ivh53 (sk 25) 2 = ivh37 (sk 25) 2 from fl53.i ty520 rfl 2) (show ivh37 (sk 25) 2 = ivh2 (sk 25) 2 from fl37.i tsk25 rfl 2) (Phi.le W53 sk51) (fun ty608 ie203 ie204 pl75 => ?_)
          have ri151 : 0 ≤ ivh53 (sk 25) 2 ∧ ivh53 (sk 25) 2 ≤ 6003 := W53.int ty608 2
          refine d_callS (As := [.ref (sk 25), .ref nb13]) (rest := []) C hM (G_gatherPart_25 (a0 := (sk 25)) (a1 := nb13) W53 sk51 ty608 tnb13  (by show ivh53 (sk 25) 2 = 0; omega)) dX3_gather_54 kS_X3_59 rfl rfl (Nat.le_of_ble_eq_true rfl) ⟨(Nat.le_of_ble_eq_true rfl), (Nat.le_of_ble_eq_true rfl)⟩ hph pl75 (show 0 + 0 = 0 from rfl) (by decide) (fun rh61 Lh61 clh61 lnh61 ivh61 rvh61 h61 => ?_)
          obtain ⟨rfl, xl61, fl61, W61, exf61, gpxf61⟩ := h61
          refine hv11 (F53.call X51 fl61 rfl) (xl53.ty ty515) (xl53.ty ty516) (xl53.ty ty517) (xl53.ty ty518) (xl53.ty ty519) (xl53.ty ty521) (xl53.ty trb22) (xl53.ty tnb9) (X51.trans xl61) (xl61.skl sk51) (fun F61 ty609 ty610 ty611 ty612 ty613 ty614 ty615 ty616 X59 sk59 => ?_)
          refine c_st (st2 := []) rfl ?_
          refine hv4 (xl61.ty ty608) (show ivh61 (sk 25) 2 ≤ 6002 from exf61) (show GLQ sk ln iv rv a1 Lh61 clh61 lnh61 ivh61 rvh61 (sk 25) (fun a i => rws1 a (a 9 i.toNat)) from (GLQ.sub3 gpxf61 (QT.of hW hS X51 F53 rfl rfl rfl rfl rfl) nq13)) (show GLQ sk ln iv rv a1 Lh61 clh61 lnh61 ivh61 rvh61 (sk 24) (fun a i => rws1 a (a 8 i.toNat) ++ indl a (4 * i + ((2 : Nat) : Int))) from (gl130.mv (QT.of W53 sk51 xl61 fl61 rfl rfl rfl rfl rfl) (el24.fr W53 sk51 fl61 rfl rfl).1 (el24.fr W53 sk51 fl61 rfl rfl).2)) (fun ty617 gf61 gl150 gl151 => ?_)
          have ri152 : 0 ≤ ivh61 (sk 25) 2 ∧ ivh61 (sk 25) 2 ≤ 6003 := W61.int ty617 2
          refine c_aload_n (j := 0) (x := a0) C dX3_gather_57 rfl ?_
          refine hv2 (xl61.ty ty523) (show rvh61 a0 1 = rvh53 a0 1 from (fl61.r ty523 rfl 1)) (fun ty618 re114 => ?_)
          rw [re100] at re114
          refine c_getr (k := 1) C ck_4 dX3_gather_58 w1_193 (by decide) ty618 rfl rfl (by decide) rfl re114 ?_
          refine c_st (st2 := [.ref (sk 25)]) rfl ?_
          refine c_aload_n (j := 1) (x := a1) C dX3_gather_61 rfl ?_
          refine hv2 (xl61.ty ty524) (show rvh53 a1 6 = rvh37 a1 6 from (fl53.r ty346 rfl 6)) (fun ty619 re115 => ?_)
          rw [rq22] at re115
          have re116 : rvh61 a1 6 = rvh53 a1 6 := (fl61.r ty524 rfl 6)
          rw [re115] at re116
          refine c_getr (k := 6) C ck_10 dX3_gather_62 w2_193 (by decide) ty619 rfl rfl (by decide) rfl re116 ?_
          refine c_st (st2 := [.ref rb22, .ref (sk 25)]) rfl ?_
          refine c_iconst C dX3_gather_65 ?_
          have ty620 := xl61.ty ty615
          have ll10 : 4 ≤ lnh61 rb22 ∧ lnh61 rb22 ≤ 4 := W61.len ty620 rfl
          rcases W61.opt ty620 ((3 : Int).toNat) rfl rfl with ⟨nq15, _⟩ | ⟨nb15, nq15, tnb15⟩
          · refine c_aaldR C dX3_gather_66 ty620 rfl (by omega) (by omega) (by omega) nq15 ?_
            refine c_st (st2 := [.null, .ref (sk 25)]) rfl ?_
            have pl76 := Phi.le W61 sk59
            refine d_callS (As := [.ref (sk 25), .null]) (rest := []) C hM (G_addInd_25 (a0 := (sk 25)) (r := none) W61 sk59 ty617 (fun _ q => by cases q)  (by show ivh61 (sk 25) 2 < 6003; omega)) dX3_gather_67 kS_X3_67 rfl rfl (Nat.le_of_ble_eq_true rfl) ⟨(Nat.le_of_ble_eq_true rfl), (Nat.le_of_ble_eq_true rfl)⟩ hph pl76 (show 0 + 0 = 0 from rfl) (by decide) (fun rh62 Lh62 clh62 lnh62 ivh62 rvh62 h62 => ?_)
            obtain ⟨rfl, xl62, fl62, W62, exf62, ladf62⟩ := h62
            refine hv12 (F61.call X59 fl62 rfl) (xl61.ty ty609) (xl61.ty ty610) (xl61.ty ty611) (xl61.ty ty612) (xl61.ty ty613) (xl61.ty ty522) (xl61.ty ty614) (xl61.ty ty616) (xl61.ty tnb13) (X59.trans xl62) (xl62.skl sk59) (fun F62 ty621 ty622 ty623 ty624 ty625 ty626 ty627 ty628 ty629 X60 sk60 => ?_)
            refine c_st (st2 := []) rfl ?_
            refine hv4 (xl62.ty ty617) (show ivh61 (sk 25) 2 ≤ ivh62 (sk 25) 2 ∧ ivh62 (sk 25) 2 ≤ ivh61 (sk 25) 2 + 1 from exf62) (show GLQ sk ln iv rv a1 Lh62 clh62 lnh62 ivh62 rvh62 (sk 25) (fun a i => rws1 a (a 9 i.toNat) ++ indl a (4 * i + ((3 : Nat) : Int))) from (gl150.ind (j := 3) (QT.of hW hS X59 F61 rfl rfl rfl rfl rfl) (QT.of W61 sk59 xl62 fl62 rfl rfl rfl rfl rfl) ty620 re116 nq15 ladf62 (by decide))) (show GLQ sk ln iv rv a1 Lh62 clh62 lnh62 ivh62 rvh62 (sk 24) (fun a i => rws1 a (a 8 i.toNat) ++ indl a (4 * i + ((2 : Nat) : Int))) from (gl151.mv (QT.of W61 sk59 xl62 fl62 rfl rfl rfl rfl rfl) (el24.fr W61 sk59 fl62 rfl rfl).1 (el24.fr W61 sk59 fl62 rfl rfl).2)) (fun ty630 gf62 gl152 gl153 => ?_)
            have ri153 : 0 ≤ ivh62 (sk 25) 2 ∧ ivh62 (sk 25) 2 ≤ 6003 := W62.int ty630 2
            refine c_goto (tgt := 81) C dX3_gather_70 (by decide) ?_
            refine hv5 (xl62.ty ty619) (show ivh62 a1 0 = ivh61 a1 0 from fl62.i ty619 rfl 0) (show ivh61 a1 0 = ivh53 a1 0 from fl61.i ty524 rfl 0) (show ivh53 a1 0 = ivh37 a1 0 from fl53.i ty346 rfl 0) (show ivh37 a1 0 = ivh2 a1 0 from fl37.i t_a1 rfl 0) (fun ty631 ie207 ie208 ie209 ie210 => ?_)
            have ri154 : (-2147483648) ≤ ivh62 a1 0 ∧ ivh62 a1 0 ≤ 2147483647 := W62.int ty631 0
            have gl154 : GLQ sk ln iv rv a1 Lh62 clh62 lnh62 ivh62 rvh62 (sk 24) gat0 := (gl153.g0 (by omega))
            have gl155 : GLQ sk ln iv rv a1 Lh62 clh62 lnh62 ivh62 rvh62 (sk 25) gat1 := (gl152.g1 (by omega))
            refine c_aload_n (j := 0) (x := a0) C dX3_gather_81 rfl ?_
            refine hv2 (xl62.ty ty618) (show rvh53 a0 0 = rvh37 a0 0 from (fl53.r ty345 rfl 0)) (fun ty632 re117 => ?_)
            rw [re68] at re117
            have re118 : rvh61 a0 0 = rvh53 a0 0 := (fl61.r ty523 rfl 0)
            rw [re117] at re118
            have re119 : rvh62 a0 0 = rvh61 a0 0 := (fl62.r ty618 rfl 0)
            rw [re118] at re119
            refine c_getr (k := 0) C ck_4 dX3_gather_82 w1_190 (by decide) ty632 rfl rfl (by decide) rfl re119 ?_
            refine c_st (st2 := [.ref (sk 24)]) rfl ?_
            refine c_aload_n (j := 0) (x := a0) C dX3_gather_85 rfl ?_
            obtain ⟨rb35, rq35, trb35⟩ := W62.ref ty632 2 rfl rfl rfl
            have erb35 := W62.sk trb35 (by decide) rfl
            subst erb35
            refine c_getr (k := 2) C ck_4 dX3_gather_86 w1_196 (by decide) ty632 rfl rfl (by decide) rfl rq35 ?_
            refine c_st (st2 := [.ref (sk 6), .ref (sk 24)]) rfl ?_
            refine hv5 (xl62.ty ty626) (show ivh62 (sk 24) 2 = ivh61 (sk 24) 2 from fl62.i ty626 rfl 2) (show ivh61 (sk 24) 2 = ivh53 (sk 24) 2 from fl61.i ty522 rfl 2) (xl62.ty ty621) (Phi.le W62 sk60) (fun ty633 ie211 ie212 ty634 pl77 => ?_)
            have ri155 : 0 ≤ ivh62 (sk 24) 2 ∧ ivh62 (sk 24) 2 ≤ 6003 := W62.int ty633 2
            refine d_callS (As := [.ref (sk 24), .ref (sk 6)]) (rest := []) C hM (G_markBegins_24 (a0 := (sk 24)) (a1 := (sk 6)) W62 sk60 ty633 ty634  ) dX3_gather_89 kS_X3_73 rfl rfl (Nat.le_of_ble_eq_true rfl) ⟨(Nat.le_of_ble_eq_true rfl), (Nat.le_of_ble_eq_true rfl)⟩ hph pl77 (show 0 + 0 = 0 from rfl) (by decide) (fun rh63 Lh63 clh63 lnh63 ivh63 rvh63 h63 => ?_)
            obtain ⟨rfl, xl63, fl63, W63, exf63⟩ := h63
            refine hv11 (F62.call X60 fl63 rfl) (xl62.ty ty622) (xl62.ty ty623) (xl62.ty ty624) (xl62.ty ty625) (xl62.ty ty627) (xl62.ty ty620) (xl62.ty ty628) (xl62.ty ty629) (X60.trans xl63) (xl63.skl sk60) (fun F63 ty635 ty636 ty637 ty638 ty639 ty640 ty641 ty642 X61 sk61 => ?_)
            refine c_st (st2 := []) rfl ?_
            refine hv6 (xl63.ty ty634) (show ivh63 (sk 6) 2 = ivh62 (sk 24) 2 ∧ MBX Lh62 clh62 lnh62 ivh62 rvh62 (sk 24) ivh63 rvh63 (sk 6) from exf63) (show GLQ sk ln iv rv a1 Lh63 clh63 lnh63 ivh63 rvh63 (sk 24) gat0 from (gl154.mv (QT.of W62 sk60 xl63 fl63 rfl rfl rfl rfl rfl) (el24.fr W62 sk60 fl63 rfl rfl).1 (el24.fr W62 sk60 fl63 rfl rfl).2)) (show GLQ sk ln iv rv a1 Lh63 clh63 lnh63 ivh63 rvh63 (sk 25) gat1 from (gl155.mv (QT.of W62 sk60 xl63 fl63 rfl rfl rfl rfl rfl) (el25.fr W62 sk60 fl63 rfl rfl).1 (el25.fr W62 sk60 fl63 rfl rfl).2)) (xl63.ty ty633) (show ivh63 (sk 24) 2 = ivh62 (sk 24) 2 from fl63.i ty633 rfl 2) (fun ty643 gf63 gl156 gl157 ty644 ie214 => ?_)
            refine hv2 (show 0 ≤ ivh63 (sk 6) 2 ∧ ivh63 (sk 6) 2 ≤ 6003 from W63.int ty643 2) (show 0 ≤ ivh63 (sk 24) 2 ∧ ivh63 (sk 24) 2 ≤ 6003 from W63.int ty644 2) (fun ri156 ri157 => ?_)
            have gb46 := GBQ.mk gl154 gf63.2 (by omega) (by omega)
            refine c_aload_n (j := 0) (x := a0) C dX3_gather_92 rfl ?_
            refine hv2 (xl63.ty ty632) (show rvh62 a0 1 = rvh61 a0 1 from (fl62.r ty618 rfl 1)) (fun ty645 re120 => ?_)
            rw [re114] at re120
            have re121 : rvh63 a0 1 = rvh62 a0 1 := (fl63.r ty632 rfl 1)
            rw [re120] at re121
            refine c_getr (k := 1) C ck_4 dX3_gather_93 w1_193 (by decide) ty645 rfl rfl (by decide) rfl re121 ?_
            refine c_st (st2 := [.ref (sk 25)]) rfl ?_
            refine c_aload_n (j := 0) (x := a0) C dX3_gather_96 rfl ?_
            obtain ⟨rb36, rq36, trb36⟩ := W63.ref ty645 3 rfl rfl rfl
            have erb36 := W63.sk trb36 (by decide) rfl
            subst erb36
            refine c_getr (k := 3) C ck_4 dX3_gather_97 w1_197 (by decide) ty645 rfl rfl (by decide) rfl rq36 ?_
            refine c_st (st2 := [.ref (sk 7), .ref (sk 25)]) rfl ?_
            refine hv4 (xl63.ty ty630) (show ivh63 (sk 25) 2 = ivh62 (sk 25) 2 from fl63.i ty630 rfl 2) (xl63.ty ty635) (Phi.le W63 sk61) (fun ty646 ie215 ty647 pl78 => ?_)
            have ri158 : 0 ≤ ivh63 (sk 25) 2 ∧ ivh63 (sk 25) 2 ≤ 6003 := W63.int ty646 2
            refine d_callS (As := [.ref (sk 25), .ref (sk 7)]) (rest := []) C hM (G_markBegins_25 (a0 := (sk 25)) (a1 := (sk 7)) W63 sk61 ty646 ty647  ) dX3_gather_100 kS_X3_73 rfl rfl (Nat.le_of_ble_eq_true rfl) ⟨(Nat.le_of_ble_eq_true rfl), (Nat.le_of_ble_eq_true rfl)⟩ hph pl78 (show 0 + 0 = 0 from rfl) (by decide) (fun rh64 Lh64 clh64 lnh64 ivh64 rvh64 h64 => ?_)
            obtain ⟨rfl, xl64, fl64, W64, exf64⟩ := h64
            refine hv11 (F63.call X61 fl64 rfl) (xl63.ty ty631) (xl63.ty ty636) (xl63.ty ty637) (xl63.ty ty638) (xl63.ty ty639) (xl63.ty ty640) (xl63.ty ty641) (xl63.ty ty642) (X61.trans xl64) (xl64.skl sk61) (fun F64 ty648 ty649 ty650 ty651 ty652 ty653 ty654 ty655 X62 sk62 => ?_)
            refine c_st (st2 := []) rfl ?_
            refine hv8 (xl64.ty ty647) (show ivh64 (sk 7) 2 = ivh63 (sk 25) 2 ∧ MBX Lh63 clh63 lnh63 ivh63 rvh63 (sk 25) ivh64 rvh64 (sk 7) from exf64) (show GLQ sk ln iv rv a1 Lh64 clh64 lnh64 ivh64 rvh64 (sk 24) gat0 from (gl156.mv (QT.of W63 sk61 xl64 fl64 rfl rfl rfl rfl rfl) (el24.fr W63 sk61 fl64 rfl rfl).1 (el24.fr W63 sk61 fl64 rfl rfl).2)) (show GLQ sk ln iv rv a1 Lh64 clh64 lnh64 ivh64 rvh64 (sk 25) gat1 from (gl157.mv (QT.of W63 sk61 xl64 fl64 rfl rfl rfl rfl rfl) (el25.fr W63 sk61 fl64 rfl rfl).1 (el25.fr W63 sk61 fl64 rfl rfl).2)) (xl64.ty ty646) (show ivh64 (sk 25) 2 = ivh63 (sk 25) 2 from fl64.i ty646 rfl 2) (gb46.fr W63 ty644 ty643 fl64 rfl rfl rfl rfl rfl rfl) (Phi.le W64 sk62) (fun ty656 gf64 gl158 gl159 ty657 ie217 gb48 pl79 => ?_)
            refine hv2 (show 0 ≤ ivh64 (sk 7) 2 ∧ ivh64 (sk 7) 2 ≤ 6003 from W64.int ty656 2) (show 0 ≤ ivh64 (sk 25) 2 ∧ ivh64 (sk 25) 2 ≤ 6003 from W64.int ty657 2) (fun ri159 ri160 => ?_)
            have gb47 := GBQ.mk gl157 gf64.2 (by omega) (by omega)
            exact c_vret C dX3_gather_103 rfl (by decide) (rom0 hph pl79 (by decide)) ⟨rfl, X62, F64, W64, trivial, ⟨gl158, gl159⟩, ⟨gb48, gb47⟩⟩
          · have tnb15 : ty Lh61 clh61 nb15 20 := tnb15
            refine c_aaldR C dX3_gather_66 ty620 rfl (by omega) (by omega) (by omega) nq15 ?_
            refine c_st (st2 := [.ref nb15, .ref (sk 25)]) rfl ?_
            have pl80 := Phi.le W61 sk59
            refine d_callS (As := [.ref (sk 25), .ref nb15]) (rest := []) C hM (G_addInd_25 (a0 := (sk 25)) (r := (some nb15)) W61 sk59 ty617 (fun _ q => by cases q; exact tnb15)  (by show ivh61 (sk 25) 2 < 6003; omega)) dX3_gather_67 kS_X3_67 rfl rfl (Nat.le_of_ble_eq_true rfl) ⟨(Nat.le_of_ble_eq_true rfl), (Nat.le_of_ble_eq_true rfl)⟩ hph pl80 (show 0 + 0 = 0 from rfl) (by decide) (fun rh65 Lh65 clh65 lnh65 ivh65 rvh65 h65 => ?_)
            obtain ⟨rfl, xl65, fl65, W65, exf65, ladf65⟩ := h65
            refine hv12 (F61.call X59 fl65 rfl) (xl61.ty ty609) (xl61.ty ty610) (xl61.ty ty611) (xl61.ty ty612) (xl61.ty ty613) (xl61.ty ty522) (xl61.ty ty614) (xl61.ty ty616) (xl61.ty tnb13) (X59.trans xl65) (xl65.skl sk59) (fun F65 ty658 ty659 ty660 ty661 ty662 ty663 ty664 ty665 ty666 X63 sk63 => ?_)
            refine c_st (st2 := []) rfl ?_
            refine hv4 (xl65.ty ty617) (show ivh61 (sk 25) 2 ≤ ivh65 (sk 25) 2 ∧ ivh65 (sk 25) 2 ≤ ivh61 (sk 25) 2 + 1 from exf65) (show GLQ sk ln iv rv a1 Lh65 clh65 lnh65 ivh65 rvh65 (sk 25) (fun a i => rws1 a (a 9 i.toNat) ++ indl a (4 * i + ((3 : Nat) : Int))) from (gl150.ind (j := 3) (QT.of hW hS X59 F61 rfl rfl rfl rfl rfl) (QT.of W61 sk59 xl65 fl65 rfl rfl rfl rfl rfl) ty620 re116 nq15 ladf65 (by decide))) (show GLQ sk ln iv rv a1 Lh65 clh65 lnh65 ivh65 rvh65 (sk 24) (fun a i => rws1 a (a 8 i.toNat) ++ indl a (4 * i + ((2 : Nat) : Int))) from (gl151.mv (QT.of W61 sk59 xl65 fl65 rfl rfl rfl rfl rfl) (el24.fr W61 sk59 fl65 rfl rfl).1 (el24.fr W61 sk59 fl65 rfl rfl).2)) (fun ty667 gf65 gl160 gl161 => ?_)
            have ri161 : 0 ≤ ivh65 (sk 25) 2 ∧ ivh65 (sk 25) 2 ≤ 6003 := W65.int ty667 2
            refine c_goto (tgt := 81) C dX3_gather_70 (by decide) ?_
            refine hv5 (xl65.ty ty619) (show ivh65 a1 0 = ivh61 a1 0 from fl65.i ty619 rfl 0) (show ivh61 a1 0 = ivh53 a1 0 from fl61.i ty524 rfl 0) (show ivh53 a1 0 = ivh37 a1 0 from fl53.i ty346 rfl 0) (show ivh37 a1 0 = ivh2 a1 0 from fl37.i t_a1 rfl 0) (fun ty668 ie219 ie220 ie221 ie222 => ?_)
            have ri162 : (-2147483648) ≤ ivh65 a1 0 ∧ ivh65 a1 0 ≤ 2147483647 := W65.int ty668 0
            have gl162 : GLQ sk ln iv rv a1 Lh65 clh65 lnh65 ivh65 rvh65 (sk 24) gat0 := (gl161.g0 (by omega))
            have gl163 : GLQ sk ln iv rv a1 Lh65 clh65 lnh65 ivh65 rvh65 (sk 25) gat1 := (gl160.g1 (by omega))
            refine c_aload_n (j := 0) (x := a0) C dX3_gather_81 rfl ?_
            refine hv2 (xl65.ty ty618) (show rvh53 a0 0 = rvh37 a0 0 from (fl53.r ty345 rfl 0)) (fun ty669 re122 => ?_)
            rw [re68] at re122
            have re123 : rvh61 a0 0 = rvh53 a0 0 := (fl61.r ty523 rfl 0)
            rw [re122] at re123
            have re124 : rvh65 a0 0 = rvh61 a0 0 := (fl65.r ty618 rfl 0)
            rw [re123] at re124
            refine c_getr (k := 0) C ck_4 dX3_gather_82 w1_190 (by decide) ty669 rfl rfl (by decide) rfl re124 ?_
            refine c_st (st2 := [.ref (sk 24)]) rfl ?_
            refine c_aload_n (j := 0) (x := a0) C dX3_gather_85 rfl ?_
            obtain ⟨rb37, rq37, trb37⟩ := W65.ref ty669 2 rfl rfl rfl
            have erb37 := W65.sk trb37 (by decide) rfl
            subst erb37
            refine c_getr (k := 2) C ck_4 dX3_gather_86 w1_196 (by decide) ty669 rfl rfl (by decide) rfl rq37 ?_
            refine c_st (st2 := [.ref (sk 6), .ref (sk 24)]) rfl ?_
            refine hv5 (xl65.ty ty663) (show ivh65 (sk 24) 2 = ivh61 (sk 24) 2 from fl65.i ty663 rfl 2) (show ivh61 (sk 24) 2 = ivh53 (sk 24) 2 from fl61.i ty522 rfl 2) (xl65.ty ty658) (Phi.le W65 sk63) (fun ty670 ie223 ie224 ty671 pl81 => ?_)
            have ri163 : 0 ≤ ivh65 (sk 24) 2 ∧ ivh65 (sk 24) 2 ≤ 6003 := W65.int ty670 2
            refine d_callS (As := [.ref (sk 24), .ref (sk 6)]) (rest := []) C hM (G_markBegins_24 (a0 := (sk 24)) (a1 := (sk 6)) W65 sk63 ty670 ty671  ) dX3_gather_89 kS_X3_73 rfl rfl (Nat.le_of_ble_eq_true rfl) ⟨(Nat.le_of_ble_eq_true rfl), (Nat.le_of_ble_eq_true rfl)⟩ hph pl81 (show 0 + 0 = 0 from rfl) (by decide) (fun rh66 Lh66 clh66 lnh66 ivh66 rvh66 h66 => ?_)
            obtain ⟨rfl, xl66, fl66, W66, exf66⟩ := h66
            refine hv12 (F65.call X63 fl66 rfl) (xl65.ty ty659) (xl65.ty ty660) (xl65.ty ty661) (xl65.ty ty662) (xl65.ty ty664) (xl65.ty ty620) (xl65.ty ty665) (xl65.ty ty666) (xl65.ty tnb15) (X63.trans xl66) (xl66.skl sk63) (fun F66 ty672 ty673 ty674 ty675 ty676 ty677 ty678 ty679 ty680 X64 sk64 => ?_)
            refine c_st (st2 := []) rfl ?_
            refine hv6 (xl66.ty ty671) (show ivh66 (sk 6) 2 = ivh65 (sk 24) 2 ∧ MBX Lh65 clh65 lnh65 ivh65 rvh65 (sk 24) ivh66 rvh66 (sk 6) from exf66) (show GLQ sk ln iv rv a1 Lh66 clh66 lnh66 ivh66 rvh66 (sk 24) gat0 from (gl162.mv (QT.of W65 sk63 xl66 fl66 rfl rfl rfl rfl rfl) (el24.fr W65 sk63 fl66 rfl rfl).1 (el24.fr W65 sk63 fl66 rfl rfl).2)) (show GLQ sk ln iv rv a1 Lh66 clh66 lnh66 ivh66 rvh66 (sk 25) gat1 from (gl163.mv (QT.of W65 sk63 xl66 fl66 rfl rfl rfl rfl rfl) (el25.fr W65 sk63 fl66 rfl rfl).1 (el25.fr W65 sk63 fl66 rfl rfl).2)) (xl66.ty ty670) (show ivh66 (sk 24) 2 = ivh65 (sk 24) 2 from fl66.i ty670 rfl 2) (fun ty681 gf66 gl164 gl165 ty682 ie226 => ?_)
            refine hv2 (show 0 ≤ ivh66 (sk 6) 2 ∧ ivh66 (sk 6) 2 ≤ 6003 from W66.int ty681 2) (show 0 ≤ ivh66 (sk 24) 2 ∧ ivh66 (sk 24) 2 ≤ 6003 from W66.int ty682 2) (fun ri164 ri165 => ?_)
            have gb49 := GBQ.mk gl162 gf66.2 (by omega) (by omega)
            refine c_aload_n (j := 0) (x := a0) C dX3_gather_92 rfl ?_
            refine hv2 (xl66.ty ty669) (show rvh65 a0 1 = rvh61 a0 1 from (fl65.r ty618 rfl 1)) (fun ty683 re125 => ?_)
            rw [re114] at re125
            have re126 : rvh66 a0 1 = rvh65 a0 1 := (fl66.r ty669 rfl 1)
            rw [re125] at re126
            refine c_getr (k := 1) C ck_4 dX3_gather_93 w1_193 (by decide) ty683 rfl rfl (by decide) rfl re126 ?_
            refine c_st (st2 := [.ref (sk 25)]) rfl ?_
            refine c_aload_n (j := 0) (x := a0) C dX3_gather_96 rfl ?_
            obtain ⟨rb38, rq38, trb38⟩ := W66.ref ty683 3 rfl rfl rfl
            have erb38 := W66.sk trb38 (by decide) rfl
            subst erb38
            refine c_getr (k := 3) C ck_4 dX3_gather_97 w1_197 (by decide) ty683 rfl rfl (by decide) rfl rq38 ?_
            refine c_st (st2 := [.ref (sk 7), .ref (sk 25)]) rfl ?_
            refine hv4 (xl66.ty ty667) (show ivh66 (sk 25) 2 = ivh65 (sk 25) 2 from fl66.i ty667 rfl 2) (xl66.ty ty672) (Phi.le W66 sk64) (fun ty684 ie227 ty685 pl82 => ?_)
            have ri166 : 0 ≤ ivh66 (sk 25) 2 ∧ ivh66 (sk 25) 2 ≤ 6003 := W66.int ty684 2
            refine d_callS (As := [.ref (sk 25), .ref (sk 7)]) (rest := []) C hM (G_markBegins_25 (a0 := (sk 25)) (a1 := (sk 7)) W66 sk64 ty684 ty685  ) dX3_gather_100 kS_X3_73 rfl rfl (Nat.le_of_ble_eq_true rfl) ⟨(Nat.le_of_ble_eq_true rfl), (Nat.le_of_ble_eq_true rfl)⟩ hph pl82 (show 0 + 0 = 0 from rfl) (by decide) (fun rh67 Lh67 clh67 lnh67 ivh67 rvh67 h67 => ?_)
            obtain ⟨rfl, xl67, fl67, W67, exf67⟩ := h67
            refine hv12 (F66.call X64 fl67 rfl) (xl66.ty ty668) (xl66.ty ty673) (xl66.ty ty674) (xl66.ty ty675) (xl66.ty ty676) (xl66.ty ty677) (xl66.ty ty678) (xl66.ty ty679) (xl66.ty ty680) (X64.trans xl67) (xl67.skl sk64) (fun F67 ty686 ty687 ty688 ty689 ty690 ty691 ty692 ty693 ty694 X65 sk65 => ?_)
            refine c_st (st2 := []) rfl ?_
            refine hv8 (xl67.ty ty685) (show ivh67 (sk 7) 2 = ivh66 (sk 25) 2 ∧ MBX Lh66 clh66 lnh66 ivh66 rvh66 (sk 25) ivh67 rvh67 (sk 7) from exf67) (show GLQ sk ln iv rv a1 Lh67 clh67 lnh67 ivh67 rvh67 (sk 24) gat0 from (gl164.mv (QT.of W66 sk64 xl67 fl67 rfl rfl rfl rfl rfl) (el24.fr W66 sk64 fl67 rfl rfl).1 (el24.fr W66 sk64 fl67 rfl rfl).2)) (show GLQ sk ln iv rv a1 Lh67 clh67 lnh67 ivh67 rvh67 (sk 25) gat1 from (gl165.mv (QT.of W66 sk64 xl67 fl67 rfl rfl rfl rfl rfl) (el25.fr W66 sk64 fl67 rfl rfl).1 (el25.fr W66 sk64 fl67 rfl rfl).2)) (xl67.ty ty684) (show ivh67 (sk 25) 2 = ivh66 (sk 25) 2 from fl67.i ty684 rfl 2) (gb49.fr W66 ty682 ty681 fl67 rfl rfl rfl rfl rfl rfl) (Phi.le W67 sk65) (fun ty695 gf67 gl166 gl167 ty696 ie229 gb51 pl83 => ?_)
            refine hv2 (show 0 ≤ ivh67 (sk 7) 2 ∧ ivh67 (sk 7) 2 ≤ 6003 from W67.int ty695 2) (show 0 ≤ ivh67 (sk 25) 2 ∧ ivh67 (sk 25) 2 ≤ 6003 from W67.int ty696 2) (fun ri167 ri168 => ?_)
            have gb50 := GBQ.mk gl165 gf67.2 (by omega) (by omega)
            exact c_vret C dX3_gather_103 rfl (by decide) (rom0 hph pl83 (by decide)) ⟨rfl, X65, F67, W67, trivial, ⟨gl166, gl167⟩, ⟨gb51, gb50⟩⟩
end
section
def CLI (iv : Nat → Nat → Int) (rv : Nat → Nat → Option Nat) (h0 : Nat) (sk : Nat → Nat) (iv1 : Nat → Nat → Int) (rv1 : Nat → Nat → Option Nat) (hy i n k : Int) : Prop := ∀ sA, rv h0 9 = some sA → ∀ E : List (Option (List Int)), SHT iv rv sA E → ROK E i n → E.length ≤ 200 → ∃ xs, CEL iv1 rv1 (sk 8) xs ∧ ((xs.length : Nat) : Int) ≤ 201 * k ∧ (k < n → xs = chl E hy i k.toNat) ∧ (chl E hy i k.toNat = xs ∨ chl E hy i k.toNat = xs ++ [0])
def CLX (iv : Nat → Nat → Int) (rv : Nat → Nat → Option Nat) (h0 : Nat) (sk : Nat → Nat) (iv2 : Nat → Nat → Int) (rv2 : Nat → Nat → Option Nat) (hy i n : Int) : Prop := ∀ sA, rv h0 9 = some sA → ∀ E : List (Option (List Int)), SHT iv rv sA E → ROK E i n → E.length ≤ 200 → ∃ xs, CEL iv2 rv2 (sk 8) xs ∧ RR0 xs = RR0 (chl E hy i n.toNat)
section CLIN
variable {h : Nat} {sk : Nat → Nat} {L L1 : List Nat} {cl ln cl1 ln1 : Nat → Nat} {iv iv1 iv2 : Nat → Nat → Int} {rv rv1 rv2 : Nat → Nat → Option Nat} {h0 sA r : Nat} {x z f k hy la i n : Int} {xs ys : List Int} {E : List (Option (List Int))} {ls : List Nat} {o : Option Nat}
theorem ROK.rng (hr : ROK E i n) (hk : 0 ≤ k ∧ k < n) : 0 ≤ i + k ∧ i + k < ((E.length : Nat) : Int) := by
  obtain ⟨xs, e⟩ := hr k hk.1 hk.2
  unfold rwe at e
  by_cases c : 0 ≤ i + k
  · rw [if_pos c] at e
    have := gl3 e
    omega
  · rw [if_neg c] at e
    cases e
theorem ROK.len (hr : ROK E i n) (hE : E.length ≤ 200) (hn : 0 ≤ n) : n ≤ 200 := by
  by_cases c : n ≤ 0
  · omega
  · have a1 := hr.rng (k := 0) ⟨by omega, by omega⟩
    have a2 := hr.rng (k := n - 1) ⟨by omega, by omega⟩
    omega
theorem RR0.app0 : RR0 (xs ++ [0]) = RR0 xs := by
  funext j
  unfold RR0
  by_cases c : j < xs.length
  · rw [List.getElem?_append_left c]
  · rw [List.getElem?_append_right (by omega), List.getElem?_eq_none (l := xs) (by omega)]
    by_cases c2 : j - xs.length = 0
    · rw [c2]
      rfl
    · rw [List.getElem?_eq_none (by show 1 ≤ j - xs.length; omega)]
theorem CLI.init (h8 : iv1 (sk 8) 2 = 0) : CLI iv rv h0 sk iv1 rv1 hy i n 0 := fun _ _ E _ _ _ => ⟨[], CEL.nil h8, by show (0 : Int) ≤ 201 * 0; omega, fun _ => rfl, Or.inl rfl⟩
theorem CLI.none (hI : CLI iv rv h0 sk iv1 rv1 hy i n k) (hA : rv h0 9 = some sA) (hW : WT h sk L cl ln iv rv) (ts : ty L cl sA 18) (hF : fT ls L cl iv rv iv1 rv1) (a18 : ls.contains 18 = false) (a19 : ls.contains 19 = false) (a64 : ls.contains 64 = false) (a67 : ls.contains 67 = false) (hx : SATX iv1 rv1 sA z none) (hz : iI (i + k) = iI z) (hzr : -2147483648 ≤ z ∧ z ≤ 2147483647) (hk : 0 ≤ k ∧ k < n) : CLI iv rv h0 sk iv1 rv1 hy i n (k + 1) := fun sA' e E hE hr hl => by
  rw [hA] at e; cases e
  refine hv2 (hr.rng hk) (hE.sam (SAM.frm hW ts hF a18 a19 a64 a67)) (fun rg hE1 => ?_)
  refine hv2 (iI_ij hz ⟨by omega, by omega⟩ hzr) (hE1.nul hx) (fun e2 g => ?_)
  obtain ⟨ys, e3⟩ := hr k hk.1 hk.2
  rw [← e2, e3] at g
  cases g
theorem CLI.step (hI : CLI iv rv h0 sk iv1 rv1 hy i n k) (hA : rv h0 9 = some sA) (hW : WT h sk L cl ln iv rv) (ts : ty L cl sA 18) (hF : fT ls L cl iv rv iv1 rv1) (a18 : ls.contains 18 = false) (a19 : ls.contains 19 = false) (a64 : ls.contains 64 = false) (a67 : ls.contains 67 = false) (hx : SATX iv1 rv1 sA z (some r)) (hz : iI (i + k) = iI z) (hzr : -2147483648 ≤ z ∧ z ≤ 2147483647) (hk : 0 ≤ k ∧ k < n) (hc : CHX iv1 rv1 sk iv2 rv2 r x la) (hxy : x = hy) (hla : (la = 1 ∧ k = n - 1) ∨ (la = 0 ∧ k ≠ n - 1)) (h200 : iv1 r 1 ≤ 200) : CLI iv rv h0 sk iv2 rv2 hy i n (k + 1) := fun sA' e E hE hr hl => by
  obtain ⟨xs, g1, g2, g3, _⟩ := hI sA' e E hE hr hl
  rw [hA] at e; cases e
  refine hv2 (hr.rng hk) (hE.sam (SAM.frm hW ts hF a18 a19 a64 a67)) (fun rg hE1 => ?_)
  have e2 := iI_ij hz ⟨by omega, by omega⟩ hzr
  obtain ⟨ys, e3⟩ := hr k hk.1 hk.2
  obtain ⟨y, y1, y2⟩ := hE1.smt hx
  rw [← e2, e3] at y1
  cases y1
  have n2 := hr.len hl (by omega)
  subst hxy
  rcases y2 with ⟨y2, _⟩ | ⟨ys', y2, _, y3⟩
  · cases y2
  · cases y2
    refine hv2 (y3.1) (g3 hk.2) (fun yl ex => ?_)
    have w := hc xs ys g1 y3 (by omega) (by omega)
    have ck : chl E x i (k + 1).toNat = xs ++ segl x ys := by
      rw [show (k + 1).toNat = k.toNat + 1 by omega]
      show chl E x i k.toNat ++ segl x (rwx E (i + ((k.toNat : Nat) : Int))) = _
      rw [show ((k.toNat : Nat) : Int) = k by omega, rwx_of e3, ← ex]
    have ln : (sgp x la ys).length ≤ 201 := by
      unfold sgp
      split
      · rw [List.length_take]
        omega
      · split
        · omega
        · rw [len1]
          omega
    refine ⟨_, w, by rw [List.length_append]; push_cast; omega, fun c => ?_, ?_⟩
    · rw [ck]
      unfold sgp segl
      by_cases c2 : 0 < ys.length ∧ gd0 ys (ys.length - 1) = x
      · rw [if_pos c2, if_pos c2]
      · rw [if_neg c2, if_neg c2, if_neg (by omega)]
    · rw [ck]
      unfold sgp segl
      by_cases c2 : 0 < ys.length ∧ gd0 ys (ys.length - 1) = x
      · rw [if_pos c2, if_pos c2]
        exact Or.inl rfl
      · rw [if_neg c2, if_neg c2]
        by_cases c3 : la = 1
        · rw [if_pos c3, List.append_assoc]
          exact Or.inr rfl
        · rw [if_neg c3]
          exact Or.inl rfl
theorem CLI.fin (hI : CLI iv rv h0 sk iv1 rv1 hy i n k) (hk : k = n) : CLX iv rv h0 sk iv1 rv1 hy i n := fun sA e E hE hr hl => by
  subst hk
  obtain ⟨xs, g1, g2, g3, g4⟩ := hI sA e E hE hr hl
  refine ⟨xs, g1, ?_⟩
  rcases g4 with g | g
  · rw [g]
  · rw [g, RR0.app0]
end CLIN
set_option maxHeartbeats 4000000 in
set_option maxRecDepth 100000 in
theorem G_chainLines {l : Launch} {G : GT} {mi : Nat} {sk : Nat → Nat} {L : List Nat} {cl ln : Nat → Nat} {iv : Nat → Nat → Int} {rv : Nat → Nat → Option Nat}  {a0 : Nat} {i : Int} {n : Int} (hW : WT (g0 G) sk L cl ln iv rv) (hS : SKL sk L cl) (t_a0 : ty L cl a0 1) (h_i : -2147483648 ≤ i ∧ i ≤ 2147483647) (h_n : -2147483648 ≤ n ∧ n ≤ 2147483647) (hn : 0 ≤ n) : Mc l G mi (Phi (g0 G) sk) PHM yX11_chainLines cX11_chainLines 5 none 5 [.ref a0, .int (iI i), .int (iI n)] L cl ln iv rv 0 (fun v L2 cl2 ln2 iv2 rv2 => v = none ∧ XT L cl ln L2 cl2 ln2 ∧ fT [8, 38, 9, 39] L cl iv rv iv2 rv2 ∧ WT (g0 G) sk L2 cl2 ln2 iv2 rv2 ∧ (CLX iv rv a0 sk iv2 rv2 (iv a0 13) i n)) := by
  refine Mc.mk (by decide) (Nat.le_of_ble_eq_true rfl) ?_
  intro p e s m args below meth c A C hM
  refine hv21 (Phi.le hW hS) (show ty L cl (sk 2) 2 from ⟨(hS 2 rfl).1, by rw [(hS 2 rfl).2]; rfl⟩) (show ty L cl (sk 3) 3 from ⟨(hS 3 rfl).1, by rw [(hS 3 rfl).2]; rfl⟩) (show ty L cl (sk 4) 4 from ⟨(hS 4 rfl).1, by rw [(hS 4 rfl).2]; rfl⟩) (show ty L cl (sk 5) 5 from ⟨(hS 5 rfl).1, by rw [(hS 5 rfl).2]; rfl⟩) (show ty L cl (sk 6) 6 from ⟨(hS 6 rfl).1, by rw [(hS 6 rfl).2]; rfl⟩) (show ty L cl (sk 7) 7 from ⟨(hS 7 rfl).1, by rw [(hS 7 rfl).2]; rfl⟩) (show ty L cl (sk 8) 8 from ⟨(hS 8 rfl).1, by rw [(hS 8 rfl).2]; rfl⟩) (show ty L cl (sk 9) 9 from ⟨(hS 9 rfl).1, by rw [(hS 9 rfl).2]; rfl⟩) (show ty L cl (sk 10) 10 from ⟨(hS 10 rfl).1, by rw [(hS 10 rfl).2]; rfl⟩) (show ty L cl (sk 13) 13 from ⟨(hS 13 rfl).1, by rw [(hS 13 rfl).2]; rfl⟩) (show ty L cl (sk 14) 14 from ⟨(hS 14 rfl).1, by rw [(hS 14 rfl).2]; rfl⟩) (show ty L cl (sk 15) 15 from ⟨(hS 15 rfl).1, by rw [(hS 15 rfl).2]; rfl⟩) (show ty L cl (sk 16) 16 from ⟨(hS 16 rfl).1, by rw [(hS 16 rfl).2]; rfl⟩) (show ty L cl (sk 17) 17 from ⟨(hS 17 rfl).1, by rw [(hS 17 rfl).2]; rfl⟩) (show ty L cl (sk 22) 22 from ⟨(hS 22 rfl).1, by rw [(hS 22 rfl).2]; rfl⟩) (show ty L cl (sk 23) 23 from ⟨(hS 23 rfl).1, by rw [(hS 23 rfl).2]; rfl⟩) (show ty L cl (sk 24) 24 from ⟨(hS 24 rfl).1, by rw [(hS 24 rfl).2]; rfl⟩) (show ty L cl (sk 25) 25 from ⟨(hS 25 rfl).1, by rw [(hS 25 rfl).2]; rfl⟩) (show XT L cl ln L cl ln from XT.refl) (show fT [8, 38, 9, 39] L cl iv rv iv rv from fT.refl) (fun hph tsk2 tsk3 tsk4 tsk5 tsk6 tsk7 tsk8 tsk9 tsk10 tsk13 tsk14 tsk15 tsk16 tsk17 tsk22 tsk23 tsk24 tsk25 hX0 hF0 => ?_)
  obtain ⟨sA, hsA, tsA⟩ := hW.ref t_a0 9 rfl rfl rfl
  have ri1 : (-2147483648) ≤ iv a0 13 ∧ iv a0 13 ≤ 2147483647 := hW.int t_a0 13
  refine c_aload_n (j := 0) (x := a0) C dX11_chainLines_0 rfl ?_
  obtain ⟨rb1, rq1, trb1⟩ := hW.ref t_a0 7 rfl rfl rfl
  have erb1 := hW.sk trb1 (by decide) rfl
  subst erb1
  refine c_getr (k := 7) C ck_12 dX11_chainLines_1 w2_51 (by decide) t_a0 rfl rfl (by decide) rfl rq1 ?_
  refine c_st (st2 := [.ref (sk 16)]) rfl ?_
  refine d_callV (As := []) (rest := []) C hM (C_clearCells (a0 := (sk 16)) hW hS tsk16  ) dX11_chainLines_4 kV_X11_344 rfl tsk16 rfl rfl (by decide) ck_4 rfl (Nat.le_of_ble_eq_true rfl) ⟨(Nat.le_of_ble_eq_true rfl), (Nat.le_of_ble_eq_true rfl)⟩ hph hph (show 0 + 0 = 0 from rfl) (by decide) (fun rh1 Lh1 clh1 lnh1 ivh1 rvh1 h1 => ?_)
  obtain ⟨rfl, rfl, rfl, rfl, rfl, fl1, W1, exf1⟩ := h1
  have F1 := hF0.call hX0 fl1 rfl
  refine c_st (st2 := []) rfl ?_
  refine hv2 (show 0 ≤ ivh1 (sk 8) 2 ∧ ivh1 (sk 8) 2 ≤ 40200 from W1.int tsk8 2) (show ivh1 (sk 8) 2 = 0 from exf1) (fun ri2 gf1 => ?_)
  refine c_iconst C dX11_chainLines_7 ?_
  refine c_istore_n (lv2 := [(3, .int (iI 0)), (0, .ref a0), (1, .int (iI i)), (2, .int (iI n))]) C dX11_chainLines_8 (by decide) rfl ?_
  have Lp1 : ∀ (nn : Nat) (k : Int) (Lb1 : List Nat) (clb1 lnb1 : Nat → Nat) (ivb1 : Nat → Nat → Int) (rvb1 : Nat → Nat → Option Nat) , n + 1 - k < (nn : Int) → XT L cl ln Lb1 clb1 lnb1 → WT (g0 G) sk Lb1 clb1 lnb1 ivb1 rvb1 → fT [8, 38, 9, 39] L cl iv rv ivb1 rvb1 → (0 ≤ k ∧ k ≤ n) → (CLI iv rv a0 sk ivb1 rvb1 (iv a0 13) i n k) → cw p l e 5 ((PHM) + 0 - ((Phi (g0 G) sk) ln rv)) s m args below meth c G A 5 (MQ below (Qu G A (Qp G (Phi (g0 G) sk) ((Phi (g0 G) sk) ln rv) 0 (fun v L2 cl2 ln2 iv2 rv2 => v = none ∧ XT L cl ln L2 cl2 ln2 ∧ fT [8, 38, 9, 39] L cl iv rv iv2 rv2 ∧ WT (g0 G) sk L2 cl2 ln2 iv2 rv2 ∧ (CLX iv rv a0 sk iv2 rv2 (iv a0 13) i n)))) args s (((PHM) + 0 - ((Phi (g0 G) sk) ln rv)) / 16) ((PHM) + 0 - ((Phi (g0 G) sk) ln rv)) A) (Phi (g0 G) sk) ((Phi (g0 G) sk) ln rv) Lb1 clb1 lnb1 ivb1 rvb1 0 9 [(3, .int (iI k)), (0, .ref a0), (1, .int (iI i)), (2, .int (iI n))] [] := by
    intro nn
    induction nn with
    | zero =>
      intro  k Lb1 clb1 lnb1 ivb1 rvb1 hm Xb1 Wb1 Fb1  hk hI
      have skb1 := Xb1.skl hS
      exact absurd hm (by omega)
    | succ nn ih1 =>
      intro  k Lb1 clb1 lnb1 ivb1 rvb1 hm Xb1 Wb1 Fb1  hk hI
      have skb1 := Xb1.skl hS
      refine c_iload_n (j := 0) C dX11_chainLines_9 rfl ?_
      refine c_iload_n (j := 3) C dX11_chainLines_10 rfl ?_
      refine c_icmp_ge (tgt := 65) C ⟨by omega, by omega⟩ ⟨by omega, by omega⟩ dX11_chainLines_11 (by decide) (fun c1 => ?_) (fun c1 => ?_)
      · have pl1 := Phi.le Wb1 skb1
        exact c_vret C dX11_chainLines_65 rfl (by decide) (rom0 hph pl1 (by decide)) ⟨rfl, Xb1, Fb1, Wb1, (hI.fin (by omega))⟩
      · refine c_aload_n (j := 1) (x := a0) C dX11_chainLines_14 rfl ?_
        refine hv2 (Xb1.ty t_a0) (show rvb1 a0 9 = rv a0 9 from (Fb1.r t_a0 rfl 9)) (fun ty1 re1 => ?_)
        rw [hsA] at re1
        refine c_getr (k := 9) C ck_12 dX11_chainLines_15 w2_53 (by decide) ty1 rfl rfl (by decide) rfl re1 ?_
        refine c_st (st2 := [.ref sA]) rfl ?_
        refine c_iload_n (j := 2) C dX11_chainLines_18 rfl ?_
        refine c_iload_n (j := 0) C dX11_chainLines_19 rfl ?_
        refine c_iadd C dX11_chainLines_20 ?_
        obtain ⟨zz1, hzz1, ezz1⟩ := iI_of (iI (i + k))
        refine c_st (st2 := [.int (iI zz1), .ref sA]) (by rw [ezz1]) ?_
        refine hv2 (Xb1.ty tsA) (Phi.le Wb1 skb1) (fun ty2 pl2 => ?_)
        refine d_callV (As := [.int (iI zz1)]) (rest := []) C hM (G_sat (a0 := sA) (i := zz1) Wb1 skb1 ty2 (by omega) ) dX11_chainLines_21 kV_X11_308 rfl ty2 rfl rfl (by decide) ck_8 rfl (Nat.le_of_ble_eq_true rfl) ⟨(Nat.le_of_ble_eq_true rfl), (Nat.le_of_ble_eq_true rfl)⟩ hph pl2 (show 0 + 0 = 0 from rfl) (by decide) (fun rh2 Lh2 clh2 lnh2 ivh2 rvh2 h2 => ?_)
        obtain ⟨f2, rfl, rfl, rfl, rfl, rfl, rfl, rgf2, exf2⟩ := h2
        refine c_st (st2 := [(va_rf f2)]) rfl ?_
        have gf2 : SATX ivb1 rvb1 sA zz1 f2 := exf2
        refine c_astorer (r := f2) (lv2 := [(4, (va_rf f2)), (3, .int (iI k)), (0, .ref a0), (1, .int (iI i)), (2, .int (iI n))]) C dX11_chainLines_24 (by decide) rfl ?_
        refine c_aloadr (j := 0) (r := f2) C dX11_chainLines_26 rfl ?_
        refine c_ifnull (r := f2) (tgt := 59) C dX11_chainLines_28 (by decide) (fun oq1 => ?_) (fun ob1 oq1 => ?_)
        · subst oq1
          refine c_lv (lv2 := [(4, .null), (3, .int (iI k)), (0, .ref a0), (1, .int (iI i)), (2, .int (iI n))]) [0, 1, 2, 3, 4] rfl ?_
          refine c_st (st2 := []) rfl ?_
          refine c_iinc (z := k) (j := 1) (lv2 := [(3, .int (iI (k + 1))), (4, .null), (0, .ref a0), (1, .int (iI i)), (2, .int (iI n))]) C dX11_chainLines_59 rfl (by decide) rfl ?_
          refine c_goto (tgt := 9) C dX11_chainLines_62 (by decide) ?_
          refine hv3 (Xb1.ty tsk8) (show (-2147483648) ≤ ivb1 a0 13 ∧ ivb1 a0 13 ≤ 2147483647 from Wb1.int ty1 13) (show ivb1 a0 13 = iv a0 13 from Fb1.i t_a0 rfl 13) (fun ty3 ri4 ie3 => ?_)
          have ri3 : 0 ≤ ivb1 (sk 8) 2 ∧ ivb1 (sk 8) 2 ≤ 40200 := Wb1.int ty3 2
          refine c_lv (lv2 := [(3, .int (iI (k + 1))), (0, .ref a0), (1, .int (iI i)), (2, .int (iI n))]) [0, 2, 3, 4] rfl ?_
          exact ih1  (k + 1) _ _ _ _ _ (by omega) Xb1 Wb1 Fb1  (by omega) (hI.none hsA hW tsA Fb1 rfl rfl rfl rfl gf2 ezz1 ⟨by omega, by omega⟩ ⟨by omega, by omega⟩)
        · subst oq1
          refine hv2 (rgf2 ob1 rfl) (gf2) (fun tob1 sqob1 => ?_)
          refine c_lv (lv2 := [(4, .ref ob1), (3, .int (iI k)), (0, .ref a0), (1, .int (iI i)), (2, .int (iI n))]) [0, 1, 2, 3, 4] rfl ?_
          refine c_st (st2 := []) rfl ?_
          refine c_aload_n (j := 2) (x := a0) C dX11_chainLines_31 rfl ?_
          have re2 : rvb1 a0 7 = rv a0 7 := (Fb1.r t_a0 rfl 7)
          rw [rq1] at re2
          refine c_getr (k := 7) C ck_12 dX11_chainLines_32 w2_51 (by decide) ty1 rfl rfl (by decide) rfl re2 ?_
          refine c_st (st2 := [.ref (sk 16)]) rfl ?_
          refine c_aload (j := 0) (x := ob1) C dX11_chainLines_35 rfl ?_
          refine c_iload_n (j := 3) C dX11_chainLines_37 rfl ?_
          refine c_iload_n (j := 1) C dX11_chainLines_38 rfl ?_
          refine c_iadd C dX11_chainLines_39 ?_
          obtain ⟨zz2, hzz2, ezz2⟩ := iI_of (iI (i + k))
          refine c_st (st2 := [.int (iI zz2), .ref ob1, .ref (sk 16)]) (by rw [ezz2]) ?_
          refine c_aload_n (j := 2) (x := a0) C dX11_chainLines_40 rfl ?_
          refine hv2 (show (-2147483648) ≤ ivb1 a0 13 ∧ ivb1 a0 13 ≤ 2147483647 from Wb1.int ty1 13) (show ivb1 a0 13 = iv a0 13 from Fb1.i t_a0 rfl 13) (fun ri5 ie4 => ?_)
          refine c_get (k := 13) C ck_12 dX11_chainLines_41 w2_57 (by decide) ty1 rfl rfl (by decide) rfl ?_
          refine c_iload_n (j := 1) C dX11_chainLines_44 rfl ?_
          refine c_iload_n (j := 4) C dX11_chainLines_45 rfl ?_
          refine c_iconst C dX11_chainLines_46 ?_
          refine c_isub C dX11_chainLines_47 ?_
          refine c_icmp_ne (tgt := 55) C ⟨by omega, by omega⟩ ⟨by omega, by omega⟩ dX11_chainLines_48 (by decide) (fun c2 => ?_) (fun c2 => ?_)
          · refine c_iconst C dX11_chainLines_55 ?_
            refine hv2 (show 0 ≤ ivb1 ob1 1 ∧ ivb1 ob1 1 ≤ 200 from Wb1.int tob1 1) (Xb1.ty tsk16) (fun ri6 ty4 => ?_)
            refine d_callV (As := [.ref ob1, .int (iI zz2), .int (iI (ivb1 a0 13)), .int (iI 0)]) (rest := []) C hM (G_chain (a0 := (sk 16)) (a1 := ob1) (x := zz2) (y := ivb1 a0 13) (g := 0) Wb1 skb1 ty4 tob1 (by omega) (by omega) ⟨by decide, by decide⟩ (by show (0 : Int) = 0 ∨ (0 : Int) = 1; omega)) dX11_chainLines_56 kV_X11_347 rfl ty4 rfl rfl (by decide) ck_4 rfl (Nat.le_of_ble_eq_true rfl) ⟨(Nat.le_of_ble_eq_true rfl), (Nat.le_of_ble_eq_true rfl)⟩ hph pl2 (show 0 + 0 = 0 from rfl) (by decide) (fun rh3 Lh3 clh3 lnh3 ivh3 rvh3 h3 => ?_)
            obtain ⟨rfl, xl3, fl3, W3, exf3⟩ := h3
            refine hv20 (Fb1.call Xb1 fl3 rfl) (Xb1.ty tsk2) (Xb1.ty tsk3) (Xb1.ty tsk4) (Xb1.ty tsk5) (Xb1.ty tsk6) (Xb1.ty tsk7) (Xb1.ty tsk8) (Xb1.ty tsk9) (Xb1.ty tsk10) (Xb1.ty tsk13) (Xb1.ty tsk14) (Xb1.ty tsk15) (Xb1.ty tsk17) (Xb1.ty tsk22) (Xb1.ty tsk23) (Xb1.ty tsk24) (Xb1.ty tsk25) (Xb1.trans xl3) (xl3.skl skb1) (fun F2 ty5 ty6 ty7 ty8 ty9 ty10 ty11 ty12 ty13 ty14 ty15 ty16 ty17 ty18 ty19 ty20 ty21 X1 sk1 => ?_)
            refine c_st (st2 := []) rfl ?_
            have gf3 : CHX ivb1 rvb1 sk ivh3 rvh3 ob1 (ivb1 a0 13) (0 : Int) := exf3
            refine c_iinc (z := k) (j := 1) (lv2 := [(3, .int (iI (k + 1))), (4, .ref ob1), (0, .ref a0), (1, .int (iI i)), (2, .int (iI n))]) C dX11_chainLines_59 rfl (by decide) rfl ?_
            refine c_goto (tgt := 9) C dX11_chainLines_62 (by decide) ?_
            refine hv3 (xl3.ty ty11) (xl3.ty ty1) (show ivh3 a0 13 = ivb1 a0 13 from fl3.i ty1 rfl 13) (fun ty22 ty23 ie7 => ?_)
            refine hv2 (show 0 ≤ ivh3 (sk 8) 2 ∧ ivh3 (sk 8) 2 ≤ 40200 from W3.int ty22 2) (show (-2147483648) ≤ ivh3 a0 13 ∧ ivh3 a0 13 ≤ 2147483647 from W3.int ty23 13) (fun ri7 ri8 => ?_)
            refine c_lv (lv2 := [(3, .int (iI (k + 1))), (0, .ref a0), (1, .int (iI i)), (2, .int (iI n))]) [0, 2, 3, 4] rfl ?_
            exact ih1  (k + 1) _ _ _ _ _ (by omega) X1 W3 F2  (by omega) (hI.step hsA hW tsA Fb1 rfl rfl rfl rfl sqob1 ezz1 ⟨by omega, by omega⟩ ⟨by omega, by omega⟩ gf3 (by omega) (by omega) (by omega))
          · refine c_iconst C dX11_chainLines_51 ?_
            refine c_goto (tgt := 56) C dX11_chainLines_52 (by decide) ?_
            refine hv2 (show 0 ≤ ivb1 ob1 1 ∧ ivb1 ob1 1 ≤ 200 from Wb1.int tob1 1) (Xb1.ty tsk16) (fun ri9 ty24 => ?_)
            refine d_callV (As := [.ref ob1, .int (iI zz2), .int (iI (ivb1 a0 13)), .int (iI 1)]) (rest := []) C hM (G_chain (a0 := (sk 16)) (a1 := ob1) (x := zz2) (y := ivb1 a0 13) (g := 1) Wb1 skb1 ty24 tob1 (by omega) (by omega) ⟨by decide, by decide⟩ (by show (1 : Int) = 0 ∨ (1 : Int) = 1; omega)) dX11_chainLines_56 kV_X11_347 rfl ty24 rfl rfl (by decide) ck_4 rfl (Nat.le_of_ble_eq_true rfl) ⟨(Nat.le_of_ble_eq_true rfl), (Nat.le_of_ble_eq_true rfl)⟩ hph pl2 (show 0 + 0 = 0 from rfl) (by decide) (fun rh4 Lh4 clh4 lnh4 ivh4 rvh4 h4 => ?_)
            obtain ⟨rfl, xl4, fl4, W4, exf4⟩ := h4
            refine hv20 (Fb1.call Xb1 fl4 rfl) (Xb1.ty tsk2) (Xb1.ty tsk3) (Xb1.ty tsk4) (Xb1.ty tsk5) (Xb1.ty tsk6) (Xb1.ty tsk7) (Xb1.ty tsk8) (Xb1.ty tsk9) (Xb1.ty tsk10) (Xb1.ty tsk13) (Xb1.ty tsk14) (Xb1.ty tsk15) (Xb1.ty tsk17) (Xb1.ty tsk22) (Xb1.ty tsk23) (Xb1.ty tsk24) (Xb1.ty tsk25) (Xb1.trans xl4) (xl4.skl skb1) (fun F3 ty25 ty26 ty27 ty28 ty29 ty30 ty31 ty32 ty33 ty34 ty35 ty36 ty37 ty38 ty39 ty40 ty41 X2 sk2 => ?_)
            refine c_st (st2 := []) rfl ?_
            have gf4 : CHX ivb1 rvb1 sk ivh4 rvh4 ob1 (ivb1 a0 13) (1 : Int) := exf4
            refine c_iinc (z := k) (j := 1) (lv2 := [(3, .int (iI (k + 1))), (4, .ref ob1), (0, .ref a0), (1, .int (iI i)), (2, .int (iI n))]) C dX11_chainLines_59 rfl (by decide) rfl ?_
            refine c_goto (tgt := 9) C dX11_chainLines_62 (by decide) ?_
            refine hv3 (xl4.ty ty31) (xl4.ty ty1) (show ivh4 a0 13 = ivb1 a0 13 from fl4.i ty1 rfl 13) (fun ty42 ty43 ie10 => ?_)
            refine hv2 (show 0 ≤ ivh4 (sk 8) 2 ∧ ivh4 (sk 8) 2 ≤ 40200 from W4.int ty42 2) (show (-2147483648) ≤ ivh4 a0 13 ∧ ivh4 a0 13 ≤ 2147483647 from W4.int ty43 13) (fun ri10 ri11 => ?_)
            refine c_lv (lv2 := [(3, .int (iI (k + 1))), (0, .ref a0), (1, .int (iI i)), (2, .int (iI n))]) [0, 2, 3, 4] rfl ?_
            exact ih1  (k + 1) _ _ _ _ _ (by omega) X2 W4 F3  (by omega) (hI.step hsA hW tsA Fb1 rfl rfl rfl rfl sqob1 ezz1 ⟨by omega, by omega⟩ ⟨by omega, by omega⟩ gf4 (by omega) (by omega) (by omega))
  refine hv2 (show (-2147483648) ≤ ivh1 a0 13 ∧ ivh1 a0 13 ≤ 2147483647 from W1.int t_a0 13) (show ivh1 a0 13 = iv a0 13 from fl1.i t_a0 rfl 13) (fun ri12 ie11 => ?_)
  refine c_lv (lv2 := [(3, .int (iI 0)), (0, .ref a0), (1, .int (iI i)), (2, .int (iI n))]) [0, 1, 2, 3] rfl ?_
  exact Lp1 2147483650 0 _ _ _ _ _ (by omega) hX0 W1 F1  (by omega) (CLI.init (by omega))
end
section
def OKD (a : Nat → Nat → Int) (d : Int) : Prop := ((1 ≤ rlen a d ∧ rlen a d ≤ 4) ∧ ∀ k : Int, 0 ≤ k → k < rlen a d → dcl a d k ≠ 0) ∧ (0 ≤ d → 1 ≤ a 12 d.toNat)
section NZGS
variable {sk : Nat → Nat} {ln : Nat → Nat} {iv : Nat → Nat → Int} {rv : Nat → Nat → Option Nat} {v : Nat → Int} {a : Nat → Nat → Int} {t d : Int} {i r : Nat}
theorem rng_mem : ∀ (n : Nat) (x : Int) (j : Nat) (d : Int), (rng n x)[j]? = some d → x ≤ d ∧ d < x + ((n : Nat) : Int) := by
  intro n
  induction n with
  | zero => intro x j d e; simp [rng] at e
  | succ n ih =>
    intro x j d e
    cases j with
    | zero =>
      have e2 : some x = some d := e
      cases e2
      omega
    | succ j =>
      have g := ih (x + 1) j d e
      omega
theorem rwl_mem {R b : Nat → Int} {V : Int} (hb : ∀ t : Int, 0 ≤ t → t < V → b t.toNat < t) : ∀ (n : Nat) (t : Int) (j : Nat) (d : Int), t < V → (rwl R b n t)[j]? = some d → ∃ i : Nat, ((i : Nat) : Int) < V ∧ 200 * ((i : Nat) : Int) ≤ d ∧ d < 200 * ((i : Nat) : Int) + (((R i).toNat : Nat) : Int) := by
  intro n
  induction n with
  | zero => intro t j d _ e; simp [rwl] at e
  | succ n ih =>
    intro t j d ht e
    rw [rwl_s] at e
    by_cases c : 0 ≤ t
    · rw [if_pos c] at e
      rcases app_or e with ⟨m, e⟩ | ⟨m, e⟩
      · have g := rng_mem _ _ _ _ e
        exact ⟨t.toNat, by omega, by omega, by omega⟩
      · have h1 := hb t c ht
        exact ih _ _ _ (by omega) e
    · rw [if_neg c] at e
      simp at e
theorem TRL.okr (hR : TRL sk ln iv rv v a) (hi : (i : Int) < v 4) (hr : 200 * (i : Int) ≤ d ∧ d < 200 * (i : Int) + a 10 i) : OKD a d := by
  obtain ⟨t, ht⟩ := hR.smt hi
  obtain ⟨_, _, q, n, _, h1, _⟩ := hR.tab hi ht
  obtain ⟨w, _, w2⟩ := h1 (d - 200 * (i : Int)).toNat (by omega)
  have e : 200 * i + (d - 200 * (i : Int)).toNat = d.toNat := by omega
  rw [e] at w2
  obtain ⟨_, _, l, c, _, _, q3, q4, _, q6⟩ := w2
  have tb := hR.2.2.1.2 (i : Int) d (by omega) hi (by omega) (by rw [Int.toNat_natCast]; omega)
  have e1 : rlen a d = a 13 d.toNat := if_pos (by omega)
  refine ⟨⟨by rw [e1]; omega, fun k k1 k2 => ?_⟩, fun _ => by omega⟩
  rw [e1] at k2
  have g := q6 k.toNat (by omega)
  have e2 : dcl a d k = a 15 (4 * d + k).toNat := if_pos (by omega)
  rw [e2, show (4 * d + k).toNat = 4 * d.toNat + k.toNat by omega, ← g.1]
  omega
theorem TRL.oki (hR : TRL sk ln iv rv v a) (h16 : ∀ j, a 16 j ≤ 4) (hi : (i : Int) < v 4) (hr : r < 4) (hn : 0 < a 16 (4 * i + r)) (hd : d = -1 - (4 * (i : Int) + (r : Int))) : OKD a d := by
  obtain ⟨t, ht⟩ := hR.smt hi
  obtain ⟨_, _, q, n, _, _, h1⟩ := hR.tab hi ht
  have en : (-1 - d).toNat = 4 * i + r := by omega
  have e1 : rlen a d = a 16 (4 * i + r) := by
    unfold rlen
    rw [if_neg (by omega), en]
  have b := h16 (4 * i + r)
  rcases h1 r hr with ⟨_, z⟩ | ⟨b', c, _, _, _, q4, q5, q6⟩
  · omega
  · refine ⟨⟨by rw [e1]; omega, fun k k1 k2 => ?_⟩, fun e => absurd e (by omega)⟩
    rw [e1] at k2
    have g := q6 k.toNat (by omega)
    have e2 : dcl a d k = a 17 (4 * (4 * i + r) + k.toNat) := by
      unfold dcl
      rw [if_neg (by omega)]
      exact congrArg (a 17) (by omega)
    have g2 : iv c k.toNat = a 17 (4 * (4 * i + r) + k.toNat) := g.1
    rw [e2, ← g2]
    omega
theorem TRL.okl (hR : TRL sk ln iv rv v a) (h16 : ∀ j, a 16 j ≤ 4) {I : Int} {j : Nat} (hI : 0 ≤ I ∧ I < 4 * v 4) (e : (indl a I)[j]? = some d) : OKD a d := by
  unfold indl at e
  by_cases c : 0 < a 16 I.toNat
  · rw [if_pos c] at e
    cases j with
    | zero =>
      have e2 : some (-1 - I) = some d := e
      cases e2
      exact hR.oki h16 (i := (I / 4).toNat) (r := (I % 4).toNat) (by omega) (by omega) (by rw [show 4 * (I / 4).toNat + (I % 4).toNat = I.toNat by omega]; exact c) (by omega)
    | succ j => simp at e
  · rw [if_neg c] at e
    simp at e
theorem TRL.okw (hR : TRL sk ln iv rv v a) (h16 : ∀ j, a 16 j ≤ 4) {j : Nat} (ht : t < v 4) (h0 : 0 ≤ t) (e : (rws1 a t)[j]? = some d) : OKD a d := by
  unfold rws1 at e
  rcases app_or e with ⟨m, e⟩ | ⟨m, e⟩
  · rcases app_or e with ⟨m, e⟩ | ⟨m, e⟩
    · obtain ⟨i, i1, i2, i3⟩ := rwl_mem hR.2.2.1.b8 _ _ _ _ ht e
      have b := (hR.2.2.1.1 (i : Int) (by omega) i1)
      obtain ⟨tt, hh⟩ := hR.smt i1
      have b2 := (hR.tab i1 hh).1.2.2.2
      exact hR.okr i1 ⟨i2, by omega⟩
    · exact hR.okl h16 ⟨by omega, by omega⟩ e
  · exact hR.okl h16 ⟨by omega, by omega⟩ e
theorem TRL.okg (hR : TRL sk ln iv rv v a) (h16 : ∀ j, a 16 j ≤ 4) (h0 : 0 ≤ t) (ht : t < v 4) : (∀ (j : Nat) (d : Int), (gat0 a t)[j]? = some d → OKD a d) ∧ ∀ (j : Nat) (d : Int), (gat1 a t)[j]? = some d → OKD a d := by
  have tb := hR.2.2.1.1 t h0 ht
  refine ⟨fun j d e => ?_, fun j d e => ?_⟩
  · unfold gat0 at e
    by_cases c : a 6 t.toNat = 5
    · rw [if_pos c] at e
      rcases app_or e with ⟨m, e⟩ | ⟨m, e⟩
      · exact hR.okw h16 (by omega) (by omega) e
      · exact hR.okl h16 ⟨by omega, by omega⟩ e
    · rw [if_neg c] at e
      exact hR.okw h16 ht h0 e
  · unfold gat1 at e
    by_cases c : a 6 t.toNat = 5
    · rw [if_pos c] at e
      rcases app_or e with ⟨m, e⟩ | ⟨m, e⟩
      · exact hR.okw h16 (by omega) (by omega) e
      · exact hR.okl h16 ⟨by omega, by omega⟩ e
    · rw [if_neg c] at e
      simp at e
theorem TRL.nzl (hR : TRL sk ln iv rv v a) (h16 : ∀ j, a 16 j ≤ 4) (h0 : 0 ≤ t) (ht : t < v 4) : (NZL a (gat0 a t) ∧ NZL a (gat1 a t)) ∧ (LTP a (gat0 a t) ∧ LTP a (gat1 a t)) := by
  obtain ⟨g0, g1⟩ := hR.okg h16 h0 ht
  exact ⟨⟨fun j d e => (g0 j d e).1, fun j d e => (g1 j d e).1⟩, fun j d e => (g0 j d e).2, fun j d e => (g1 j d e).2⟩
end NZGS
end
section
set_option maxHeartbeats 4000000 in
set_option maxRecDepth 100000 in
theorem G_copyOf_4 {l : Launch} {G : GT} {mi : Nat} {sk : Nat → Nat} {L : List Nat} {cl ln : Nat → Nat} {iv : Nat → Nat → Int} {rv : Nat → Nat → Option Nat}  {a0 : Nat} {n : Int} (hW : WT (g0 G) sk L cl ln iv rv) (hS : SKL sk L cl) (t_a0 : ty L cl a0 34) (h_n : -2147483648 ≤ n ∧ n ≤ 2147483647) (hn : ((ln a0 : Nat) : Int) < n ∧ 16 ≤ n ∧ n ≤ 8000) : Mc l G mi zPf 0 yJ7_copyOf_59c91 cJ7_copyOf_59c91 3 (some (.array .int)) 1 [.ref a0, .int (iI n)] L cl ln iv rv (16 + n.toNat) (fun v L2 cl2 ln2 iv2 rv2 => ∃ f : Nat, v = some (.ref f) ∧ XT L cl ln L2 cl2 ln2 ∧ fT [34] L cl iv rv iv2 rv2 ∧ WT (g0 G) sk L2 cl2 ln2 iv2 rv2 ∧ ty L2 cl2 f 34 ∧ (ln2 f = n.toNat ∧ ∀ j : Nat, j < ln a0 → iv2 f j = iv a0 j)) := by
  refine Mc.mk (by decide) (Nat.le_of_ble_eq_true rfl) ?_
  intro p e s m args below meth c A C hM
  refine hv3 ((show zPf ln rv ≤ 0 from Nat.le_refl 0)) (show XT L cl ln L cl ln from XT.refl) (show fT [34] L cl iv rv iv rv from fT.refl) (fun hph hX0 hF0 => ?_)
  refine c_iload_n (j := 1) C dJ7_copyOf_59c91_0 rfl ?_
  refine c_aload_n (j := 0) (x := a0) C dJ7_copyOf_59c91_1 rfl ?_
  have ll1 : 16 ≤ ln a0 ∧ ln a0 ≤ 8000 := hW.len t_a0 rfl
  refine c_alenI C dJ7_copyOf_59c91_2 t_a0 rfl ?_
  refine c_icmp_ne (tgt := 14) C ⟨by omega, by omega⟩ ⟨by omega, by omega⟩ dJ7_copyOf_59c91_3 (by decide) (fun _ => ?_) (fun z => absurd z (by omega))
  refine c_iload_n (j := 1) C dJ7_copyOf_59c91_14 rfl ?_
  refine c_newaI (z := n) (N := n.toNat) C 34 dJ7_copyOf_59c91_15 w1_57 rfl (by omega) (by omega) (rom2 hph hph (by omega)) (fun qn1 cln1 lnn1 ivn1 rvn1 hqn1 hcn1 hln1 hin1 hrn1 => ⟨(0 + (16 + n.toNat)), (z_in (by omega)), ?_⟩)
  refine c_g0 C (fun hg1 => ?_)
  refine hv5 (show ∀ b, b ≠ qn1 → lnn1 b = ln b from (fun b hb => by rw [hln1]; exact va_up_ne _ _ hb)) (show lnn1 qn1 = n.toNat from by rw [hln1]; exact va_up_self _ _ _) (hF0.new hX0 hqn1 hin1 hrn1) (show ty (L ++ [qn1]) cln1 qn1 34 from ty_new hcn1) (show qn1 ∉ L from fun h => hqn1 ((hX0 qn1 h).1)) (fun hxn1 lqn1 F1 tqn1 h0qn1 => ?_)
  refine hv2 (hW.new (ln2 := lnn1) hqn1 (hg1 qn1 (List.mem_append_right _ List.mem_cons_self)) hcn1 hxn1 hin1 hrn1 (fun _ => ⟨(show (-2147483648 : Int) ≤ 0 by decide), (show (0 : Int) ≤ 2147483647 by decide)⟩) (Or.inr (fun _ => rfl)) (fun _ => by show 16 ≤ lnn1 qn1 ∧ lnn1 qn1 ≤ 8000; omega) rfl rfl) (XT.new hqn1 hcn1 hxn1) (fun W1 xl1 => ?_)
  refine hv2 (hX0.trans xl1) (xl1.skl hS) (fun X1 sk1 => ?_)
  refine c_astore_n (lv2 := [(2, .ref qn1), (0, .ref a0), (1, .int (iI n))]) C dJ7_copyOf_59c91_17 (by decide) rfl ?_
  refine c_aload_n (j := 1) (x := a0) C dJ7_copyOf_59c91_18 rfl ?_
  refine c_iconst C dJ7_copyOf_59c91_19 ?_
  refine c_aload_n (j := 0) (x := qn1) C dJ7_copyOf_59c91_20 rfl ?_
  refine c_iconst C dJ7_copyOf_59c91_21 ?_
  refine c_aload_n (j := 1) (x := a0) C dJ7_copyOf_59c91_22 rfl ?_
  have ty1 := xl1.ty t_a0
  have ll2 : 16 ≤ lnn1 a0 ∧ lnn1 a0 ≤ 8000 := W1.len ty1 rfl
  refine c_alenI C dJ7_copyOf_59c91_23 ty1 rfl ?_
  refine c_iload_n (j := 2) C dJ7_copyOf_59c91_24 rfl ?_
  obtain ⟨mn1, hmn1, emn1⟩ := mmin_c (x := ((lnn1 a0 : Nat) : Int)) (y := n) ⟨by omega, by omega⟩ ⟨by omega, by omega⟩
  refine c_mmin (w := iI mn1) C dJ7_copyOf_59c91_25 w2_128 w2_129 w1_14 w2_130 (by decide) (rom0 hph (Nat.le_refl 0) (by omega)) (Nat.le_of_ble_eq_true rfl) emn1 ?_
  have ll3 : 16 ≤ lnn1 qn1 ∧ lnn1 qn1 ≤ 8000 := W1.len tqn1 rfl
  refine c_copyi (sp := 0) (dp := 0) (n := mn1) C dJ7_copyOf_59c91_28 w2_131 w2_133 w2_132 w1_15 ty1 rfl tqn1 rfl (by omega) (by omega) (by omega) (by omega) (by omega) (by omega) (by omega) (by decide) (Nat.le_of_ble_eq_true rfl) (fun iv1 pq1 => ?_)
  refine hv2 (W1.copy pq1 tqn1 ty1 (fun _ => rfl) (fun _ => rfl) (fun _ => rfl) (fun _ => rfl) rfl) (F1.copy X1 pq1 tqn1 rfl) (fun W2 F2 => ?_)
  refine c_aload_n (j := 0) (x := qn1) C dJ7_copyOf_59c91_31 rfl ?_
  have le1 : lnn1 a0 = ln a0 := (xl1 a0 t_a0.1).2.2
  exact c_aret (x := some qn1) C dJ7_copyOf_59c91_32 rfl (Or.inr ⟨_, rfl⟩) (by omega) (rom0 hph (Nat.le_refl 0) (by omega)) ⟨qn1, rfl, X1, F2, W2, tqn1, ⟨lqn1, fun j hj => by
      rw [pq1]
      show (if qn1 = qn1 then (if (0 : Int).toNat ≤ j ∧ j < (0 : Int).toNat + mn1.toNat then ivn1 a0 ((0 : Int).toNat + (j - (0 : Int).toNat)) else ivn1 qn1 j) else ivn1 qn1 j) = _
      rw [if_pos rfl, if_pos ⟨by omega, by omega⟩, hin1, congrFun (up0_a (ne_in t_a0.1 hqn1)) _]
      exact congrArg (iv a0) (by omega)⟩⟩
set_option maxHeartbeats 4000000 in
set_option maxRecDepth 100000 in
theorem G_add_4 {l : Launch} {G : GT} {mi : Nat} {sk : Nat → Nat} {L : List Nat} {cl ln : Nat → Nat} {iv : Nat → Nat → Int} {rv : Nat → Nat → Option Nat}  {a0 : Nat} {x : Int} (hW : WT (g0 G) sk L cl ln iv rv) (hS : SKL sk L cl) (t_a0 : ty L cl a0 4) (h_x : -2147483648 ≤ x ∧ x ≤ 2147483647)  : Mc l G mi (Phi (g0 G) sk) PHM yX1_add cX1_add 2 none 2 [.ref a0, .int (iI x)] L cl ln iv rv 0 (fun v L2 cl2 ln2 iv2 rv2 => v = none ∧ XT L cl ln L2 cl2 ln2 ∧ fT [4, 34] L cl iv rv iv2 rv2 ∧ WT (g0 G) sk L2 cl2 ln2 iv2 rv2 ∧ (((iv2 a0 2 = iv a0 2 ∧ iv a0 2 = 4000) ∨ (iv2 a0 2 = iv a0 2 + 1 ∧ iv a0 2 < 4000)) ∧ (∀ ss, CT iv rv a0 ss → iv a0 2 < 4000 → CT iv2 rv2 a0 (va_up ss (iv a0 2).toNat x)) ∧ (iv a0 2 = 4000 → ∀ ss, CT iv rv a0 ss → CT iv2 rv2 a0 ss))) := by
  refine Mc.mk (by decide) (Nat.le_of_ble_eq_true rfl) ?_
  intro p e s m args below meth c A C hM
  refine hv3 (Phi.le hW hS) (show XT L cl ln L cl ln from XT.refl) (show fT [4, 34] L cl iv rv iv rv from fT.refl) (fun hph hX0 hF0 => ?_)
  refine c_aload_n (j := 0) (x := a0) C dX1_add_0 rfl ?_
  have ri1 : 0 ≤ iv a0 2 ∧ iv a0 2 ≤ 4000 := hW.int t_a0 2
  refine c_get (k := 2) C ck_2 dX1_add_1 w1_43 (by decide) t_a0 rfl rfl (by decide) rfl ?_
  refine c_aload_n (j := 0) (x := a0) C dX1_add_4 rfl ?_
  have ri2 : 4000 ≤ iv a0 0 ∧ iv a0 0 ≤ 4000 := hW.int t_a0 0
  refine c_get (k := 0) C ck_2 dX1_add_5 w1_38 (by decide) t_a0 rfl rfl (by decide) rfl ?_
  refine c_icmp_lt (tgt := 12) C (r32_c (lo := 0) (hi := 4000) ri1.1 ri1.2 (by decide) (by decide)) (r32_c (lo := 4000) (hi := 4000) ri2.1 ri2.2 (by decide) (by decide)) dX1_add_8 (by decide) (fun c1 => ?_) (fun c1 => ?_)
  · refine c_aload_n (j := 0) (x := a0) C dX1_add_12 rfl ?_
    refine c_get (k := 2) C ck_2 dX1_add_13 w1_43 (by decide) t_a0 rfl rfl (by decide) rfl ?_
    refine c_aload_n (j := 0) (x := a0) C dX1_add_16 rfl ?_
    obtain ⟨rb1, rq1, trb1⟩ := hW.ref t_a0 1 rfl rfl rfl
    refine hv2 (show 16 ≤ ln rb1 ∧ ln rb1 ≤ 8000 from hW.len trb1 rfl) (hW.isz t_a0 rfl rfl rq1) (fun lnrb1 szrb1 => ?_)
    refine c_getr (k := 1) C ck_2 dX1_add_17 w1_39 (by decide) t_a0 rfl rfl (by decide) rfl rq1 ?_
    refine c_st (st2 := [.ref rb1, .int (iI (iv a0 2))]) rfl ?_
    have ll1 : 16 ≤ ln rb1 ∧ ln rb1 ≤ 8000 := hW.len trb1 rfl
    refine c_alenI C dX1_add_20 trb1 rfl ?_
    refine c_icmp_lt (tgt := 42) C (r32_c (lo := 0) (hi := 4000) ri1.1 ri1.2 (by decide) (by decide)) ⟨by omega, by omega⟩ dX1_add_21 (by decide) (fun c2 => ?_) (fun c2 => ?_)
    · refine c_aload_n (j := 0) (x := a0) C dX1_add_42 rfl ?_
      refine c_getr (k := 1) C ck_2 dX1_add_43 w1_39 (by decide) t_a0 rfl rfl (by decide) rfl rq1 ?_
      refine c_st (st2 := [.ref rb1]) rfl ?_
      refine c_aload_n (j := 0) (x := a0) C dX1_add_46 rfl ?_
      refine c_get (k := 2) C ck_2 dX1_add_47 w1_43 (by decide) t_a0 rfl rfl (by decide) rfl ?_
      refine c_iload_n (j := 1) C dX1_add_50 rfl ?_
      refine c_iast (x := x) C dX1_add_51 trb1 rfl (by omega) (by omega) (by omega) (fun iv1 pq1 => ?_)
      refine hv2 (hW.puti pq1 trb1 (show (-2147483648) ≤ x ∧ x ≤ 2147483647 by omega) rfl) (hF0.puti hX0 pq1 trb1 rfl) (fun W1 F1 => ?_)
      refine c_aload_n (j := 0) (x := a0) C dX1_add_52 rfl ?_
      refine c_dup C dX1_add_53 rfl ?_
      refine hv2 (show 0 ≤ iv1 a0 2 ∧ iv1 a0 2 ≤ 4000 from W1.int t_a0 2) (show iv1 a0 2 = iv a0 2 from by rw [pq1]; exact up2_k (ne_ty t_a0 trb1 (by decide))) (fun ri3 ie1 => ?_)
      refine c_get (k := 2) C ck_2 dX1_add_54 w1_43 (by decide) t_a0 rfl rfl (by decide) rfl ?_
      refine c_iconst C dX1_add_57 ?_
      refine c_iadd C dX1_add_58 ?_
      refine c_put (z := (iv1 a0 2) + 1) (k := 2) C ck_2 dX1_add_59 w1_43 (by decide) rfl t_a0 rfl rfl (by decide) rfl (by rfl) (by rfl) (fun iv2 pq2 => ?_)
      refine hv3 (W1.isz_put pq2 t_a0 (show 0 ≤ ((iv1 a0 2) + 1) ∧ ((iv1 a0 2) + 1) ≤ 4000 by omega) rfl rfl rq1 (show ((iv1 a0 2) + 1) ≤ ((ln rb1 : Nat) : Int) by omega)) (F1.puti hX0 pq2 t_a0 rfl) (show iv2 a0 2 = (iv1 a0 2) + 1 from by rw [pq2]; exact up2_s) (fun W2 F2 ie2 => ?_)
      have ri4 : 0 ≤ iv2 a0 2 ∧ iv2 a0 2 ≤ 4000 := W2.int t_a0 2
      exact c_vret C dX1_add_62 rfl (by decide) (rom0 hph hph (by decide)) ⟨rfl, hX0, F2, W2, ⟨by omega, (fun ss hs hq b2 hb j hj => by
          rw [rq1] at hb
          cases hb
          rw [pq2, up2_k (ne_ty trb1 t_a0 (by decide)), pq1]
          by_cases e : j = (iv a0 2).toNat
          · subst e; rw [up2_s, va_up_self]
          · rw [up2_j e, va_up_ne _ _ e]; exact hs _ rq1 j (by omega)), (fun e => absurd e (by omega))⟩⟩
    · refine c_aload_n (j := 0) (x := a0) C dX1_add_24 rfl ?_
      refine c_aload_n (j := 0) (x := a0) C dX1_add_25 rfl ?_
      refine c_getr (k := 1) C ck_2 dX1_add_26 w1_39 (by decide) t_a0 rfl rfl (by decide) rfl rq1 ?_
      refine c_st (st2 := [.ref rb1, .ref a0]) rfl ?_
      refine c_aload_n (j := 0) (x := a0) C dX1_add_29 rfl ?_
      refine c_getr (k := 1) C ck_2 dX1_add_30 w1_39 (by decide) t_a0 rfl rfl (by decide) rfl rq1 ?_
      refine c_st (st2 := [.ref rb1, .ref rb1, .ref a0]) rfl ?_
      refine c_alenI C dX1_add_33 trb1 rfl ?_
      refine c_iconst C dX1_add_34 ?_
      refine c_imul C dX1_add_35 ?_
      refine c_g0 C (fun hg0 => ?_)
      refine hv2 (hW.sk t_a0 (by decide) rfl) (cap_of (ln := ln) rq1 (hg0 rb1 trb1.1)) (fun ask0 cp0 => ?_)
      have sl0 := Phi.slack (t := 4) (n := ln rb1) hW hS ⟨by decide, by decide⟩ (by rw [← ask0]; exact cp0) (by show ln rb1 ≤ 4000; omega)
      refine c_callS (As := [.ref rb1, .int (iI (((ln rb1 : Nat) : Int) * 2))]) (rest := [.ref a0]) C hM (G_copyOf_4 (a0 := rb1) (n := ((ln rb1 : Nat) : Int) * 2) hW hS trb1 (by omega) (by show ((ln rb1 : Nat) : Int) < (((ln rb1 : Nat) : Int) * 2) ∧ 16 ≤ (((ln rb1 : Nat) : Int) * 2) ∧ (((ln rb1 : Nat) : Int) * 2) ≤ 8000; omega)) dX1_add_36 kS_X1_20 rfl rfl (Nat.le_of_ble_eq_true rfl) ⟨(Nat.le_of_ble_eq_true rfl), (Nat.le_of_ble_eq_true rfl)⟩ (by unfold zPf; omega) (fun rh1 Lh1 clh1 lnh1 ivh1 rvh1 h1 => ⟨(0 + (16 + (((ln rb1 : Nat) : Int) * 2).toNat)), (zk1 (by obtain ⟨_, _, xlh1x, flh1x, Wh1x, _⟩ := h1; exact Phi.fr hW hS xlh1x flh1x rfl)), ?_⟩)
      obtain ⟨f1, rfl, xl1, fl1, W3, rgf1, exf1⟩ := h1
      refine hv3 (hF0.call hX0 fl1 rfl) (hX0.trans xl1) (xl1.skl hS) (fun F3 X1 sk1 => ?_)
      refine c_st (st2 := [.ref f1, .ref a0]) rfl ?_
      refine hv3 (show lnh1 f1 = (((ln rb1 : Nat) : Int) * 2).toNat ∧ ∀ j : Nat, j < ln rb1 → ivh1 f1 j = iv rb1 j from exf1) (xl1.ty t_a0) (show rvh1 a0 1 = rv a0 1 from (fl1.r t_a0 rfl 1)) (fun gf1 ty1 re1 => ?_)
      rw [rq1] at re1
      refine hv4 (show 0 ≤ ivh1 a0 2 ∧ ivh1 a0 2 ≤ 4000 from W3.int ty1 2) (show ivh1 a0 2 = iv a0 2 from fl1.i t_a0 rfl 2) (xl1.ty trb1) (show lnh1 rb1 = ln rb1 from (xl1 rb1 trb1.1).2.2) (fun ri5 ie3 ty2 le1 => ?_)
      refine c_g0 C (fun hg1 => ?_)
      refine hv2 (W3.sk ty1 (by decide) rfl) (cap_of (ln := lnh1) re1 (hg1 rb1 ty2.1)) (fun ask cpo => ?_)
      refine c_putr (x := (some f1)) (k := 1) C ck_2 dX1_add_39 w1_39 (by decide) rfl ty1 rfl rfl (by decide) rfl (by rfl) (by rfl) (fun rv1 pq3 => ⟨0, (by have gr := Phi.grow (g := g0 G) (rv2 := rv1) (rv := rvh1) (b := f1) (ln := lnh1) (t := 4) sk1 (by rw [← ask]; exact pq3) (hg1 f1 rgf1.1) (Or.inl ⟨by decide, by decide⟩); rw [← ask] at gr; have gr2 : Phi (g0 G) sk lnh1 rv1 + 3 * cap (g0 G) lnh1 rvh1 a0 = Phi (g0 G) sk lnh1 rvh1 + 3 * lnh1 f1 := gr; omega), ?_⟩)
      refine hv2 (W3.putit pq3 ty1 rfl rfl rgf1 (by omega)) (F3.putr X1 pq3 ty1 rfl) (fun W4 F4 => ?_)
      refine c_aload_n (j := 0) (x := a0) C dX1_add_42 rfl ?_
      have rp1 : rv1 a0 1 = (some f1) := by rw [pq3]; exact upr_s
      refine c_getr (k := 1) C ck_2 dX1_add_43 w1_39 (by decide) ty1 rfl rfl (by decide) rfl rp1 ?_
      refine c_st (st2 := [.ref f1]) rfl ?_
      refine c_aload_n (j := 0) (x := a0) C dX1_add_46 rfl ?_
      refine c_get (k := 2) C ck_2 dX1_add_47 w1_43 (by decide) ty1 rfl rfl (by decide) rfl ?_
      refine c_iload_n (j := 1) C dX1_add_50 rfl ?_
      have ll2 : 16 ≤ lnh1 f1 ∧ lnh1 f1 ≤ 8000 := W4.len rgf1 rfl
      refine c_iast (x := x) C dX1_add_51 rgf1 rfl (by omega) (by omega) (by omega) (fun iv3 pq4 => ?_)
      refine hv2 (W4.puti pq4 rgf1 (show (-2147483648) ≤ x ∧ x ≤ 2147483647 by omega) rfl) (F4.puti X1 pq4 rgf1 rfl) (fun W5 F5 => ?_)
      refine c_aload_n (j := 0) (x := a0) C dX1_add_52 rfl ?_
      refine c_dup C dX1_add_53 rfl ?_
      refine hv2 (show 0 ≤ iv3 a0 2 ∧ iv3 a0 2 ≤ 4000 from W5.int ty1 2) (show iv3 a0 2 = ivh1 a0 2 from by rw [pq4]; exact up2_k (ne_ty ty1 rgf1 (by decide))) (fun ri6 ie4 => ?_)
      refine c_get (k := 2) C ck_2 dX1_add_54 w1_43 (by decide) ty1 rfl rfl (by decide) rfl ?_
      refine c_iconst C dX1_add_57 ?_
      refine c_iadd C dX1_add_58 ?_
      refine c_put (z := (iv3 a0 2) + 1) (k := 2) C ck_2 dX1_add_59 w1_43 (by decide) rfl ty1 rfl rfl (by decide) rfl (by rfl) (by rfl) (fun iv4 pq5 => ?_)
      refine hv3 (W5.isz_put pq5 ty1 (show 0 ≤ ((iv3 a0 2) + 1) ∧ ((iv3 a0 2) + 1) ≤ 4000 by omega) rfl rfl rp1 (show ((iv3 a0 2) + 1) ≤ ((lnh1 f1 : Nat) : Int) by omega)) (F5.puti X1 pq5 ty1 rfl) (show iv4 a0 2 = (iv3 a0 2) + 1 from by rw [pq5]; exact up2_s) (fun W6 F6 ie5 => ?_)
      refine hv2 (show 0 ≤ iv4 a0 2 ∧ iv4 a0 2 ≤ 4000 from W6.int ty1 2) (Phi.le W6 sk1) (fun ri7 pl1 => ?_)
      exact c_vret C dX1_add_62 rfl (by decide) (rom0 hph pl1 (by decide)) ⟨rfl, X1, F6, W6, ⟨by omega, (fun ss hs hq b2 hb j hj => by
          rw [rp1] at hb
          cases hb
          rw [pq5, up2_k (ne_ty rgf1 ty1 (by decide)), pq4]
          by_cases e : j = (iv a0 2).toNat
          · subst e; rw [show (iv a0 2).toNat = (ivh1 a0 2).toNat from congrArg Int.toNat (by omega), up2_s, va_up_self]
          · rw [up2_j (fun e2 => e (e2.trans (congrArg Int.toNat (by omega)))), va_up_ne _ _ e, gf1.2 j (by omega)]; exact hs _ rq1 j (by omega)), (fun e => absurd e (by omega))⟩⟩
  · exact c_vret C dX1_add_11 rfl (by decide) (rom0 hph hph (by decide)) ⟨rfl, hX0, hF0, hW, ⟨by omega, (fun ss hs hq => absurd hq (by omega)), fun _ ss hs => hs⟩⟩
def AAI (iv : Nat → Nat → Int) (rv : Nat → Nat → Option Nat) (iv1 : Nat → Nat → Int) (rv1 : Nat → Nat → Option Nat) (q r : Nat) (k : Int) : Prop := ∀ bs, iv q 2 = 0 → BYT iv rv r 4001 bs → bs.length ≤ 4000 → iv1 q 2 = k ∧ CT iv1 rv1 q (fun j => (bs[j]?).getD 0)
def AAQ (iv : Nat → Nat → Int) (rv : Nat → Nat → Option Nat) (iv2 : Nat → Nat → Int) (rv2 : Nat → Nat → Option Nat) (q r : Nat) : Prop := ∀ bs, iv q 2 = 0 → BYT iv rv r 4001 bs → bs.length ≤ 4000 → iv2 q 2 = ((bs.length : Nat) : Int) ∧ CT iv2 rv2 q (fun j => (bs[j]?).getD 0)
def RKP (iv : Nat → Nat → Int) (rv : Nat → Nat → Option Nat) (h0 : Nat) (x k : Int) : Prop := ∀ sA, rv h0 9 = some sA → ∀ E : List (Option (List Int)), SHT iv rv sA E → ROK E x k
def PRD (sk ln : Nat → Nat) (iv : Nat → Nat → Int) (rv : Nat → Nat → Option Nat) (iv2 : Nat → Nat → Int) (rv2 : Nat → Nat → Option Nat) (h0 : Nat) (hy t x n f : Int) : Prop := ∀ v a, TRL sk ln iv rv v a → hy = v 33 → (∀ j, a 16 j ≤ 4) → ∀ sA, rv h0 9 = some sA → ∀ E : List (Option (List Int)), SHT iv rv sA E → E.length ≤ 200 → (¬ OKR v a E t x n ∧ f = -1 ∧ iv2 (sk 4) 2 = iv (sk 4) 2 ∧ ∀ ss, CT iv rv (sk 4) ss → CT iv2 rv2 (sk 4) ss) ∨ (OKR v a E t x n ∧ ∃ bs, RDA a (gat0 a t) (gat1 a t) (RR0 (chl E (v 33) x n.toNat)) f bs ∧ iv2 (sk 4) 2 = ((bs.length : Nat) : Int) ∧ CT iv2 rv2 (sk 4) (fun j => (bs[j]?).getD 0))
section RDPS
variable {h : Nat} {sk : Nat → Nat} {L L1 : List Nat} {cl ln cl1 ln1 : Nat → Nat} {iv iv1 iv2 : Nat → Nat → Int} {rv rv1 rv2 : Nat → Nat → Option Nat} {q r b h0 sA w : Nat} {x y z k f n t hy : Int} {E : List (Option (List Int))} {ls : List Nat} {bs : List Int}
theorem AAI.init : AAI iv rv iv rv q r 0 := fun bs h1 _ _ => ⟨h1, CT.zero h1⟩
theorem AAI.step (hI : AAI iv rv iv1 rv1 q r k) (hb : rv r 1 = some b) (hk : 0 ≤ k ∧ k < iv r 2) (hx : x = iv b k.toNat) (g : ∀ ss, CT iv1 rv1 q ss → iv1 q 2 < 4000 → CT iv2 rv2 q (va_up ss (iv1 q 2).toNat x)) (hs : (iv2 q 2 = iv1 q 2 ∧ iv1 q 2 = 4000) ∨ (iv2 q 2 = iv1 q 2 + 1 ∧ iv1 q 2 < 4000)) : AAI iv rv iv2 rv2 q r (k + 1) := fun bs h1 h2 h3 => by
  obtain ⟨g1, g2⟩ := hI bs h1 h2 h3
  have e := h2.1
  have w := g _ g2 (by omega)
  refine ⟨by omega, ?_⟩
  have lt : k.toNat < bs.length := by omega
  have e2 := List.getElem?_eq_getElem lt
  have e3 := h2.2 b hb k.toNat _ (by omega) e2
  have ee : va_up (fun j => (bs[j]?).getD 0) (iv1 q 2).toNat x = fun j => (bs[j]?).getD 0 := by
    funext j
    unfold va_up
    split
    · rename_i ej
      rw [ej, show (iv1 q 2).toNat = k.toNat by omega, e2, hx, e3]
      rfl
    · rfl
  rw [ee] at w
  exact w
theorem AAI.fin (hI : AAI iv rv iv1 rv1 q r k) (hk : k = iv r 2) : AAQ iv rv iv1 rv1 q r := fun bs h1 h2 h3 => by
  obtain ⟨g1, g2⟩ := hI bs h1 h2 h3
  have e := h2.1
  exact ⟨by omega, g2⟩
theorem wrp2 (e : iI (x + k) = iI z) (hz : -2147483648 ≤ z ∧ z ≤ 2147483647) (hx : -2147483648 ≤ x ∧ x ≤ 2147483647) (hk : 0 ≤ k ∧ k ≤ 2147483647) : z = x + k ∨ (2147483647 < x + k ∧ z < 0) := by
  by_cases c : x + k ≤ 2147483647
  · exact Or.inl (iI_ij e ⟨by omega, by omega⟩ hz).symm
  · refine Or.inr ⟨by omega, ?_⟩
    have e1 : iI (x + k) = iI (x + k - 4294967296) := by
      show Int32.ofInt (x + k) = Int32.ofInt (x + k - 4294967296)
      rw [Int32.ofInt_sub, show Int32.ofInt 4294967296 = 0 from by decide, Int32.sub_zero]
    rw [e1] at e
    have e3 := iI_ij e ⟨by omega, by omega⟩ hz
    omega
theorem RKP.zero : RKP iv rv h0 x 0 := fun _ _ _ _ i h1 h2 => absurd h1 (by omega)
theorem RKP.step (hI : RKP iv rv h0 x k) (hA : rv h0 9 = some sA) (hS : SAM iv rv iv1 rv1 sA) (hx : PRX iv1 rv1 sA z (some w)) (hz : iI (x + k) = iI z) (hzr : -2147483648 ≤ z ∧ z ≤ 2147483647) (hxr : -2147483648 ≤ x ∧ x ≤ 2147483647) (hk : 0 ≤ k ∧ k ≤ 2147483647) : RKP iv rv h0 x (k + 1) := fun sA' e E hE i h1 h2 => by
  by_cases c : i < k
  · exact hI sA' e E hE i h1 c
  · rw [hA] at e; cases e
    obtain ⟨s1, s2⟩ := hx.smt
    obtain ⟨xs, p1, _⟩ := (hE.sam hS).prs s1 s2
    have z0 : 0 ≤ z := by
      rcases s1 with ⟨⟨q, _⟩, _⟩ | ⟨_, q⟩
      · exact q
      · cases q
    rw [show i = k by omega]
    rcases wrp2 hz hzr hxr hk with e2 | ⟨_, e2⟩
    · rw [← e2]
      exact ⟨xs, p1⟩
    · omega
theorem RKP.bad (hA : rv h0 9 = some sA) (hS : SAM iv rv iv1 rv1 sA) (hx : PRX iv1 rv1 sA z none) (hz : iI (x + k) = iI z) (hzr : -2147483648 ≤ z ∧ z ≤ 2147483647) (hxr : -2147483648 ≤ x ∧ x ≤ 2147483647) (hk : 0 ≤ k ∧ k < n ∧ n ≤ 2147483647) (hE : SHT iv rv sA E) (hl : E.length ≤ 200) : ¬ ROK E x n := fun hr => by
  refine hv2 ((hx.non (hE.sam hS))) (hr.rng (k := k) ⟨hk.1, hk.2.1⟩) (fun g rg => ?_)
  obtain ⟨xs, e⟩ := hr k hk.1 hk.2.1
  rcases wrp2 hz hzr hxr ⟨hk.1, by omega⟩ with e2 | ⟨e2, _⟩
  · rw [← e2] at e
    exact g ⟨xs, e⟩
  · omega
end RDPS
set_option maxHeartbeats 4000000 in
set_option maxRecDepth 100000 in
theorem G_addAll {l : Launch} {G : GT} {mi : Nat} {sk : Nat → Nat} {L : List Nat} {cl ln : Nat → Nat} {iv : Nat → Nat → Int} {rv : Nat → Nat → Option Nat}  {a0 : Nat} {a1 : Nat} (hW : WT (g0 G) sk L cl ln iv rv) (hS : SKL sk L cl) (t_a0 : ty L cl a0 4) (t_a1 : ty L cl a1 10)  : Mc l G mi (Phi (g0 G) sk) PHM yX1_addAll cX1_addAll 3 none 3 [.ref a0, .ref a1] L cl ln iv rv 0 (fun v L2 cl2 ln2 iv2 rv2 => v = none ∧ XT L cl ln L2 cl2 ln2 ∧ fT [4, 34] L cl iv rv iv2 rv2 ∧ WT (g0 G) sk L2 cl2 ln2 iv2 rv2 ∧ (AAQ iv rv iv2 rv2 a0 a1)) := by
  refine Mc.mk (by decide) (Nat.le_of_ble_eq_true rfl) ?_
  intro p e s m args below meth c A C hM
  refine hv5 (Phi.le hW hS) (show XT L cl ln L cl ln from XT.refl) (show fT [4, 34] L cl iv rv iv rv from fT.refl) (show 0 ≤ iv a0 2 ∧ iv a0 2 ≤ 4000 from hW.int t_a0 2) (show 0 ≤ iv a1 2 ∧ iv a1 2 ≤ 4001 from hW.int t_a1 2) (fun hph hX0 hF0 ri1 ri2 => ?_)
  obtain ⟨b9, hb9, tb9⟩ := hW.ref t_a1 1 rfl rfl rfl
  have ll9 := hW.isz t_a1 rfl rfl hb9
  refine c_iconst C dX1_addAll_0 ?_
  refine c_istore_n (lv2 := [(2, .int (iI 0)), (0, .ref a0), (1, .ref a1)]) C dX1_addAll_1 (by decide) rfl ?_
  have Lp1 : ∀ (nn : Nat) (k : Int) (Lb1 : List Nat) (clb1 lnb1 : Nat → Nat) (ivb1 : Nat → Nat → Int) (rvb1 : Nat → Nat → Option Nat) , 4002 - k < (nn : Int) → XT L cl ln Lb1 clb1 lnb1 → WT (g0 G) sk Lb1 clb1 lnb1 ivb1 rvb1 → fT [4, 34] L cl iv rv ivb1 rvb1 → (0 ≤ k ∧ k ≤ iv a1 2) → (AAI iv rv ivb1 rvb1 a0 a1 k) → cw p l e 3 ((PHM) + 0 - ((Phi (g0 G) sk) ln rv)) s m args below meth c G A 3 (MQ below (Qu G A (Qp G (Phi (g0 G) sk) ((Phi (g0 G) sk) ln rv) 0 (fun v L2 cl2 ln2 iv2 rv2 => v = none ∧ XT L cl ln L2 cl2 ln2 ∧ fT [4, 34] L cl iv rv iv2 rv2 ∧ WT (g0 G) sk L2 cl2 ln2 iv2 rv2 ∧ (AAQ iv rv iv2 rv2 a0 a1)))) args s (((PHM) + 0 - ((Phi (g0 G) sk) ln rv)) / 16) ((PHM) + 0 - ((Phi (g0 G) sk) ln rv)) A) (Phi (g0 G) sk) ((Phi (g0 G) sk) ln rv) Lb1 clb1 lnb1 ivb1 rvb1 0 2 [(2, .int (iI k)), (0, .ref a0), (1, .ref a1)] [] := by
    intro nn
    induction nn with
    | zero =>
      intro  k Lb1 clb1 lnb1 ivb1 rvb1 hm Xb1 Wb1 Fb1  hk hI
      have skb1 := Xb1.skl hS
      exact absurd hm (by omega)
    | succ nn ih1 =>
      intro  k Lb1 clb1 lnb1 ivb1 rvb1 hm Xb1 Wb1 Fb1  hk hI
      have skb1 := Xb1.skl hS
      refine c_iload_n (j := 0) C dX1_addAll_2 rfl ?_
      refine c_aload_n (j := 2) (x := a1) C dX1_addAll_3 rfl ?_
      refine hv2 (Xb1.ty t_a1) (show ivb1 a1 2 = iv a1 2 from Fb1.i t_a1 rfl 2) (fun ty1 ie1 => ?_)
      have ri3 : 0 ≤ ivb1 a1 2 ∧ ivb1 a1 2 ≤ 4001 := Wb1.int ty1 2
      refine c_get (k := 2) C ck_2 dX1_addAll_4 w1_43 (by decide) ty1 rfl rfl (by decide) rfl ?_
      refine c_icmp_ge (tgt := 26) C ⟨by omega, by omega⟩ (r32_c (lo := 0) (hi := 4001) ri3.1 ri3.2 (by decide) (by decide)) dX1_addAll_7 (by decide) (fun c1 => ?_) (fun c1 => ?_)
      · have pl1 := Phi.le Wb1 skb1
        exact c_vret C dX1_addAll_26 rfl (by decide) (rom0 hph pl1 (by decide)) ⟨rfl, Xb1, Fb1, Wb1, (hI.fin (by omega))⟩
      · refine c_aload_n (j := 1) (x := a0) C dX1_addAll_10 rfl ?_
        refine c_aload_n (j := 2) (x := a1) C dX1_addAll_11 rfl ?_
        have re1 : rvb1 a1 1 = rv a1 1 := (Fb1.r t_a1 rfl 1)
        rw [hb9] at re1
        refine c_getr (k := 1) C ck_2 dX1_addAll_12 w1_39 (by decide) ty1 rfl rfl (by decide) rfl re1 ?_
        refine c_st (st2 := [.ref b9, .ref a0]) rfl ?_
        refine c_iload_n (j := 0) C dX1_addAll_15 rfl ?_
        refine hv2 (Xb1.ty tb9) (show lnb1 b9 = ln b9 from (Xb1 b9 tb9.1).2.2) (fun ty2 le1 => ?_)
        have ll1 : 16 ≤ lnb1 b9 ∧ lnb1 b9 ≤ 8002 := Wb1.len ty2 rfl
        refine c_iald C dX1_addAll_16 ty2 rfl (by omega) (by omega) (by omega) ?_
        refine hv4 (show (-2147483648) ≤ ivb1 b9 k.toNat ∧ ivb1 b9 k.toNat ≤ 2147483647 from Wb1.int ty2 k.toNat) (show ivb1 b9 k.toNat = iv b9 k.toNat from Fb1.i tb9 rfl k.toNat) (Xb1.ty t_a0) (Phi.le Wb1 skb1) (fun ri4 ie2 ty3 pl2 => ?_)
        have ri5 : 0 ≤ ivb1 a0 2 ∧ ivb1 a0 2 ≤ 4000 := Wb1.int ty3 2
        refine d_callV (As := [.int (iI (ivb1 b9 k.toNat))]) (rest := []) C hM (G_add_4 (a0 := a0) (x := ivb1 b9 k.toNat) Wb1 skb1 ty3 (by omega) ) dX1_addAll_17 kV_X1_26 rfl ty3 rfl rfl (by decide) ck_2 rfl (Nat.le_of_ble_eq_true rfl) ⟨(Nat.le_of_ble_eq_true rfl), (Nat.le_of_ble_eq_true rfl)⟩ hph pl2 (show 0 + 0 = 0 from rfl) (by decide) (fun rh1 Lh1 clh1 lnh1 ivh1 rvh1 h1 => ?_)
        obtain ⟨rfl, xl1, fl1, W1, exf1⟩ := h1
        refine hv3 (Fb1.call Xb1 fl1 rfl) (Xb1.trans xl1) (xl1.skl skb1) (fun F1 X1 sk1 => ?_)
        refine c_st (st2 := []) rfl ?_
        refine hv2 (xl1.ty ty3) (show ((ivh1 a0 2 = ivb1 a0 2 ∧ ivb1 a0 2 = 4000) ∨ (ivh1 a0 2 = ivb1 a0 2 + 1 ∧ ivb1 a0 2 < 4000)) ∧ (∀ ss, CT ivb1 rvb1 a0 ss → ivb1 a0 2 < 4000 → CT ivh1 rvh1 a0 (va_up ss (ivb1 a0 2).toNat (ivb1 b9 k.toNat))) ∧ (ivb1 a0 2 = 4000 → ∀ ss, CT ivb1 rvb1 a0 ss → CT ivh1 rvh1 a0 ss) from exf1) (fun ty4 gf1 => ?_)
        have ri6 : 0 ≤ ivh1 a0 2 ∧ ivh1 a0 2 ≤ 4000 := W1.int ty4 2
        refine c_iinc (z := k) (j := 0) (lv2 := [(2, .int (iI (k + 1))), (0, .ref a0), (1, .ref a1)]) C dX1_addAll_20 rfl (by decide) rfl ?_
        refine c_goto (tgt := 2) C dX1_addAll_23 (by decide) ?_
        refine hv2 (xl1.ty ty1) (show ivh1 a1 2 = ivb1 a1 2 from fl1.i ty1 rfl 2) (fun ty5 ie5 => ?_)
        have ri7 : 0 ≤ ivh1 a1 2 ∧ ivh1 a1 2 ≤ 4001 := W1.int ty5 2
        refine c_lv (lv2 := [(2, .int (iI (k + 1))), (0, .ref a0), (1, .ref a1)]) [0, 1, 2] rfl ?_
        exact ih1  (k + 1) _ _ _ _ _ (by omega) X1 W1 F1  (by omega) (hI.step hb9 ⟨by omega, by omega⟩ (Fb1.i tb9 rfl k.toNat) gf1.2.1 gf1.1)
  refine c_lv (lv2 := [(2, .int (iI 0)), (0, .ref a0), (1, .ref a1)]) [0, 1, 2] rfl ?_
  exact Lp1 4003 0 _ _ _ _ _ (by omega) hX0 hW hF0  (by omega) AAI.init
end
section
def DFN (sk ln : Nat → Nat) (iv : Nat → Nat → Int) (rv : Nat → Nat → Option Nat) (iv4 : Nat → Nat → Int) (rv4 : Nat → Nat → Option Nat) (sA : Nat) (hy t x n f : Int) : Prop := ∀ v a, TRL sk ln iv rv v a → hy = v 33 → (∀ j, a 16 j ≤ 4) → ∀ E : List (Option (List Int)), SHT iv rv sA E → E.length ≤ 200 → OKR v a E t x n ∧ ((f = 0 ∧ RWG a (gat0 a t) (gat1 a t) (RR0 (chl E (v 33) x n.toNat))) ∨ (f = 1 ∧ ∃ bs, RFN a (gat0 a t) (gat1 a t) (RR0 (chl E (v 33) x n.toNat)) bs ∧ BYT iv4 rv4 (sk 10) 4001 bs))
section DFNS
variable {h : Nat} {sk : Nat → Nat} {L L1 L2 L3 L4 : List Nat} {cl ln cl1 ln1 cl2 ln2 cl3 ln3 cl4 ln4 : Nat → Nat} {iv iv1 iv2 iv3 iv4 iv5 iv6 iv7 : Nat → Nat → Int} {rv rv1 rv2 rv3 rv4 rv5 rv6 rv7 : Nat → Nat → Option Nat} {b h0 sA : Nat} {x f f0 n t hy hy1 : Int} {ls ls3 : List Nat}
theorem DFN.mk (hw : WOX sk ln iv rv t (some b)) (hA : rv h0 9 = some sA) (hK : RKP iv rv h0 x n) (hn : 0 ≤ n) (hS1 : SAM iv rv iv1 rv1 sA) (hA1 : rv1 h0 9 = some sA) (hc : CLX iv1 rv1 h0 sk iv2 rv2 hy1 x n) (hh : hy1 = hy) (hq2 : QT h sk L cl ln iv rv L2 cl2 ln2 iv2 rv2) (hg : GLQ sk ln2 iv2 rv2 b L3 cl3 ln3 iv3 rv3 (sk 24) gat0 ∧ GLQ sk ln2 iv2 rv2 b L3 cl3 ln3 iv3 rv3 (sk 25) gat1) (hb : GBQ sk ln2 iv2 rv2 b iv3 rv3 (sk 24) (sk 6) gat0 ∧ GBQ sk ln2 iv2 rv2 b iv3 rv3 (sk 25) (sk 7) gat1) (hW2 : WT h sk L2 cl2 ln2 iv2 rv2) (t8 : ty L2 cl2 (sk 8) 8) (hF3 : fT ls3 L2 cl2 iv2 rv2 iv3 rv3) (k8 : ls3.contains 8 = false) (k38 : ls3.contains 38 = false) (hd : DEX L3 cl3 ln3 iv3 rv3 sk iv4 rv4 f) : DFN sk ln iv rv iv4 rv4 sA hy t x n f := fun v a hR h33 h16 E hE hl => by
  have hR2 := hR.qq hq2
  obtain ⟨p1, p2, p3⟩ := hw.smt hR
  have ok : OKR v a E t x n := ⟨p3, hn, hK sA hA E hE⟩
  obtain ⟨xs, c1, c2⟩ := hc sA hA1 E (hE.sam hS1) ok.2.2 hl
  rw [hh, h33] at c2
  refine hv2 (hR.nzl h16 p1.1 p1.2) (show ((t.toNat : Nat) : Int) = t from Int.toNat_of_nonneg p1.1) (fun nz ti => ?_)
  have e2 := (hq2.el hR (i := t.toNat) (by omega)).trans p2
  have g0 := hg.1 v a hR2 t.toNat (by omega) e2
  have g1 := hg.2 v a hR2 t.toNat (by omega) e2
  have b0 := hb.1 v a hR2 t.toNat (by omega) e2
  have b1 := hb.2 v a hR2 t.toNat (by omega) e2
  rw [ti] at g0 g1 b0 b1
  have dc : DCX L3 cl3 ln3 iv3 rv3 sk a (gat0 a t) (gat1 a t) (RR0 xs) := ⟨⟨g0, g1⟩, nz.1, nz.2, ⟨b0 nz.1.1, b1 nz.1.2⟩, (c1.fr hW2 t8 hF3 k8 k38).rct⟩
  have w := hd a _ _ _ dc
  rw [c2] at w
  exact ⟨ok, w⟩
theorem PRD.nw (hw : WOX sk ln iv rv t none) (hf : f = -1) (h4 : iv2 (sk 4) 2 = iv (sk 4) 2 ∧ ∀ ss, CT iv rv (sk 4) ss → CT iv2 rv2 (sk 4) ss) : PRD sk ln iv rv iv2 rv2 h0 hy t x n f := fun v a hR _ _ _ _ E _ _ => Or.inl ⟨(fun w => by
  rcases hw v a hR with ⟨_, q⟩ | ⟨b, q, _⟩
  · exact q w.1
  · cases q), hf, h4.1, h4.2⟩
theorem PRD.neg (hn : n < 0) (hf : f = -1) (h4 : iv2 (sk 4) 2 = iv (sk 4) 2 ∧ ∀ ss, CT iv rv (sk 4) ss → CT iv2 rv2 (sk 4) ss) : PRD sk ln iv rv iv2 rv2 h0 hy t x n f := fun v a hR _ _ _ _ E _ _ => Or.inl ⟨fun w => by
  have := w.2.1
  omega, hf, h4.1, h4.2⟩
theorem PRD.bad (hb : ∀ E : List (Option (List Int)), SHT iv rv sA E → E.length ≤ 200 → ¬ ROK E x n) (hA : rv h0 9 = some sA) (hf : f = -1) (h4 : iv2 (sk 4) 2 = iv (sk 4) 2 ∧ ∀ ss, CT iv rv (sk 4) ss → CT iv2 rv2 (sk 4) ss) : PRD sk ln iv rv iv2 rv2 h0 hy t x n f := fun v a hR _ _ sA' e E hE hl => by
  rw [hA] at e; cases e
  exact Or.inl ⟨fun w => hb E hE hl w.2.2, hf, h4.1, h4.2⟩
theorem PRD.wrong (hD : DFN sk ln iv rv iv4 rv4 sA hy t x n f0) (hA : rv h0 9 = some sA) (h0f : f0 = 0) (hf : f = -1) (h4 : iv2 (sk 4) 2 = 0) : PRD sk ln iv rv iv2 rv2 h0 hy t x n f := fun v a hR h33 h16 sA' e E hE hl => by
  rw [hA] at e; cases e
  obtain ⟨ok, g⟩ := hD v a hR h33 h16 E hE hl
  rcases g with ⟨_, g⟩ | ⟨g, _⟩
  · exact Or.inr ⟨ok, [], Or.inr ⟨Or.inl g, hf, rfl⟩, by rw [h4]; rfl, CT.zero h4⟩
  · omega
theorem PRD.many (hD : DFN sk ln iv rv iv4 rv4 sA hy t x n f0) (hA : rv h0 9 = some sA) (h0f : f0 ≠ 0) (hm : 4000 < iv4 (sk 10) 2) (hf : f = -1) (h4 : iv2 (sk 4) 2 = 0) : PRD sk ln iv rv iv2 rv2 h0 hy t x n f := fun v a hR h33 h16 sA' e E hE hl => by
  rw [hA] at e; cases e
  obtain ⟨ok, g⟩ := hD v a hR h33 h16 E hE hl
  rcases g with ⟨g, _⟩ | ⟨_, bs, ⟨s, g1, _⟩, g3⟩
  · exact absurd g h0f
  · have e2 := g3.1
    exact Or.inr ⟨ok, [], Or.inr ⟨Or.inr (g1.ov (by omega)), hf, rfl⟩, by rw [h4]; rfl, CT.zero h4⟩
theorem PRD.ok (hD : DFN sk ln iv rv iv4 rv4 sA hy t x n f0) (hA : rv h0 9 = some sA) (h0f : f0 ≠ 0) (hm : iv4 (sk 10) 2 ≤ 4000) (hB : ∀ bs, BYT iv4 rv4 (sk 10) 4001 bs → BYT iv5 rv5 (sk 10) 4001 bs) (h5 : iv5 (sk 4) 2 = 0) (ha : AAQ iv5 rv5 iv6 rv6 (sk 4) (sk 10)) (hf : f = iv6 (sk 4) 2) (h2 : iv2 (sk 4) 2 = iv6 (sk 4) 2) (hC : ∀ ss, CT iv6 rv6 (sk 4) ss → CT iv2 rv2 (sk 4) ss) : PRD sk ln iv rv iv2 rv2 h0 hy t x n f := fun v a hR h33 h16 sA' e E hE hl => by
  rw [hA] at e; cases e
  obtain ⟨ok, g⟩ := hD v a hR h33 h16 E hE hl
  rcases g with ⟨g, _⟩ | ⟨_, bs, g1, g3⟩
  · exact absurd g h0f
  · have e2 := g3.1
    obtain ⟨q1, q2⟩ := ha bs h5 (hB bs g3) (by omega)
    exact Or.inr ⟨ok, bs, Or.inl ⟨g1, by omega, by omega⟩, by omega, hC _ q2⟩
end DFNS
set_option maxHeartbeats 4000000 in
set_option maxRecDepth 100000 in
theorem G_read {l : Launch} {G : GT} {mi : Nat} {sk : Nat → Nat} {L : List Nat} {cl ln : Nat → Nat} {iv : Nat → Nat → Int} {rv : Nat → Nat → Option Nat}  {a0 : Nat} {i : Int} {x : Int} {n : Int} (hW : WT (g0 G) sk L cl ln iv rv) (hS : SKL sk L cl) (t_a0 : ty L cl a0 1) (h_i : -2147483648 ≤ i ∧ i ≤ 2147483647) (h_x : -2147483648 ≤ x ∧ x ≤ 2147483647) (h_n : -2147483648 ≤ n ∧ n ≤ 2147483647) (hmr : MRK sk cl iv rv) : Mc l G mi (Phi (g0 G) sk) PHM yX11_read cX11_read 6 (some .int) 10 [.ref a0, .int (iI i), .int (iI x), .int (iI n)] L cl ln iv rv 0 (fun v L2 cl2 ln2 iv2 rv2 => ∃ f : Int, v = some (.int (iI f)) ∧ XT L cl ln L2 cl2 ln2 ∧ fT [1, 4, 34, 8, 38, 9, 39, 16, 10, 40, 24, 1002, 25, 1003, 6, 36, 7, 37] L cl iv rv iv2 rv2 ∧ WT (g0 G) sk L2 cl2 ln2 iv2 rv2 ∧ (-2147483648 ≤ f ∧ f ≤ 2147483647) ∧ (True) ∧ iv2 a0 11 = iv a0 11 ∧ iv2 a0 12 = iv a0 12 ∧ iv2 a0 13 = iv a0 13 ∧ iv2 a0 14 = iv a0 14 ∧ iv2 a0 15 = iv a0 15 ∧ iv2 a0 16 = iv a0 16 ∧ (PRD sk ln iv rv iv2 rv2 a0 (iv a0 13) i x n f) ∧ rv2 a0 9 = rv a0 9 ∧ rv2 a0 10 = rv a0 10) := by
  refine Mc.mk (by decide) (Nat.le_of_ble_eq_true rfl) ?_
  intro p e s m args below meth c A C hM
  refine hv21 (Phi.le hW hS) (show ty L cl (sk 2) 2 from ⟨(hS 2 rfl).1, by rw [(hS 2 rfl).2]; rfl⟩) (show ty L cl (sk 3) 3 from ⟨(hS 3 rfl).1, by rw [(hS 3 rfl).2]; rfl⟩) (show ty L cl (sk 4) 4 from ⟨(hS 4 rfl).1, by rw [(hS 4 rfl).2]; rfl⟩) (show ty L cl (sk 5) 5 from ⟨(hS 5 rfl).1, by rw [(hS 5 rfl).2]; rfl⟩) (show ty L cl (sk 6) 6 from ⟨(hS 6 rfl).1, by rw [(hS 6 rfl).2]; rfl⟩) (show ty L cl (sk 7) 7 from ⟨(hS 7 rfl).1, by rw [(hS 7 rfl).2]; rfl⟩) (show ty L cl (sk 8) 8 from ⟨(hS 8 rfl).1, by rw [(hS 8 rfl).2]; rfl⟩) (show ty L cl (sk 9) 9 from ⟨(hS 9 rfl).1, by rw [(hS 9 rfl).2]; rfl⟩) (show ty L cl (sk 10) 10 from ⟨(hS 10 rfl).1, by rw [(hS 10 rfl).2]; rfl⟩) (show ty L cl (sk 13) 13 from ⟨(hS 13 rfl).1, by rw [(hS 13 rfl).2]; rfl⟩) (show ty L cl (sk 14) 14 from ⟨(hS 14 rfl).1, by rw [(hS 14 rfl).2]; rfl⟩) (show ty L cl (sk 15) 15 from ⟨(hS 15 rfl).1, by rw [(hS 15 rfl).2]; rfl⟩) (show ty L cl (sk 16) 16 from ⟨(hS 16 rfl).1, by rw [(hS 16 rfl).2]; rfl⟩) (show ty L cl (sk 17) 17 from ⟨(hS 17 rfl).1, by rw [(hS 17 rfl).2]; rfl⟩) (show ty L cl (sk 22) 22 from ⟨(hS 22 rfl).1, by rw [(hS 22 rfl).2]; rfl⟩) (show ty L cl (sk 23) 23 from ⟨(hS 23 rfl).1, by rw [(hS 23 rfl).2]; rfl⟩) (show ty L cl (sk 24) 24 from ⟨(hS 24 rfl).1, by rw [(hS 24 rfl).2]; rfl⟩) (show ty L cl (sk 25) 25 from ⟨(hS 25 rfl).1, by rw [(hS 25 rfl).2]; rfl⟩) (show XT L cl ln L cl ln from XT.refl) (show fT [1, 4, 34, 8, 38, 9, 39, 16, 10, 40, 24, 1002, 25, 1003, 6, 36, 7, 37] L cl iv rv iv rv from fT.refl) (fun hph tsk2 tsk3 tsk4 tsk5 tsk6 tsk7 tsk8 tsk9 tsk10 tsk13 tsk14 tsk15 tsk16 tsk17 tsk22 tsk23 tsk24 tsk25 hX0 hF0 => ?_)
  obtain ⟨sA, hsA, tsA⟩ := hW.ref t_a0 9 rfl rfl rfl
  refine hv2 (show (-2147483648) ≤ iv a0 13 ∧ iv a0 13 ≤ 2147483647 from hW.int t_a0 13) (show 0 ≤ iv (sk 4) 2 ∧ iv (sk 4) 2 ≤ 4000 from hW.int tsk4 2) (fun ri1 ri2 => ?_)
  refine c_aload_n (j := 0) (x := a0) C dX11_read_0 rfl ?_
  obtain ⟨rb1, rq1, trb1⟩ := hW.ref t_a0 4 rfl rfl rfl
  have erb1 := hW.sk trb1 (by decide) rfl
  subst erb1
  refine c_getr (k := 4) C ck_12 dX11_read_1 w2_48 (by decide) t_a0 rfl rfl (by decide) rfl rq1 ?_
  refine c_st (st2 := [.ref (sk 13)]) rfl ?_
  refine c_iload_n (j := 1) C dX11_read_4 rfl ?_
  refine d_callV (As := [.int (iI i)]) (rest := []) C hM (G_whole (a0 := (sk 13)) (i := i) hW hS tsk13 (by omega) hmr) dX11_read_5 kV_X11_231 rfl tsk13 rfl rfl (by decide) ck_11 rfl (Nat.le_of_ble_eq_true rfl) ⟨(Nat.le_of_ble_eq_true rfl), (Nat.le_of_ble_eq_true rfl)⟩ hph hph (show 0 + 0 = 0 from rfl) (by decide) (fun rh1 Lh1 clh1 lnh1 ivh1 rvh1 h1 => ?_)
  obtain ⟨f1, rfl, rfl, rfl, rfl, rfl, rfl, rgf1, exf1⟩ := h1
  refine c_st (st2 := [(va_rf f1)]) rfl ?_
  have gf1 : WOX sk ln iv rv i f1 := exf1
  refine c_astorer (r := f1) (lv2 := [(4, (va_rf f1)), (0, .ref a0), (1, .int (iI i)), (2, .int (iI x)), (3, .int (iI n))]) C dX11_read_8 (by decide) rfl ?_
  refine c_aloadr (j := 0) (r := f1) C dX11_read_10 rfl ?_
  refine c_ifnonnull (r := f1) (tgt := 21) C dX11_read_12 (by decide) (fun ob1 oq1 => ?_) (fun oq1 => ?_)
  · subst oq1
    refine hv2 (rgf1 ob1 rfl) (gf1) (fun tob1 wkob1 => ?_)
    refine c_lv (lv2 := [(4, .ref ob1), (0, .ref a0), (1, .int (iI i)), (2, .int (iI x)), (3, .int (iI n))]) [0, 1, 2, 3, 4] rfl ?_
    refine c_st (st2 := []) rfl ?_
    refine c_iload_n (j := 4) C dX11_read_21 rfl ?_
    refine c_if_ge (tgt := 31) C ⟨by omega, by omega⟩ dX11_read_22 (by decide) (fun c1 => ?_) (fun c1 => ?_)
    · refine c_iconst C dX11_read_31 ?_
      refine c_istore (lv2 := [(5, .int (iI 0)), (4, .ref ob1), (0, .ref a0), (1, .int (iI i)), (2, .int (iI x)), (3, .int (iI n))]) C dX11_read_32 (by decide) rfl ?_
      have Lp1 : ∀ (nn : Nat) (k : Int) (Lb1 : List Nat) (clb1 lnb1 : Nat → Nat) (ivb1 : Nat → Nat → Int) (rvb1 : Nat → Nat → Option Nat) , n + 1 - k < (nn : Int) → XT L cl ln Lb1 clb1 lnb1 → WT (g0 G) sk Lb1 clb1 lnb1 ivb1 rvb1 → fT [1, 4, 34, 8, 38, 9, 39, 16, 10, 40, 24, 1002, 25, 1003, 6, 36, 7, 37] L cl iv rv ivb1 rvb1 → (0 ≤ k ∧ k ≤ n) → (RKP iv rv a0 x k) → (ivb1 (sk 4) 2 = iv (sk 4) 2) → (∀ ss, CT iv rv (sk 4) ss → CT ivb1 rvb1 (sk 4) ss) → (ivb1 a0 11 = iv a0 11) → (ivb1 a0 12 = iv a0 12) → (ivb1 a0 13 = iv a0 13) → (ivb1 a0 14 = iv a0 14) → (ivb1 a0 15 = iv a0 15) → (ivb1 a0 16 = iv a0 16) → (rvb1 a0 9 = rv a0 9) → (rvb1 a0 10 = rv a0 10) → cw p l e 10 ((PHM) + 0 - ((Phi (g0 G) sk) ln rv)) s m args below meth c G A 6 (MQ below (Qu G A (Qp G (Phi (g0 G) sk) ((Phi (g0 G) sk) ln rv) 0 (fun v L2 cl2 ln2 iv2 rv2 => ∃ f : Int, v = some (.int (iI f)) ∧ XT L cl ln L2 cl2 ln2 ∧ fT [1, 4, 34, 8, 38, 9, 39, 16, 10, 40, 24, 1002, 25, 1003, 6, 36, 7, 37] L cl iv rv iv2 rv2 ∧ WT (g0 G) sk L2 cl2 ln2 iv2 rv2 ∧ (-2147483648 ≤ f ∧ f ≤ 2147483647) ∧ (True) ∧ iv2 a0 11 = iv a0 11 ∧ iv2 a0 12 = iv a0 12 ∧ iv2 a0 13 = iv a0 13 ∧ iv2 a0 14 = iv a0 14 ∧ iv2 a0 15 = iv a0 15 ∧ iv2 a0 16 = iv a0 16 ∧ (PRD sk ln iv rv iv2 rv2 a0 (iv a0 13) i x n f) ∧ rv2 a0 9 = rv a0 9 ∧ rv2 a0 10 = rv a0 10))) args s (((PHM) + 0 - ((Phi (g0 G) sk) ln rv)) / 16) ((PHM) + 0 - ((Phi (g0 G) sk) ln rv)) A) (Phi (g0 G) sk) ((Phi (g0 G) sk) ln rv) Lb1 clb1 lnb1 ivb1 rvb1 0 34 [(5, .int (iI k)), (4, .ref ob1), (0, .ref a0), (1, .int (iI i)), (2, .int (iI x)), (3, .int (iI n))] [] := by
        intro nn
        induction nn with
        | zero =>
          intro  k Lb1 clb1 lnb1 ivb1 rvb1 hm Xb1 Wb1 Fb1  hk hK9 h4s hC4 hkp11 hkp12 hkp13 hkp14 hkp15 hkp16 hkr9 hkr10
          have skb1 := Xb1.skl hS
          exact absurd hm (by omega)
        | succ nn ih1 =>
          intro  k Lb1 clb1 lnb1 ivb1 rvb1 hm Xb1 Wb1 Fb1  hk hK9 h4s hC4 hkp11 hkp12 hkp13 hkp14 hkp15 hkp16 hkr9 hkr10
          refine hv2 (Xb1.skl hS) (MRK.call hmr hW hS Xb1 Fb1 rfl rfl) (fun skb1 mrb1 => ?_)
          refine c_iload (j := 0) C dX11_read_34 rfl ?_
          refine c_iload_n (j := 5) C dX11_read_36 rfl ?_
          refine c_icmp_ge (tgt := 76) C ⟨by omega, by omega⟩ ⟨by omega, by omega⟩ dX11_read_37 (by decide) (fun c2 => ?_) (fun c2 => ?_)
          · refine c_aload_n (j := 2) (x := a0) C dX11_read_76 rfl ?_
            refine c_iload_n (j := 4) C dX11_read_77 rfl ?_
            refine c_iload_n (j := 5) C dX11_read_78 rfl ?_
            refine hv2 (Xb1.ty t_a0) (Phi.le Wb1 skb1) (fun ty1 pl1 => ?_)
            have ri3 : (-2147483648) ≤ ivb1 a0 13 ∧ ivb1 a0 13 ≤ 2147483647 := Wb1.int ty1 13
            refine d_callV (As := [.int (iI x), .int (iI n)]) (rest := []) C hM (G_chainLines (a0 := a0) (i := x) (n := n) Wb1 skb1 ty1 (by omega) (by omega) (by show 0 ≤ n; omega)) dX11_read_79 kV_X11_328 rfl ty1 rfl rfl (by decide) ck_12 rfl (Nat.le_of_ble_eq_true rfl) ⟨(Nat.le_of_ble_eq_true rfl), (Nat.le_of_ble_eq_true rfl)⟩ hph pl1 (show 0 + 0 = 0 from rfl) (by decide) (fun rh2 Lh2 clh2 lnh2 ivh2 rvh2 h2 => ?_)
            obtain ⟨rfl, xl2, fl2, W2, exf2⟩ := h2
            refine hv24 (Fb1.call Xb1 fl2 rfl) (MRK.call mrb1 Wb1 skb1 xl2 fl2 rfl rfl) (Xb1.ty tsk2) (Xb1.ty tsk3) (Xb1.ty tsk4) (Xb1.ty tsk5) (Xb1.ty tsk6) (Xb1.ty tsk7) (Xb1.ty tsk8) (Xb1.ty tsk9) (Xb1.ty tsk10) (Xb1.ty tsk13) (Xb1.ty tsk14) (Xb1.ty tsk15) (Xb1.ty tsk16) (Xb1.ty tsk17) (Xb1.ty tsk22) (Xb1.ty tsk23) (Xb1.ty tsk24) (Xb1.ty tsk25) (Xb1.ty tsA) (Xb1.ty tob1) (Xb1.trans xl2) (xl2.skl skb1) (fun F1 mr1 ty2 ty3 ty4 ty5 ty6 ty7 ty8 ty9 ty10 ty11 ty12 ty13 ty14 ty15 ty16 ty17 ty18 ty19 ty20 ty21 X1 sk1 => ?_)
            refine c_st (st2 := []) rfl ?_
            have gf2 : CLX ivb1 rvb1 a0 sk ivh2 rvh2 (ivb1 a0 13) x n := exf2
            refine c_aload_n (j := 2) (x := a0) C dX11_read_82 rfl ?_
            have ty22 := xl2.ty ty1
            obtain ⟨rb2, rq2, trb2⟩ := W2.ref ty22 7 rfl rfl rfl
            have erb2 := W2.sk trb2 (by decide) rfl
            subst erb2
            refine c_getr (k := 7) C ck_12 dX11_read_83 w2_51 (by decide) ty22 rfl rfl (by decide) rfl rq2 ?_
            refine c_st (st2 := [.ref (sk 16)]) rfl ?_
            refine c_aload (j := 1) (x := ob1) C dX11_read_86 rfl ?_
            refine hv4 (xl2.ty ty8) (xl2.ty ty14) (xl2.ty ty21) (Phi.le W2 sk1) (fun ty23 ty24 ty25 pl2 => ?_)
            refine d_callV (As := [.ref ob1]) (rest := []) C hM (G_gather2 (a0 := (sk 16)) (a1 := ob1) W2 sk1 ty24 ty25  ) dX11_read_88 kV_X11_331 rfl ty24 rfl rfl (by decide) ck_4 rfl (Nat.le_of_ble_eq_true rfl) ⟨(Nat.le_of_ble_eq_true rfl), (Nat.le_of_ble_eq_true rfl)⟩ hph pl2 (show 0 + 0 = 0 from rfl) (by decide) (fun rh3 Lh3 clh3 lnh3 ivh3 rvh3 h3 => ?_)
            obtain ⟨rfl, xl3, fl3, W3, exf3, gaxf3, gbxf3⟩ := h3
            refine hv21 (F1.call X1 fl3 rfl) (MRK.call mr1 W2 sk1 xl3 fl3 rfl rfl) (xl2.ty ty2) (xl2.ty ty3) (xl2.ty ty4) (xl2.ty ty5) (xl2.ty ty6) (xl2.ty ty7) (xl2.ty ty9) (xl2.ty ty10) (xl2.ty ty11) (xl2.ty ty12) (xl2.ty ty13) (xl2.ty ty15) (xl2.ty ty16) (xl2.ty ty17) (xl2.ty ty18) (xl2.ty ty19) (xl2.ty ty20) (X1.trans xl3) (xl3.skl sk1) (fun F2 mr2 ty26 ty27 ty28 ty29 ty30 ty31 ty32 ty33 ty34 ty35 ty36 ty37 ty38 ty39 ty40 ty41 ty42 X2 sk2 => ?_)
            refine c_st (st2 := []) rfl ?_
            refine c_aload_n (j := 2) (x := a0) C dX11_read_91 rfl ?_
            refine hv2 (xl3.ty ty22) (show rvh3 a0 7 = rvh2 a0 7 from (fl3.r ty22 rfl 7)) (fun ty43 re1 => ?_)
            rw [rq2] at re1
            refine c_getr (k := 7) C ck_12 dX11_read_92 w2_51 (by decide) ty43 rfl rfl (by decide) rfl re1 ?_
            refine c_st (st2 := [.ref (sk 16)]) rfl ?_
            refine hv2 (xl3.ty ty24) (Phi.le W3 sk2) (fun ty44 pl3 => ?_)
            refine d_callV (As := []) (rest := []) C hM (G_decode (a0 := (sk 16)) W3 sk2 ty44  ) dX11_read_95 kV_X11_335 rfl ty44 rfl rfl (by decide) ck_4 rfl (Nat.le_of_ble_eq_true rfl) ⟨(Nat.le_of_ble_eq_true rfl), (Nat.le_of_ble_eq_true rfl)⟩ hph pl3 (show 0 + 0 = 0 from rfl) (by decide) (fun rh4 Lh4 clh4 lnh4 ivh4 rvh4 h4 => ?_)
            obtain ⟨f4, rfl, xl4, fl4, W4, rgf4, exf4⟩ := h4
            refine hv23 (F2.call X2 fl4 rfl) (MRK.call mr2 W3 sk2 xl4 fl4 rfl rfl) (xl3.ty ty26) (xl3.ty ty27) (xl3.ty ty28) (xl3.ty ty29) (xl3.ty ty30) (xl3.ty ty31) (xl3.ty ty23) (xl3.ty ty32) (xl3.ty ty33) (xl3.ty ty34) (xl3.ty ty35) (xl3.ty ty36) (xl3.ty ty37) (xl3.ty ty38) (xl3.ty ty39) (xl3.ty ty40) (xl3.ty ty41) (xl3.ty ty42) (xl3.ty ty25) (X2.trans xl4) (xl4.skl sk2) (fun F3 mr3 ty45 ty46 ty47 ty48 ty49 ty50 ty51 ty52 ty53 ty54 ty55 ty56 ty57 ty58 ty59 ty60 ty61 ty62 ty63 X3 sk3 => ?_)
            refine c_st (st2 := [.int (iI f4)]) rfl ?_
            refine hv3 (show DEX Lh3 clh3 lnh3 ivh3 rvh3 sk ivh4 rvh4 f4 from exf4) (show rvb1 a0 9 = some sA from Eq.trans (show rvb1 a0 9 = rv a0 9 from hkr9) hsA) (xl4.ty ty53) (fun gf4 hA1 ty64 => ?_)
            refine hv2 (DFN.mk (hy := iv a0 13) wkob1 hsA (by have q := hK9; rw [show k = n by omega] at q; exact q) (by omega) (SAM.frm hW tsA Fb1 rfl rfl rfl rfl) hA1 gf2 (by omega) (QT.of hW hS X1 F1 rfl rfl rfl rfl rfl) gaxf3 gbxf3 W2 ty23 fl3 rfl rfl gf4) (show 0 ≤ ivh4 (sk 10) 2 ∧ ivh4 (sk 10) 2 ≤ 4001 from W4.int ty64 2) (fun hD9 ri4 => ?_)
            refine c_istore (lv2 := [(5, .int (iI f4)), (4, .ref ob1), (0, .ref a0), (1, .int (iI i)), (2, .int (iI x)), (3, .int (iI n))]) C dX11_read_98 (by decide) rfl ?_
            refine c_aload_n (j := 2) (x := a0) C dX11_read_100 rfl ?_
            have ty65 := xl4.ty ty43
            obtain ⟨rb3, rq3, trb3⟩ := W4.ref ty65 2 rfl rfl rfl
            have erb3 := W4.sk trb3 (by decide) rfl
            subst erb3
            refine c_getr (k := 2) C ck_12 dX11_read_101 w2_46 (by decide) ty65 rfl rfl (by decide) rfl rq3 ?_
            refine c_st (st2 := [.ref (sk 4)]) rfl ?_
            refine hv2 (xl4.ty ty47) (Phi.le W4 sk3) (fun ty66 pl4 => ?_)
            refine d_callV (As := []) (rest := []) C hM (C_clear_4 (a0 := (sk 4)) W4 sk3 ty66  ) dX11_read_104 kV_X11_164 rfl ty66 rfl rfl (by decide) ck_2 rfl (Nat.le_of_ble_eq_true rfl) ⟨(Nat.le_of_ble_eq_true rfl), (Nat.le_of_ble_eq_true rfl)⟩ hph pl4 (show 0 + 0 = 0 from rfl) (by decide) (fun rh5 Lh5 clh5 lnh5 ivh5 rvh5 h5 => ?_)
            obtain ⟨rfl, rfl, rfl, rfl, rfl, fl5, W5, exf5⟩ := h5
            refine hv2 (F3.call X3 fl5 rfl) (MRK.call mr3 W4 sk3 XT.refl fl5 rfl rfl) (fun F4 mr4 => ?_)
            refine c_st (st2 := []) rfl ?_
            refine hv2 (show 0 ≤ ivh5 (sk 4) 2 ∧ ivh5 (sk 4) 2 ≤ 4000 from W5.int ty66 2) (show ivh5 (sk 4) 2 = 0 from exf5) (fun ri5 gf5 => ?_)
            refine c_iload (j := 0) C dX11_read_107 rfl ?_
            refine c_if_ne (tgt := 126) C ⟨by omega, by omega⟩ dX11_read_109 (by decide) (fun c3 => ?_) (fun c3 => ?_)
            · refine c_aload_n (j := 2) (x := a0) C dX11_read_126 rfl ?_
              have re2 : rvh4 a0 7 = rvh3 a0 7 := (fl4.r ty43 rfl 7)
              rw [re1] at re2
              refine c_getr (k := 7) C ck_12 dX11_read_127 w2_51 (by decide) ty65 rfl rfl (by decide) rfl re2 ?_
              refine c_st (st2 := [.ref (sk 16)]) rfl ?_
              have ty67 := xl4.ty ty44
              obtain ⟨rb4, rq4, trb4⟩ := W5.ref ty67 6 rfl rfl rfl
              have erb4 := W5.sk trb4 (by decide) rfl
              subst erb4
              refine c_getr (k := 6) C ck_4 dX11_read_130 w1_201 (by decide) ty67 rfl rfl (by decide) rfl rq4 ?_
              refine c_st (st2 := [.ref (sk 10)]) rfl ?_
              refine hv2 (show 0 ≤ ivh5 (sk 10) 2 ∧ ivh5 (sk 10) 2 ≤ 4001 from W5.int ty64 2) (show ivh5 (sk 10) 2 = ivh4 (sk 10) 2 from fl5.i ty64 rfl 2) (fun ri6 ie4 => ?_)
              refine c_get (k := 2) C ck_2 dX11_read_133 w1_44 (by decide) ty64 rfl rfl (by decide) rfl ?_
              refine c_sipush (z := 4000) C dX11_read_136 (by decide) ?_
              refine c_icmp_le (tgt := 149) C (r32_c (lo := 0) (hi := 4001) ri6.1 ri6.2 (by decide) (by decide)) ⟨by decide, by decide⟩ dX11_read_139 (by decide) (fun c4 => ?_) (fun c4 => ?_)
              · refine c_aload_n (j := 2) (x := a0) C dX11_read_149 rfl ?_
                refine c_getr (k := 2) C ck_12 dX11_read_150 w2_46 (by decide) ty65 rfl rfl (by decide) rfl rq3 ?_
                refine c_st (st2 := [.ref (sk 4)]) rfl ?_
                refine c_aload_n (j := 2) (x := a0) C dX11_read_153 rfl ?_
                refine c_getr (k := 7) C ck_12 dX11_read_154 w2_51 (by decide) ty65 rfl rfl (by decide) rfl re2 ?_
                refine c_st (st2 := [.ref (sk 16), .ref (sk 4)]) rfl ?_
                refine c_getr (k := 6) C ck_4 dX11_read_157 w1_201 (by decide) ty67 rfl rfl (by decide) rfl rq4 ?_
                refine c_st (st2 := [.ref (sk 10), .ref (sk 4)]) rfl ?_
                refine d_callV (As := [.ref (sk 10)]) (rest := []) C hM (G_addAll (a0 := (sk 4)) (a1 := (sk 10)) W5 sk3 ty66 ty64  ) dX11_read_160 kV_X11_227 rfl ty66 rfl rfl (by decide) ck_2 rfl (Nat.le_of_ble_eq_true rfl) ⟨(Nat.le_of_ble_eq_true rfl), (Nat.le_of_ble_eq_true rfl)⟩ hph pl4 (show 0 + 0 = 0 from rfl) (by decide) (fun rh6 Lh6 clh6 lnh6 ivh6 rvh6 h6 => ?_)
                obtain ⟨rfl, xl6, fl6, W6, exf6⟩ := h6
                refine hv21 (F4.call X3 fl6 rfl) (MRK.call mr4 W5 sk3 xl6 fl6 rfl rfl) (xl4.ty ty45) (xl4.ty ty46) (xl4.ty ty48) (xl4.ty ty49) (xl4.ty ty50) (xl4.ty ty51) (xl4.ty ty52) (xl4.ty ty54) (xl4.ty ty55) (xl4.ty ty56) (xl4.ty ty57) (xl4.ty ty58) (xl4.ty ty59) (xl4.ty ty60) (xl4.ty ty61) (xl4.ty ty62) (xl4.ty ty63) (X3.trans xl6) (xl6.skl sk3) (fun F5 mr5 ty68 ty69 ty70 ty71 ty72 ty73 ty74 ty75 ty76 ty77 ty78 ty79 ty80 ty81 ty82 ty83 ty84 X4 sk4 => ?_)
                refine c_st (st2 := []) rfl ?_
                have gf6 : AAQ ivh5 rvh4 ivh6 rvh6 (sk 4) (sk 10) := exf6
                refine c_aload_n (j := 2) (x := a0) C dX11_read_163 rfl ?_
                refine c_aload_n (j := 2) (x := a0) C dX11_read_164 rfl ?_
                refine hv2 (xl6.ty ty65) (show rvh6 a0 2 = rvh4 a0 2 from (fl6.r ty65 rfl 2)) (fun ty85 re3 => ?_)
                rw [rq3] at re3
                refine c_getr (k := 2) C ck_12 dX11_read_165 w2_46 (by decide) ty85 rfl rfl (by decide) rfl re3 ?_
                refine c_st (st2 := [.ref (sk 4), .ref a0]) rfl ?_
                have ty86 := xl6.ty ty66
                have ri7 : 0 ≤ ivh6 (sk 4) 2 ∧ ivh6 (sk 4) 2 ≤ 4000 := W6.int ty86 2
                refine c_get (k := 2) C ck_2 dX11_read_168 w1_44 (by decide) ty86 rfl rfl (by decide) rfl ?_
                have pl5 := Phi.le W6 sk4
                refine d_callV (As := [.int (iI (ivh6 (sk 4) 2))]) (rest := []) C hM (C_done (a0 := a0) (x := ivh6 (sk 4) 2) W6 sk4 ty85 (by omega) ) dX11_read_171 kV_X11_109 rfl ty85 rfl rfl (by decide) ck_12 rfl (Nat.le_of_ble_eq_true rfl) ⟨(Nat.le_of_ble_eq_true rfl), (Nat.le_of_ble_eq_true rfl)⟩ hph pl5 (show 0 + 0 = 0 from rfl) (by decide) (fun rh7 Lh7 clh7 lnh7 ivh7 rvh7 h7 => ?_)
                obtain ⟨f7, rfl, rfl, rfl, rfl, rfl, fl7, W7, rgf7, exf7, kp11f7, kp12f7, kp13f7, kp14f7, kp15f7, kp16f7⟩ := h7
                refine hv38 (show 1 ≤ ivh6 a0 11 ∧ ivh6 a0 11 ≤ 100 from W6.int ty85 11) (show ivh6 a0 11 = ivh5 a0 11 from fl6.i ty65 rfl 11) (show ivh5 a0 11 = ivh4 a0 11 from fl5.i ty65 rfl 11) (show ivh4 a0 11 = ivh3 a0 11 from fl4.i ty43 rfl 11) (show ivh3 a0 11 = ivh2 a0 11 from fl3.i ty22 rfl 11) (show ivh2 a0 11 = ivb1 a0 11 from fl2.i ty1 rfl 11) (show 1 ≤ ivh6 a0 12 ∧ ivh6 a0 12 ≤ 50 from W6.int ty85 12) (show ivh6 a0 12 = ivh5 a0 12 from fl6.i ty65 rfl 12) (show ivh5 a0 12 = ivh4 a0 12 from fl5.i ty65 rfl 12) (show ivh4 a0 12 = ivh3 a0 12 from fl4.i ty43 rfl 12) (show ivh3 a0 12 = ivh2 a0 12 from fl3.i ty22 rfl 12) (show ivh2 a0 12 = ivb1 a0 12 from fl2.i ty1 rfl 12) (show (-2147483648) ≤ ivh6 a0 13 ∧ ivh6 a0 13 ≤ 2147483647 from W6.int ty85 13) (show ivh6 a0 13 = ivh5 a0 13 from fl6.i ty65 rfl 13) (show ivh5 a0 13 = ivh4 a0 13 from fl5.i ty65 rfl 13) (show ivh4 a0 13 = ivh3 a0 13 from fl4.i ty43 rfl 13) (show ivh3 a0 13 = ivh2 a0 13 from fl3.i ty22 rfl 13) (show ivh2 a0 13 = ivb1 a0 13 from fl2.i ty1 rfl 13) (show (-2147483648) ≤ ivh6 a0 14 ∧ ivh6 a0 14 ≤ 2147483647 from W6.int ty85 14) (show ivh6 a0 14 = ivh5 a0 14 from fl6.i ty65 rfl 14) (show ivh5 a0 14 = ivh4 a0 14 from fl5.i ty65 rfl 14) (show ivh4 a0 14 = ivh3 a0 14 from fl4.i ty43 rfl 14) (show ivh3 a0 14 = ivh2 a0 14 from fl3.i ty22 rfl 14) (show ivh2 a0 14 = ivb1 a0 14 from fl2.i ty1 rfl 14) (show (-2147483648) ≤ ivh6 a0 15 ∧ ivh6 a0 15 ≤ 2147483647 from W6.int ty85 15) (show ivh6 a0 15 = ivh5 a0 15 from fl6.i ty65 rfl 15) (show ivh5 a0 15 = ivh4 a0 15 from fl5.i ty65 rfl 15) (show ivh4 a0 15 = ivh3 a0 15 from fl4.i ty43 rfl 15) (show ivh3 a0 15 = ivh2 a0 15 from fl3.i ty22 rfl 15) (show ivh2 a0 15 = ivb1 a0 15 from fl2.i ty1 rfl 15) (show (-2147483648) ≤ ivh6 a0 16 ∧ ivh6 a0 16 ≤ 2147483647 from W6.int ty85 16) (show ivh6 a0 16 = ivh5 a0 16 from fl6.i ty65 rfl 16) (show ivh5 a0 16 = ivh4 a0 16 from fl5.i ty65 rfl 16) (show ivh4 a0 16 = ivh3 a0 16 from fl4.i ty43 rfl 16) (show ivh3 a0 16 = ivh2 a0 16 from fl3.i ty22 rfl 16) (show ivh2 a0 16 = ivb1 a0 16 from fl2.i ty1 rfl 16) (F5.call X4 fl7 rfl) (MRK.call mr5 W6 sk4 XT.refl fl7 rfl rfl) (fun ri8 ie6 ie7 ie8 ie9 ie10 ri9 ie12 ie13 ie14 ie15 ie16 ri10 ie18 ie19 ie20 ie21 ie22 ri11 ie23 ie24 ie25 ie26 ie27 ri12 ie29 ie30 ie31 ie32 ie33 ri13 ie35 ie36 ie37 ie38 ie39 F6 mr6 => ?_)
                refine c_st (st2 := [.int (iI f7)]) rfl ?_
                refine hv17 (show ivh7 a0 11 = ivh6 a0 11 from kp11f7) (show ivh7 a0 12 = ivh6 a0 12 from kp12f7) (show ivh7 a0 13 = ivh6 a0 13 from kp13f7) (show ivh7 a0 14 = ivh6 a0 14 from kp14f7) (show ivh7 a0 15 = ivh6 a0 15 from kp15f7) (show ivh7 a0 16 = ivh6 a0 16 from kp16f7) (show f7 = (ivh6 (sk 4) 2) from exf7) (show 1 ≤ ivh7 a0 11 ∧ ivh7 a0 11 ≤ 100 from W7.int ty85 11) (show 1 ≤ ivh7 a0 12 ∧ ivh7 a0 12 ≤ 50 from W7.int ty85 12) (show (-2147483648) ≤ ivh7 a0 13 ∧ ivh7 a0 13 ≤ 2147483647 from W7.int ty85 13) (show (-2147483648) ≤ ivh7 a0 14 ∧ ivh7 a0 14 ≤ 2147483647 from W7.int ty85 14) (show (-2147483648) ≤ ivh7 a0 15 ∧ ivh7 a0 15 ≤ 2147483647 from W7.int ty85 15) (show (-2147483648) ≤ ivh7 a0 16 ∧ ivh7 a0 16 ≤ 2147483647 from W7.int ty85 16) (show 0 ≤ ivh7 (sk 4) 2 ∧ ivh7 (sk 4) 2 ≤ 4000 from W7.int ty86 2) (show ivh7 (sk 4) 2 = ivh6 (sk 4) 2 from fl7.i ty86 rfl 2) (xl6.ty ty64) (show ivh6 (sk 10) 2 = ivh5 (sk 10) 2 from fl6.i ty64 rfl 2) (fun gk11f7 gk12f7 gk13f7 gk14f7 gk15f7 gk16f7 gf7 ri14 ri15 ri16 ri17 ri18 ri19 ri20 ie47 ty87 ie49 => ?_)
                refine hv2 (show 0 ≤ ivh7 (sk 10) 2 ∧ ivh7 (sk 10) 2 ≤ 4001 from W7.int ty87 2) (show ivh7 (sk 10) 2 = ivh6 (sk 10) 2 from fl7.i ty87 rfl 2) (fun ri21 ie48 => ?_)
                exact c_iret C dX11_read_174 rfl (by decide) (rom0 hph pl5 (by decide)) ⟨f7, rfl, X4, F6, W7, ⟨by omega, by omega⟩, trivial, (gk11f7.trans (ie6.trans (ie7.trans (ie8.trans (ie9.trans (ie10.trans hkp11)))))), (gk12f7.trans (ie12.trans (ie13.trans (ie14.trans (ie15.trans (ie16.trans hkp12)))))), (gk13f7.trans (ie18.trans (ie19.trans (ie20.trans (ie21.trans (ie22.trans hkp13)))))), (gk14f7.trans (ie23.trans (ie24.trans (ie25.trans (ie26.trans (ie27.trans hkp14)))))), (gk15f7.trans (ie29.trans (ie30.trans (ie31.trans (ie32.trans (ie33.trans hkp15)))))), (gk16f7.trans (ie35.trans (ie36.trans (ie37.trans (ie38.trans (ie39.trans hkp16)))))), (PRD.ok hD9 hsA (by omega) (by omega) (fun bs hb => (BYT.fr hb W4 ty64 fl5 rfl rfl)) (by omega) gf6 (by omega) (by omega) (fun ss hc => (CT.fr hc W6 ty86 fl7 rfl rfl rfl rfl rfl))), (Eq.trans (show rvh6 a0 9 = rvh4 a0 9 from (fl6.r ty65 rfl 9)) (Eq.trans (show rvh4 a0 9 = rvh3 a0 9 from (fl4.r ty43 rfl 9)) (Eq.trans (show rvh3 a0 9 = rvh2 a0 9 from (fl3.r ty22 rfl 9)) (Eq.trans (show rvh2 a0 9 = rvb1 a0 9 from (fl2.r ty1 rfl 9)) (show rvb1 a0 9 = rv a0 9 from hkr9))))), (Eq.trans (show rvh6 a0 10 = rvh4 a0 10 from (fl6.r ty65 rfl 10)) (Eq.trans (show rvh4 a0 10 = rvh3 a0 10 from (fl4.r ty43 rfl 10)) (Eq.trans (show rvh3 a0 10 = rvh2 a0 10 from (fl3.r ty22 rfl 10)) (Eq.trans (show rvh2 a0 10 = rvb1 a0 10 from (fl2.r ty1 rfl 10)) (show rvb1 a0 10 = rv a0 10 from hkr10)))))⟩
              · refine c_aload_n (j := 2) (x := a0) C dX11_read_142 rfl ?_
                refine c_bipush (z := 6) C dX11_read_143 (by decide) ?_
                refine d_callV (As := [.int (iI 6)]) (rest := []) C hM (C_refuse (a0 := a0) (x := 6) W5 sk3 ty65 ⟨by decide, by decide⟩ ) dX11_read_145 kV_X11_102 rfl ty65 rfl rfl (by decide) ck_12 rfl (Nat.le_of_ble_eq_true rfl) ⟨(Nat.le_of_ble_eq_true rfl), (Nat.le_of_ble_eq_true rfl)⟩ hph pl4 (show 0 + 0 = 0 from rfl) (by decide) (fun rh8 Lh8 clh8 lnh8 ivh8 rvh8 h8 => ?_)
                obtain ⟨f8, rfl, rfl, rfl, rfl, rfl, fl8, W8, rgf8, exf8, kp11f8, kp12f8, kp13f8, kp14f8, kp15f8, kp16f8⟩ := h8
                refine hv32 (show 1 ≤ ivh5 a0 11 ∧ ivh5 a0 11 ≤ 100 from W5.int ty65 11) (show ivh5 a0 11 = ivh4 a0 11 from fl5.i ty65 rfl 11) (show ivh4 a0 11 = ivh3 a0 11 from fl4.i ty43 rfl 11) (show ivh3 a0 11 = ivh2 a0 11 from fl3.i ty22 rfl 11) (show ivh2 a0 11 = ivb1 a0 11 from fl2.i ty1 rfl 11) (show 1 ≤ ivh5 a0 12 ∧ ivh5 a0 12 ≤ 50 from W5.int ty65 12) (show ivh5 a0 12 = ivh4 a0 12 from fl5.i ty65 rfl 12) (show ivh4 a0 12 = ivh3 a0 12 from fl4.i ty43 rfl 12) (show ivh3 a0 12 = ivh2 a0 12 from fl3.i ty22 rfl 12) (show ivh2 a0 12 = ivb1 a0 12 from fl2.i ty1 rfl 12) (show (-2147483648) ≤ ivh5 a0 13 ∧ ivh5 a0 13 ≤ 2147483647 from W5.int ty65 13) (show ivh5 a0 13 = ivh4 a0 13 from fl5.i ty65 rfl 13) (show ivh4 a0 13 = ivh3 a0 13 from fl4.i ty43 rfl 13) (show ivh3 a0 13 = ivh2 a0 13 from fl3.i ty22 rfl 13) (show ivh2 a0 13 = ivb1 a0 13 from fl2.i ty1 rfl 13) (show (-2147483648) ≤ ivh5 a0 14 ∧ ivh5 a0 14 ≤ 2147483647 from W5.int ty65 14) (show ivh5 a0 14 = ivh4 a0 14 from fl5.i ty65 rfl 14) (show ivh4 a0 14 = ivh3 a0 14 from fl4.i ty43 rfl 14) (show ivh3 a0 14 = ivh2 a0 14 from fl3.i ty22 rfl 14) (show ivh2 a0 14 = ivb1 a0 14 from fl2.i ty1 rfl 14) (show (-2147483648) ≤ ivh5 a0 15 ∧ ivh5 a0 15 ≤ 2147483647 from W5.int ty65 15) (show ivh5 a0 15 = ivh4 a0 15 from fl5.i ty65 rfl 15) (show ivh4 a0 15 = ivh3 a0 15 from fl4.i ty43 rfl 15) (show ivh3 a0 15 = ivh2 a0 15 from fl3.i ty22 rfl 15) (show ivh2 a0 15 = ivb1 a0 15 from fl2.i ty1 rfl 15) (show (-2147483648) ≤ ivh5 a0 16 ∧ ivh5 a0 16 ≤ 2147483647 from W5.int ty65 16) (show ivh5 a0 16 = ivh4 a0 16 from fl5.i ty65 rfl 16) (show ivh4 a0 16 = ivh3 a0 16 from fl4.i ty43 rfl 16) (show ivh3 a0 16 = ivh2 a0 16 from fl3.i ty22 rfl 16) (show ivh2 a0 16 = ivb1 a0 16 from fl2.i ty1 rfl 16) (F4.call X3 fl8 rfl) (MRK.call mr4 W5 sk3 XT.refl fl8 rfl rfl) (fun ri22 ie50 ie51 ie52 ie53 ri23 ie55 ie56 ie57 ie58 ri24 ie60 ie61 ie62 ie63 ri25 ie64 ie65 ie66 ie67 ri26 ie69 ie70 ie71 ie72 ri27 ie74 ie75 ie76 ie77 F7 mr7 => ?_)
                refine c_st (st2 := [.int (iI f8)]) rfl ?_
                refine hv17 (show ivh8 a0 11 = ivh5 a0 11 from kp11f8) (show ivh8 a0 12 = ivh5 a0 12 from kp12f8) (show ivh8 a0 13 = ivh5 a0 13 from kp13f8) (show ivh8 a0 14 = ivh5 a0 14 from kp14f8) (show ivh8 a0 15 = ivh5 a0 15 from kp15f8) (show ivh8 a0 16 = ivh5 a0 16 from kp16f8) (show f8 = -1 from exf8) (show 1 ≤ ivh8 a0 11 ∧ ivh8 a0 11 ≤ 100 from W8.int ty65 11) (show 1 ≤ ivh8 a0 12 ∧ ivh8 a0 12 ≤ 50 from W8.int ty65 12) (show (-2147483648) ≤ ivh8 a0 13 ∧ ivh8 a0 13 ≤ 2147483647 from W8.int ty65 13) (show (-2147483648) ≤ ivh8 a0 14 ∧ ivh8 a0 14 ≤ 2147483647 from W8.int ty65 14) (show (-2147483648) ≤ ivh8 a0 15 ∧ ivh8 a0 15 ≤ 2147483647 from W8.int ty65 15) (show (-2147483648) ≤ ivh8 a0 16 ∧ ivh8 a0 16 ≤ 2147483647 from W8.int ty65 16) (show 0 ≤ ivh8 (sk 4) 2 ∧ ivh8 (sk 4) 2 ≤ 4000 from W8.int ty66 2) (show ivh8 (sk 4) 2 = ivh5 (sk 4) 2 from fl8.i ty66 rfl 2) (show 0 ≤ ivh8 (sk 10) 2 ∧ ivh8 (sk 10) 2 ≤ 4001 from W8.int ty64 2) (show ivh8 (sk 10) 2 = ivh5 (sk 10) 2 from fl8.i ty64 rfl 2) (fun gk11f8 gk12f8 gk13f8 gk14f8 gk15f8 gk16f8 gf8 ri28 ri29 ri30 ri31 ri32 ri33 ri34 ie85 ri35 ie86 => ?_)
                exact c_iret C dX11_read_148 rfl (by decide) (rom0 hph pl4 (by decide)) ⟨f8, rfl, X3, F7, W8, ⟨by omega, by omega⟩, trivial, (gk11f8.trans (ie50.trans (ie51.trans (ie52.trans (ie53.trans hkp11))))), (gk12f8.trans (ie55.trans (ie56.trans (ie57.trans (ie58.trans hkp12))))), (gk13f8.trans (ie60.trans (ie61.trans (ie62.trans (ie63.trans hkp13))))), (gk14f8.trans (ie64.trans (ie65.trans (ie66.trans (ie67.trans hkp14))))), (gk15f8.trans (ie69.trans (ie70.trans (ie71.trans (ie72.trans hkp15))))), (gk16f8.trans (ie74.trans (ie75.trans (ie76.trans (ie77.trans hkp16))))), (PRD.many hD9 hsA (by omega) (by omega) (by omega) (by omega)), (Eq.trans (show rvh4 a0 9 = rvh3 a0 9 from (fl4.r ty43 rfl 9)) (Eq.trans (show rvh3 a0 9 = rvh2 a0 9 from (fl3.r ty22 rfl 9)) (Eq.trans (show rvh2 a0 9 = rvb1 a0 9 from (fl2.r ty1 rfl 9)) (show rvb1 a0 9 = rv a0 9 from hkr9)))), (Eq.trans (show rvh4 a0 10 = rvh3 a0 10 from (fl4.r ty43 rfl 10)) (Eq.trans (show rvh3 a0 10 = rvh2 a0 10 from (fl3.r ty22 rfl 10)) (Eq.trans (show rvh2 a0 10 = rvb1 a0 10 from (fl2.r ty1 rfl 10)) (show rvb1 a0 10 = rv a0 10 from hkr10))))⟩
            · refine c_aload_n (j := 2) (x := a0) C dX11_read_112 rfl ?_
              refine c_bipush (z := 9) C dX11_read_113 (by decide) ?_
              refine c_aload_n (j := 2) (x := a0) C dX11_read_115 rfl ?_
              have re4 : rvh4 a0 7 = rvh3 a0 7 := (fl4.r ty43 rfl 7)
              rw [re1] at re4
              refine c_getr (k := 7) C ck_12 dX11_read_116 w2_51 (by decide) ty65 rfl rfl (by decide) rfl re4 ?_
              refine c_st (st2 := [.ref (sk 16), .int (iI 9), .ref a0]) rfl ?_
              have ty88 := xl4.ty ty44
              refine d_callV (As := []) (rest := [.int (iI 9), .ref a0]) C hM (C_placeOfWrong (a0 := (sk 16)) W5 sk3 ty88  ) dX11_read_119 kV_X11_338 rfl ty88 rfl rfl (by decide) ck_4 rfl (Nat.le_of_ble_eq_true rfl) ⟨(Nat.le_of_ble_eq_true rfl), (Nat.le_of_ble_eq_true rfl)⟩ hph pl4 (show 0 + 0 = 0 from rfl) (by decide) (fun rh9 Lh9 clh9 lnh9 ivh9 rvh9 h9 => ?_)
              obtain ⟨f9, rfl, rfl, rfl, rfl, rfl, rfl, rgf9, exf9⟩ := h9
              refine c_st (st2 := [.int (iI f9), .int (iI 9), .ref a0]) rfl ?_
              refine d_callV (As := [.int (iI 9), .int (iI f9)]) (rest := []) C hM (C_refuseAt (a0 := a0) (x := 9) (y := f9) W5 sk3 ty65 ⟨by decide, by decide⟩ (by omega) ) dX11_read_122 kV_X11_266 rfl ty65 rfl rfl (by decide) ck_12 rfl (Nat.le_of_ble_eq_true rfl) ⟨(Nat.le_of_ble_eq_true rfl), (Nat.le_of_ble_eq_true rfl)⟩ hph pl4 (show 0 + 0 = 0 from rfl) (by decide) (fun rh10 Lh10 clh10 lnh10 ivh10 rvh10 h10 => ?_)
              obtain ⟨f10, rfl, rfl, rfl, rfl, rfl, fl10, W10, rgf10, exf10, kp11f10, kp12f10, kp13f10, kp14f10, kp15f10, kp16f10⟩ := h10
              refine hv32 (show 1 ≤ ivh5 a0 11 ∧ ivh5 a0 11 ≤ 100 from W5.int ty65 11) (show ivh5 a0 11 = ivh4 a0 11 from fl5.i ty65 rfl 11) (show ivh4 a0 11 = ivh3 a0 11 from fl4.i ty43 rfl 11) (show ivh3 a0 11 = ivh2 a0 11 from fl3.i ty22 rfl 11) (show ivh2 a0 11 = ivb1 a0 11 from fl2.i ty1 rfl 11) (show 1 ≤ ivh5 a0 12 ∧ ivh5 a0 12 ≤ 50 from W5.int ty65 12) (show ivh5 a0 12 = ivh4 a0 12 from fl5.i ty65 rfl 12) (show ivh4 a0 12 = ivh3 a0 12 from fl4.i ty43 rfl 12) (show ivh3 a0 12 = ivh2 a0 12 from fl3.i ty22 rfl 12) (show ivh2 a0 12 = ivb1 a0 12 from fl2.i ty1 rfl 12) (show (-2147483648) ≤ ivh5 a0 13 ∧ ivh5 a0 13 ≤ 2147483647 from W5.int ty65 13) (show ivh5 a0 13 = ivh4 a0 13 from fl5.i ty65 rfl 13) (show ivh4 a0 13 = ivh3 a0 13 from fl4.i ty43 rfl 13) (show ivh3 a0 13 = ivh2 a0 13 from fl3.i ty22 rfl 13) (show ivh2 a0 13 = ivb1 a0 13 from fl2.i ty1 rfl 13) (show (-2147483648) ≤ ivh5 a0 14 ∧ ivh5 a0 14 ≤ 2147483647 from W5.int ty65 14) (show ivh5 a0 14 = ivh4 a0 14 from fl5.i ty65 rfl 14) (show ivh4 a0 14 = ivh3 a0 14 from fl4.i ty43 rfl 14) (show ivh3 a0 14 = ivh2 a0 14 from fl3.i ty22 rfl 14) (show ivh2 a0 14 = ivb1 a0 14 from fl2.i ty1 rfl 14) (show (-2147483648) ≤ ivh5 a0 15 ∧ ivh5 a0 15 ≤ 2147483647 from W5.int ty65 15) (show ivh5 a0 15 = ivh4 a0 15 from fl5.i ty65 rfl 15) (show ivh4 a0 15 = ivh3 a0 15 from fl4.i ty43 rfl 15) (show ivh3 a0 15 = ivh2 a0 15 from fl3.i ty22 rfl 15) (show ivh2 a0 15 = ivb1 a0 15 from fl2.i ty1 rfl 15) (show (-2147483648) ≤ ivh5 a0 16 ∧ ivh5 a0 16 ≤ 2147483647 from W5.int ty65 16) (show ivh5 a0 16 = ivh4 a0 16 from fl5.i ty65 rfl 16) (show ivh4 a0 16 = ivh3 a0 16 from fl4.i ty43 rfl 16) (show ivh3 a0 16 = ivh2 a0 16 from fl3.i ty22 rfl 16) (show ivh2 a0 16 = ivb1 a0 16 from fl2.i ty1 rfl 16) (F4.call X3 fl10 rfl) (MRK.call mr4 W5 sk3 XT.refl fl10 rfl rfl) (fun ri36 ie87 ie88 ie89 ie90 ri37 ie92 ie93 ie94 ie95 ri38 ie97 ie98 ie99 ie100 ri39 ie101 ie102 ie103 ie104 ri40 ie106 ie107 ie108 ie109 ri41 ie111 ie112 ie113 ie114 F8 mr8 => ?_)
              refine c_st (st2 := [.int (iI f10)]) rfl ?_
              refine hv15 (show ivh10 a0 11 = ivh5 a0 11 from kp11f10) (show ivh10 a0 12 = ivh5 a0 12 from kp12f10) (show ivh10 a0 13 = ivh5 a0 13 from kp13f10) (show ivh10 a0 14 = ivh5 a0 14 from kp14f10) (show ivh10 a0 15 = ivh5 a0 15 from kp15f10) (show ivh10 a0 16 = ivh5 a0 16 from kp16f10) (show f10 = -1 from exf10) (show 1 ≤ ivh10 a0 11 ∧ ivh10 a0 11 ≤ 100 from W10.int ty65 11) (show 1 ≤ ivh10 a0 12 ∧ ivh10 a0 12 ≤ 50 from W10.int ty65 12) (show (-2147483648) ≤ ivh10 a0 13 ∧ ivh10 a0 13 ≤ 2147483647 from W10.int ty65 13) (show (-2147483648) ≤ ivh10 a0 14 ∧ ivh10 a0 14 ≤ 2147483647 from W10.int ty65 14) (show (-2147483648) ≤ ivh10 a0 15 ∧ ivh10 a0 15 ≤ 2147483647 from W10.int ty65 15) (show (-2147483648) ≤ ivh10 a0 16 ∧ ivh10 a0 16 ≤ 2147483647 from W10.int ty65 16) (show 0 ≤ ivh10 (sk 4) 2 ∧ ivh10 (sk 4) 2 ≤ 4000 from W10.int ty66 2) (show ivh10 (sk 4) 2 = ivh5 (sk 4) 2 from fl10.i ty66 rfl 2) (fun gk11f10 gk12f10 gk13f10 gk14f10 gk15f10 gk16f10 gf10 ri42 ri43 ri44 ri45 ri46 ri47 ri48 ie122 => ?_)
              exact c_iret C dX11_read_125 rfl (by decide) (rom0 hph pl4 (by decide)) ⟨f10, rfl, X3, F8, W10, ⟨by omega, by omega⟩, trivial, (gk11f10.trans (ie87.trans (ie88.trans (ie89.trans (ie90.trans hkp11))))), (gk12f10.trans (ie92.trans (ie93.trans (ie94.trans (ie95.trans hkp12))))), (gk13f10.trans (ie97.trans (ie98.trans (ie99.trans (ie100.trans hkp13))))), (gk14f10.trans (ie101.trans (ie102.trans (ie103.trans (ie104.trans hkp14))))), (gk15f10.trans (ie106.trans (ie107.trans (ie108.trans (ie109.trans hkp15))))), (gk16f10.trans (ie111.trans (ie112.trans (ie113.trans (ie114.trans hkp16))))), (PRD.wrong hD9 hsA (by omega) (by omega) (by omega)), (Eq.trans (show rvh4 a0 9 = rvh3 a0 9 from (fl4.r ty43 rfl 9)) (Eq.trans (show rvh3 a0 9 = rvh2 a0 9 from (fl3.r ty22 rfl 9)) (Eq.trans (show rvh2 a0 9 = rvb1 a0 9 from (fl2.r ty1 rfl 9)) (show rvb1 a0 9 = rv a0 9 from hkr9)))), (Eq.trans (show rvh4 a0 10 = rvh3 a0 10 from (fl4.r ty43 rfl 10)) (Eq.trans (show rvh3 a0 10 = rvh2 a0 10 from (fl3.r ty22 rfl 10)) (Eq.trans (show rvh2 a0 10 = rvb1 a0 10 from (fl2.r ty1 rfl 10)) (show rvb1 a0 10 = rv a0 10 from hkr10))))⟩
          · refine c_aload_n (j := 2) (x := a0) C dX11_read_40 rfl ?_
            have ty89 := Xb1.ty t_a0
            refine c_getr (k := 9) C ck_12 dX11_read_41 w2_53 (by decide) ty89 rfl rfl (by decide) rfl (hkr9.trans hsA) ?_
            refine c_st (st2 := [.ref sA]) rfl ?_
            refine c_iload_n (j := 4) C dX11_read_44 rfl ?_
            refine c_iload (j := 0) C dX11_read_45 rfl ?_
            refine c_iadd C dX11_read_47 ?_
            obtain ⟨zz1, hzz1, ezz1⟩ := iI_of (iI (x + k))
            refine c_st (st2 := [.int (iI zz1), .ref sA]) (by rw [ezz1]) ?_
            refine hv2 (Xb1.ty tsA) (Phi.le Wb1 skb1) (fun ty90 pl6 => ?_)
            refine d_callV (As := [.int (iI zz1)]) (rest := []) C hM (G_present (a0 := sA) (i := zz1) Wb1 skb1 ty90 (by omega) ) dX11_read_48 kV_X11_288 rfl ty90 rfl rfl (by decide) ck_8 rfl (Nat.le_of_ble_eq_true rfl) ⟨(Nat.le_of_ble_eq_true rfl), (Nat.le_of_ble_eq_true rfl)⟩ hph pl6 (show 0 + 0 = 0 from rfl) (by decide) (fun rh11 Lh11 clh11 lnh11 ivh11 rvh11 h11 => ?_)
            obtain ⟨f11, rfl, rfl, rfl, rfl, rfl, rfl, rgf11, exf11⟩ := h11
            refine c_st (st2 := [(va_rf f11)]) rfl ?_
            have gf11 : PRX ivb1 rvb1 sA zz1 f11 := exf11
            refine c_ifnonnull (r := f11) (tgt := 70) C dX11_read_51 (by decide) (fun ob2 oq2 => ?_) (fun oq2 => ?_)
            · subst oq2
              have tob2 := rgf11 ob2 rfl
              refine c_lv (lv2 := [(5, .int (iI k)), (4, .ref ob1), (0, .ref a0), (1, .int (iI i)), (2, .int (iI x)), (3, .int (iI n))]) [0, 1, 2, 3, 4, 5] rfl ?_
              refine c_st (st2 := []) rfl ?_
              refine c_iinc (z := k) (j := 0) (lv2 := [(5, .int (iI (k + 1))), (4, .ref ob1), (0, .ref a0), (1, .int (iI i)), (2, .int (iI x)), (3, .int (iI n))]) C dX11_read_70 rfl (by decide) rfl ?_
              refine c_goto (tgt := 34) C dX11_read_73 (by decide) ?_
              refine hv7 (Xb1.ty tsk4) (show 1 ≤ ivb1 a0 11 ∧ ivb1 a0 11 ≤ 100 from Wb1.int ty89 11) (show 1 ≤ ivb1 a0 12 ∧ ivb1 a0 12 ≤ 50 from Wb1.int ty89 12) (show (-2147483648) ≤ ivb1 a0 13 ∧ ivb1 a0 13 ≤ 2147483647 from Wb1.int ty89 13) (show (-2147483648) ≤ ivb1 a0 14 ∧ ivb1 a0 14 ≤ 2147483647 from Wb1.int ty89 14) (show (-2147483648) ≤ ivb1 a0 15 ∧ ivb1 a0 15 ≤ 2147483647 from Wb1.int ty89 15) (show (-2147483648) ≤ ivb1 a0 16 ∧ ivb1 a0 16 ≤ 2147483647 from Wb1.int ty89 16) (fun ty91 ri50 ri51 ri52 ri53 ri54 ri55 => ?_)
              have ri49 : 0 ≤ ivb1 (sk 4) 2 ∧ ivb1 (sk 4) 2 ≤ 4000 := Wb1.int ty91 2
              refine c_lv (lv2 := [(5, .int (iI (k + 1))), (4, .ref ob1), (0, .ref a0), (1, .int (iI i)), (2, .int (iI x)), (3, .int (iI n))]) [0, 1, 2, 3, 4, 5] rfl ?_
              exact ih1  (k + 1) _ _ _ _ _ (by omega) Xb1 Wb1 Fb1  (by omega) (hK9.step hsA (SAM.frm hW tsA Fb1 rfl rfl rfl rfl) gf11 ezz1 ⟨by omega, by omega⟩ ⟨by omega, by omega⟩ ⟨by omega, by omega⟩) h4s hC4 hkp11 hkp12 hkp13 hkp14 hkp15 hkp16 (show rvb1 a0 9 = rv a0 9 from hkr9) (show rvb1 a0 10 = rv a0 10 from hkr10)
            · subst oq2
              refine c_lv (lv2 := [(5, .int (iI k)), (4, .ref ob1), (0, .ref a0), (1, .int (iI i)), (2, .int (iI x)), (3, .int (iI n))]) [0, 1, 2, 3, 4, 5] rfl ?_
              refine c_st (st2 := []) rfl ?_
              refine c_aload_n (j := 2) (x := a0) C dX11_read_54 rfl ?_
              refine c_aload_n (j := 2) (x := a0) C dX11_read_55 rfl ?_
              refine c_getr (k := 9) C ck_12 dX11_read_56 w2_53 (by decide) ty89 rfl rfl (by decide) rfl (hkr9.trans hsA) ?_
              refine c_st (st2 := [.ref sA, .ref a0]) rfl ?_
              refine c_iload_n (j := 4) C dX11_read_59 rfl ?_
              refine c_iload (j := 0) C dX11_read_60 rfl ?_
              refine c_iadd C dX11_read_62 ?_
              obtain ⟨zz2, hzz2, ezz2⟩ := iI_of (iI (x + k))
              refine c_st (st2 := [.int (iI zz2), .ref sA, .ref a0]) (by rw [ezz2]) ?_
              refine d_callV (As := [.int (iI zz2)]) (rest := [.ref a0]) C hM (C_whyNone (a0 := sA) (i := zz2) Wb1 skb1 ty90 (by omega) ) dX11_read_63 kV_X11_292 rfl ty90 rfl rfl (by decide) ck_8 rfl (Nat.le_of_ble_eq_true rfl) ⟨(Nat.le_of_ble_eq_true rfl), (Nat.le_of_ble_eq_true rfl)⟩ hph pl6 (show 0 + 0 = 0 from rfl) (by decide) (fun rh12 Lh12 clh12 lnh12 ivh12 rvh12 h12 => ?_)
              obtain ⟨f12, rfl, rfl, rfl, rfl, rfl, rfl, rgf12, exf12⟩ := h12
              refine c_st (st2 := [.int (iI f12), .ref a0]) rfl ?_
              have gf12 : f12 = 1 ∨ f12 = 2 := exf12
              refine d_callV (As := [.int (iI f12)]) (rest := []) C hM (C_refuse (a0 := a0) (x := f12) Wb1 skb1 ty89 (by omega) ) dX11_read_66 kV_X11_102 rfl ty89 rfl rfl (by decide) ck_12 rfl (Nat.le_of_ble_eq_true rfl) ⟨(Nat.le_of_ble_eq_true rfl), (Nat.le_of_ble_eq_true rfl)⟩ hph pl6 (show 0 + 0 = 0 from rfl) (by decide) (fun rh13 Lh13 clh13 lnh13 ivh13 rvh13 h13 => ?_)
              obtain ⟨f13, rfl, rfl, rfl, rfl, rfl, fl13, W13, rgf13, exf13, kp11f13, kp12f13, kp13f13, kp14f13, kp15f13, kp16f13⟩ := h13
              refine hv8 (show 1 ≤ ivb1 a0 11 ∧ ivb1 a0 11 ≤ 100 from Wb1.int ty89 11) (show 1 ≤ ivb1 a0 12 ∧ ivb1 a0 12 ≤ 50 from Wb1.int ty89 12) (show (-2147483648) ≤ ivb1 a0 13 ∧ ivb1 a0 13 ≤ 2147483647 from Wb1.int ty89 13) (show (-2147483648) ≤ ivb1 a0 14 ∧ ivb1 a0 14 ≤ 2147483647 from Wb1.int ty89 14) (show (-2147483648) ≤ ivb1 a0 15 ∧ ivb1 a0 15 ≤ 2147483647 from Wb1.int ty89 15) (show (-2147483648) ≤ ivb1 a0 16 ∧ ivb1 a0 16 ≤ 2147483647 from Wb1.int ty89 16) (Fb1.call Xb1 fl13 rfl) (MRK.call mrb1 Wb1 skb1 XT.refl fl13 rfl rfl) (fun ri56 ri57 ri58 ri59 ri60 ri61 F9 mr9 => ?_)
              refine c_st (st2 := [.int (iI f13)]) rfl ?_
              refine hv14 (show ivh13 a0 11 = ivb1 a0 11 from kp11f13) (show ivh13 a0 12 = ivb1 a0 12 from kp12f13) (show ivh13 a0 13 = ivb1 a0 13 from kp13f13) (show ivh13 a0 14 = ivb1 a0 14 from kp14f13) (show ivh13 a0 15 = ivb1 a0 15 from kp15f13) (show ivh13 a0 16 = ivb1 a0 16 from kp16f13) (show f13 = -1 from exf13) (show 1 ≤ ivh13 a0 11 ∧ ivh13 a0 11 ≤ 100 from W13.int ty89 11) (show 1 ≤ ivh13 a0 12 ∧ ivh13 a0 12 ≤ 50 from W13.int ty89 12) (show (-2147483648) ≤ ivh13 a0 13 ∧ ivh13 a0 13 ≤ 2147483647 from W13.int ty89 13) (show (-2147483648) ≤ ivh13 a0 14 ∧ ivh13 a0 14 ≤ 2147483647 from W13.int ty89 14) (show (-2147483648) ≤ ivh13 a0 15 ∧ ivh13 a0 15 ≤ 2147483647 from W13.int ty89 15) (show (-2147483648) ≤ ivh13 a0 16 ∧ ivh13 a0 16 ≤ 2147483647 from W13.int ty89 16) (Xb1.ty tsk4) (fun gk11f13 gk12f13 gk13f13 gk14f13 gk15f13 gk16f13 gf13 ri62 ri63 ri64 ri65 ri66 ri67 ty92 => ?_)
              refine hv2 (show 0 ≤ ivh13 (sk 4) 2 ∧ ivh13 (sk 4) 2 ≤ 4000 from W13.int ty92 2) (show ivh13 (sk 4) 2 = ivb1 (sk 4) 2 from fl13.i ty92 rfl 2) (fun ri68 ie142 => ?_)
              exact c_iret C dX11_read_69 rfl (by decide) (rom0 hph pl6 (by decide)) ⟨f13, rfl, Xb1, F9, W13, ⟨by omega, by omega⟩, trivial, (gk11f13.trans hkp11), (gk12f13.trans hkp12), (gk13f13.trans hkp13), (gk14f13.trans hkp14), (gk15f13.trans hkp15), (gk16f13.trans hkp16), (PRD.bad (fun E hE hl => RKP.bad hsA (SAM.frm hW tsA Fb1 rfl rfl rfl rfl) gf11 ezz1 ⟨by omega, by omega⟩ ⟨by omega, by omega⟩ ⟨by omega, by omega, by omega⟩ hE hl) hsA (by omega) ⟨by omega, fun ss hs => (CT.fr (hC4 ss hs) Wb1 ty92 fl13 rfl rfl rfl rfl rfl)⟩), (show rvb1 a0 9 = rv a0 9 from hkr9), (show rvb1 a0 10 = rv a0 10 from hkr10)⟩
      refine hv5 (show 1 ≤ iv a0 11 ∧ iv a0 11 ≤ 100 from hW.int t_a0 11) (show 1 ≤ iv a0 12 ∧ iv a0 12 ≤ 50 from hW.int t_a0 12) (show (-2147483648) ≤ iv a0 14 ∧ iv a0 14 ≤ 2147483647 from hW.int t_a0 14) (show (-2147483648) ≤ iv a0 15 ∧ iv a0 15 ≤ 2147483647 from hW.int t_a0 15) (show (-2147483648) ≤ iv a0 16 ∧ iv a0 16 ≤ 2147483647 from hW.int t_a0 16) (fun ri69 ri70 ri71 ri72 ri73 => ?_)
      refine c_lv (lv2 := [(5, .int (iI 0)), (4, .ref ob1), (0, .ref a0), (1, .int (iI i)), (2, .int (iI x)), (3, .int (iI n))]) [0, 1, 2, 3, 4, 5] rfl ?_
      exact Lp1 2147483650 0 _ _ _ _ _ (by omega) hX0 hW hF0  (by omega) RKP.zero rfl (fun ss hs => hs) rfl rfl rfl rfl rfl rfl rfl rfl
    · refine c_aload_n (j := 1) (x := a0) C dX11_read_25 rfl ?_
      refine c_iconst C dX11_read_26 ?_
      refine d_callV (As := [.int (iI 5)]) (rest := []) C hM (C_refuse (a0 := a0) (x := 5) hW hS t_a0 ⟨by decide, by decide⟩ ) dX11_read_27 kV_X11_102 rfl t_a0 rfl rfl (by decide) ck_12 rfl (Nat.le_of_ble_eq_true rfl) ⟨(Nat.le_of_ble_eq_true rfl), (Nat.le_of_ble_eq_true rfl)⟩ hph hph (show 0 + 0 = 0 from rfl) (by decide) (fun rh14 Lh14 clh14 lnh14 ivh14 rvh14 h14 => ?_)
      obtain ⟨f14, rfl, rfl, rfl, rfl, rfl, fl14, W14, rgf14, exf14, kp11f14, kp12f14, kp13f14, kp14f14, kp15f14, kp16f14⟩ := h14
      refine hv7 (show 1 ≤ iv a0 11 ∧ iv a0 11 ≤ 100 from hW.int t_a0 11) (show 1 ≤ iv a0 12 ∧ iv a0 12 ≤ 50 from hW.int t_a0 12) (show (-2147483648) ≤ iv a0 14 ∧ iv a0 14 ≤ 2147483647 from hW.int t_a0 14) (show (-2147483648) ≤ iv a0 15 ∧ iv a0 15 ≤ 2147483647 from hW.int t_a0 15) (show (-2147483648) ≤ iv a0 16 ∧ iv a0 16 ≤ 2147483647 from hW.int t_a0 16) (hF0.call hX0 fl14 rfl) (MRK.call hmr hW hS XT.refl fl14 rfl rfl) (fun ri74 ri75 ri76 ri77 ri78 F10 mr10 => ?_)
      refine c_st (st2 := [.int (iI f14)]) rfl ?_
      refine hv15 (show ivh14 a0 11 = iv a0 11 from kp11f14) (show ivh14 a0 12 = iv a0 12 from kp12f14) (show ivh14 a0 13 = iv a0 13 from kp13f14) (show ivh14 a0 14 = iv a0 14 from kp14f14) (show ivh14 a0 15 = iv a0 15 from kp15f14) (show ivh14 a0 16 = iv a0 16 from kp16f14) (show f14 = -1 from exf14) (show 1 ≤ ivh14 a0 11 ∧ ivh14 a0 11 ≤ 100 from W14.int t_a0 11) (show 1 ≤ ivh14 a0 12 ∧ ivh14 a0 12 ≤ 50 from W14.int t_a0 12) (show (-2147483648) ≤ ivh14 a0 13 ∧ ivh14 a0 13 ≤ 2147483647 from W14.int t_a0 13) (show (-2147483648) ≤ ivh14 a0 14 ∧ ivh14 a0 14 ≤ 2147483647 from W14.int t_a0 14) (show (-2147483648) ≤ ivh14 a0 15 ∧ ivh14 a0 15 ≤ 2147483647 from W14.int t_a0 15) (show (-2147483648) ≤ ivh14 a0 16 ∧ ivh14 a0 16 ≤ 2147483647 from W14.int t_a0 16) (show 0 ≤ ivh14 (sk 4) 2 ∧ ivh14 (sk 4) 2 ≤ 4000 from W14.int tsk4 2) (show ivh14 (sk 4) 2 = iv (sk 4) 2 from fl14.i tsk4 rfl 2) (fun gk11f14 gk12f14 gk13f14 gk14f14 gk15f14 gk16f14 gf14 ri79 ri80 ri81 ri82 ri83 ri84 ri85 ie150 => ?_)
      exact c_iret C dX11_read_30 rfl (by decide) (rom0 hph hph (by decide)) ⟨f14, rfl, hX0, F10, W14, ⟨by omega, by omega⟩, trivial, gk11f14, gk12f14, gk13f14, gk14f14, gk15f14, gk16f14, (PRD.neg (by omega) (by omega) ⟨by omega, fun ss hs => (CT.fr hs hW tsk4 fl14 rfl rfl rfl rfl rfl)⟩), rfl, rfl⟩
  · subst oq1
    refine c_lv (lv2 := [(4, .null), (0, .ref a0), (1, .int (iI i)), (2, .int (iI x)), (3, .int (iI n))]) [0, 1, 2, 3, 4] rfl ?_
    refine c_st (st2 := []) rfl ?_
    refine c_aload_n (j := 1) (x := a0) C dX11_read_15 rfl ?_
    refine c_iconst C dX11_read_16 ?_
    refine d_callV (As := [.int (iI 3)]) (rest := []) C hM (C_refuse (a0 := a0) (x := 3) hW hS t_a0 ⟨by decide, by decide⟩ ) dX11_read_17 kV_X11_102 rfl t_a0 rfl rfl (by decide) ck_12 rfl (Nat.le_of_ble_eq_true rfl) ⟨(Nat.le_of_ble_eq_true rfl), (Nat.le_of_ble_eq_true rfl)⟩ hph hph (show 0 + 0 = 0 from rfl) (by decide) (fun rh15 Lh15 clh15 lnh15 ivh15 rvh15 h15 => ?_)
    obtain ⟨f15, rfl, rfl, rfl, rfl, rfl, fl15, W15, rgf15, exf15, kp11f15, kp12f15, kp13f15, kp14f15, kp15f15, kp16f15⟩ := h15
    refine hv7 (show 1 ≤ iv a0 11 ∧ iv a0 11 ≤ 100 from hW.int t_a0 11) (show 1 ≤ iv a0 12 ∧ iv a0 12 ≤ 50 from hW.int t_a0 12) (show (-2147483648) ≤ iv a0 14 ∧ iv a0 14 ≤ 2147483647 from hW.int t_a0 14) (show (-2147483648) ≤ iv a0 15 ∧ iv a0 15 ≤ 2147483647 from hW.int t_a0 15) (show (-2147483648) ≤ iv a0 16 ∧ iv a0 16 ≤ 2147483647 from hW.int t_a0 16) (hF0.call hX0 fl15 rfl) (MRK.call hmr hW hS XT.refl fl15 rfl rfl) (fun ri86 ri87 ri88 ri89 ri90 F11 mr11 => ?_)
    refine c_st (st2 := [.int (iI f15)]) rfl ?_
    refine hv15 (show ivh15 a0 11 = iv a0 11 from kp11f15) (show ivh15 a0 12 = iv a0 12 from kp12f15) (show ivh15 a0 13 = iv a0 13 from kp13f15) (show ivh15 a0 14 = iv a0 14 from kp14f15) (show ivh15 a0 15 = iv a0 15 from kp15f15) (show ivh15 a0 16 = iv a0 16 from kp16f15) (show f15 = -1 from exf15) (show 1 ≤ ivh15 a0 11 ∧ ivh15 a0 11 ≤ 100 from W15.int t_a0 11) (show 1 ≤ ivh15 a0 12 ∧ ivh15 a0 12 ≤ 50 from W15.int t_a0 12) (show (-2147483648) ≤ ivh15 a0 13 ∧ ivh15 a0 13 ≤ 2147483647 from W15.int t_a0 13) (show (-2147483648) ≤ ivh15 a0 14 ∧ ivh15 a0 14 ≤ 2147483647 from W15.int t_a0 14) (show (-2147483648) ≤ ivh15 a0 15 ∧ ivh15 a0 15 ≤ 2147483647 from W15.int t_a0 15) (show (-2147483648) ≤ ivh15 a0 16 ∧ ivh15 a0 16 ≤ 2147483647 from W15.int t_a0 16) (show 0 ≤ ivh15 (sk 4) 2 ∧ ivh15 (sk 4) 2 ≤ 4000 from W15.int tsk4 2) (show ivh15 (sk 4) 2 = iv (sk 4) 2 from fl15.i tsk4 rfl 2) (fun gk11f15 gk12f15 gk13f15 gk14f15 gk15f15 gk16f15 gf15 ri91 ri92 ri93 ri94 ri95 ri96 ri97 ie157 => ?_)
    exact c_iret C dX11_read_20 rfl (by decide) (rom0 hph hph (by decide)) ⟨f15, rfl, hX0, F11, W15, ⟨by omega, by omega⟩, trivial, gk11f15, gk12f15, gk13f15, gk14f15, gk15f15, gk16f15, (PRD.nw gf1 (by omega) ⟨by omega, fun ss hs => (CT.fr hs hW tsk4 fl15 rfl rfl rfl rfl rfl)⟩), rfl, rfl⟩
end
section
theorem PO2_read {l : Launch} {G : GT} {mi h0 : Nat} {i : Int} {x : Int} {n : Int} (h_i : -2147483648 ≤ i ∧ i ≤ 2147483647) (h_x : -2147483648 ≤ x ∧ x ≤ 2147483647) (h_n : -2147483648 ≤ n ∧ n ≤ 2147483647) : PressOp l G mi yX11_read cX11_read 6 (some .int) 10 [.int (iI i), .int (iI x), .int (iI n)] h0 (fun sk L cl ln iv rv L2 cl2 ln2 iv2 rv2 f => ((PRD sk ln iv rv iv2 rv2 h0 (iv h0 13) i x n f) ∧ (KSQ h0 iv rv iv2 rv2 ∧ KSC h0 iv rv iv2 rv2 ∧ iv2 h0 15 = iv h0 15 ∧ iv2 h0 16 = iv h0 16 ∧ (iv2 (sk 5) 2 = iv (sk 5) 2 ∧ ∀ ss, CT iv rv (sk 5) ss → CT iv2 rv2 (sk 5) ss) ∧ True ∧ FKP sk iv rv iv2 rv2)) ∧ (iv2 h0 14 = iv h0 14 ∧ iv2 h0 11 = iv h0 11 ∧ iv2 h0 12 = iv h0 12 ∧ iv2 h0 13 = iv h0 13) ∧ (iv2 (sk 2) 2 = iv (sk 2) 2 ∧ (∀ ss, CT iv rv (sk 2) ss → CT iv2 rv2 (sk 2) ss)) ∧ (iv2 (sk 3) 2 = iv (sk 3) 2 ∧ (∀ tt, CT iv rv (sk 3) tt → CT iv2 rv2 (sk 3) tt)) ∧ PSAME sk iv rv iv2 rv2 ∧ (∃ g, WT g sk L cl ln iv rv ∧ WT g sk L2 cl2 ln2 iv2 rv2) ∧ SKL sk L cl ∧ XT L cl ln L2 cl2 ln2 ∧ (KP L cl (fun _ => False) (fun _ => False) (fun _ => False) (fun _ => False) (fun _ _ => False) iv rv iv2 rv2)) := by
  intro n L cl ln iv rv sk hn hp
  obtain ⟨hW, hS, hm, h23, ht⟩ := hp
  refine hv3 (show ty L cl (sk 23) 23 from ⟨(hS 23 rfl).1, by rw [(hS 23 rfl).2]; rfl⟩) (show ty L cl (sk 2) 2 from ⟨(hS 2 rfl).1, by rw [(hS 2 rfl).2]; rfl⟩) (show ty L cl (sk 3) 3 from ⟨(hS 3 rfl).1, by rw [(hS 3 rfl).2]; rfl⟩) (fun t23 t2 t3 => ?_)
  refine ⟨0, _, by decide, G_read hW hS ht h_i h_x h_n hm, fun v L2 cl2 ln2 iv2 rv2 h => ?_⟩
  obtain ⟨f, rfl, hX, hF, hW2, rg, ex, kp11, kp12, kp13, kp14, kp15, kp16, prd, kr9, kr10⟩ := h
  exact ⟨f, rfl, by omega, hX, hW2, (MRK.call hm hW hS hX hF rfl rfl), (by have q := hF.i t23 rfl 2; omega), ⟨⟨prd, ⟨(KSQ.fr hW ht hF kr9 kr10 rfl rfl rfl), (KSC.fr hW ht hF kr9 kr10 rfl rfl rfl rfl), kp15, kp16, ⟨hF.i (tysq (t := 5) hS rfl rfl) rfl 2, fun ss hs => CT.fr hs hW (tysq (t := 5) hS rfl rfl) hF rfl rfl rfl rfl rfl⟩, trivial, (FKP.fr hW hS hF rfl rfl rfl rfl)⟩⟩, ⟨kp14, kp11, kp12, kp13⟩, ⟨hF.i t2 rfl 2, fun ss hs => CT.fr hs hW t2 hF rfl rfl rfl rfl rfl⟩, ⟨hF.i t3 rfl 2, fun tt ht => CT.fr ht hW t3 hF rfl rfl rfl rfl rfl⟩, (PSAME.fr hW hS hF rfl rfl rfl rfl rfl rfl rfl), ⟨⟨_, hW, hW2⟩, hS, hX, (KP.fr hW hF rfl)⟩⟩⟩
theorem MO2_read {l : Launch} {G : GT} {mm : Nat} {x1 : Int} {x2 : Int} {x3 : Int} (h_x1 : -2147483648 ≤ x1 ∧ x1 ≤ 2147483647) (h_x2 : -2147483648 ≤ x2 ∧ x2 ≤ 2147483647) (h_x3 : -2147483648 ≤ x3 ∧ x3 ≤ 2147483647) : ModelOp l G yX12_read cX12_read 11 (some .int) 36 [.int (iI x1), .int (iI x2), .int (iI x3)] mm 0 0 (fun v a v2 a2 f => (((RDR v a v2 a2 x1 x2 x3 f ∧ TBL v a ∧ (∀ j, a 16 j ≤ 4) ∧ v 36 ≤ 200)) ∧ (v2 36 = v 36 ∧ KSA v a v2 a2 ∧ v2 42 = v 42 ∧ v2 43 = v 43 ∧ (v2 41 = v 41 ∧ a2 40 = a 40) ∧ True ∧ (v2 60 = v 60 ∧ v2 61 = v 61 ∧ a2 58 = a 58 ∧ a2 59 = a 59))) ∧ (v2 56 = v 56 ∧ v2 31 = v 31 ∧ v2 32 = v 32 ∧ v2 33 = v 33) ∧ (v2 3 = v 3 ∧ a2 2 = a 2) ∧ (v2 30 = v 30 ∧ a2 29 = a 29) ∧ TSAME v a v2 a2) := by
  intro n ad ln v a L E hn hV hI
  obtain ⟨hB, hT, hS, hR, h19⟩ := hV
  refine ⟨_, N2_read (t := x1) (q := x2) (n1 := x3) hB hT hR h_x1 h_x2 h_x3 L E hI, fun r L2 E2 h => ?_⟩
  obtain ⟨v2, a2, hI2, f, rfl, hf, hB2, hx⟩ := h
  exact ⟨f, ad, ln, v2, a2, rfl, hI2, ⟨hB2, (hT.fr hf rfl rfl), (hS.fr hf rfl rfl), hx.1, (by have q := hf.1 19 rfl; push_cast; omega)⟩, ⟨⟨⟨hx.2, hT, fun j => (hB.2 16 j).2, (hB.1 36).2⟩, ⟨hf.1 36 rfl, ⟨hf.1 36 rfl, hf.2 34 rfl, hf.2 35 rfl⟩, hf.1 42 rfl, hf.1 43 rfl, ⟨hf.1 41 rfl, hf.2 40 rfl⟩, trivial, ⟨hf.1 60 rfl, hf.1 61 rfl, hf.2 58 rfl, hf.2 59 rfl⟩⟩⟩, ⟨hf.1 56 rfl, hf.1 31 rfl, hf.1 32 rfl, hf.1 33 rfl⟩, ⟨hf.1 3 rfl, hf.2 2 rfl⟩, ⟨hf.1 30 rfl, hf.2 29 rfl⟩, ⟨hf.1 4 rfl, hf.2 5 rfl, hf.2 6 rfl, hf.2 7 rfl, hf.2 10 rfl, hf.1 19 rfl, hf.2 18 rfl, hf.2 11 rfl, hf.2 8 rfl, hf.2 9 rfl, hf.2 12 rfl, hf.2 13 rfl, hf.2 14 rfl, hf.2 15 rfl, hf.2 16 rfl, hf.2 17 rfl⟩⟩⟩
end
section
section UALF
variable {L : List Nat} {cl ln : Nat → Nat} {iv iv1 iv2 : Nat → Nat → Int} {rv : Nat → Nat → Option Nat} {a : Nat → Nat → Int} {l : List Int} {q b w lb sb c : Nat} {i k x d : Int}
end UALF
section UAL2
variable {L : List Nat} {cl ln : Nat → Nat} {iv iv1 iv2 iv3 : Nat → Nat → Int} {rv : Nat → Nat → Option Nat} {a : Nat → Nat → Int} {l l0 l1 : List Int} {q b b0 b1 w lb sb ab c : Nat} {i k x y d g : Int}
theorem HL.ltr (hl : HL L cl ln iv rv a b l) (hd : d ∈ l) (h0 : 0 ≤ d) (hm : 0 ≤ k ∧ k < a 12 d.toNat) : 33 ≤ a 14 (8 * d + k).toNat ∧ a 14 (8 * d + k).toNat ≤ 125 := by
  obtain ⟨r, r1⟩ := List.getElem?_of_mem hd
  obtain ⟨w, _, _, w3⟩ := hl.2 r d r1
  obtain ⟨_, _, l', c', _, _, r3, _, r5, _⟩ := w3.1 h0
  have g := r5 k.toNat (by omega)
  rw [show (8 * d + k).toNat = 8 * d.toNat + k.toNat by omega, ← g.1]
  exact g.2
end UAL2
end
