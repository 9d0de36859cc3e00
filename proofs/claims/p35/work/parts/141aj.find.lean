section
theorem sgn_i {t z : Int} (ht : R32 t) (hz : R32 z) (e : sgn (iI t) = iI z) : z = 1 ↔ (¬ isD t ∧ ¬ isG t ∧ ¬ isS t) := by
  refine hv2 (show ∀ n : Int, R32 n → ((iI t < iI n ↔ t < n) ∧ (iI n < iI t ↔ n < t)) from fun n hn => ⟨iI_lt ht hn, iI_lt hn ht⟩) (show sgn (iI t) = if iI t < iI 48 ∨ (iI 57 < iI t ∧ iI t < iI 65) ∨ (iI 90 < iI t ∧ iI t < iI 97) ∨ iI 122 < iI t then iI 1 else iI 0 from rfl) (fun k e0 => ?_)
  refine hv6 ((k 48 ⟨by decide, by decide⟩).1) ((k 57 ⟨by decide, by decide⟩).2) ((k 65 ⟨by decide, by decide⟩).1) ((k 90 ⟨by decide, by decide⟩).2) ((k 97 ⟨by decide, by decide⟩).1) ((k 122 ⟨by decide, by decide⟩).2) (fun a1 a2 a3 a4 a5 a6 => ?_)
  rw [e0] at e
  unfold isD isG isS
  split at e
  · rename_i c
    rw [a1, a2, a3, a4, a5, a6] at c
    have q := (iI_eq ⟨by decide, by decide⟩ hz).mp e
    exact ⟨fun _ => by omega, fun _ => q.symm⟩
  · rename_i c
    rw [a1, a2, a3, a4, a5, a6] at c
    have q := (iI_eq ⟨by decide, by decide⟩ hz).mp e
    exact ⟨fun w => by omega, fun w => by omega⟩
set_option maxHeartbeats 4000000 in
set_option maxRecDepth 100000 in
theorem G_fits {l : Launch} {G : GT} {mi : Nat} {sk : Nat → Nat} {L : List Nat} {cl ln : Nat → Nat} {iv : Nat → Nat → Int} {rv : Nat → Nat → Option Nat}  {a0 : Nat} {a1 : Nat} {i : Int} (hW : WT (g0 G) sk L cl ln iv rv) (hS : SKL sk L cl) (t_a0 : ty L cl a0 15) (t_a1 : ty L cl a1 20) (h_i : -2147483648 ≤ i ∧ i ≤ 2147483647) (hi : 0 ≤ i ∧ i ≤ 500) : Mc l G mi (Phi (g0 G) sk) PHM yX6_fits cX6_fits 6 (some .boolean) 1 [.ref a0, .ref a1, .int (iI i)] L cl ln iv rv 0 (fun v L2 cl2 ln2 iv2 rv2 => ∃ f : Int, v = some (.int (iI f)) ∧ L = L2 ∧ cl = cl2 ∧ ln = ln2 ∧ iv = iv2 ∧ rv = rv2 ∧ (f = 0 ∨ f = 1) ∧ (FTX ln iv rv a0 a1 i f)) := by
  refine Mc.mk (by decide) (Nat.le_of_ble_eq_true rfl) ?_
  intro p e s m args below meth c A C hM
  refine hv3 (Phi.le hW hS) (show XT L cl ln L cl ln from XT.refl) (show fT [] L cl iv rv iv rv from fT.refl) (fun hph hX0 hF0 => ?_)
  refine c_iload_n (j := 2) C dX6_fits_0 rfl ?_
  refine c_aload_n (j := 1) (x := a1) C dX6_fits_1 rfl ?_
  obtain ⟨rb1, rq1, trb1⟩ := hW.ref t_a1 1 rfl rfl rfl
  have lnrb1 : 0 ≤ ln rb1 ∧ ln rb1 ≤ 8 := hW.len trb1 rfl
  refine c_getr (k := 1) C ck_6 dX6_fits_2 w3_141 (by decide) t_a1 rfl rfl (by decide) rfl rq1 ?_
  refine c_st (st2 := [.ref rb1, .int (iI i)]) rfl ?_
  have ll1 : 0 ≤ ln rb1 ∧ ln rb1 ≤ 8 := hW.len trb1 rfl
  refine c_alenI C dX6_fits_5 trb1 rfl ?_
  refine c_iadd C dX6_fits_6 ?_
  refine c_istore_n (lv2 := [(3, .int (iI (i + ((ln rb1 : Nat) : Int)))), (0, .ref a0), (1, .ref a1), (2, .int (iI i))]) C dX6_fits_7 (by decide) rfl ?_
  refine c_iload_n (j := 0) C dX6_fits_8 rfl ?_
  refine c_aload_n (j := 1) (x := a0) C dX6_fits_9 rfl ?_
  have ri1 : 0 ≤ iv a0 11 ∧ iv a0 11 ≤ 500 := hW.int t_a0 11
  refine c_get (k := 11) C ck_7 dX6_fits_10 w1_153 (by decide) t_a0 rfl rfl (by decide) rfl ?_
  refine c_icmp_le (tgt := 18) C ⟨by omega, by omega⟩ (r32_c (lo := 0) (hi := 500) ri1.1 ri1.2 (by decide) (by decide)) dX6_fits_13 (by decide) (fun c1 => ?_) (fun c1 => ?_)
  · refine c_iconst C dX6_fits_18 ?_
    refine c_istore (lv2 := [(4, .int (iI 1)), (3, .int (iI (i + ((ln rb1 : Nat) : Int)))), (0, .ref a0), (1, .ref a1), (2, .int (iI i))]) C dX6_fits_19 (by decide) rfl ?_
    have Lp1 : ∀ (nn : Nat) (k : Int) , 10 - k < (nn : Int) → (1 ≤ k ∧ k ≤ 9) → (FXI iv rv a0 a1 i k) → cw p l e 1 ((PHM) + 0 - ((Phi (g0 G) sk) ln rv)) s m args below meth c G A 6 (MQ below (Qu G A (Qp G (Phi (g0 G) sk) ((Phi (g0 G) sk) ln rv) 0 (fun v L2 cl2 ln2 iv2 rv2 => ∃ f : Int, v = some (.int (iI f)) ∧ L = L2 ∧ cl = cl2 ∧ ln = ln2 ∧ iv = iv2 ∧ rv = rv2 ∧ (f = 0 ∨ f = 1) ∧ (FTX ln iv rv a0 a1 i f)))) args s (((PHM) + 0 - ((Phi (g0 G) sk) ln rv)) / 16) ((PHM) + 0 - ((Phi (g0 G) sk) ln rv)) A) (Phi (g0 G) sk) ((Phi (g0 G) sk) ln rv) L cl ln iv rv 0 21 [(4, .int (iI k)), (3, .int (iI (i + ((ln rb1 : Nat) : Int)))), (0, .ref a0), (1, .ref a1), (2, .int (iI i))] [] := by
      intro nn
      induction nn with
      | zero =>
        intro  k  hm   hk hF
        exact absurd hm (by omega)
      | succ nn ih1 =>
        intro  k  hm   hk hF
        refine c_iload (j := 0) C dX6_fits_21 rfl ?_
        refine c_aload_n (j := 3) (x := a1) C dX6_fits_23 rfl ?_
        refine c_getr (k := 1) C ck_6 dX6_fits_24 w3_141 (by decide) t_a1 rfl rfl (by decide) rfl rq1 ?_
        refine c_st (st2 := [.ref rb1, .int (iI k)]) rfl ?_
        refine c_alenI C dX6_fits_27 trb1 rfl ?_
        refine c_icmp_ge (tgt := 58) C (r32_c (lo := 1) (hi := 9) hk.1 hk.2 (by decide) (by decide)) ⟨by omega, by omega⟩ dX6_fits_28 (by decide) (fun c2 => ?_) (fun c2 => ?_)
        · refine c_iload_n (j := 4) C dX6_fits_58 rfl ?_
          refine c_aload_n (j := 2) (x := a0) C dX6_fits_59 rfl ?_
          have ri2 : 0 ≤ iv a0 10 ∧ iv a0 10 ≤ 500 := hW.int t_a0 10
          refine c_get (k := 10) C ck_7 dX6_fits_60 w1_152 (by decide) t_a0 rfl rfl (by decide) rfl ?_
          refine c_icmp_ne (tgt := 70) C ⟨by omega, by omega⟩ (r32_c (lo := 0) (hi := 500) ri2.1 ri2.2 (by decide) (by decide)) dX6_fits_63 (by decide) (fun c3 => ?_) (fun c3 => ?_)
          · refine c_iconst C dX6_fits_70 ?_
            refine c_istore (lv2 := [(4, .int (iI 0)), (3, .int (iI (i + ((ln rb1 : Nat) : Int)))), (0, .ref a0), (1, .ref a1), (2, .int (iI i))]) C dX6_fits_71 (by decide) rfl ?_
            refine c_iload_n (j := 1) C dX6_fits_73 rfl ?_
            refine c_aload_n (j := 2) (x := a0) C dX6_fits_74 rfl ?_
            refine c_get (k := 11) C ck_7 dX6_fits_75 w1_153 (by decide) t_a0 rfl rfl (by decide) rfl ?_
            refine c_icmp_ne (tgt := 85) C ⟨by omega, by omega⟩ (r32_c (lo := 0) (hi := 500) ri1.1 ri1.2 (by decide) (by decide)) dX6_fits_78 (by decide) (fun c4 => ?_) (fun c4 => ?_)
            · refine c_iconst C dX6_fits_85 ?_
              refine c_istore (lv2 := [(5, .int (iI 0)), (4, .int (iI 0)), (3, .int (iI (i + ((ln rb1 : Nat) : Int)))), (0, .ref a0), (1, .ref a1), (2, .int (iI i))]) C dX6_fits_86 (by decide) rfl ?_
              refine c_aload_n (j := 4) (x := a1) C dX6_fits_88 rfl ?_
              have ri3 : 0 ≤ iv a1 3 ∧ iv a1 3 ≤ 5 := hW.int t_a1 3
              refine c_get (k := 3) C ck_6 dX6_fits_89 w3_150 (by decide) t_a1 rfl rfl (by decide) rfl ?_
              rcases (show (iv a1 3) = 1 ∨ (iv a1 3) = 2 ∨ (iv a1 3) = 3 ∨ (iv a1 3) = 4 ∨ (iv a1 3) = 5 ∨ ((iv a1 3) < 1 ∨ 5 < (iv a1 3)) by omega) with sw1 | sw1 | sw1 | sw1 | sw1 | sw1
              · refine c_tabIn (tgt := 128) (off := 36) C (r32_c (lo := 0) (hi := 5) ri3.1 ri3.2 (by decide) (by decide)) dX6_fits_92 (by omega) (by omega) (by rw [sw1]; rfl) (by decide) ?_
                refine c_iload (j := 1) C dX6_fits_128 rfl ?_
                obtain ⟨lb0, hlb0, tlb0⟩ := hW.ref t_a0 0 rfl rfl rfl
                exact c_zret C dX6_fits_130 rfl (Or.inl rfl) (by decide) (rom0 hph hph (by decide)) ⟨0, rfl, rfl, rfl, rfl, rfl, rfl, (Or.inl rfl), (FTX.cc hF rq1 hlb0 (by omega) (by omega) (by omega) ⟨fun q => absurd q (by decide), fun q => by unfold isD isG isS at q; omega⟩)⟩
              · refine c_tabIn (tgt := 131) (off := 39) C (r32_c (lo := 0) (hi := 5) ri3.1 ri3.2 (by decide) (by decide)) dX6_fits_92 (by omega) (by omega) (by rw [sw1]; rfl) (by decide) ?_
                refine c_iload (j := 1) C dX6_fits_131 rfl ?_
                refine c_if_ne (tgt := 145) C ⟨by decide, by decide⟩ dX6_fits_133 (by decide) (fun z => absurd z (by omega)) (fun _ => ?_)
                refine c_iload (j := 0) C dX6_fits_136 rfl ?_
                refine c_if_ne (tgt := 145) C ⟨by decide, by decide⟩ dX6_fits_138 (by decide) (fun z => absurd z (by omega)) (fun _ => ?_)
                refine c_iconst C dX6_fits_141 ?_
                refine c_goto (tgt := 146) C dX6_fits_142 (by decide) ?_
                obtain ⟨lb0, hlb0, tlb0⟩ := hW.ref t_a0 0 rfl rfl rfl
                exact c_zret C dX6_fits_146 rfl (Or.inr rfl) (by decide) (rom0 hph hph (by decide)) ⟨1, rfl, rfl, rfl, rfl, rfl, rfl, (Or.inr rfl), (FTX.cc hF rq1 hlb0 (by omega) (by omega) (by omega) ⟨fun _ => by unfold isD isG isS; omega, fun _ => rfl⟩)⟩
              · refine c_tabIn (tgt := 147) (off := 55) C (r32_c (lo := 0) (hi := 5) ri3.1 ri3.2 (by decide) (by decide)) dX6_fits_92 (by omega) (by omega) (by rw [sw1]; rfl) (by decide) ?_
                refine c_iload (j := 0) C dX6_fits_147 rfl ?_
                obtain ⟨lb0, hlb0, tlb0⟩ := hW.ref t_a0 0 rfl rfl rfl
                exact c_zret C dX6_fits_149 rfl (Or.inl rfl) (by decide) (rom0 hph hph (by decide)) ⟨0, rfl, rfl, rfl, rfl, rfl, rfl, (Or.inl rfl), (FTX.cc hF rq1 hlb0 (by omega) (by omega) (by omega) ⟨fun q => absurd q (by decide), fun q => by unfold isD isG isS at q; omega⟩)⟩
              · refine c_tabIn (tgt := 150) (off := 58) C (r32_c (lo := 0) (hi := 5) ri3.1 ri3.2 (by decide) (by decide)) dX6_fits_92 (by omega) (by omega) (by rw [sw1]; rfl) (by decide) ?_
                refine c_iload (j := 1) C dX6_fits_150 rfl ?_
                refine c_if_eq (tgt := 164) C ⟨by decide, by decide⟩ dX6_fits_152 (by decide) (fun _ => ?_) (fun z => absurd z (by omega))
                refine c_iconst C dX6_fits_164 ?_
                obtain ⟨lb0, hlb0, tlb0⟩ := hW.ref t_a0 0 rfl rfl rfl
                exact c_zret C dX6_fits_165 rfl (Or.inl rfl) (by decide) (rom0 hph hph (by decide)) ⟨0, rfl, rfl, rfl, rfl, rfl, rfl, (Or.inl rfl), (FTX.cc hF rq1 hlb0 (by omega) (by omega) (by omega) ⟨fun q => absurd q (by decide), fun q => by unfold isD isG isS at q; omega⟩)⟩
              · refine c_tabIn (tgt := 166) (off := 74) C (r32_c (lo := 0) (hi := 5) ri3.1 ri3.2 (by decide) (by decide)) dX6_fits_92 (by omega) (by omega) (by rw [sw1]; rfl) (by decide) ?_
                refine c_iload (j := 0) C dX6_fits_166 rfl ?_
                refine c_if_ne (tgt := 187) C ⟨by decide, by decide⟩ dX6_fits_168 (by decide) (fun z => absurd z (by omega)) (fun _ => ?_)
                refine c_aload_n (j := 3) (x := a0) C dX6_fits_171 rfl ?_
                obtain ⟨rb2, rq2, trb2⟩ := hW.ref t_a0 0 rfl rfl rfl
                have lnrb2 : 500 ≤ ln rb2 ∧ ln rb2 ≤ 500 := hW.len trb2 rfl
                refine c_getr (k := 0) C ck_7 dX6_fits_172 w1_136 (by decide) t_a0 rfl rfl (by decide) rfl rq2 ?_
                refine c_st (st2 := [.ref rb2]) rfl ?_
                refine c_iload_n (j := 2) C dX6_fits_175 rfl ?_
                have ll2 : 500 ≤ ln rb2 ∧ ln rb2 ≤ 500 := hW.len trb2 rfl
                refine c_iald C dX6_fits_176 trb2 rfl (by omega) (by omega) (by omega) ?_
                have ri4 : (-2147483648) ≤ iv rb2 ((i + ((ln rb1 : Nat) : Int)).toNat) ∧ iv rb2 ((i + ((ln rb1 : Nat) : Int)).toNat) ≤ 2147483647 := hW.int trb2 ((i + ((ln rb1 : Nat) : Int)).toNat)
                refine c_callS0 (As := [.int (iI (iv rb2 (i + ((ln rb1 : Nat) : Int)).toNat))]) (rest := []) C (fun L E => s6_isSign (iI (iv rb2 (i + ((ln rb1 : Nat) : Int)).toNat))) dX6_fits_177 kS_X6_156 rfl rfl (Nat.le_of_ble_eq_true rfl) ⟨(Nat.le_of_ble_eq_true rfl), (Nat.le_of_ble_eq_true rfl)⟩ (rom0 hph hph (by decide)) ?_
                obtain ⟨sg1, hsg1, esg1⟩ := sgn_c (iI (iv rb2 (i + ((ln rb1 : Nat) : Int)).toNat))
                refine c_st (st2 := [.int (iI sg1)]) (by rw [esg1]) ?_
                refine c_if_eq (tgt := 187) C ⟨by omega, by omega⟩ dX6_fits_180 (by decide) (fun c5 => ?_) (fun c5 => ?_)
                · refine c_iconst C dX6_fits_187 ?_
                  have sq := sgn_i (by omega) (by omega) esg1
                  exact c_zret C dX6_fits_188 rfl (Or.inl rfl) (by decide) (rom0 hph hph (by decide)) ⟨0, rfl, rfl, rfl, rfl, rfl, rfl, (Or.inl rfl), (FTX.cc hF rq1 rq2 (by omega) (by omega) (by omega) ⟨fun q => absurd q (by decide), fun q => by
                      rcases q with q | q | q | q | q | q
                      · omega
                      · omega
                      · omega
                      · omega
                      · omega
                      · have q2 := sq.mpr q.2.2
                        omega⟩)⟩
                · refine c_iconst C dX6_fits_183 ?_
                  refine c_goto (tgt := 188) C dX6_fits_184 (by decide) ?_
                  have sq := sgn_i (by omega) (by omega) esg1
                  exact c_zret C dX6_fits_188 rfl (Or.inr rfl) (by decide) (rom0 hph hph (by decide)) ⟨1, rfl, rfl, rfl, rfl, rfl, rfl, (Or.inr rfl), (FTX.cc hF rq1 rq2 (by omega) (by omega) (by omega) ⟨fun _ => Or.inr (Or.inr (Or.inr (Or.inr (Or.inr ⟨by omega, by omega, sq.mp (by omega)⟩)))), fun _ => rfl⟩)⟩
              · refine c_tabOut (tgt := 189) C (r32_c (lo := 0) (hi := 5) ri3.1 ri3.2 (by decide) (by decide)) dX6_fits_92 sw1 (by decide) ?_
                refine c_iconst C dX6_fits_189 ?_
                obtain ⟨lb0, hlb0, tlb0⟩ := hW.ref t_a0 0 rfl rfl rfl
                exact c_zret C dX6_fits_190 rfl (Or.inr rfl) (by decide) (rom0 hph hph (by decide)) ⟨1, rfl, rfl, rfl, rfl, rfl, rfl, (Or.inr rfl), (FTX.cc hF rq1 hlb0 (by omega) (by omega) (by omega) ⟨fun _ => by unfold isD isG isS; omega, fun _ => rfl⟩)⟩
            · refine c_iconst C dX6_fits_81 ?_
              refine c_goto (tgt := 86) C dX6_fits_82 (by decide) ?_
              refine c_istore (lv2 := [(5, .int (iI 1)), (4, .int (iI 0)), (3, .int (iI (i + ((ln rb1 : Nat) : Int)))), (0, .ref a0), (1, .ref a1), (2, .int (iI i))]) C dX6_fits_86 (by decide) rfl ?_
              refine c_aload_n (j := 4) (x := a1) C dX6_fits_88 rfl ?_
              have ri5 : 0 ≤ iv a1 3 ∧ iv a1 3 ≤ 5 := hW.int t_a1 3
              refine c_get (k := 3) C ck_6 dX6_fits_89 w3_150 (by decide) t_a1 rfl rfl (by decide) rfl ?_
              rcases (show (iv a1 3) = 1 ∨ (iv a1 3) = 2 ∨ (iv a1 3) = 3 ∨ (iv a1 3) = 4 ∨ (iv a1 3) = 5 ∨ ((iv a1 3) < 1 ∨ 5 < (iv a1 3)) by omega) with sw2 | sw2 | sw2 | sw2 | sw2 | sw2
              · refine c_tabIn (tgt := 128) (off := 36) C (r32_c (lo := 0) (hi := 5) ri5.1 ri5.2 (by decide) (by decide)) dX6_fits_92 (by omega) (by omega) (by rw [sw2]; rfl) (by decide) ?_
                refine c_iload (j := 1) C dX6_fits_128 rfl ?_
                obtain ⟨lb0, hlb0, tlb0⟩ := hW.ref t_a0 0 rfl rfl rfl
                exact c_zret C dX6_fits_130 rfl (Or.inl rfl) (by decide) (rom0 hph hph (by decide)) ⟨0, rfl, rfl, rfl, rfl, rfl, rfl, (Or.inl rfl), (FTX.cc hF rq1 hlb0 (by omega) (by omega) (by omega) ⟨fun q => absurd q (by decide), fun q => by unfold isD isG isS at q; omega⟩)⟩
              · refine c_tabIn (tgt := 131) (off := 39) C (r32_c (lo := 0) (hi := 5) ri5.1 ri5.2 (by decide) (by decide)) dX6_fits_92 (by omega) (by omega) (by rw [sw2]; rfl) (by decide) ?_
                refine c_iload (j := 1) C dX6_fits_131 rfl ?_
                refine c_if_ne (tgt := 145) C ⟨by decide, by decide⟩ dX6_fits_133 (by decide) (fun z => absurd z (by omega)) (fun _ => ?_)
                refine c_iload (j := 0) C dX6_fits_136 rfl ?_
                refine c_if_ne (tgt := 145) C ⟨by decide, by decide⟩ dX6_fits_138 (by decide) (fun _ => ?_) (fun z => absurd z (by omega))
                refine c_iconst C dX6_fits_145 ?_
                obtain ⟨lb0, hlb0, tlb0⟩ := hW.ref t_a0 0 rfl rfl rfl
                exact c_zret C dX6_fits_146 rfl (Or.inl rfl) (by decide) (rom0 hph hph (by decide)) ⟨0, rfl, rfl, rfl, rfl, rfl, rfl, (Or.inl rfl), (FTX.cc hF rq1 hlb0 (by omega) (by omega) (by omega) ⟨fun q => absurd q (by decide), fun q => by unfold isD isG isS at q; omega⟩)⟩
              · refine c_tabIn (tgt := 147) (off := 55) C (r32_c (lo := 0) (hi := 5) ri5.1 ri5.2 (by decide) (by decide)) dX6_fits_92 (by omega) (by omega) (by rw [sw2]; rfl) (by decide) ?_
                refine c_iload (j := 0) C dX6_fits_147 rfl ?_
                obtain ⟨lb0, hlb0, tlb0⟩ := hW.ref t_a0 0 rfl rfl rfl
                exact c_zret C dX6_fits_149 rfl (Or.inr rfl) (by decide) (rom0 hph hph (by decide)) ⟨1, rfl, rfl, rfl, rfl, rfl, rfl, (Or.inr rfl), (FTX.cc hF rq1 hlb0 (by omega) (by omega) (by omega) ⟨fun _ => by unfold isD isG isS; omega, fun _ => rfl⟩)⟩
              · refine c_tabIn (tgt := 150) (off := 58) C (r32_c (lo := 0) (hi := 5) ri5.1 ri5.2 (by decide) (by decide)) dX6_fits_92 (by omega) (by omega) (by rw [sw2]; rfl) (by decide) ?_
                refine c_iload (j := 1) C dX6_fits_150 rfl ?_
                refine c_if_eq (tgt := 164) C ⟨by decide, by decide⟩ dX6_fits_152 (by decide) (fun _ => ?_) (fun z => absurd z (by omega))
                refine c_iconst C dX6_fits_164 ?_
                obtain ⟨lb0, hlb0, tlb0⟩ := hW.ref t_a0 0 rfl rfl rfl
                exact c_zret C dX6_fits_165 rfl (Or.inl rfl) (by decide) (rom0 hph hph (by decide)) ⟨0, rfl, rfl, rfl, rfl, rfl, rfl, (Or.inl rfl), (FTX.cc hF rq1 hlb0 (by omega) (by omega) (by omega) ⟨fun q => absurd q (by decide), fun q => by unfold isD isG isS at q; omega⟩)⟩
              · refine c_tabIn (tgt := 166) (off := 74) C (r32_c (lo := 0) (hi := 5) ri5.1 ri5.2 (by decide) (by decide)) dX6_fits_92 (by omega) (by omega) (by rw [sw2]; rfl) (by decide) ?_
                refine c_iload (j := 0) C dX6_fits_166 rfl ?_
                refine c_if_ne (tgt := 187) C ⟨by decide, by decide⟩ dX6_fits_168 (by decide) (fun _ => ?_) (fun z => absurd z (by omega))
                refine c_iconst C dX6_fits_187 ?_
                obtain ⟨lb0, hlb0, tlb0⟩ := hW.ref t_a0 0 rfl rfl rfl
                exact c_zret C dX6_fits_188 rfl (Or.inl rfl) (by decide) (rom0 hph hph (by decide)) ⟨0, rfl, rfl, rfl, rfl, rfl, rfl, (Or.inl rfl), (FTX.cc hF rq1 hlb0 (by omega) (by omega) (by omega) ⟨fun q => absurd q (by decide), fun q => by unfold isD isG isS at q; omega⟩)⟩
              · refine c_tabOut (tgt := 189) C (r32_c (lo := 0) (hi := 5) ri5.1 ri5.2 (by decide) (by decide)) dX6_fits_92 sw2 (by decide) ?_
                refine c_iconst C dX6_fits_189 ?_
                obtain ⟨lb0, hlb0, tlb0⟩ := hW.ref t_a0 0 rfl rfl rfl
                exact c_zret C dX6_fits_190 rfl (Or.inr rfl) (by decide) (rom0 hph hph (by decide)) ⟨1, rfl, rfl, rfl, rfl, rfl, rfl, (Or.inr rfl), (FTX.cc hF rq1 hlb0 (by omega) (by omega) (by omega) ⟨fun _ => by unfold isD isG isS; omega, fun _ => rfl⟩)⟩
          · refine c_iconst C dX6_fits_66 ?_
            refine c_goto (tgt := 71) C dX6_fits_67 (by decide) ?_
            refine c_istore (lv2 := [(4, .int (iI 1)), (3, .int (iI (i + ((ln rb1 : Nat) : Int)))), (0, .ref a0), (1, .ref a1), (2, .int (iI i))]) C dX6_fits_71 (by decide) rfl ?_
            refine c_iload_n (j := 1) C dX6_fits_73 rfl ?_
            refine c_aload_n (j := 2) (x := a0) C dX6_fits_74 rfl ?_
            refine c_get (k := 11) C ck_7 dX6_fits_75 w1_153 (by decide) t_a0 rfl rfl (by decide) rfl ?_
            refine c_icmp_ne (tgt := 85) C ⟨by omega, by omega⟩ (r32_c (lo := 0) (hi := 500) ri1.1 ri1.2 (by decide) (by decide)) dX6_fits_78 (by decide) (fun c6 => ?_) (fun c6 => ?_)
            · refine c_iconst C dX6_fits_85 ?_
              refine c_istore (lv2 := [(5, .int (iI 0)), (4, .int (iI 1)), (3, .int (iI (i + ((ln rb1 : Nat) : Int)))), (0, .ref a0), (1, .ref a1), (2, .int (iI i))]) C dX6_fits_86 (by decide) rfl ?_
              refine c_aload_n (j := 4) (x := a1) C dX6_fits_88 rfl ?_
              have ri6 : 0 ≤ iv a1 3 ∧ iv a1 3 ≤ 5 := hW.int t_a1 3
              refine c_get (k := 3) C ck_6 dX6_fits_89 w3_150 (by decide) t_a1 rfl rfl (by decide) rfl ?_
              rcases (show (iv a1 3) = 1 ∨ (iv a1 3) = 2 ∨ (iv a1 3) = 3 ∨ (iv a1 3) = 4 ∨ (iv a1 3) = 5 ∨ ((iv a1 3) < 1 ∨ 5 < (iv a1 3)) by omega) with sw3 | sw3 | sw3 | sw3 | sw3 | sw3
              · refine c_tabIn (tgt := 128) (off := 36) C (r32_c (lo := 0) (hi := 5) ri6.1 ri6.2 (by decide) (by decide)) dX6_fits_92 (by omega) (by omega) (by rw [sw3]; rfl) (by decide) ?_
                refine c_iload (j := 1) C dX6_fits_128 rfl ?_
                obtain ⟨lb0, hlb0, tlb0⟩ := hW.ref t_a0 0 rfl rfl rfl
                exact c_zret C dX6_fits_130 rfl (Or.inr rfl) (by decide) (rom0 hph hph (by decide)) ⟨1, rfl, rfl, rfl, rfl, rfl, rfl, (Or.inr rfl), (FTX.cc hF rq1 hlb0 (by omega) (by omega) (by omega) ⟨fun _ => by unfold isD isG isS; omega, fun _ => rfl⟩)⟩
              · refine c_tabIn (tgt := 131) (off := 39) C (r32_c (lo := 0) (hi := 5) ri6.1 ri6.2 (by decide) (by decide)) dX6_fits_92 (by omega) (by omega) (by rw [sw3]; rfl) (by decide) ?_
                refine c_iload (j := 1) C dX6_fits_131 rfl ?_
                refine c_if_ne (tgt := 145) C ⟨by decide, by decide⟩ dX6_fits_133 (by decide) (fun _ => ?_) (fun z => absurd z (by omega))
                refine c_iconst C dX6_fits_145 ?_
                obtain ⟨lb0, hlb0, tlb0⟩ := hW.ref t_a0 0 rfl rfl rfl
                exact c_zret C dX6_fits_146 rfl (Or.inl rfl) (by decide) (rom0 hph hph (by decide)) ⟨0, rfl, rfl, rfl, rfl, rfl, rfl, (Or.inl rfl), (FTX.cc hF rq1 hlb0 (by omega) (by omega) (by omega) ⟨fun q => absurd q (by decide), fun q => by unfold isD isG isS at q; omega⟩)⟩
              · refine c_tabIn (tgt := 147) (off := 55) C (r32_c (lo := 0) (hi := 5) ri6.1 ri6.2 (by decide) (by decide)) dX6_fits_92 (by omega) (by omega) (by rw [sw3]; rfl) (by decide) ?_
                refine c_iload (j := 0) C dX6_fits_147 rfl ?_
                obtain ⟨lb0, hlb0, tlb0⟩ := hW.ref t_a0 0 rfl rfl rfl
                exact c_zret C dX6_fits_149 rfl (Or.inl rfl) (by decide) (rom0 hph hph (by decide)) ⟨0, rfl, rfl, rfl, rfl, rfl, rfl, (Or.inl rfl), (FTX.cc hF rq1 hlb0 (by omega) (by omega) (by omega) ⟨fun q => absurd q (by decide), fun q => by unfold isD isG isS at q; omega⟩)⟩
              · refine c_tabIn (tgt := 150) (off := 58) C (r32_c (lo := 0) (hi := 5) ri6.1 ri6.2 (by decide) (by decide)) dX6_fits_92 (by omega) (by omega) (by rw [sw3]; rfl) (by decide) ?_
                refine c_iload (j := 1) C dX6_fits_150 rfl ?_
                refine c_if_eq (tgt := 164) C ⟨by decide, by decide⟩ dX6_fits_152 (by decide) (fun z => absurd z (by omega)) (fun _ => ?_)
                refine c_iload (j := 0) C dX6_fits_155 rfl ?_
                refine c_if_eq (tgt := 164) C ⟨by decide, by decide⟩ dX6_fits_157 (by decide) (fun _ => ?_) (fun z => absurd z (by omega))
                refine c_iconst C dX6_fits_164 ?_
                obtain ⟨lb0, hlb0, tlb0⟩ := hW.ref t_a0 0 rfl rfl rfl
                exact c_zret C dX6_fits_165 rfl (Or.inl rfl) (by decide) (rom0 hph hph (by decide)) ⟨0, rfl, rfl, rfl, rfl, rfl, rfl, (Or.inl rfl), (FTX.cc hF rq1 hlb0 (by omega) (by omega) (by omega) ⟨fun q => absurd q (by decide), fun q => by unfold isD isG isS at q; omega⟩)⟩
              · refine c_tabIn (tgt := 166) (off := 74) C (r32_c (lo := 0) (hi := 5) ri6.1 ri6.2 (by decide) (by decide)) dX6_fits_92 (by omega) (by omega) (by rw [sw3]; rfl) (by decide) ?_
                refine c_iload (j := 0) C dX6_fits_166 rfl ?_
                refine c_if_ne (tgt := 187) C ⟨by decide, by decide⟩ dX6_fits_168 (by decide) (fun z => absurd z (by omega)) (fun _ => ?_)
                refine c_aload_n (j := 3) (x := a0) C dX6_fits_171 rfl ?_
                obtain ⟨rb3, rq3, trb3⟩ := hW.ref t_a0 0 rfl rfl rfl
                have lnrb3 : 500 ≤ ln rb3 ∧ ln rb3 ≤ 500 := hW.len trb3 rfl
                refine c_getr (k := 0) C ck_7 dX6_fits_172 w1_136 (by decide) t_a0 rfl rfl (by decide) rfl rq3 ?_
                refine c_st (st2 := [.ref rb3]) rfl ?_
                refine c_iload_n (j := 2) C dX6_fits_175 rfl ?_
                have ll3 : 500 ≤ ln rb3 ∧ ln rb3 ≤ 500 := hW.len trb3 rfl
                refine c_iald C dX6_fits_176 trb3 rfl (by omega) (by omega) (by omega) ?_
                have ri7 : (-2147483648) ≤ iv rb3 ((i + ((ln rb1 : Nat) : Int)).toNat) ∧ iv rb3 ((i + ((ln rb1 : Nat) : Int)).toNat) ≤ 2147483647 := hW.int trb3 ((i + ((ln rb1 : Nat) : Int)).toNat)
                refine c_callS0 (As := [.int (iI (iv rb3 (i + ((ln rb1 : Nat) : Int)).toNat))]) (rest := []) C (fun L E => s6_isSign (iI (iv rb3 (i + ((ln rb1 : Nat) : Int)).toNat))) dX6_fits_177 kS_X6_156 rfl rfl (Nat.le_of_ble_eq_true rfl) ⟨(Nat.le_of_ble_eq_true rfl), (Nat.le_of_ble_eq_true rfl)⟩ (rom0 hph hph (by decide)) ?_
                obtain ⟨sg2, hsg2, esg2⟩ := sgn_c (iI (iv rb3 (i + ((ln rb1 : Nat) : Int)).toNat))
                refine c_st (st2 := [.int (iI sg2)]) (by rw [esg2]) ?_
                refine c_if_eq (tgt := 187) C ⟨by omega, by omega⟩ dX6_fits_180 (by decide) (fun c7 => ?_) (fun c7 => ?_)
                · refine c_iconst C dX6_fits_187 ?_
                  have sq := sgn_i (by omega) (by omega) esg2
                  exact c_zret C dX6_fits_188 rfl (Or.inl rfl) (by decide) (rom0 hph hph (by decide)) ⟨0, rfl, rfl, rfl, rfl, rfl, rfl, (Or.inl rfl), (FTX.cc hF rq1 rq3 (by omega) (by omega) (by omega) ⟨fun q => absurd q (by decide), fun q => by
                      rcases q with q | q | q | q | q | q
                      · omega
                      · omega
                      · omega
                      · omega
                      · omega
                      · have q2 := sq.mpr q.2.2
                        omega⟩)⟩
                · refine c_iconst C dX6_fits_183 ?_
                  refine c_goto (tgt := 188) C dX6_fits_184 (by decide) ?_
                  have sq := sgn_i (by omega) (by omega) esg2
                  exact c_zret C dX6_fits_188 rfl (Or.inr rfl) (by decide) (rom0 hph hph (by decide)) ⟨1, rfl, rfl, rfl, rfl, rfl, rfl, (Or.inr rfl), (FTX.cc hF rq1 rq3 (by omega) (by omega) (by omega) ⟨fun _ => Or.inr (Or.inr (Or.inr (Or.inr (Or.inr ⟨by omega, by omega, sq.mp (by omega)⟩)))), fun _ => rfl⟩)⟩
              · refine c_tabOut (tgt := 189) C (r32_c (lo := 0) (hi := 5) ri6.1 ri6.2 (by decide) (by decide)) dX6_fits_92 sw3 (by decide) ?_
                refine c_iconst C dX6_fits_189 ?_
                obtain ⟨lb0, hlb0, tlb0⟩ := hW.ref t_a0 0 rfl rfl rfl
                exact c_zret C dX6_fits_190 rfl (Or.inr rfl) (by decide) (rom0 hph hph (by decide)) ⟨1, rfl, rfl, rfl, rfl, rfl, rfl, (Or.inr rfl), (FTX.cc hF rq1 hlb0 (by omega) (by omega) (by omega) ⟨fun _ => by unfold isD isG isS; omega, fun _ => rfl⟩)⟩
            · refine c_iconst C dX6_fits_81 ?_
              refine c_goto (tgt := 86) C dX6_fits_82 (by decide) ?_
              refine c_istore (lv2 := [(5, .int (iI 1)), (4, .int (iI 1)), (3, .int (iI (i + ((ln rb1 : Nat) : Int)))), (0, .ref a0), (1, .ref a1), (2, .int (iI i))]) C dX6_fits_86 (by decide) rfl ?_
              refine c_aload_n (j := 4) (x := a1) C dX6_fits_88 rfl ?_
              have ri8 : 0 ≤ iv a1 3 ∧ iv a1 3 ≤ 5 := hW.int t_a1 3
              refine c_get (k := 3) C ck_6 dX6_fits_89 w3_150 (by decide) t_a1 rfl rfl (by decide) rfl ?_
              rcases (show (iv a1 3) = 1 ∨ (iv a1 3) = 2 ∨ (iv a1 3) = 3 ∨ (iv a1 3) = 4 ∨ (iv a1 3) = 5 ∨ ((iv a1 3) < 1 ∨ 5 < (iv a1 3)) by omega) with sw4 | sw4 | sw4 | sw4 | sw4 | sw4
              · refine c_tabIn (tgt := 128) (off := 36) C (r32_c (lo := 0) (hi := 5) ri8.1 ri8.2 (by decide) (by decide)) dX6_fits_92 (by omega) (by omega) (by rw [sw4]; rfl) (by decide) ?_
                refine c_iload (j := 1) C dX6_fits_128 rfl ?_
                obtain ⟨lb0, hlb0, tlb0⟩ := hW.ref t_a0 0 rfl rfl rfl
                exact c_zret C dX6_fits_130 rfl (Or.inr rfl) (by decide) (rom0 hph hph (by decide)) ⟨1, rfl, rfl, rfl, rfl, rfl, rfl, (Or.inr rfl), (FTX.cc hF rq1 hlb0 (by omega) (by omega) (by omega) ⟨fun _ => by unfold isD isG isS; omega, fun _ => rfl⟩)⟩
              · refine c_tabIn (tgt := 131) (off := 39) C (r32_c (lo := 0) (hi := 5) ri8.1 ri8.2 (by decide) (by decide)) dX6_fits_92 (by omega) (by omega) (by rw [sw4]; rfl) (by decide) ?_
                refine c_iload (j := 1) C dX6_fits_131 rfl ?_
                refine c_if_ne (tgt := 145) C ⟨by decide, by decide⟩ dX6_fits_133 (by decide) (fun _ => ?_) (fun z => absurd z (by omega))
                refine c_iconst C dX6_fits_145 ?_
                obtain ⟨lb0, hlb0, tlb0⟩ := hW.ref t_a0 0 rfl rfl rfl
                exact c_zret C dX6_fits_146 rfl (Or.inl rfl) (by decide) (rom0 hph hph (by decide)) ⟨0, rfl, rfl, rfl, rfl, rfl, rfl, (Or.inl rfl), (FTX.cc hF rq1 hlb0 (by omega) (by omega) (by omega) ⟨fun q => absurd q (by decide), fun q => by unfold isD isG isS at q; omega⟩)⟩
              · refine c_tabIn (tgt := 147) (off := 55) C (r32_c (lo := 0) (hi := 5) ri8.1 ri8.2 (by decide) (by decide)) dX6_fits_92 (by omega) (by omega) (by rw [sw4]; rfl) (by decide) ?_
                refine c_iload (j := 0) C dX6_fits_147 rfl ?_
                obtain ⟨lb0, hlb0, tlb0⟩ := hW.ref t_a0 0 rfl rfl rfl
                exact c_zret C dX6_fits_149 rfl (Or.inr rfl) (by decide) (rom0 hph hph (by decide)) ⟨1, rfl, rfl, rfl, rfl, rfl, rfl, (Or.inr rfl), (FTX.cc hF rq1 hlb0 (by omega) (by omega) (by omega) ⟨fun _ => by unfold isD isG isS; omega, fun _ => rfl⟩)⟩
              · refine c_tabIn (tgt := 150) (off := 58) C (r32_c (lo := 0) (hi := 5) ri8.1 ri8.2 (by decide) (by decide)) dX6_fits_92 (by omega) (by omega) (by rw [sw4]; rfl) (by decide) ?_
                refine c_iload (j := 1) C dX6_fits_150 rfl ?_
                refine c_if_eq (tgt := 164) C ⟨by decide, by decide⟩ dX6_fits_152 (by decide) (fun z => absurd z (by omega)) (fun _ => ?_)
                refine c_iload (j := 0) C dX6_fits_155 rfl ?_
                refine c_if_eq (tgt := 164) C ⟨by decide, by decide⟩ dX6_fits_157 (by decide) (fun z => absurd z (by omega)) (fun _ => ?_)
                refine c_iconst C dX6_fits_160 ?_
                refine c_goto (tgt := 165) C dX6_fits_161 (by decide) ?_
                obtain ⟨lb0, hlb0, tlb0⟩ := hW.ref t_a0 0 rfl rfl rfl
                exact c_zret C dX6_fits_165 rfl (Or.inr rfl) (by decide) (rom0 hph hph (by decide)) ⟨1, rfl, rfl, rfl, rfl, rfl, rfl, (Or.inr rfl), (FTX.cc hF rq1 hlb0 (by omega) (by omega) (by omega) ⟨fun _ => by unfold isD isG isS; omega, fun _ => rfl⟩)⟩
              · refine c_tabIn (tgt := 166) (off := 74) C (r32_c (lo := 0) (hi := 5) ri8.1 ri8.2 (by decide) (by decide)) dX6_fits_92 (by omega) (by omega) (by rw [sw4]; rfl) (by decide) ?_
                refine c_iload (j := 0) C dX6_fits_166 rfl ?_
                refine c_if_ne (tgt := 187) C ⟨by decide, by decide⟩ dX6_fits_168 (by decide) (fun _ => ?_) (fun z => absurd z (by omega))
                refine c_iconst C dX6_fits_187 ?_
                obtain ⟨lb0, hlb0, tlb0⟩ := hW.ref t_a0 0 rfl rfl rfl
                exact c_zret C dX6_fits_188 rfl (Or.inl rfl) (by decide) (rom0 hph hph (by decide)) ⟨0, rfl, rfl, rfl, rfl, rfl, rfl, (Or.inl rfl), (FTX.cc hF rq1 hlb0 (by omega) (by omega) (by omega) ⟨fun q => absurd q (by decide), fun q => by unfold isD isG isS at q; omega⟩)⟩
              · refine c_tabOut (tgt := 189) C (r32_c (lo := 0) (hi := 5) ri8.1 ri8.2 (by decide) (by decide)) dX6_fits_92 sw4 (by decide) ?_
                refine c_iconst C dX6_fits_189 ?_
                obtain ⟨lb0, hlb0, tlb0⟩ := hW.ref t_a0 0 rfl rfl rfl
                exact c_zret C dX6_fits_190 rfl (Or.inr rfl) (by decide) (rom0 hph hph (by decide)) ⟨1, rfl, rfl, rfl, rfl, rfl, rfl, (Or.inr rfl), (FTX.cc hF rq1 hlb0 (by omega) (by omega) (by omega) ⟨fun _ => by unfold isD isG isS; omega, fun _ => rfl⟩)⟩
        · refine c_aload_n (j := 3) (x := a1) C dX6_fits_31 rfl ?_
          refine c_getr (k := 1) C ck_6 dX6_fits_32 w3_141 (by decide) t_a1 rfl rfl (by decide) rfl rq1 ?_
          refine c_st (st2 := [.ref rb1]) rfl ?_
          refine c_iload (j := 0) C dX6_fits_35 rfl ?_
          refine c_iald C dX6_fits_37 trb1 rfl (by omega) (by omega) (by omega) ?_
          have ri9 : (-2147483648) ≤ iv rb1 k.toNat ∧ iv rb1 k.toNat ≤ 2147483647 := hW.int trb1 k.toNat
          refine c_aload_n (j := 2) (x := a0) C dX6_fits_38 rfl ?_
          obtain ⟨rb4, rq4, trb4⟩ := hW.ref t_a0 0 rfl rfl rfl
          have lnrb4 : 500 ≤ ln rb4 ∧ ln rb4 ≤ 500 := hW.len trb4 rfl
          refine c_getr (k := 0) C ck_7 dX6_fits_39 w1_136 (by decide) t_a0 rfl rfl (by decide) rfl rq4 ?_
          refine c_st (st2 := [.ref rb4, .int (iI (iv rb1 k.toNat))]) rfl ?_
          refine c_iload_n (j := 4) C dX6_fits_42 rfl ?_
          refine c_iload (j := 0) C dX6_fits_43 rfl ?_
          refine c_iadd C dX6_fits_45 ?_
          have ll4 : 500 ≤ ln rb4 ∧ ln rb4 ≤ 500 := hW.len trb4 rfl
          refine c_iald C dX6_fits_46 trb4 rfl (by omega) (by omega) (by omega) ?_
          have ri10 : (-2147483648) ≤ iv rb4 ((i + k).toNat) ∧ iv rb4 ((i + k).toNat) ≤ 2147483647 := hW.int trb4 ((i + k).toNat)
          refine c_icmp_eq (tgt := 52) C (r32_c (lo := (-2147483648)) (hi := 2147483647) ri9.1 ri9.2 (by decide) (by decide)) ⟨by omega, by omega⟩ dX6_fits_47 (by decide) (fun c8 => ?_) (fun c8 => ?_)
          · refine c_iinc (z := k) (j := 0) (lv2 := [(4, .int (iI (k + 1))), (3, .int (iI (i + ((ln rb1 : Nat) : Int)))), (0, .ref a0), (1, .ref a1), (2, .int (iI i))]) C dX6_fits_52 rfl (by decide) rfl ?_
            refine c_goto (tgt := 21) C dX6_fits_55 (by decide) ?_
            refine c_lv (lv2 := [(4, .int (iI (k + 1))), (3, .int (iI (i + ((ln rb1 : Nat) : Int)))), (0, .ref a0), (1, .ref a1), (2, .int (iI i))]) [0, 1, 2, 3, 4] rfl ?_
            exact ih1  (k + 1)  (by omega)   (by omega) (hF.step rq1 rq4 (by omega))
          · refine c_iconst C dX6_fits_50 ?_
            refine hv2 (show 0 ≤ iv a1 3 ∧ iv a1 3 ≤ 5 from hW.int t_a1 3) (show 0 ≤ iv a0 10 ∧ iv a0 10 ≤ 500 from hW.int t_a0 10) (fun ri11 ri12 => ?_)
            exact c_zret C dX6_fits_51 rfl (Or.inl rfl) (by decide) (rom0 hph hph (by decide)) ⟨0, rfl, rfl, rfl, rfl, rfl, rfl, (Or.inl rfl), (FTX.n2 (k := k) rq1 rq4 ⟨by omega, by omega⟩ (by omega) (by omega))⟩
    refine c_lv (lv2 := [(4, .int (iI 1)), (3, .int (iI (i + ((ln rb1 : Nat) : Int)))), (0, .ref a0), (1, .ref a1), (2, .int (iI i))]) [0, 1, 2, 3, 4] rfl ?_
    exact Lp1 10 1  (by omega)   (by omega) FXI.zero
  · refine c_iconst C dX6_fits_16 ?_
    refine hv2 (show 0 ≤ iv a1 3 ∧ iv a1 3 ≤ 5 from hW.int t_a1 3) (show 0 ≤ iv a0 10 ∧ iv a0 10 ≤ 500 from hW.int t_a0 10) (fun ri13 ri14 => ?_)
    exact c_zret C dX6_fits_17 rfl (Or.inl rfl) (by decide) (rom0 hph hph (by decide)) ⟨0, rfl, rfl, rfl, rfl, rfl, rfl, (Or.inl rfl), (FTX.n1 rq1 (by omega))⟩
set_option maxHeartbeats 4000000 in
set_option maxRecDepth 100000 in
theorem G_findOwn {l : Launch} {G : GT} {mi : Nat} {sk : Nat → Nat} {L : List Nat} {cl ln : Nat → Nat} {iv : Nat → Nat → Int} {rv : Nat → Nat → Option Nat}  {a0 : Nat} {a1 : Nat} {i : Int} {x : Int} {r : Option Nat} (hW : WT (g0 G) sk L cl ln iv rv) (hS : SKL sk L cl) (t_a0 : ty L cl a0 15) (t_a1 : ty L cl a1 100) (t_r : ∀ b, r = some b → ty L cl b 20) (h_i : -2147483648 ≤ i ∧ i ≤ 2147483647) (h_x : -2147483648 ≤ x ∧ x ≤ 2147483647) (hi : 0 ≤ i ∧ i ≤ 500) : Mc l G mi (Phi (g0 G) sk) PHM yX6_findOwn cX6_findOwn 11 (some (.object "DotPress$Row")) 3 [.ref a0, .ref a1, .int (iI i), .int (iI x), va_rf r] L cl ln iv rv 0 (fun v L2 cl2 ln2 iv2 rv2 => ∃ f : Option Nat, v = some ((va_rf f)) ∧ L = L2 ∧ cl = cl2 ∧ ln = ln2 ∧ iv = iv2 ∧ rv = rv2 ∧ (∀ b, f = some b → ty L2 cl2 b 20) ∧ (FOX sk ln iv rv a0 a1 i x r f)) := by
  refine Mc.mk (by decide) (by cases r <;> exact Nat.le_of_ble_eq_true rfl) ?_
  intro p e s m args below meth c A C hM
  have hph := Phi.le hW hS
  refine c_lveq (show lv_args 0 [.ref a0, .ref a1, .int (iI i), .int (iI x), va_rf r] = [(0, .ref a0), (1, .ref a1), (2, .int (iI i)), (3, .int (iI x)), (4, (va_rf r))] from by cases r <;> rfl) ?_
  refine hv2 (show XT L cl ln L cl ln from XT.refl) (show fT [] L cl iv rv iv rv from fT.refl) (fun hX0 hF0 => ?_)
  refine c_aloadr (j := 4) (r := r) C dX6_findOwn_0 rfl ?_
  refine c_astorer (r := r) (lv2 := [(5, (va_rf r)), (0, .ref a0), (1, .ref a1), (2, .int (iI i)), (3, .int (iI x)), (4, (va_rf r))]) C dX6_findOwn_2 (by decide) (by cases r <;> rfl) ?_
  refine c_aloadr (j := 0) (r := r) C dX6_findOwn_4 rfl ?_
  refine c_ifnonnull (r := r) (tgt := 13) C dX6_findOwn_6 (by decide) (fun ob1 oq1 => ?_) (fun oq1 => ?_)
  · subst oq1
    have tob1 := t_r ob1 rfl
    refine c_lv (lv2 := [(5, .ref ob1), (0, .ref a0), (1, .ref a1), (2, .int (iI i)), (3, .int (iI x)), (4, .ref ob1)]) [0, 1, 2, 3, 4, 5] rfl ?_
    refine c_st (st2 := []) rfl ?_
    refine c_aload (j := 0) (x := ob1) C dX6_findOwn_13 rfl ?_
    obtain ⟨rb1, rq1, trb1⟩ := hW.ref tob1 1 rfl rfl rfl
    have lnrb1 : 0 ≤ ln rb1 ∧ ln rb1 ≤ 8 := hW.len trb1 rfl
    refine c_getr (k := 1) C ck_6 dX6_findOwn_15 w3_141 (by decide) tob1 rfl rfl (by decide) rfl rq1 ?_
    refine c_st (st2 := [.ref rb1]) rfl ?_
    have ll1 : 0 ≤ ln rb1 ∧ ln rb1 ≤ 8 := hW.len trb1 rfl
    refine c_alenI C dX6_findOwn_18 trb1 rfl ?_
    refine c_istore (lv2 := [(6, .int (iI ((ln rb1 : Nat) : Int))), (5, .ref ob1), (0, .ref a0), (1, .ref a1), (2, .int (iI i)), (3, .int (iI x)), (4, .ref ob1)]) C dX6_findOwn_19 (by decide) rfl ?_
    refine c_aload_n (j := 3) (x := a1) C dX6_findOwn_21 rfl ?_
    obtain ⟨rb2, rq2, trb2⟩ := hW.ref t_a1 5 rfl rfl rfl
    refine c_getr (k := 5) C ck_10 dX6_findOwn_22 w2_191 (by decide) t_a1 rfl rfl (by decide) rfl rq2 ?_
    refine c_st (st2 := [.ref rb2]) rfl ?_
    have ri1 : 0 ≤ iv rb2 2 ∧ iv rb2 2 ≤ 200 := hW.int trb2 2
    refine c_get (k := 2) C ck_2 dX6_findOwn_25 w1_47 (by decide) trb2 rfl rfl (by decide) rfl ?_
    refine c_aload_n (j := 3) (x := a1) C dX6_findOwn_28 rfl ?_
    obtain ⟨rb3, rq3, trb3⟩ := hW.ref t_a1 4 rfl rfl rfl
    refine c_getr (k := 4) C ck_10 dX6_findOwn_29 w2_189 (by decide) t_a1 rfl rfl (by decide) rfl rq3 ?_
    refine c_st (st2 := [.ref rb3, .int (iI (iv rb2 2))]) rfl ?_
    have ri2 : 0 ≤ iv rb3 2 ∧ iv rb3 2 ≤ 200 := hW.int trb3 2
    refine d_callV (As := []) (rest := [.int (iI (iv rb2 2))]) C hM (C_size_26 (a0 := rb3) hW hS trb3  ) dX6_findOwn_32 kV_X6_134 rfl trb3 rfl rfl (by decide) ck_0 rfl (Nat.le_of_ble_eq_true rfl) ⟨(Nat.le_of_ble_eq_true rfl), (Nat.le_of_ble_eq_true rfl)⟩ hph hph (show 0 + 0 = 0 from rfl) (by decide) (fun rh1 Lh1 clh1 lnh1 ivh1 rvh1 h1 => ?_)
    obtain ⟨f1, rfl, rfl, rfl, rfl, rfl, rfl, rgf1, exf1⟩ := h1
    refine c_st (st2 := [.int (iI f1), .int (iI (iv rb2 2))]) rfl ?_
    have gf1 : f1 = iv rb3 2 := exf1
    obtain ⟨mn1, hmn1, emn1⟩ := mmin_c (x := iv rb2 2) (y := f1) (r32_c (lo := 0) (hi := 200) ri1.1 ri1.2 (by decide) (by decide)) ⟨by omega, by omega⟩
    refine c_mmin (w := iI mn1) C dX6_findOwn_35 w4_109 w2_129 w1_14 w2_130 (by decide) (rom0 hph hph (by decide)) (Nat.le_of_ble_eq_true rfl) emn1 ?_
    refine c_istore (lv2 := [(7, .int (iI mn1)), (6, .int (iI ((ln rb1 : Nat) : Int))), (5, .ref ob1), (0, .ref a0), (1, .ref a1), (2, .int (iI i)), (3, .int (iI x)), (4, .ref ob1)]) C dX6_findOwn_38 (by decide) rfl ?_
    refine c_aload_n (j := 4) (x := a1) C dX6_findOwn_40 rfl ?_
    refine c_getr (k := 5) C ck_10 dX6_findOwn_41 w2_191 (by decide) t_a1 rfl rfl (by decide) rfl rq2 ?_
    refine c_st (st2 := [.ref rb2]) rfl ?_
    obtain ⟨rb4, rq4, trb4⟩ := hW.ref trb2 1 rfl rfl rfl
    refine hv2 (show 16 ≤ ln rb4 ∧ ln rb4 ≤ 400 from hW.len trb4 rfl) (hW.isz trb2 rfl rfl rq4) (fun lnrb4 szrb4 => ?_)
    refine c_getr (k := 1) C ck_2 dX6_findOwn_44 w1_42 (by decide) trb2 rfl rfl (by decide) rfl rq4 ?_
    refine c_st (st2 := [.ref rb4]) rfl ?_
    refine c_astore (lv2 := [(8, .ref rb4), (7, .int (iI mn1)), (6, .int (iI ((ln rb1 : Nat) : Int))), (5, .ref ob1), (0, .ref a0), (1, .ref a1), (2, .int (iI i)), (3, .int (iI x)), (4, .ref ob1)]) C dX6_findOwn_47 (by decide) rfl ?_
    refine c_iconst C dX6_findOwn_49 ?_
    refine c_istore (lv2 := [(9, .int (iI 0)), (8, .ref rb4), (7, .int (iI mn1)), (6, .int (iI ((ln rb1 : Nat) : Int))), (5, .ref ob1), (0, .ref a0), (1, .ref a1), (2, .int (iI i)), (3, .int (iI x)), (4, .ref ob1)]) C dX6_findOwn_50 (by decide) rfl ?_
    have Lp1 : ∀ (nn : Nat) (bs : Option Nat) (lg k : Int) , 201 - k < (nn : Int) → (∀ b, bs = some b → ty L cl b 20) → (0 ≤ lg ∧ lg ≤ 8) → (0 ≤ k ∧ k ≤ mn1) → (FOI sk ln iv rv a0 a1 i x (some ob1) bs lg k) → cw p l e 3 ((PHM) + 0 - ((Phi (g0 G) sk) ln rv)) s m args below meth c G A 11 (MQ below (Qu G A (Qp G (Phi (g0 G) sk) ((Phi (g0 G) sk) ln rv) 0 (fun v L2 cl2 ln2 iv2 rv2 => ∃ f : Option Nat, v = some ((va_rf f)) ∧ L = L2 ∧ cl = cl2 ∧ ln = ln2 ∧ iv = iv2 ∧ rv = rv2 ∧ (∀ b, f = some b → ty L2 cl2 b 20) ∧ (FOX sk ln iv rv a0 a1 i x (some ob1) f)))) args s (((PHM) + 0 - ((Phi (g0 G) sk) ln rv)) / 16) ((PHM) + 0 - ((Phi (g0 G) sk) ln rv)) A) (Phi (g0 G) sk) ((Phi (g0 G) sk) ln rv) L cl ln iv rv 0 52 [(5, (va_rf bs)), (6, .int (iI lg)), (9, .int (iI k)), (8, .ref rb4), (7, .int (iI mn1)), (0, .ref a0), (1, .ref a1), (2, .int (iI i)), (3, .int (iI x)), (4, .ref ob1)] [] := by
      intro nn
      induction nn with
      | zero =>
        intro bs lg k  hm  ty_bs hlg hk hO
        exact absurd hm (by omega)
      | succ nn ih1 =>
        intro bs lg k  hm  ty_bs hlg hk hO
        refine c_iload (j := 2) C dX6_findOwn_52 rfl ?_
        refine c_iload (j := 4) C dX6_findOwn_54 rfl ?_
        refine c_icmp_ge (tgt := 124) C ⟨by omega, by omega⟩ ⟨by omega, by omega⟩ dX6_findOwn_56 (by decide) (fun c1 => ?_) (fun c1 => ?_)
        · refine c_aloadr (j := 0) (r := bs) C dX6_findOwn_124 rfl ?_
          exact c_aret (x := bs) C dX6_findOwn_126 rfl (Or.inl ⟨_, rfl⟩) (by decide) (rom0 hph hph (by decide)) ⟨bs, rfl, rfl, rfl, rfl, rfl, rfl, ty_bs, (hO.fin rq3 rq2 (by omega) rq4)⟩
        · refine c_aload (j := 3) (x := rb4) C dX6_findOwn_59 rfl ?_
          refine c_iload (j := 2) C dX6_findOwn_61 rfl ?_
          have ll2 : 16 ≤ ln rb4 ∧ ln rb4 ≤ 400 := hW.len trb4 rfl
          refine c_iald C dX6_findOwn_63 trb4 rfl (by omega) (by omega) (by omega) ?_
          have ri3 : (-2147483648) ≤ iv rb4 k.toNat ∧ iv rb4 k.toNat ≤ 2147483647 := hW.int trb4 k.toNat
          refine c_iload_n (j := 8) C dX6_findOwn_64 rfl ?_
          refine c_icmp_eq (tgt := 71) C (r32_c (lo := (-2147483648)) (hi := 2147483647) ri3.1 ri3.2 (by decide) (by decide)) ⟨by omega, by omega⟩ dX6_findOwn_65 (by decide) (fun c2 => ?_) (fun c2 => ?_)
          · refine c_aload_n (j := 6) (x := a1) C dX6_findOwn_71 rfl ?_
            refine c_getr (k := 4) C ck_10 dX6_findOwn_72 w2_189 (by decide) t_a1 rfl rfl (by decide) rfl rq3 ?_
            refine c_st (st2 := [.ref rb3]) rfl ?_
            refine c_iload (j := 2) C dX6_findOwn_75 rfl ?_
            refine d_callV (As := [.int (iI k)]) (rest := []) C hM (C_get_26 (a0 := rb3) (i := k) hW hS trb3 (by omega) (by show 0 ≤ k ∧ k < iv rb3 2; omega)) dX6_findOwn_77 kV_X6_145 rfl trb3 rfl rfl (by decide) ck_0 rfl (Nat.le_of_ble_eq_true rfl) ⟨(Nat.le_of_ble_eq_true rfl), (Nat.le_of_ble_eq_true rfl)⟩ hph hph (show 0 + 0 = 0 from rfl) (by decide) (fun rh2 Lh2 clh2 lnh2 ivh2 rvh2 h2 => ?_)
            obtain ⟨f2, rfl, rfl, rfl, rfl, rfl, rfl, rgf2, exf2⟩ := h2
            refine c_st (st2 := [.ref f2]) rfl ?_
            have gf2 : el rv rb3 k.toNat = some f2 := exf2
            refine c_cast C ck_6 dX6_findOwn_80 w4_111 w8_169t rgf2 rfl rfl (by decide) ?_
            refine c_astore (lv2 := [(10, .ref f2), (5, (va_rf bs)), (6, .int (iI lg)), (9, .int (iI k)), (8, .ref rb4), (7, .int (iI mn1)), (0, .ref a0), (1, .ref a1), (2, .int (iI i)), (3, .int (iI x)), (4, .ref ob1)]) C dX6_findOwn_83 (by decide) rfl ?_
            refine c_aload (j := 0) (x := f2) C dX6_findOwn_85 rfl ?_
            obtain ⟨rb5, rq5, trb5⟩ := hW.ref rgf2 1 rfl rfl rfl
            have lnrb5 : 0 ≤ ln rb5 ∧ ln rb5 ≤ 8 := hW.len trb5 rfl
            refine c_getr (k := 1) C ck_6 dX6_findOwn_87 w3_141 (by decide) rgf2 rfl rfl (by decide) rfl rq5 ?_
            refine c_st (st2 := [.ref rb5]) rfl ?_
            have ll3 : 0 ≤ ln rb5 ∧ ln rb5 ≤ 8 := hW.len trb5 rfl
            refine c_alenI C dX6_findOwn_90 trb5 rfl ?_
            refine c_iload (j := 2) C dX6_findOwn_91 rfl ?_
            refine c_icmp_le (tgt := 118) C ⟨by omega, by omega⟩ (r32_c (lo := 0) (hi := 8) hlg.1 hlg.2 (by decide) (by decide)) dX6_findOwn_93 (by decide) (fun c3 => ?_) (fun c3 => ?_)
            · refine c_iinc (z := k) (j := 3) (lv2 := [(9, .int (iI (k + 1))), (10, .ref f2), (5, (va_rf bs)), (6, .int (iI lg)), (8, .ref rb4), (7, .int (iI mn1)), (0, .ref a0), (1, .ref a1), (2, .int (iI i)), (3, .int (iI x)), (4, .ref ob1)]) C dX6_findOwn_118 rfl (by decide) rfl ?_
              refine c_goto (tgt := 52) C dX6_findOwn_121 (by decide) ?_
              refine c_lv (lv2 := [(5, (va_rf bs)), (6, .int (iI lg)), (9, .int (iI (k + 1))), (8, .ref rb4), (7, .int (iI mn1)), (0, .ref a0), (1, .ref a1), (2, .int (iI i)), (3, .int (iI x)), (4, .ref ob1)]) [2, 3, 0, 4, 5, 6, 7, 8, 9, 10] rfl ?_
              exact ih1  bs lg (k + 1)  (by omega)  ty_bs (by omega) (by omega) (hO.short rq3 ⟨by omega, by omega⟩ exf2 rq5 (by omega))
            · refine c_aload_n (j := 6) (x := a0) C dX6_findOwn_96 rfl ?_
              refine c_aload (j := 0) (x := f2) C dX6_findOwn_97 rfl ?_
              refine c_iload_n (j := 8) C dX6_findOwn_99 rfl ?_
              refine d_callV (As := [.ref f2, .int (iI i)]) (rest := []) C hM (G_fits (a0 := a0) (a1 := f2) (i := i) hW hS t_a0 rgf2 (by omega) (by show 0 ≤ i ∧ i ≤ 500; omega)) dX6_findOwn_100 kV_X6_149 rfl t_a0 rfl rfl (by decide) ck_7 rfl (Nat.le_of_ble_eq_true rfl) ⟨(Nat.le_of_ble_eq_true rfl), (Nat.le_of_ble_eq_true rfl)⟩ hph hph (show 0 + 0 = 0 from rfl) (by decide) (fun rh3 Lh3 clh3 lnh3 ivh3 rvh3 h3 => ?_)
              obtain ⟨f3, rfl, rfl, rfl, rfl, rfl, rfl, rgf3, exf3⟩ := h3
              refine c_st (st2 := [.int (iI f3)]) rfl ?_
              have gf3 : FTX ln iv rv a0 f2 i f3 := exf3
              refine c_if_eq (tgt := 118) C ⟨by omega, by omega⟩ dX6_findOwn_103 (by decide) (fun c4 => ?_) (fun c4 => ?_)
              · refine c_iinc (z := k) (j := 3) (lv2 := [(9, .int (iI (k + 1))), (10, .ref f2), (5, (va_rf bs)), (6, .int (iI lg)), (8, .ref rb4), (7, .int (iI mn1)), (0, .ref a0), (1, .ref a1), (2, .int (iI i)), (3, .int (iI x)), (4, .ref ob1)]) C dX6_findOwn_118 rfl (by decide) rfl ?_
                refine c_goto (tgt := 52) C dX6_findOwn_121 (by decide) ?_
                refine c_lv (lv2 := [(5, (va_rf bs)), (6, .int (iI lg)), (9, .int (iI (k + 1))), (8, .ref rb4), (7, .int (iI mn1)), (0, .ref a0), (1, .ref a1), (2, .int (iI i)), (3, .int (iI x)), (4, .ref ob1)]) [2, 3, 0, 4, 5, 6, 7, 8, 9, 10] rfl ?_
                exact ih1  bs lg (k + 1)  (by omega)  ty_bs (by omega) (by omega) (hO.miss rq3 ⟨by omega, by omega⟩ exf2 rq2 rq4 (by omega) gf3 (by omega))
              · refine c_aload (j := 0) (x := f2) C dX6_findOwn_106 rfl ?_
                refine c_astore (lv2 := [(5, .ref f2), (10, .ref f2), (6, .int (iI lg)), (9, .int (iI k)), (8, .ref rb4), (7, .int (iI mn1)), (0, .ref a0), (1, .ref a1), (2, .int (iI i)), (3, .int (iI x)), (4, .ref ob1)]) C dX6_findOwn_108 (by decide) rfl ?_
                refine c_aload (j := 1) (x := f2) C dX6_findOwn_110 rfl ?_
                refine c_getr (k := 1) C ck_6 dX6_findOwn_112 w3_141 (by decide) rgf2 rfl rfl (by decide) rfl rq5 ?_
                refine c_st (st2 := [.ref rb5]) rfl ?_
                refine c_alenI C dX6_findOwn_115 trb5 rfl ?_
                refine c_istore (lv2 := [(6, .int (iI ((ln rb5 : Nat) : Int))), (5, .ref f2), (10, .ref f2), (9, .int (iI k)), (8, .ref rb4), (7, .int (iI mn1)), (0, .ref a0), (1, .ref a1), (2, .int (iI i)), (3, .int (iI x)), (4, .ref ob1)]) C dX6_findOwn_116 (by decide) rfl ?_
                refine c_iinc (z := k) (j := 3) (lv2 := [(9, .int (iI (k + 1))), (6, .int (iI ((ln rb5 : Nat) : Int))), (5, .ref f2), (10, .ref f2), (8, .ref rb4), (7, .int (iI mn1)), (0, .ref a0), (1, .ref a1), (2, .int (iI i)), (3, .int (iI x)), (4, .ref ob1)]) C dX6_findOwn_118 rfl (by decide) rfl ?_
                refine c_goto (tgt := 52) C dX6_findOwn_121 (by decide) ?_
                refine c_lv (lv2 := [(5, .ref f2), (6, .int (iI ((ln rb5 : Nat) : Int))), (9, .int (iI (k + 1))), (8, .ref rb4), (7, .int (iI mn1)), (0, .ref a0), (1, .ref a1), (2, .int (iI i)), (3, .int (iI x)), (4, .ref ob1)]) [2, 1, 0, 4, 5, 6, 7, 8, 9, 10] rfl ?_
                exact ih1  (some f2) ((ln rb5 : Nat) : Int) (k + 1)  (by omega)  (fun _ q => by cases q; exact rgf2) (by omega) (by omega) (hO.hit rq3 ⟨by omega, by omega⟩ exf2 rq2 rq4 (by omega) gf3 (by omega) rq5 (by omega))
          · refine c_goto (tgt := 118) C dX6_findOwn_68 (by decide) ?_
            refine c_iinc (z := k) (j := 2) (lv2 := [(9, .int (iI (k + 1))), (5, (va_rf bs)), (6, .int (iI lg)), (8, .ref rb4), (7, .int (iI mn1)), (0, .ref a0), (1, .ref a1), (2, .int (iI i)), (3, .int (iI x)), (4, .ref ob1)]) C dX6_findOwn_118 rfl (by decide) rfl ?_
            refine c_goto (tgt := 52) C dX6_findOwn_121 (by decide) ?_
            refine c_lv (lv2 := [(5, (va_rf bs)), (6, .int (iI lg)), (9, .int (iI (k + 1))), (8, .ref rb4), (7, .int (iI mn1)), (0, .ref a0), (1, .ref a1), (2, .int (iI i)), (3, .int (iI x)), (4, .ref ob1)]) [1, 2, 0, 3, 4, 5, 6, 7, 8, 9] rfl ?_
            exact ih1  bs lg (k + 1)  (by omega)  ty_bs (by omega) (by omega) (hO.skip rq2 rq4 ⟨by omega, by omega⟩ (by omega))
    refine c_lv (lv2 := [(5, .ref ob1), (6, .int (iI ((ln rb1 : Nat) : Int))), (9, .int (iI 0)), (8, .ref rb4), (7, .int (iI mn1)), (0, .ref a0), (1, .ref a1), (2, .int (iI i)), (3, .int (iI x)), (4, .ref ob1)]) [4, 3, 0, 1, 2, 5, 6, 7, 8, 9] rfl ?_
    exact Lp1 202 (some ob1) ((ln rb1 : Nat) : Int) 0  (by omega)  (fun _ q => by cases q; exact tob1) (by omega) (by omega) (FOI.i1 rq1)
  · subst oq1
    refine c_lv (lv2 := [(5, .null), (0, .ref a0), (1, .ref a1), (2, .int (iI i)), (3, .int (iI x)), (4, .null)]) [0, 1, 2, 3, 4, 5] rfl ?_
    refine c_st (st2 := []) rfl ?_
    refine c_iconst C dX6_findOwn_9 ?_
    refine c_goto (tgt := 19) C dX6_findOwn_10 (by decide) ?_
    refine c_istore (lv2 := [(6, .int (iI 0)), (5, .null), (0, .ref a0), (1, .ref a1), (2, .int (iI i)), (3, .int (iI x)), (4, .null)]) C dX6_findOwn_19 (by decide) rfl ?_
    refine c_aload_n (j := 3) (x := a1) C dX6_findOwn_21 rfl ?_
    obtain ⟨rb6, rq6, trb6⟩ := hW.ref t_a1 5 rfl rfl rfl
    refine c_getr (k := 5) C ck_10 dX6_findOwn_22 w2_191 (by decide) t_a1 rfl rfl (by decide) rfl rq6 ?_
    refine c_st (st2 := [.ref rb6]) rfl ?_
    have ri4 : 0 ≤ iv rb6 2 ∧ iv rb6 2 ≤ 200 := hW.int trb6 2
    refine c_get (k := 2) C ck_2 dX6_findOwn_25 w1_47 (by decide) trb6 rfl rfl (by decide) rfl ?_
    refine c_aload_n (j := 3) (x := a1) C dX6_findOwn_28 rfl ?_
    obtain ⟨rb7, rq7, trb7⟩ := hW.ref t_a1 4 rfl rfl rfl
    refine c_getr (k := 4) C ck_10 dX6_findOwn_29 w2_189 (by decide) t_a1 rfl rfl (by decide) rfl rq7 ?_
    refine c_st (st2 := [.ref rb7, .int (iI (iv rb6 2))]) rfl ?_
    have ri5 : 0 ≤ iv rb7 2 ∧ iv rb7 2 ≤ 200 := hW.int trb7 2
    refine d_callV (As := []) (rest := [.int (iI (iv rb6 2))]) C hM (C_size_26 (a0 := rb7) hW hS trb7  ) dX6_findOwn_32 kV_X6_134 rfl trb7 rfl rfl (by decide) ck_0 rfl (Nat.le_of_ble_eq_true rfl) ⟨(Nat.le_of_ble_eq_true rfl), (Nat.le_of_ble_eq_true rfl)⟩ hph hph (show 0 + 0 = 0 from rfl) (by decide) (fun rh4 Lh4 clh4 lnh4 ivh4 rvh4 h4 => ?_)
    obtain ⟨f4, rfl, rfl, rfl, rfl, rfl, rfl, rgf4, exf4⟩ := h4
    refine c_st (st2 := [.int (iI f4), .int (iI (iv rb6 2))]) rfl ?_
    have gf4 : f4 = iv rb7 2 := exf4
    obtain ⟨mn2, hmn2, emn2⟩ := mmin_c (x := iv rb6 2) (y := f4) (r32_c (lo := 0) (hi := 200) ri4.1 ri4.2 (by decide) (by decide)) ⟨by omega, by omega⟩
    refine c_mmin (w := iI mn2) C dX6_findOwn_35 w4_109 w2_129 w1_14 w2_130 (by decide) (rom0 hph hph (by decide)) (Nat.le_of_ble_eq_true rfl) emn2 ?_
    refine c_istore (lv2 := [(7, .int (iI mn2)), (6, .int (iI 0)), (5, .null), (0, .ref a0), (1, .ref a1), (2, .int (iI i)), (3, .int (iI x)), (4, .null)]) C dX6_findOwn_38 (by decide) rfl ?_
    refine c_aload_n (j := 4) (x := a1) C dX6_findOwn_40 rfl ?_
    refine c_getr (k := 5) C ck_10 dX6_findOwn_41 w2_191 (by decide) t_a1 rfl rfl (by decide) rfl rq6 ?_
    refine c_st (st2 := [.ref rb6]) rfl ?_
    obtain ⟨rb8, rq8, trb8⟩ := hW.ref trb6 1 rfl rfl rfl
    refine hv2 (show 16 ≤ ln rb8 ∧ ln rb8 ≤ 400 from hW.len trb8 rfl) (hW.isz trb6 rfl rfl rq8) (fun lnrb8 szrb8 => ?_)
    refine c_getr (k := 1) C ck_2 dX6_findOwn_44 w1_42 (by decide) trb6 rfl rfl (by decide) rfl rq8 ?_
    refine c_st (st2 := [.ref rb8]) rfl ?_
    refine c_astore (lv2 := [(8, .ref rb8), (7, .int (iI mn2)), (6, .int (iI 0)), (5, .null), (0, .ref a0), (1, .ref a1), (2, .int (iI i)), (3, .int (iI x)), (4, .null)]) C dX6_findOwn_47 (by decide) rfl ?_
    refine c_iconst C dX6_findOwn_49 ?_
    refine c_istore (lv2 := [(9, .int (iI 0)), (8, .ref rb8), (7, .int (iI mn2)), (6, .int (iI 0)), (5, .null), (0, .ref a0), (1, .ref a1), (2, .int (iI i)), (3, .int (iI x)), (4, .null)]) C dX6_findOwn_50 (by decide) rfl ?_
    have Lp2 : ∀ (nn : Nat) (bs : Option Nat) (lg k : Int) , 201 - k < (nn : Int) → (∀ b, bs = some b → ty L cl b 20) → (0 ≤ lg ∧ lg ≤ 8) → (0 ≤ k ∧ k ≤ mn2) → (FOI sk ln iv rv a0 a1 i x none bs lg k) → cw p l e 3 ((PHM) + 0 - ((Phi (g0 G) sk) ln rv)) s m args below meth c G A 11 (MQ below (Qu G A (Qp G (Phi (g0 G) sk) ((Phi (g0 G) sk) ln rv) 0 (fun v L2 cl2 ln2 iv2 rv2 => ∃ f : Option Nat, v = some ((va_rf f)) ∧ L = L2 ∧ cl = cl2 ∧ ln = ln2 ∧ iv = iv2 ∧ rv = rv2 ∧ (∀ b, f = some b → ty L2 cl2 b 20) ∧ (FOX sk ln iv rv a0 a1 i x none f)))) args s (((PHM) + 0 - ((Phi (g0 G) sk) ln rv)) / 16) ((PHM) + 0 - ((Phi (g0 G) sk) ln rv)) A) (Phi (g0 G) sk) ((Phi (g0 G) sk) ln rv) L cl ln iv rv 0 52 [(5, (va_rf bs)), (6, .int (iI lg)), (9, .int (iI k)), (8, .ref rb8), (7, .int (iI mn2)), (0, .ref a0), (1, .ref a1), (2, .int (iI i)), (3, .int (iI x)), (4, .null)] [] := by
      intro nn
      induction nn with
      | zero =>
        intro bs lg k  hm  ty_bs hlg hk hO
        exact absurd hm (by omega)
      | succ nn ih2 =>
        intro bs lg k  hm  ty_bs hlg hk hO
        refine c_iload (j := 2) C dX6_findOwn_52 rfl ?_
        refine c_iload (j := 4) C dX6_findOwn_54 rfl ?_
        refine c_icmp_ge (tgt := 124) C ⟨by omega, by omega⟩ ⟨by omega, by omega⟩ dX6_findOwn_56 (by decide) (fun c5 => ?_) (fun c5 => ?_)
        · refine c_aloadr (j := 0) (r := bs) C dX6_findOwn_124 rfl ?_
          exact c_aret (x := bs) C dX6_findOwn_126 rfl (Or.inl ⟨_, rfl⟩) (by decide) (rom0 hph hph (by decide)) ⟨bs, rfl, rfl, rfl, rfl, rfl, rfl, ty_bs, (hO.fin rq7 rq6 (by omega) rq8)⟩
        · refine c_aload (j := 3) (x := rb8) C dX6_findOwn_59 rfl ?_
          refine c_iload (j := 2) C dX6_findOwn_61 rfl ?_
          have ll4 : 16 ≤ ln rb8 ∧ ln rb8 ≤ 400 := hW.len trb8 rfl
          refine c_iald C dX6_findOwn_63 trb8 rfl (by omega) (by omega) (by omega) ?_
          have ri6 : (-2147483648) ≤ iv rb8 k.toNat ∧ iv rb8 k.toNat ≤ 2147483647 := hW.int trb8 k.toNat
          refine c_iload_n (j := 8) C dX6_findOwn_64 rfl ?_
          refine c_icmp_eq (tgt := 71) C (r32_c (lo := (-2147483648)) (hi := 2147483647) ri6.1 ri6.2 (by decide) (by decide)) ⟨by omega, by omega⟩ dX6_findOwn_65 (by decide) (fun c6 => ?_) (fun c6 => ?_)
          · refine c_aload_n (j := 6) (x := a1) C dX6_findOwn_71 rfl ?_
            refine c_getr (k := 4) C ck_10 dX6_findOwn_72 w2_189 (by decide) t_a1 rfl rfl (by decide) rfl rq7 ?_
            refine c_st (st2 := [.ref rb7]) rfl ?_
            refine c_iload (j := 2) C dX6_findOwn_75 rfl ?_
            refine d_callV (As := [.int (iI k)]) (rest := []) C hM (C_get_26 (a0 := rb7) (i := k) hW hS trb7 (by omega) (by show 0 ≤ k ∧ k < iv rb7 2; omega)) dX6_findOwn_77 kV_X6_145 rfl trb7 rfl rfl (by decide) ck_0 rfl (Nat.le_of_ble_eq_true rfl) ⟨(Nat.le_of_ble_eq_true rfl), (Nat.le_of_ble_eq_true rfl)⟩ hph hph (show 0 + 0 = 0 from rfl) (by decide) (fun rh5 Lh5 clh5 lnh5 ivh5 rvh5 h5 => ?_)
            obtain ⟨f5, rfl, rfl, rfl, rfl, rfl, rfl, rgf5, exf5⟩ := h5
            refine c_st (st2 := [.ref f5]) rfl ?_
            have gf5 : el rv rb7 k.toNat = some f5 := exf5
            refine c_cast C ck_6 dX6_findOwn_80 w4_111 w8_169t rgf5 rfl rfl (by decide) ?_
            refine c_astore (lv2 := [(10, .ref f5), (5, (va_rf bs)), (6, .int (iI lg)), (9, .int (iI k)), (8, .ref rb8), (7, .int (iI mn2)), (0, .ref a0), (1, .ref a1), (2, .int (iI i)), (3, .int (iI x)), (4, .null)]) C dX6_findOwn_83 (by decide) rfl ?_
            refine c_aload (j := 0) (x := f5) C dX6_findOwn_85 rfl ?_
            obtain ⟨rb9, rq9, trb9⟩ := hW.ref rgf5 1 rfl rfl rfl
            have lnrb9 : 0 ≤ ln rb9 ∧ ln rb9 ≤ 8 := hW.len trb9 rfl
            refine c_getr (k := 1) C ck_6 dX6_findOwn_87 w3_141 (by decide) rgf5 rfl rfl (by decide) rfl rq9 ?_
            refine c_st (st2 := [.ref rb9]) rfl ?_
            have ll5 : 0 ≤ ln rb9 ∧ ln rb9 ≤ 8 := hW.len trb9 rfl
            refine c_alenI C dX6_findOwn_90 trb9 rfl ?_
            refine c_iload (j := 2) C dX6_findOwn_91 rfl ?_
            refine c_icmp_le (tgt := 118) C ⟨by omega, by omega⟩ (r32_c (lo := 0) (hi := 8) hlg.1 hlg.2 (by decide) (by decide)) dX6_findOwn_93 (by decide) (fun c7 => ?_) (fun c7 => ?_)
            · refine c_iinc (z := k) (j := 3) (lv2 := [(9, .int (iI (k + 1))), (10, .ref f5), (5, (va_rf bs)), (6, .int (iI lg)), (8, .ref rb8), (7, .int (iI mn2)), (0, .ref a0), (1, .ref a1), (2, .int (iI i)), (3, .int (iI x)), (4, .null)]) C dX6_findOwn_118 rfl (by decide) rfl ?_
              refine c_goto (tgt := 52) C dX6_findOwn_121 (by decide) ?_
              refine c_lv (lv2 := [(5, (va_rf bs)), (6, .int (iI lg)), (9, .int (iI (k + 1))), (8, .ref rb8), (7, .int (iI mn2)), (0, .ref a0), (1, .ref a1), (2, .int (iI i)), (3, .int (iI x)), (4, .null)]) [2, 3, 0, 4, 5, 6, 7, 8, 9, 10] rfl ?_
              exact ih2  bs lg (k + 1)  (by omega)  ty_bs (by omega) (by omega) (hO.short rq7 ⟨by omega, by omega⟩ exf5 rq9 (by omega))
            · refine c_aload_n (j := 6) (x := a0) C dX6_findOwn_96 rfl ?_
              refine c_aload (j := 0) (x := f5) C dX6_findOwn_97 rfl ?_
              refine c_iload_n (j := 8) C dX6_findOwn_99 rfl ?_
              refine d_callV (As := [.ref f5, .int (iI i)]) (rest := []) C hM (G_fits (a0 := a0) (a1 := f5) (i := i) hW hS t_a0 rgf5 (by omega) (by show 0 ≤ i ∧ i ≤ 500; omega)) dX6_findOwn_100 kV_X6_149 rfl t_a0 rfl rfl (by decide) ck_7 rfl (Nat.le_of_ble_eq_true rfl) ⟨(Nat.le_of_ble_eq_true rfl), (Nat.le_of_ble_eq_true rfl)⟩ hph hph (show 0 + 0 = 0 from rfl) (by decide) (fun rh6 Lh6 clh6 lnh6 ivh6 rvh6 h6 => ?_)
              obtain ⟨f6, rfl, rfl, rfl, rfl, rfl, rfl, rgf6, exf6⟩ := h6
              refine c_st (st2 := [.int (iI f6)]) rfl ?_
              have gf6 : FTX ln iv rv a0 f5 i f6 := exf6
              refine c_if_eq (tgt := 118) C ⟨by omega, by omega⟩ dX6_findOwn_103 (by decide) (fun c8 => ?_) (fun c8 => ?_)
              · refine c_iinc (z := k) (j := 3) (lv2 := [(9, .int (iI (k + 1))), (10, .ref f5), (5, (va_rf bs)), (6, .int (iI lg)), (8, .ref rb8), (7, .int (iI mn2)), (0, .ref a0), (1, .ref a1), (2, .int (iI i)), (3, .int (iI x)), (4, .null)]) C dX6_findOwn_118 rfl (by decide) rfl ?_
                refine c_goto (tgt := 52) C dX6_findOwn_121 (by decide) ?_
                refine c_lv (lv2 := [(5, (va_rf bs)), (6, .int (iI lg)), (9, .int (iI (k + 1))), (8, .ref rb8), (7, .int (iI mn2)), (0, .ref a0), (1, .ref a1), (2, .int (iI i)), (3, .int (iI x)), (4, .null)]) [2, 3, 0, 4, 5, 6, 7, 8, 9, 10] rfl ?_
                exact ih2  bs lg (k + 1)  (by omega)  ty_bs (by omega) (by omega) (hO.miss rq7 ⟨by omega, by omega⟩ exf5 rq6 rq8 (by omega) gf6 (by omega))
              · refine c_aload (j := 0) (x := f5) C dX6_findOwn_106 rfl ?_
                refine c_astore (lv2 := [(5, .ref f5), (10, .ref f5), (6, .int (iI lg)), (9, .int (iI k)), (8, .ref rb8), (7, .int (iI mn2)), (0, .ref a0), (1, .ref a1), (2, .int (iI i)), (3, .int (iI x)), (4, .null)]) C dX6_findOwn_108 (by decide) rfl ?_
                refine c_aload (j := 1) (x := f5) C dX6_findOwn_110 rfl ?_
                refine c_getr (k := 1) C ck_6 dX6_findOwn_112 w3_141 (by decide) rgf5 rfl rfl (by decide) rfl rq9 ?_
                refine c_st (st2 := [.ref rb9]) rfl ?_
                refine c_alenI C dX6_findOwn_115 trb9 rfl ?_
                refine c_istore (lv2 := [(6, .int (iI ((ln rb9 : Nat) : Int))), (5, .ref f5), (10, .ref f5), (9, .int (iI k)), (8, .ref rb8), (7, .int (iI mn2)), (0, .ref a0), (1, .ref a1), (2, .int (iI i)), (3, .int (iI x)), (4, .null)]) C dX6_findOwn_116 (by decide) rfl ?_
                refine c_iinc (z := k) (j := 3) (lv2 := [(9, .int (iI (k + 1))), (6, .int (iI ((ln rb9 : Nat) : Int))), (5, .ref f5), (10, .ref f5), (8, .ref rb8), (7, .int (iI mn2)), (0, .ref a0), (1, .ref a1), (2, .int (iI i)), (3, .int (iI x)), (4, .null)]) C dX6_findOwn_118 rfl (by decide) rfl ?_
                refine c_goto (tgt := 52) C dX6_findOwn_121 (by decide) ?_
                refine c_lv (lv2 := [(5, .ref f5), (6, .int (iI ((ln rb9 : Nat) : Int))), (9, .int (iI (k + 1))), (8, .ref rb8), (7, .int (iI mn2)), (0, .ref a0), (1, .ref a1), (2, .int (iI i)), (3, .int (iI x)), (4, .null)]) [2, 1, 0, 4, 5, 6, 7, 8, 9, 10] rfl ?_
                exact ih2  (some f5) ((ln rb9 : Nat) : Int) (k + 1)  (by omega)  (fun _ q => by cases q; exact rgf5) (by omega) (by omega) (hO.hit rq7 ⟨by omega, by omega⟩ exf5 rq6 rq8 (by omega) gf6 (by omega) rq9 (by omega))
          · refine c_goto (tgt := 118) C dX6_findOwn_68 (by decide) ?_
            refine c_iinc (z := k) (j := 2) (lv2 := [(9, .int (iI (k + 1))), (5, (va_rf bs)), (6, .int (iI lg)), (8, .ref rb8), (7, .int (iI mn2)), (0, .ref a0), (1, .ref a1), (2, .int (iI i)), (3, .int (iI x)), (4, .null)]) C dX6_findOwn_118 rfl (by decide) rfl ?_
            refine c_goto (tgt := 52) C dX6_findOwn_121 (by decide) ?_
            refine c_lv (lv2 := [(5, (va_rf bs)), (6, .int (iI lg)), (9, .int (iI (k + 1))), (8, .ref rb8), (7, .int (iI mn2)), (0, .ref a0), (1, .ref a1), (2, .int (iI i)), (3, .int (iI x)), (4, .null)]) [1, 2, 0, 3, 4, 5, 6, 7, 8, 9] rfl ?_
            exact ih2  bs lg (k + 1)  (by omega)  ty_bs (by omega) (by omega) (hO.skip rq6 rq8 ⟨by omega, by omega⟩ (by omega))
    refine c_lv (lv2 := [(5, .null), (6, .int (iI 0)), (9, .int (iI 0)), (8, .ref rb8), (7, .int (iI mn2)), (0, .ref a0), (1, .ref a1), (2, .int (iI i)), (3, .int (iI x)), (4, .null)]) [4, 3, 0, 1, 2, 5, 6, 7, 8, 9] rfl ?_
    exact Lp2 202 none 0 0  (by omega)  (fun _ q => by cases q) (by omega) (by omega) FOI.i0
set_option maxHeartbeats 4000000 in
set_option maxRecDepth 100000 in
theorem G_find {l : Launch} {G : GT} {mi : Nat} {sk : Nat → Nat} {L : List Nat} {cl ln : Nat → Nat} {iv : Nat → Nat → Int} {rv : Nat → Nat → Option Nat}  {a0 : Nat} {a1 : Nat} {i : Int} {x : Int} (hW : WT (g0 G) sk L cl ln iv rv) (hS : SKL sk L cl) (t_a0 : ty L cl a0 15) (t_a1 : ty L cl a1 100) (h_i : -2147483648 ≤ i ∧ i ≤ 2147483647) (h_x : -2147483648 ≤ x ∧ x ≤ 2147483647) (hi : 0 ≤ i ∧ i ≤ 500) : Mc l G mi (Phi (g0 G) sk) PHM yX6_find cX6_find 7 (some (.object "DotPress$Row")) 4 [.ref a0, .ref a1, .int (iI i), .int (iI x)] L cl ln iv rv 0 (fun v L2 cl2 ln2 iv2 rv2 => ∃ f : Option Nat, v = some ((va_rf f)) ∧ L = L2 ∧ cl = cl2 ∧ ln = ln2 ∧ rv = rv2 ∧ fT [55] L cl iv rv iv2 rv2 ∧ WT (g0 G) sk L2 cl2 ln2 iv2 rv2 ∧ (∀ b, f = some b → ty L2 cl2 b 20) ∧ (FDX sk ln iv rv a0 a1 i x f)) := by
  refine Mc.mk (by decide) (Nat.le_of_ble_eq_true rfl) ?_
  intro p e s m args below meth c A C hM
  refine hv3 (Phi.le hW hS) (show XT L cl ln L cl ln from XT.refl) (show fT [55] L cl iv rv iv rv from fT.refl) (fun hph hX0 hF0 => ?_)
  refine c_null C dX6_find_0 ?_
  refine c_astorer (r := none) (lv2 := [(4, .null), (0, .ref a0), (1, .ref a1), (2, .int (iI i)), (3, .int (iI x))]) C dX6_find_1 (by decide) rfl ?_
  refine c_iload_n (j := 4) C dX6_find_3 rfl ?_
  refine c_istore (lv2 := [(5, .int (iI x)), (4, .null), (0, .ref a0), (1, .ref a1), (2, .int (iI i)), (3, .int (iI x))]) C dX6_find_4 (by decide) rfl ?_
  refine c_aload_n (j := 3) (x := a1) C dX6_find_6 rfl ?_
  refine c_astore (lv2 := [(6, .ref a1), (5, .int (iI x)), (4, .null), (0, .ref a0), (1, .ref a1), (2, .int (iI i)), (3, .int (iI x))]) C dX6_find_7 (by decide) rfl ?_
  have Lp1 : ∀ (nn : Nat) (bs : Option Nat) (tq : Option Nat) (he rk : Int) (ivb1 : Nat → Nat → Int) , rk - 99 < (nn : Int) → WT (g0 G) sk L cl ln ivb1 rv → fT [55] L cl iv rv ivb1 rv → (∀ b, bs = some b → ty L cl b 20) → (∀ b, tq = some b → ty L cl b 100) → (-2147483648 ≤ he ∧ he ≤ 2147483647) → (99 ≤ rk) → (∀ b, tq = some b → ((cl b : Nat) : Int) ≤ rk) → (FDI sk ln iv rv a0 a1 i x bs he tq) → cw p l e 4 ((PHM) + 0 - ((Phi (g0 G) sk) ln rv)) s m args below meth c G A 7 (MQ below (Qu G A (Qp G (Phi (g0 G) sk) ((Phi (g0 G) sk) ln rv) 0 (fun v L2 cl2 ln2 iv2 rv2 => ∃ f : Option Nat, v = some ((va_rf f)) ∧ L = L2 ∧ cl = cl2 ∧ ln = ln2 ∧ rv = rv2 ∧ fT [55] L cl iv rv iv2 rv2 ∧ WT (g0 G) sk L2 cl2 ln2 iv2 rv2 ∧ (∀ b, f = some b → ty L2 cl2 b 20) ∧ (FDX sk ln iv rv a0 a1 i x f)))) args s (((PHM) + 0 - ((Phi (g0 G) sk) ln rv)) / 16) ((PHM) + 0 - ((Phi (g0 G) sk) ln rv)) A) (Phi (g0 G) sk) ((Phi (g0 G) sk) ln rv) L cl ln ivb1 rv 0 9 [(4, (va_rf bs)), (5, .int (iI he)), (6, (va_rf tq)), (0, .ref a0), (1, .ref a1), (2, .int (iI i)), (3, .int (iI x))] [] := by
    intro nn
    induction nn with
    | zero =>
      intro bs tq he rk ivb1 hm Wb1 Fb1 ty_bs ty_tq hhe h99 hrk hD
      exact absurd hm (by omega)
    | succ nn ih1 =>
      intro bs tq he rk ivb1 hm Wb1 Fb1 ty_bs ty_tq hhe h99 hrk hD
      refine c_aloadr (j := 2) (r := tq) C dX6_find_9 rfl ?_
      refine c_ifnull (r := tq) (tgt := 146) C dX6_find_11 (by decide) (fun oq1 => ?_) (fun ob1 oq1 => ?_)
      · subst oq1
        refine c_lv (lv2 := [(4, (va_rf bs)), (5, .int (iI he)), (6, .null), (0, .ref a0), (1, .ref a1), (2, .int (iI i)), (3, .int (iI x))]) [0, 1, 2, 3, 4, 5, 6] rfl ?_
        refine c_st (st2 := []) rfl ?_
        refine c_aloadr (j := 0) (r := bs) C dX6_find_146 rfl ?_
        exact c_aret (x := bs) C dX6_find_148 rfl (Or.inl ⟨_, rfl⟩) (by decide) (rom0 hph hph (by decide)) ⟨bs, rfl, rfl, rfl, rfl, rfl, Fb1, Wb1, ty_bs, hD.fin0⟩
      · subst oq1
        refine hv2 (ty_tq ob1 rfl) (hrk ob1 rfl) (fun tob1 hkob1 => ?_)
        have tgob1 := bt_100 tob1.2
        refine c_lv (lv2 := [(4, (va_rf bs)), (5, .int (iI he)), (6, .ref ob1), (0, .ref a0), (1, .ref a1), (2, .int (iI i)), (3, .int (iI x))]) [0, 1, 2, 3, 4, 5, 6] rfl ?_
        refine c_st (st2 := []) rfl ?_
        refine c_aload_n (j := 3) (x := a0) C dX6_find_14 rfl ?_
        refine c_aload (j := 2) (x := ob1) C dX6_find_15 rfl ?_
        refine hv2 (show (-2147483648) ≤ ivb1 ob1 0 ∧ ivb1 ob1 0 ≤ 2147483647 from Wb1.int tob1 0) (show ivb1 ob1 0 = iv ob1 0 from Fb1.i tob1 rfl 0) (fun ri1 ie1 => ?_)
        refine c_get (k := 0) C ck_10 dX6_find_17 w2_177 (by decide) tob1 rfl rfl (by decide) rfl ?_
        refine d_callV (As := [.int (iI (ivb1 ob1 0))]) (rest := []) C hM (C_countFind (a0 := a0) (i := ivb1 ob1 0) Wb1 hS t_a0 (by omega) ) dX6_find_20 kV_X6_119 rfl t_a0 rfl rfl (by decide) ck_7 rfl (Nat.le_of_ble_eq_true rfl) ⟨(Nat.le_of_ble_eq_true rfl), (Nat.le_of_ble_eq_true rfl)⟩ hph hph (show 0 + 0 = 0 from rfl) (by decide) (fun rh1 Lh1 clh1 lnh1 ivh1 rvh1 h1 => ?_)
        obtain ⟨rfl, rfl, rfl, rfl, rfl, fl1, W1, exf1⟩ := h1
        have F1 := Fb1.call hX0 fl1 rfl
        refine c_st (st2 := []) rfl ?_
        refine c_aload (j := 2) (x := ob1) C dX6_find_23 rfl ?_
        refine hv2 (show (-2147483648) ≤ ivh1 ob1 0 ∧ ivh1 ob1 0 ≤ 2147483647 from W1.int tob1 0) (show ivh1 ob1 0 = ivb1 ob1 0 from fl1.i tob1 rfl 0) (fun ri2 ie2 => ?_)
        refine c_get (k := 0) C ck_10 dX6_find_25 w2_177 (by decide) tob1 rfl rfl (by decide) rfl ?_
        refine c_if_eq (tgt := 40) C (r32_c (lo := (-2147483648)) (hi := 2147483647) ri2.1 ri2.2 (by decide) (by decide)) dX6_find_28 (by decide) (fun c1 => ?_) (fun c1 => ?_)
        · refine c_aload_n (j := 3) (x := a0) C dX6_find_40 rfl ?_
          refine c_aload (j := 2) (x := ob1) C dX6_find_41 rfl ?_
          refine c_iload_n (j := 5) C dX6_find_43 rfl ?_
          refine c_iload (j := 1) C dX6_find_44 rfl ?_
          refine c_aloadr (j := 0) (r := bs) C dX6_find_46 rfl ?_
          refine d_callV (As := [.ref ob1, .int (iI i), .int (iI he), (va_rf bs)]) (rest := []) C hM (G_findOwn (a0 := a0) (a1 := ob1) (i := i) (x := he) (r := bs) W1 hS t_a0 tob1 ty_bs (by omega) (by omega) (by show 0 ≤ i ∧ i ≤ 500; omega)) dX6_find_48 kV_X6_122 rfl t_a0 rfl rfl (by decide) ck_7 rfl (Nat.le_of_ble_eq_true rfl) ⟨(Nat.le_of_ble_eq_true rfl), (Nat.le_of_ble_eq_true rfl)⟩ hph hph (show 0 + 0 = 0 from rfl) (by decide) (fun rh2 Lh2 clh2 lnh2 ivh2 rvh2 h2 => ?_)
          obtain ⟨f2, rfl, rfl, rfl, rfl, rfl, rfl, rgf2, exf2⟩ := h2
          refine c_st (st2 := [(va_rf f2)]) rfl ?_
          have gf2 : FOX sk ln ivh1 rv a0 ob1 i he bs f2 := exf2
          exact c_aret (x := f2) C dX6_find_51 rfl (Or.inl ⟨_, rfl⟩) (by decide) (rom0 hph hph (by decide)) ⟨f2, rfl, rfl, rfl, rfl, rfl, F1, W1, rgf2, (hD.plain (FOX.ni hW hS W1 F1 t_a0 ty_bs rgf2 gf2) (by omega) (by omega))⟩
        · refine c_aload (j := 2) (x := ob1) C dX6_find_31 rfl ?_
          refine c_get (k := 0) C ck_10 dX6_find_33 w2_177 (by decide) tob1 rfl rfl (by decide) rfl ?_
          refine c_iconst C dX6_find_36 ?_
          refine c_icmp_ne (tgt := 52) C (r32_c (lo := (-2147483648)) (hi := 2147483647) ri2.1 ri2.2 (by decide) (by decide)) ⟨by decide, by decide⟩ dX6_find_37 (by decide) (fun c2 => ?_) (fun c2 => ?_)
          · refine c_aload (j := 2) (x := ob1) C dX6_find_52 rfl ?_
            refine c_get (k := 0) C ck_10 dX6_find_54 w2_177 (by decide) tob1 rfl rfl (by decide) rfl ?_
            refine c_iconst C dX6_find_57 ?_
            refine c_icmp_ne (tgt := 72) C (r32_c (lo := (-2147483648)) (hi := 2147483647) ri2.1 ri2.2 (by decide) (by decide)) ⟨by decide, by decide⟩ dX6_find_58 (by decide) (fun c3 => ?_) (fun c3 => ?_)
            · refine c_aload (j := 2) (x := ob1) C dX6_find_72 rfl ?_
              refine c_get (k := 0) C ck_10 dX6_find_74 w2_177 (by decide) tob1 rfl rfl (by decide) rfl ?_
              refine c_iconst C dX6_find_77 ?_
              refine c_icmp_ne (tgt := 106) C (r32_c (lo := (-2147483648)) (hi := 2147483647) ri2.1 ri2.2 (by decide) (by decide)) ⟨by decide, by decide⟩ dX6_find_78 (by decide) (fun c4 => ?_) (fun c4 => ?_)
              · refine c_aload_n (j := 3) (x := a0) C dX6_find_106 rfl ?_
                refine c_iconst C dX6_find_107 ?_
                refine d_callV (As := [.int (iI 0)]) (rest := []) C hM (C_countFind (a0 := a0) (i := 0) W1 hS t_a0 ⟨by decide, by decide⟩ ) dX6_find_108 kV_X6_119 rfl t_a0 rfl rfl (by decide) ck_7 rfl (Nat.le_of_ble_eq_true rfl) ⟨(Nat.le_of_ble_eq_true rfl), (Nat.le_of_ble_eq_true rfl)⟩ hph hph (show 0 + 0 = 0 from rfl) (by decide) (fun rh3 Lh3 clh3 lnh3 ivh3 rvh3 h3 => ?_)
                obtain ⟨rfl, rfl, rfl, rfl, rfl, fl3, W3, exf3⟩ := h3
                have F2 := F1.call hX0 fl3 rfl
                refine c_st (st2 := []) rfl ?_
                refine c_aload_n (j := 3) (x := a0) C dX6_find_111 rfl ?_
                refine c_aload (j := 2) (x := ob1) C dX6_find_112 rfl ?_
                refine c_iload_n (j := 5) C dX6_find_114 rfl ?_
                refine c_iload (j := 1) C dX6_find_115 rfl ?_
                refine c_aloadr (j := 0) (r := bs) C dX6_find_117 rfl ?_
                refine d_callV (As := [.ref ob1, .int (iI i), .int (iI he), (va_rf bs)]) (rest := []) C hM (G_findOwn (a0 := a0) (a1 := ob1) (i := i) (x := he) (r := bs) W3 hS t_a0 tob1 ty_bs (by omega) (by omega) (by show 0 ≤ i ∧ i ≤ 500; omega)) dX6_find_119 kV_X6_122 rfl t_a0 rfl rfl (by decide) ck_7 rfl (Nat.le_of_ble_eq_true rfl) ⟨(Nat.le_of_ble_eq_true rfl), (Nat.le_of_ble_eq_true rfl)⟩ hph hph (show 0 + 0 = 0 from rfl) (by decide) (fun rh4 Lh4 clh4 lnh4 ivh4 rvh4 h4 => ?_)
                obtain ⟨f4, rfl, rfl, rfl, rfl, rfl, rfl, rgf4, exf4⟩ := h4
                refine c_st (st2 := [(va_rf f4)]) rfl ?_
                have gf4 : FOX sk ln ivh3 rv a0 ob1 i he bs f4 := exf4
                refine c_astorer (r := f4) (lv2 := [(4, (va_rf f4)), (5, .int (iI he)), (6, .ref ob1), (0, .ref a0), (1, .ref a1), (2, .int (iI i)), (3, .int (iI x))]) C dX6_find_122 (by decide) rfl ?_
                refine c_aload (j := 2) (x := ob1) C dX6_find_124 rfl ?_
                refine hv2 (show (-2147483648) ≤ ivh3 ob1 0 ∧ ivh3 ob1 0 ≤ 2147483647 from W3.int tob1 0) (show ivh3 ob1 0 = ivh1 ob1 0 from fl3.i tob1 rfl 0) (fun ri3 ie3 => ?_)
                refine c_get (k := 0) C ck_10 dX6_find_126 w2_177 (by decide) tob1 rfl rfl (by decide) rfl ?_
                refine c_iconst C dX6_find_129 ?_
                refine c_icmp_ne (tgt := 136) C (r32_c (lo := (-2147483648)) (hi := 2147483647) ri3.1 ri3.2 (by decide) (by decide)) ⟨by decide, by decide⟩ dX6_find_130 (by decide) (fun c5 => ?_) (fun c5 => ?_)
                · refine c_aload (j := 2) (x := ob1) C dX6_find_136 rfl ?_
                  rcases W3.opt tob1 2 rfl rfl with ⟨nq1, _⟩ | ⟨nb1, nq1, tnb1⟩
                  · refine c_getr (k := 2) C ck_10 dX6_find_138 w2_182 (by decide) tob1 rfl rfl (by decide) rfl nq1 ?_
                    refine c_st (st2 := [.null]) rfl ?_
                    refine c_astorer (r := none) (lv2 := [(6, .null), (4, (va_rf f4)), (5, .int (iI he)), (0, .ref a0), (1, .ref a1), (2, .int (iI i)), (3, .int (iI x))]) C dX6_find_141 (by decide) rfl ?_
                    refine c_goto (tgt := 9) C dX6_find_143 (by decide) ?_
                    refine c_lv (lv2 := [(4, (va_rf f4)), (5, .int (iI he)), (6, .null), (0, .ref a0), (1, .ref a1), (2, .int (iI i)), (3, .int (iI x))]) [1, 2, 0, 3, 4, 5, 6] rfl ?_
                    exact ih1  f4 none he (rk - 1) _ (by omega) W3 F2 rgf4 (fun _ q => by cases q) (by omega) (by omega) (fun _ q => by cases q) (hD.con (FOX.ni hW hS W3 F2 t_a0 ty_bs rgf4 gf4) (by omega) nq1 (by omega))
                  · have rknb1 := W3.rank tob1 (k := 2) (by decide) nq1
                    refine c_getr (k := 2) C ck_10 dX6_find_138 w2_182 (by decide) tob1 rfl rfl (by decide) rfl nq1 ?_
                    refine c_st (st2 := [.ref nb1]) rfl ?_
                    refine c_astore (lv2 := [(6, .ref nb1), (4, (va_rf f4)), (5, .int (iI he)), (0, .ref a0), (1, .ref a1), (2, .int (iI i)), (3, .int (iI x))]) C dX6_find_141 (by decide) rfl ?_
                    refine c_goto (tgt := 9) C dX6_find_143 (by decide) ?_
                    have trnb1 := bt_100 tnb1.2
                    refine c_lv (lv2 := [(4, (va_rf f4)), (5, .int (iI he)), (6, .ref nb1), (0, .ref a0), (1, .ref a1), (2, .int (iI i)), (3, .int (iI x))]) [1, 2, 0, 3, 4, 5, 6] rfl ?_
                    exact ih1  f4 (some nb1) he (rk - 1) _ (by omega) W3 F2 rgf4 (fun _ q => by cases q; exact tnb1) (by omega) (by omega) (fun _ q => by cases q; omega) (hD.con (FOX.ni hW hS W3 F2 t_a0 ty_bs rgf4 gf4) (by omega) nq1 (by omega))
                · refine c_aloadr (j := 0) (r := f4) C dX6_find_133 rfl ?_
                  exact c_aret (x := f4) C dX6_find_135 rfl (Or.inl ⟨_, rfl⟩) (by decide) (rom0 hph hph (by decide)) ⟨f4, rfl, rfl, rfl, rfl, rfl, F2, W3, rgf4, (by exfalso; omega)⟩
              · refine c_aload_n (j := 3) (x := a0) C dX6_find_81 rfl ?_
                refine c_iconst C dX6_find_82 ?_
                refine d_callV (As := [.int (iI 1)]) (rest := []) C hM (C_countFind (a0 := a0) (i := 1) W1 hS t_a0 ⟨by decide, by decide⟩ ) dX6_find_83 kV_X6_119 rfl t_a0 rfl rfl (by decide) ck_7 rfl (Nat.le_of_ble_eq_true rfl) ⟨(Nat.le_of_ble_eq_true rfl), (Nat.le_of_ble_eq_true rfl)⟩ hph hph (show 0 + 0 = 0 from rfl) (by decide) (fun rh5 Lh5 clh5 lnh5 ivh5 rvh5 h5 => ?_)
                obtain ⟨rfl, rfl, rfl, rfl, rfl, fl5, W5, exf5⟩ := h5
                have F3 := F1.call hX0 fl5 rfl
                refine c_st (st2 := []) rfl ?_
                refine c_iload (j := 1) C dX6_find_86 rfl ?_
                refine c_callSN0 (As := [.int (iI he)]) (rest := []) C (fun L E => s11_isGreat (iI he)) dX6_find_88 kSN_X6_98 rfl rfl (Nat.le_of_ble_eq_true rfl) ⟨(Nat.le_of_ble_eq_true rfl), (Nat.le_of_ble_eq_true rfl)⟩ (rom0 hph hph (by decide)) ?_
                rcases inn_c (x := he) (lo := 65) (hi := 90) (r32_c (lo := (-2147483648)) (hi := 2147483647) hhe.1 hhe.2 (by decide) (by decide)) ⟨by decide, by decide⟩ ⟨by decide, by decide⟩ with ⟨hs1a, hs1b, hs1e⟩ | ⟨hs1a, hs1e⟩
                · refine c_st (st2 := [.int (iI 1)]) (by rw [show inn (iI he) 65 90 = iI 1 from hs1e]) ?_
                  refine c_if_eq (tgt := 102) C ⟨by decide, by decide⟩ dX6_find_91 (by decide) (fun z => absurd z (by omega)) (fun _ => ?_)
                  refine c_iload (j := 1) C dX6_find_94 rfl ?_
                  refine c_bipush (z := 32) C dX6_find_96 (by decide) ?_
                  refine c_iadd C dX6_find_98 ?_
                  refine c_goto (tgt := 104) C dX6_find_99 (by decide) ?_
                  refine c_istore (lv2 := [(5, .int (iI (he + 32))), (4, (va_rf bs)), (6, .ref ob1), (0, .ref a0), (1, .ref a1), (2, .int (iI i)), (3, .int (iI x))]) C dX6_find_104 (by decide) (by cases bs <;> rfl) ?_
                  refine c_aload_n (j := 3) (x := a0) C dX6_find_106 rfl ?_
                  refine c_iconst C dX6_find_107 ?_
                  refine d_callV (As := [.int (iI 0)]) (rest := []) C hM (C_countFind (a0 := a0) (i := 0) W5 hS t_a0 ⟨by decide, by decide⟩ ) dX6_find_108 kV_X6_119 rfl t_a0 rfl rfl (by decide) ck_7 rfl (Nat.le_of_ble_eq_true rfl) ⟨(Nat.le_of_ble_eq_true rfl), (Nat.le_of_ble_eq_true rfl)⟩ hph hph (show 0 + 0 = 0 from rfl) (by decide) (fun rh6 Lh6 clh6 lnh6 ivh6 rvh6 h6 => ?_)
                  obtain ⟨rfl, rfl, rfl, rfl, rfl, fl6, W6, exf6⟩ := h6
                  have F4 := F3.call hX0 fl6 rfl
                  refine c_st (st2 := []) rfl ?_
                  refine c_aload_n (j := 3) (x := a0) C dX6_find_111 rfl ?_
                  refine c_aload (j := 2) (x := ob1) C dX6_find_112 rfl ?_
                  refine c_iload_n (j := 5) C dX6_find_114 rfl ?_
                  refine c_iload (j := 0) C dX6_find_115 rfl ?_
                  refine c_aloadr (j := 1) (r := bs) C dX6_find_117 rfl ?_
                  refine d_callV (As := [.ref ob1, .int (iI i), .int (iI (he + 32)), (va_rf bs)]) (rest := []) C hM (G_findOwn (a0 := a0) (a1 := ob1) (i := i) (x := he + 32) (r := bs) W6 hS t_a0 tob1 ty_bs (by omega) (by omega) (by show 0 ≤ i ∧ i ≤ 500; omega)) dX6_find_119 kV_X6_122 rfl t_a0 rfl rfl (by decide) ck_7 rfl (Nat.le_of_ble_eq_true rfl) ⟨(Nat.le_of_ble_eq_true rfl), (Nat.le_of_ble_eq_true rfl)⟩ hph hph (show 0 + 0 = 0 from rfl) (by decide) (fun rh7 Lh7 clh7 lnh7 ivh7 rvh7 h7 => ?_)
                  obtain ⟨f7, rfl, rfl, rfl, rfl, rfl, rfl, rgf7, exf7⟩ := h7
                  refine c_st (st2 := [(va_rf f7)]) rfl ?_
                  have gf7 : FOX sk ln ivh6 rv a0 ob1 i (he + 32) bs f7 := exf7
                  refine c_astorer (r := f7) (lv2 := [(4, (va_rf f7)), (5, .int (iI (he + 32))), (6, .ref ob1), (0, .ref a0), (1, .ref a1), (2, .int (iI i)), (3, .int (iI x))]) C dX6_find_122 (by decide) rfl ?_
                  refine c_aload (j := 2) (x := ob1) C dX6_find_124 rfl ?_
                  refine hv3 (show (-2147483648) ≤ ivh6 ob1 0 ∧ ivh6 ob1 0 ≤ 2147483647 from W6.int tob1 0) (show ivh6 ob1 0 = ivh5 ob1 0 from fl6.i tob1 rfl 0) (show ivh5 ob1 0 = ivh1 ob1 0 from fl5.i tob1 rfl 0) (fun ri4 ie4 ie5 => ?_)
                  refine c_get (k := 0) C ck_10 dX6_find_126 w2_177 (by decide) tob1 rfl rfl (by decide) rfl ?_
                  refine c_iconst C dX6_find_129 ?_
                  refine c_icmp_ne (tgt := 136) C (r32_c (lo := (-2147483648)) (hi := 2147483647) ri4.1 ri4.2 (by decide) (by decide)) ⟨by decide, by decide⟩ dX6_find_130 (by decide) (fun c6 => ?_) (fun c6 => ?_)
                  · refine c_aload (j := 2) (x := ob1) C dX6_find_136 rfl ?_
                    rcases W6.opt tob1 2 rfl rfl with ⟨nq2, _⟩ | ⟨nb2, nq2, tnb2⟩
                    · refine c_getr (k := 2) C ck_10 dX6_find_138 w2_182 (by decide) tob1 rfl rfl (by decide) rfl nq2 ?_
                      refine c_st (st2 := [.null]) rfl ?_
                      refine c_astorer (r := none) (lv2 := [(6, .null), (4, (va_rf f7)), (5, .int (iI (he + 32))), (0, .ref a0), (1, .ref a1), (2, .int (iI i)), (3, .int (iI x))]) C dX6_find_141 (by decide) rfl ?_
                      refine c_goto (tgt := 9) C dX6_find_143 (by decide) ?_
                      refine c_lv (lv2 := [(4, (va_rf f7)), (5, .int (iI (he + 32))), (6, .null), (0, .ref a0), (1, .ref a1), (2, .int (iI i)), (3, .int (iI x))]) [1, 2, 0, 3, 4, 5, 6] rfl ?_
                      exact ih1  f7 none (he + 32) (rk - 1) _ (by omega) W6 F4 rgf7 (fun _ q => by cases q) (by omega) (by omega) (fun _ q => by cases q) (hD.sho (FOX.ni hW hS W6 F4 t_a0 ty_bs rgf7 gf7) (by omega) (by unfold sml; split <;> omega) nq2 (by omega))
                    · have rknb2 := W6.rank tob1 (k := 2) (by decide) nq2
                      refine c_getr (k := 2) C ck_10 dX6_find_138 w2_182 (by decide) tob1 rfl rfl (by decide) rfl nq2 ?_
                      refine c_st (st2 := [.ref nb2]) rfl ?_
                      refine c_astore (lv2 := [(6, .ref nb2), (4, (va_rf f7)), (5, .int (iI (he + 32))), (0, .ref a0), (1, .ref a1), (2, .int (iI i)), (3, .int (iI x))]) C dX6_find_141 (by decide) rfl ?_
                      refine c_goto (tgt := 9) C dX6_find_143 (by decide) ?_
                      have trnb2 := bt_100 tnb2.2
                      refine c_lv (lv2 := [(4, (va_rf f7)), (5, .int (iI (he + 32))), (6, .ref nb2), (0, .ref a0), (1, .ref a1), (2, .int (iI i)), (3, .int (iI x))]) [1, 2, 0, 3, 4, 5, 6] rfl ?_
                      exact ih1  f7 (some nb2) (he + 32) (rk - 1) _ (by omega) W6 F4 rgf7 (fun _ q => by cases q; exact tnb2) (by omega) (by omega) (fun _ q => by cases q; omega) (hD.sho (FOX.ni hW hS W6 F4 t_a0 ty_bs rgf7 gf7) (by omega) (by unfold sml; split <;> omega) nq2 (by omega))
                  · refine c_aloadr (j := 0) (r := f7) C dX6_find_133 rfl ?_
                    exact c_aret (x := f7) C dX6_find_135 rfl (Or.inl ⟨_, rfl⟩) (by decide) (rom0 hph hph (by decide)) ⟨f7, rfl, rfl, rfl, rfl, rfl, F4, W6, rgf7, (by exfalso; omega)⟩
                · refine c_st (st2 := [.int (iI 0)]) (by rw [show inn (iI he) 65 90 = iI 0 from hs1e]) ?_
                  refine c_if_eq (tgt := 102) C ⟨by decide, by decide⟩ dX6_find_91 (by decide) (fun _ => ?_) (fun z => absurd z (by omega))
                  refine c_iload (j := 1) C dX6_find_102 rfl ?_
                  refine c_istore (lv2 := [(5, .int (iI he)), (4, (va_rf bs)), (6, .ref ob1), (0, .ref a0), (1, .ref a1), (2, .int (iI i)), (3, .int (iI x))]) C dX6_find_104 (by decide) (by cases bs <;> rfl) ?_
                  refine c_aload_n (j := 3) (x := a0) C dX6_find_106 rfl ?_
                  refine c_iconst C dX6_find_107 ?_
                  refine d_callV (As := [.int (iI 0)]) (rest := []) C hM (C_countFind (a0 := a0) (i := 0) W5 hS t_a0 ⟨by decide, by decide⟩ ) dX6_find_108 kV_X6_119 rfl t_a0 rfl rfl (by decide) ck_7 rfl (Nat.le_of_ble_eq_true rfl) ⟨(Nat.le_of_ble_eq_true rfl), (Nat.le_of_ble_eq_true rfl)⟩ hph hph (show 0 + 0 = 0 from rfl) (by decide) (fun rh8 Lh8 clh8 lnh8 ivh8 rvh8 h8 => ?_)
                  obtain ⟨rfl, rfl, rfl, rfl, rfl, fl8, W8, exf8⟩ := h8
                  have F5 := F3.call hX0 fl8 rfl
                  refine c_st (st2 := []) rfl ?_
                  refine c_aload_n (j := 3) (x := a0) C dX6_find_111 rfl ?_
                  refine c_aload (j := 2) (x := ob1) C dX6_find_112 rfl ?_
                  refine c_iload_n (j := 5) C dX6_find_114 rfl ?_
                  refine c_iload (j := 0) C dX6_find_115 rfl ?_
                  refine c_aloadr (j := 1) (r := bs) C dX6_find_117 rfl ?_
                  refine d_callV (As := [.ref ob1, .int (iI i), .int (iI he), (va_rf bs)]) (rest := []) C hM (G_findOwn (a0 := a0) (a1 := ob1) (i := i) (x := he) (r := bs) W8 hS t_a0 tob1 ty_bs (by omega) (by omega) (by show 0 ≤ i ∧ i ≤ 500; omega)) dX6_find_119 kV_X6_122 rfl t_a0 rfl rfl (by decide) ck_7 rfl (Nat.le_of_ble_eq_true rfl) ⟨(Nat.le_of_ble_eq_true rfl), (Nat.le_of_ble_eq_true rfl)⟩ hph hph (show 0 + 0 = 0 from rfl) (by decide) (fun rh9 Lh9 clh9 lnh9 ivh9 rvh9 h9 => ?_)
                  obtain ⟨f9, rfl, rfl, rfl, rfl, rfl, rfl, rgf9, exf9⟩ := h9
                  refine c_st (st2 := [(va_rf f9)]) rfl ?_
                  have gf9 : FOX sk ln ivh8 rv a0 ob1 i he bs f9 := exf9
                  refine c_astorer (r := f9) (lv2 := [(4, (va_rf f9)), (5, .int (iI he)), (6, .ref ob1), (0, .ref a0), (1, .ref a1), (2, .int (iI i)), (3, .int (iI x))]) C dX6_find_122 (by decide) rfl ?_
                  refine c_aload (j := 2) (x := ob1) C dX6_find_124 rfl ?_
                  refine hv3 (show (-2147483648) ≤ ivh8 ob1 0 ∧ ivh8 ob1 0 ≤ 2147483647 from W8.int tob1 0) (show ivh8 ob1 0 = ivh5 ob1 0 from fl8.i tob1 rfl 0) (show ivh5 ob1 0 = ivh1 ob1 0 from fl5.i tob1 rfl 0) (fun ri5 ie6 ie7 => ?_)
                  refine c_get (k := 0) C ck_10 dX6_find_126 w2_177 (by decide) tob1 rfl rfl (by decide) rfl ?_
                  refine c_iconst C dX6_find_129 ?_
                  refine c_icmp_ne (tgt := 136) C (r32_c (lo := (-2147483648)) (hi := 2147483647) ri5.1 ri5.2 (by decide) (by decide)) ⟨by decide, by decide⟩ dX6_find_130 (by decide) (fun c7 => ?_) (fun c7 => ?_)
                  · refine c_aload (j := 2) (x := ob1) C dX6_find_136 rfl ?_
                    rcases W8.opt tob1 2 rfl rfl with ⟨nq3, _⟩ | ⟨nb3, nq3, tnb3⟩
                    · refine c_getr (k := 2) C ck_10 dX6_find_138 w2_182 (by decide) tob1 rfl rfl (by decide) rfl nq3 ?_
                      refine c_st (st2 := [.null]) rfl ?_
                      refine c_astorer (r := none) (lv2 := [(6, .null), (4, (va_rf f9)), (5, .int (iI he)), (0, .ref a0), (1, .ref a1), (2, .int (iI i)), (3, .int (iI x))]) C dX6_find_141 (by decide) rfl ?_
                      refine c_goto (tgt := 9) C dX6_find_143 (by decide) ?_
                      refine c_lv (lv2 := [(4, (va_rf f9)), (5, .int (iI he)), (6, .null), (0, .ref a0), (1, .ref a1), (2, .int (iI i)), (3, .int (iI x))]) [1, 2, 0, 3, 4, 5, 6] rfl ?_
                      exact ih1  f9 none he (rk - 1) _ (by omega) W8 F5 rgf9 (fun _ q => by cases q) (by omega) (by omega) (fun _ q => by cases q) (hD.sho (FOX.ni hW hS W8 F5 t_a0 ty_bs rgf9 gf9) (by omega) (by unfold sml; split <;> omega) nq3 (by omega))
                    · have rknb3 := W8.rank tob1 (k := 2) (by decide) nq3
                      refine c_getr (k := 2) C ck_10 dX6_find_138 w2_182 (by decide) tob1 rfl rfl (by decide) rfl nq3 ?_
                      refine c_st (st2 := [.ref nb3]) rfl ?_
                      refine c_astore (lv2 := [(6, .ref nb3), (4, (va_rf f9)), (5, .int (iI he)), (0, .ref a0), (1, .ref a1), (2, .int (iI i)), (3, .int (iI x))]) C dX6_find_141 (by decide) rfl ?_
                      refine c_goto (tgt := 9) C dX6_find_143 (by decide) ?_
                      have trnb3 := bt_100 tnb3.2
                      refine c_lv (lv2 := [(4, (va_rf f9)), (5, .int (iI he)), (6, .ref nb3), (0, .ref a0), (1, .ref a1), (2, .int (iI i)), (3, .int (iI x))]) [1, 2, 0, 3, 4, 5, 6] rfl ?_
                      exact ih1  f9 (some nb3) he (rk - 1) _ (by omega) W8 F5 rgf9 (fun _ q => by cases q; exact tnb3) (by omega) (by omega) (fun _ q => by cases q; omega) (hD.sho (FOX.ni hW hS W8 F5 t_a0 ty_bs rgf9 gf9) (by omega) (by unfold sml; split <;> omega) nq3 (by omega))
                  · refine c_aloadr (j := 0) (r := f9) C dX6_find_133 rfl ?_
                    exact c_aret (x := f9) C dX6_find_135 rfl (Or.inl ⟨_, rfl⟩) (by decide) (rom0 hph hph (by decide)) ⟨f9, rfl, rfl, rfl, rfl, rfl, F5, W8, rgf9, (by exfalso; omega)⟩
            · refine c_iload (j := 1) C dX6_find_61 rfl ?_
              refine c_callSN0 (As := [.int (iI he)]) (rest := []) C (fun L E => s11_isDigit (iI he)) dX6_find_63 kSN_X6_115 rfl rfl (Nat.le_of_ble_eq_true rfl) ⟨(Nat.le_of_ble_eq_true rfl), (Nat.le_of_ble_eq_true rfl)⟩ (rom0 hph hph (by decide)) ?_
              rcases inn_c (x := he) (lo := 48) (hi := 57) (r32_c (lo := (-2147483648)) (hi := 2147483647) hhe.1 hhe.2 (by decide) (by decide)) ⟨by decide, by decide⟩ ⟨by decide, by decide⟩ with ⟨hs2a, hs2b, hs2e⟩ | ⟨hs2a, hs2e⟩
              · refine c_st (st2 := [.int (iI 1)]) (by rw [show inn (iI he) 48 57 = iI 1 from hs2e]) ?_
                refine c_if_ne (tgt := 72) C ⟨by decide, by decide⟩ dX6_find_66 (by decide) (fun _ => ?_) (fun z => absurd z (by omega))
                refine c_aload (j := 2) (x := ob1) C dX6_find_72 rfl ?_
                refine c_get (k := 0) C ck_10 dX6_find_74 w2_177 (by decide) tob1 rfl rfl (by decide) rfl ?_
                refine c_iconst C dX6_find_77 ?_
                refine c_icmp_ne (tgt := 106) C (r32_c (lo := (-2147483648)) (hi := 2147483647) ri2.1 ri2.2 (by decide) (by decide)) ⟨by decide, by decide⟩ dX6_find_78 (by decide) (fun c8 => ?_) (fun c8 => ?_)
                · refine c_aload_n (j := 3) (x := a0) C dX6_find_106 rfl ?_
                  refine c_iconst C dX6_find_107 ?_
                  refine d_callV (As := [.int (iI 0)]) (rest := []) C hM (C_countFind (a0 := a0) (i := 0) W1 hS t_a0 ⟨by decide, by decide⟩ ) dX6_find_108 kV_X6_119 rfl t_a0 rfl rfl (by decide) ck_7 rfl (Nat.le_of_ble_eq_true rfl) ⟨(Nat.le_of_ble_eq_true rfl), (Nat.le_of_ble_eq_true rfl)⟩ hph hph (show 0 + 0 = 0 from rfl) (by decide) (fun rh10 Lh10 clh10 lnh10 ivh10 rvh10 h10 => ?_)
                  obtain ⟨rfl, rfl, rfl, rfl, rfl, fl10, W10, exf10⟩ := h10
                  have F6 := F1.call hX0 fl10 rfl
                  refine c_st (st2 := []) rfl ?_
                  refine c_aload_n (j := 3) (x := a0) C dX6_find_111 rfl ?_
                  refine c_aload (j := 2) (x := ob1) C dX6_find_112 rfl ?_
                  refine c_iload_n (j := 5) C dX6_find_114 rfl ?_
                  refine c_iload (j := 1) C dX6_find_115 rfl ?_
                  refine c_aloadr (j := 0) (r := bs) C dX6_find_117 rfl ?_
                  refine d_callV (As := [.ref ob1, .int (iI i), .int (iI he), (va_rf bs)]) (rest := []) C hM (G_findOwn (a0 := a0) (a1 := ob1) (i := i) (x := he) (r := bs) W10 hS t_a0 tob1 ty_bs (by omega) (by omega) (by show 0 ≤ i ∧ i ≤ 500; omega)) dX6_find_119 kV_X6_122 rfl t_a0 rfl rfl (by decide) ck_7 rfl (Nat.le_of_ble_eq_true rfl) ⟨(Nat.le_of_ble_eq_true rfl), (Nat.le_of_ble_eq_true rfl)⟩ hph hph (show 0 + 0 = 0 from rfl) (by decide) (fun rh11 Lh11 clh11 lnh11 ivh11 rvh11 h11 => ?_)
                  obtain ⟨f11, rfl, rfl, rfl, rfl, rfl, rfl, rgf11, exf11⟩ := h11
                  refine c_st (st2 := [(va_rf f11)]) rfl ?_
                  have gf11 : FOX sk ln ivh10 rv a0 ob1 i he bs f11 := exf11
                  refine c_astorer (r := f11) (lv2 := [(4, (va_rf f11)), (5, .int (iI he)), (6, .ref ob1), (0, .ref a0), (1, .ref a1), (2, .int (iI i)), (3, .int (iI x))]) C dX6_find_122 (by decide) rfl ?_
                  refine c_aload (j := 2) (x := ob1) C dX6_find_124 rfl ?_
                  refine hv2 (show (-2147483648) ≤ ivh10 ob1 0 ∧ ivh10 ob1 0 ≤ 2147483647 from W10.int tob1 0) (show ivh10 ob1 0 = ivh1 ob1 0 from fl10.i tob1 rfl 0) (fun ri6 ie8 => ?_)
                  refine c_get (k := 0) C ck_10 dX6_find_126 w2_177 (by decide) tob1 rfl rfl (by decide) rfl ?_
                  refine c_iconst C dX6_find_129 ?_
                  refine c_icmp_ne (tgt := 136) C (r32_c (lo := (-2147483648)) (hi := 2147483647) ri6.1 ri6.2 (by decide) (by decide)) ⟨by decide, by decide⟩ dX6_find_130 (by decide) (fun c9 => ?_) (fun c9 => ?_)
                  · refine c_aload (j := 2) (x := ob1) C dX6_find_136 rfl ?_
                    rcases W10.opt tob1 2 rfl rfl with ⟨nq4, _⟩ | ⟨nb4, nq4, tnb4⟩
                    · refine c_getr (k := 2) C ck_10 dX6_find_138 w2_182 (by decide) tob1 rfl rfl (by decide) rfl nq4 ?_
                      refine c_st (st2 := [.null]) rfl ?_
                      refine c_astorer (r := none) (lv2 := [(6, .null), (4, (va_rf f11)), (5, .int (iI he)), (0, .ref a0), (1, .ref a1), (2, .int (iI i)), (3, .int (iI x))]) C dX6_find_141 (by decide) rfl ?_
                      refine c_goto (tgt := 9) C dX6_find_143 (by decide) ?_
                      refine c_lv (lv2 := [(4, (va_rf f11)), (5, .int (iI he)), (6, .null), (0, .ref a0), (1, .ref a1), (2, .int (iI i)), (3, .int (iI x))]) [1, 2, 0, 3, 4, 5, 6] rfl ?_
                      exact ih1  f11 none he (rk - 1) _ (by omega) W10 F6 rgf11 (fun _ q => by cases q) (by omega) (by omega) (fun _ q => by cases q) (by exfalso; omega)
                    · have rknb4 := W10.rank tob1 (k := 2) (by decide) nq4
                      refine c_getr (k := 2) C ck_10 dX6_find_138 w2_182 (by decide) tob1 rfl rfl (by decide) rfl nq4 ?_
                      refine c_st (st2 := [.ref nb4]) rfl ?_
                      refine c_astore (lv2 := [(6, .ref nb4), (4, (va_rf f11)), (5, .int (iI he)), (0, .ref a0), (1, .ref a1), (2, .int (iI i)), (3, .int (iI x))]) C dX6_find_141 (by decide) rfl ?_
                      refine c_goto (tgt := 9) C dX6_find_143 (by decide) ?_
                      have trnb4 := bt_100 tnb4.2
                      refine c_lv (lv2 := [(4, (va_rf f11)), (5, .int (iI he)), (6, .ref nb4), (0, .ref a0), (1, .ref a1), (2, .int (iI i)), (3, .int (iI x))]) [1, 2, 0, 3, 4, 5, 6] rfl ?_
                      exact ih1  f11 (some nb4) he (rk - 1) _ (by omega) W10 F6 rgf11 (fun _ q => by cases q; exact tnb4) (by omega) (by omega) (fun _ q => by cases q; omega) (by exfalso; omega)
                  · refine c_aloadr (j := 0) (r := f11) C dX6_find_133 rfl ?_
                    exact c_aret (x := f11) C dX6_find_135 rfl (Or.inl ⟨_, rfl⟩) (by decide) (rom0 hph hph (by decide)) ⟨f11, rfl, rfl, rfl, rfl, rfl, F6, W10, rgf11, (hD.num (FOX.ni hW hS W10 F6 t_a0 ty_bs rgf11 gf11) (by omega) (by unfold isD; omega) (by omega))⟩
                · refine c_aload_n (j := 3) (x := a0) C dX6_find_81 rfl ?_
                  refine c_iconst C dX6_find_82 ?_
                  refine d_callV (As := [.int (iI 1)]) (rest := []) C hM (C_countFind (a0 := a0) (i := 1) W1 hS t_a0 ⟨by decide, by decide⟩ ) dX6_find_83 kV_X6_119 rfl t_a0 rfl rfl (by decide) ck_7 rfl (Nat.le_of_ble_eq_true rfl) ⟨(Nat.le_of_ble_eq_true rfl), (Nat.le_of_ble_eq_true rfl)⟩ hph hph (show 0 + 0 = 0 from rfl) (by decide) (fun rh12 Lh12 clh12 lnh12 ivh12 rvh12 h12 => ?_)
                  obtain ⟨rfl, rfl, rfl, rfl, rfl, fl12, W12, exf12⟩ := h12
                  have F7 := F1.call hX0 fl12 rfl
                  refine c_st (st2 := []) rfl ?_
                  refine c_iload (j := 1) C dX6_find_86 rfl ?_
                  refine c_callSN0 (As := [.int (iI he)]) (rest := []) C (fun L E => s11_isGreat (iI he)) dX6_find_88 kSN_X6_98 rfl rfl (Nat.le_of_ble_eq_true rfl) ⟨(Nat.le_of_ble_eq_true rfl), (Nat.le_of_ble_eq_true rfl)⟩ (rom0 hph hph (by decide)) ?_
                  rcases inn_c (x := he) (lo := 65) (hi := 90) (r32_c (lo := (-2147483648)) (hi := 2147483647) hhe.1 hhe.2 (by decide) (by decide)) ⟨by decide, by decide⟩ ⟨by decide, by decide⟩ with ⟨hs3a, hs3b, hs3e⟩ | ⟨hs3a, hs3e⟩
                  · refine c_st (st2 := [.int (iI 1)]) (by rw [show inn (iI he) 65 90 = iI 1 from hs3e]) ?_
                    refine c_if_eq (tgt := 102) C ⟨by decide, by decide⟩ dX6_find_91 (by decide) (fun z => absurd z (by omega)) (fun _ => ?_)
                    refine c_iload (j := 1) C dX6_find_94 rfl ?_
                    refine c_bipush (z := 32) C dX6_find_96 (by decide) ?_
                    refine c_iadd C dX6_find_98 ?_
                    refine c_goto (tgt := 104) C dX6_find_99 (by decide) ?_
                    refine c_istore (lv2 := [(5, .int (iI (he + 32))), (4, (va_rf bs)), (6, .ref ob1), (0, .ref a0), (1, .ref a1), (2, .int (iI i)), (3, .int (iI x))]) C dX6_find_104 (by decide) (by cases bs <;> rfl) ?_
                    refine c_aload_n (j := 3) (x := a0) C dX6_find_106 rfl ?_
                    refine c_iconst C dX6_find_107 ?_
                    refine d_callV (As := [.int (iI 0)]) (rest := []) C hM (C_countFind (a0 := a0) (i := 0) W12 hS t_a0 ⟨by decide, by decide⟩ ) dX6_find_108 kV_X6_119 rfl t_a0 rfl rfl (by decide) ck_7 rfl (Nat.le_of_ble_eq_true rfl) ⟨(Nat.le_of_ble_eq_true rfl), (Nat.le_of_ble_eq_true rfl)⟩ hph hph (show 0 + 0 = 0 from rfl) (by decide) (fun rh13 Lh13 clh13 lnh13 ivh13 rvh13 h13 => ?_)
                    obtain ⟨rfl, rfl, rfl, rfl, rfl, fl13, W13, exf13⟩ := h13
                    have F8 := F7.call hX0 fl13 rfl
                    refine c_st (st2 := []) rfl ?_
                    refine c_aload_n (j := 3) (x := a0) C dX6_find_111 rfl ?_
                    refine c_aload (j := 2) (x := ob1) C dX6_find_112 rfl ?_
                    refine c_iload_n (j := 5) C dX6_find_114 rfl ?_
                    refine c_iload (j := 0) C dX6_find_115 rfl ?_
                    refine c_aloadr (j := 1) (r := bs) C dX6_find_117 rfl ?_
                    refine d_callV (As := [.ref ob1, .int (iI i), .int (iI (he + 32)), (va_rf bs)]) (rest := []) C hM (G_findOwn (a0 := a0) (a1 := ob1) (i := i) (x := he + 32) (r := bs) W13 hS t_a0 tob1 ty_bs (by omega) (by omega) (by show 0 ≤ i ∧ i ≤ 500; omega)) dX6_find_119 kV_X6_122 rfl t_a0 rfl rfl (by decide) ck_7 rfl (Nat.le_of_ble_eq_true rfl) ⟨(Nat.le_of_ble_eq_true rfl), (Nat.le_of_ble_eq_true rfl)⟩ hph hph (show 0 + 0 = 0 from rfl) (by decide) (fun rh14 Lh14 clh14 lnh14 ivh14 rvh14 h14 => ?_)
                    obtain ⟨f14, rfl, rfl, rfl, rfl, rfl, rfl, rgf14, exf14⟩ := h14
                    refine c_st (st2 := [(va_rf f14)]) rfl ?_
                    have gf14 : FOX sk ln ivh13 rv a0 ob1 i (he + 32) bs f14 := exf14
                    refine c_astorer (r := f14) (lv2 := [(4, (va_rf f14)), (5, .int (iI (he + 32))), (6, .ref ob1), (0, .ref a0), (1, .ref a1), (2, .int (iI i)), (3, .int (iI x))]) C dX6_find_122 (by decide) rfl ?_
                    refine c_aload (j := 2) (x := ob1) C dX6_find_124 rfl ?_
                    refine hv3 (show (-2147483648) ≤ ivh13 ob1 0 ∧ ivh13 ob1 0 ≤ 2147483647 from W13.int tob1 0) (show ivh13 ob1 0 = ivh12 ob1 0 from fl13.i tob1 rfl 0) (show ivh12 ob1 0 = ivh1 ob1 0 from fl12.i tob1 rfl 0) (fun ri7 ie9 ie10 => ?_)
                    refine c_get (k := 0) C ck_10 dX6_find_126 w2_177 (by decide) tob1 rfl rfl (by decide) rfl ?_
                    refine c_iconst C dX6_find_129 ?_
                    refine c_icmp_ne (tgt := 136) C (r32_c (lo := (-2147483648)) (hi := 2147483647) ri7.1 ri7.2 (by decide) (by decide)) ⟨by decide, by decide⟩ dX6_find_130 (by decide) (fun c10 => ?_) (fun c10 => ?_)
                    · refine c_aload (j := 2) (x := ob1) C dX6_find_136 rfl ?_
                      rcases W13.opt tob1 2 rfl rfl with ⟨nq5, _⟩ | ⟨nb5, nq5, tnb5⟩
                      · refine c_getr (k := 2) C ck_10 dX6_find_138 w2_182 (by decide) tob1 rfl rfl (by decide) rfl nq5 ?_
                        refine c_st (st2 := [.null]) rfl ?_
                        refine c_astorer (r := none) (lv2 := [(6, .null), (4, (va_rf f14)), (5, .int (iI (he + 32))), (0, .ref a0), (1, .ref a1), (2, .int (iI i)), (3, .int (iI x))]) C dX6_find_141 (by decide) rfl ?_
                        refine c_goto (tgt := 9) C dX6_find_143 (by decide) ?_
                        refine c_lv (lv2 := [(4, (va_rf f14)), (5, .int (iI (he + 32))), (6, .null), (0, .ref a0), (1, .ref a1), (2, .int (iI i)), (3, .int (iI x))]) [1, 2, 0, 3, 4, 5, 6] rfl ?_
                        exact ih1  f14 none (he + 32) (rk - 1) _ (by omega) W13 F8 rgf14 (fun _ q => by cases q) (by omega) (by omega) (fun _ q => by cases q) (by exfalso; omega)
                      · have rknb5 := W13.rank tob1 (k := 2) (by decide) nq5
                        refine c_getr (k := 2) C ck_10 dX6_find_138 w2_182 (by decide) tob1 rfl rfl (by decide) rfl nq5 ?_
                        refine c_st (st2 := [.ref nb5]) rfl ?_
                        refine c_astore (lv2 := [(6, .ref nb5), (4, (va_rf f14)), (5, .int (iI (he + 32))), (0, .ref a0), (1, .ref a1), (2, .int (iI i)), (3, .int (iI x))]) C dX6_find_141 (by decide) rfl ?_
                        refine c_goto (tgt := 9) C dX6_find_143 (by decide) ?_
                        have trnb5 := bt_100 tnb5.2
                        refine c_lv (lv2 := [(4, (va_rf f14)), (5, .int (iI (he + 32))), (6, .ref nb5), (0, .ref a0), (1, .ref a1), (2, .int (iI i)), (3, .int (iI x))]) [1, 2, 0, 3, 4, 5, 6] rfl ?_
                        exact ih1  f14 (some nb5) (he + 32) (rk - 1) _ (by omega) W13 F8 rgf14 (fun _ q => by cases q; exact tnb5) (by omega) (by omega) (fun _ q => by cases q; omega) (by exfalso; omega)
                    · refine c_aloadr (j := 0) (r := f14) C dX6_find_133 rfl ?_
                      exact c_aret (x := f14) C dX6_find_135 rfl (Or.inl ⟨_, rfl⟩) (by decide) (rom0 hph hph (by decide)) ⟨f14, rfl, rfl, rfl, rfl, rfl, F8, W13, rgf14, (by exfalso; omega)⟩
                  · refine c_st (st2 := [.int (iI 0)]) (by rw [show inn (iI he) 65 90 = iI 0 from hs3e]) ?_
                    refine c_if_eq (tgt := 102) C ⟨by decide, by decide⟩ dX6_find_91 (by decide) (fun _ => ?_) (fun z => absurd z (by omega))
                    refine c_iload (j := 1) C dX6_find_102 rfl ?_
                    refine c_istore (lv2 := [(5, .int (iI he)), (4, (va_rf bs)), (6, .ref ob1), (0, .ref a0), (1, .ref a1), (2, .int (iI i)), (3, .int (iI x))]) C dX6_find_104 (by decide) (by cases bs <;> rfl) ?_
                    refine c_aload_n (j := 3) (x := a0) C dX6_find_106 rfl ?_
                    refine c_iconst C dX6_find_107 ?_
                    refine d_callV (As := [.int (iI 0)]) (rest := []) C hM (C_countFind (a0 := a0) (i := 0) W12 hS t_a0 ⟨by decide, by decide⟩ ) dX6_find_108 kV_X6_119 rfl t_a0 rfl rfl (by decide) ck_7 rfl (Nat.le_of_ble_eq_true rfl) ⟨(Nat.le_of_ble_eq_true rfl), (Nat.le_of_ble_eq_true rfl)⟩ hph hph (show 0 + 0 = 0 from rfl) (by decide) (fun rh15 Lh15 clh15 lnh15 ivh15 rvh15 h15 => ?_)
                    obtain ⟨rfl, rfl, rfl, rfl, rfl, fl15, W15, exf15⟩ := h15
                    have F9 := F7.call hX0 fl15 rfl
                    refine c_st (st2 := []) rfl ?_
                    refine c_aload_n (j := 3) (x := a0) C dX6_find_111 rfl ?_
                    refine c_aload (j := 2) (x := ob1) C dX6_find_112 rfl ?_
                    refine c_iload_n (j := 5) C dX6_find_114 rfl ?_
                    refine c_iload (j := 0) C dX6_find_115 rfl ?_
                    refine c_aloadr (j := 1) (r := bs) C dX6_find_117 rfl ?_
                    refine d_callV (As := [.ref ob1, .int (iI i), .int (iI he), (va_rf bs)]) (rest := []) C hM (G_findOwn (a0 := a0) (a1 := ob1) (i := i) (x := he) (r := bs) W15 hS t_a0 tob1 ty_bs (by omega) (by omega) (by show 0 ≤ i ∧ i ≤ 500; omega)) dX6_find_119 kV_X6_122 rfl t_a0 rfl rfl (by decide) ck_7 rfl (Nat.le_of_ble_eq_true rfl) ⟨(Nat.le_of_ble_eq_true rfl), (Nat.le_of_ble_eq_true rfl)⟩ hph hph (show 0 + 0 = 0 from rfl) (by decide) (fun rh16 Lh16 clh16 lnh16 ivh16 rvh16 h16 => ?_)
                    obtain ⟨f16, rfl, rfl, rfl, rfl, rfl, rfl, rgf16, exf16⟩ := h16
                    refine c_st (st2 := [(va_rf f16)]) rfl ?_
                    have gf16 : FOX sk ln ivh15 rv a0 ob1 i he bs f16 := exf16
                    refine c_astorer (r := f16) (lv2 := [(4, (va_rf f16)), (5, .int (iI he)), (6, .ref ob1), (0, .ref a0), (1, .ref a1), (2, .int (iI i)), (3, .int (iI x))]) C dX6_find_122 (by decide) rfl ?_
                    refine c_aload (j := 2) (x := ob1) C dX6_find_124 rfl ?_
                    refine hv3 (show (-2147483648) ≤ ivh15 ob1 0 ∧ ivh15 ob1 0 ≤ 2147483647 from W15.int tob1 0) (show ivh15 ob1 0 = ivh12 ob1 0 from fl15.i tob1 rfl 0) (show ivh12 ob1 0 = ivh1 ob1 0 from fl12.i tob1 rfl 0) (fun ri8 ie11 ie12 => ?_)
                    refine c_get (k := 0) C ck_10 dX6_find_126 w2_177 (by decide) tob1 rfl rfl (by decide) rfl ?_
                    refine c_iconst C dX6_find_129 ?_
                    refine c_icmp_ne (tgt := 136) C (r32_c (lo := (-2147483648)) (hi := 2147483647) ri8.1 ri8.2 (by decide) (by decide)) ⟨by decide, by decide⟩ dX6_find_130 (by decide) (fun c11 => ?_) (fun c11 => ?_)
                    · refine c_aload (j := 2) (x := ob1) C dX6_find_136 rfl ?_
                      rcases W15.opt tob1 2 rfl rfl with ⟨nq6, _⟩ | ⟨nb6, nq6, tnb6⟩
                      · refine c_getr (k := 2) C ck_10 dX6_find_138 w2_182 (by decide) tob1 rfl rfl (by decide) rfl nq6 ?_
                        refine c_st (st2 := [.null]) rfl ?_
                        refine c_astorer (r := none) (lv2 := [(6, .null), (4, (va_rf f16)), (5, .int (iI he)), (0, .ref a0), (1, .ref a1), (2, .int (iI i)), (3, .int (iI x))]) C dX6_find_141 (by decide) rfl ?_
                        refine c_goto (tgt := 9) C dX6_find_143 (by decide) ?_
                        refine c_lv (lv2 := [(4, (va_rf f16)), (5, .int (iI he)), (6, .null), (0, .ref a0), (1, .ref a1), (2, .int (iI i)), (3, .int (iI x))]) [1, 2, 0, 3, 4, 5, 6] rfl ?_
                        exact ih1  f16 none he (rk - 1) _ (by omega) W15 F9 rgf16 (fun _ q => by cases q) (by omega) (by omega) (fun _ q => by cases q) (by exfalso; omega)
                      · have rknb6 := W15.rank tob1 (k := 2) (by decide) nq6
                        refine c_getr (k := 2) C ck_10 dX6_find_138 w2_182 (by decide) tob1 rfl rfl (by decide) rfl nq6 ?_
                        refine c_st (st2 := [.ref nb6]) rfl ?_
                        refine c_astore (lv2 := [(6, .ref nb6), (4, (va_rf f16)), (5, .int (iI he)), (0, .ref a0), (1, .ref a1), (2, .int (iI i)), (3, .int (iI x))]) C dX6_find_141 (by decide) rfl ?_
                        refine c_goto (tgt := 9) C dX6_find_143 (by decide) ?_
                        have trnb6 := bt_100 tnb6.2
                        refine c_lv (lv2 := [(4, (va_rf f16)), (5, .int (iI he)), (6, .ref nb6), (0, .ref a0), (1, .ref a1), (2, .int (iI i)), (3, .int (iI x))]) [1, 2, 0, 3, 4, 5, 6] rfl ?_
                        exact ih1  f16 (some nb6) he (rk - 1) _ (by omega) W15 F9 rgf16 (fun _ q => by cases q; exact tnb6) (by omega) (by omega) (fun _ q => by cases q; omega) (by exfalso; omega)
                    · refine c_aloadr (j := 0) (r := f16) C dX6_find_133 rfl ?_
                      exact c_aret (x := f16) C dX6_find_135 rfl (Or.inl ⟨_, rfl⟩) (by decide) (rom0 hph hph (by decide)) ⟨f16, rfl, rfl, rfl, rfl, rfl, F9, W15, rgf16, (by exfalso; omega)⟩
              · refine c_st (st2 := [.int (iI 0)]) (by rw [show inn (iI he) 48 57 = iI 0 from hs2e]) ?_
                refine c_if_ne (tgt := 72) C ⟨by decide, by decide⟩ dX6_find_66 (by decide) (fun z => absurd z (by omega)) (fun _ => ?_)
                refine c_goto (tgt := 136) C dX6_find_69 (by decide) ?_
                refine c_aload (j := 2) (x := ob1) C dX6_find_136 rfl ?_
                rcases W1.opt tob1 2 rfl rfl with ⟨nq7, _⟩ | ⟨nb7, nq7, tnb7⟩
                · refine c_getr (k := 2) C ck_10 dX6_find_138 w2_182 (by decide) tob1 rfl rfl (by decide) rfl nq7 ?_
                  refine c_st (st2 := [.null]) rfl ?_
                  refine c_astorer (r := none) (lv2 := [(6, .null), (4, (va_rf bs)), (5, .int (iI he)), (0, .ref a0), (1, .ref a1), (2, .int (iI i)), (3, .int (iI x))]) C dX6_find_141 (by decide) rfl ?_
                  refine c_goto (tgt := 9) C dX6_find_143 (by decide) ?_
                  refine c_lv (lv2 := [(4, (va_rf bs)), (5, .int (iI he)), (6, .null), (0, .ref a0), (1, .ref a1), (2, .int (iI i)), (3, .int (iI x))]) [1, 2, 0, 3, 4, 5, 6] rfl ?_
                  exact ih1  bs none he (rk - 1) _ (by omega) W1 F1 ty_bs (fun _ q => by cases q) (by omega) (by omega) (fun _ q => by cases q) (hD.numn (by omega) (by unfold isD; omega) nq7)
                · have rknb7 := W1.rank tob1 (k := 2) (by decide) nq7
                  refine c_getr (k := 2) C ck_10 dX6_find_138 w2_182 (by decide) tob1 rfl rfl (by decide) rfl nq7 ?_
                  refine c_st (st2 := [.ref nb7]) rfl ?_
                  refine c_astore (lv2 := [(6, .ref nb7), (4, (va_rf bs)), (5, .int (iI he)), (0, .ref a0), (1, .ref a1), (2, .int (iI i)), (3, .int (iI x))]) C dX6_find_141 (by decide) rfl ?_
                  refine c_goto (tgt := 9) C dX6_find_143 (by decide) ?_
                  have trnb7 := bt_100 tnb7.2
                  refine c_lv (lv2 := [(4, (va_rf bs)), (5, .int (iI he)), (6, .ref nb7), (0, .ref a0), (1, .ref a1), (2, .int (iI i)), (3, .int (iI x))]) [1, 2, 0, 3, 4, 5, 6] rfl ?_
                  exact ih1  bs (some nb7) he (rk - 1) _ (by omega) W1 F1 ty_bs (fun _ q => by cases q; exact tnb7) (by omega) (by omega) (fun _ q => by cases q; omega) (hD.numn (by omega) (by unfold isD; omega) nq7)
          · refine c_aload_n (j := 3) (x := a0) C dX6_find_40 rfl ?_
            refine c_aload (j := 2) (x := ob1) C dX6_find_41 rfl ?_
            refine c_iload_n (j := 5) C dX6_find_43 rfl ?_
            refine c_iload (j := 1) C dX6_find_44 rfl ?_
            refine c_aloadr (j := 0) (r := bs) C dX6_find_46 rfl ?_
            refine d_callV (As := [.ref ob1, .int (iI i), .int (iI he), (va_rf bs)]) (rest := []) C hM (G_findOwn (a0 := a0) (a1 := ob1) (i := i) (x := he) (r := bs) W1 hS t_a0 tob1 ty_bs (by omega) (by omega) (by show 0 ≤ i ∧ i ≤ 500; omega)) dX6_find_48 kV_X6_122 rfl t_a0 rfl rfl (by decide) ck_7 rfl (Nat.le_of_ble_eq_true rfl) ⟨(Nat.le_of_ble_eq_true rfl), (Nat.le_of_ble_eq_true rfl)⟩ hph hph (show 0 + 0 = 0 from rfl) (by decide) (fun rh17 Lh17 clh17 lnh17 ivh17 rvh17 h17 => ?_)
            obtain ⟨f17, rfl, rfl, rfl, rfl, rfl, rfl, rgf17, exf17⟩ := h17
            refine c_st (st2 := [(va_rf f17)]) rfl ?_
            have gf17 : FOX sk ln ivh1 rv a0 ob1 i he bs f17 := exf17
            exact c_aret (x := f17) C dX6_find_51 rfl (Or.inl ⟨_, rfl⟩) (by decide) (rom0 hph hph (by decide)) ⟨f17, rfl, rfl, rfl, rfl, rfl, F1, W1, rgf17, (hD.plain (FOX.ni hW hS W1 F1 t_a0 ty_bs rgf17 gf17) (by omega) (by omega))⟩
  have tra1 := bt_100 t_a1.2
  refine c_lv (lv2 := [(4, .null), (5, .int (iI x)), (6, .ref a1), (0, .ref a0), (1, .ref a1), (2, .int (iI i)), (3, .int (iI x))]) [2, 1, 0, 3, 4, 5, 6] rfl ?_
  exact Lp1 31 none (some a1) x 129 _ (by omega) hW hF0 (fun _ q => by cases q) (fun _ q => by cases q; exact t_a1) (by omega) (by omega) (fun _ q => by cases q; omega) FDI.init
end
section
def PDH (iv : Nat → Nat → Int) (rv : Nat → Nat → Option Nat) (s : Nat) (l : List Int) : Prop := iv s 7 = ((l.length : Nat) : Int) ∧ ∀ cb, rv s 6 = some cb → ∀ (j : Nat) (d : Int), j < 200 → l[j]? = some d → iv cb j = d
def RCX (ln : Nat → Nat) (iv : Nat → Nat → Int) (rv : Nat → Nat → Option Nat) (r : Option Nat) (cs : List Int) : Prop := (r = none ∧ cs = []) ∨ ∃ w c, r = some w ∧ rv w 2 = some c ∧ cs = (List.range (ln c)).map (fun k => iv c k)
def PUX (ln : Nat → Nat) (iv : Nat → Nat → Int) (rv : Nat → Nat → Option Nat) (iv2 : Nat → Nat → Int) (s : Nat) (r : Option Nat) : Prop := ∀ l, PDH iv rv s l → ∀ cs, RCX ln iv rv r cs → PDH iv2 rv s (l ++ cs)
def PUK (ln : Nat → Nat) (iv : Nat → Nat → Int) (rv : Nat → Nat → Option Nat) (iv1 : Nat → Nat → Int) (s : Nat) (r : Option Nat) (k : Int) : Prop := ∀ w c, r = some w → rv w 2 = some c → k ≤ ((ln c : Nat) : Int) ∧ ∀ l, PDH iv rv s l → PDH iv1 rv s (l ++ (List.range k.toNat).map (fun j => iv c j))
def CTX (sk ln : Nat → Nat) (iv : Nat → Nat → Int) (rv : Nat → Nat → Option Nat) (s tb : Nat) (q u : Int) (v : Nat → Int) (a : Nat → Nat → Int) (W : Nat → Int) (t : Nat) : Prop := TRL sk ln iv rv v a ∧ (t : Int) < v 4 ∧ a 6 t ≠ 5 ∧ el rv (sk 22) t = some tb ∧ LTW iv rv s W q u
def NAX (sk ln : Nat → Nat) (iv : Nat → Nat → Int) (rv : Nat → Nat → Option Nat) (s tb : Nat) (i : Int) (f : Option Nat) : Prop := ∀ v a W t, CTX sk ln iv rv s tb (iv s 10) (iv s 11) v a W t → iv s 10 ≤ i → i < iv s 11 → RCX ln iv rv f (nbl a W t (iv s 10) i)
def NA0 (sk ln : Nat → Nat) (iv : Nat → Nat → Int) (rv : Nat → Nat → Option Nat) (s tb : Nat) (q u x : Int) (f : Option Nat) : Prop := ∀ v a W t, CTX sk ln iv rv s tb q u v a W t → RCX ln iv rv f (nbl a W t q x)
def FD0 (sk ln : Nat → Nat) (iv : Nat → Nat → Int) (rv : Nat → Nat → Option Nat) (s tb : Nat) (q u x b : Int) (f : Option Nat) : Prop := ∀ v a W t, CTX sk ln iv rv s tb q u v a W t → ∃ y, fnd a q u x 30 (va_up W x.toNat b) t y ∧ BST ln iv rv a f y
def PCX (sk ln : Nat → Nat) (iv : Nat → Nat → Int) (rv : Nat → Nat → Option Nat) (s tb : Nat) (q u x : Int) (ah : Option Nat) (w : Nat) : Prop := ∀ v a W t, CTX sk ln iv rv s tb q u v a W t → ∃ as ds lb, RCX ln iv rv ah as ∧ RCX ln iv rv (some w) ds ∧ rv w 1 = some lb ∧ 1 ≤ ln lb ∧ PC1 a W t q u x ((ln lb : Nat) : Int) (as ++ ds)
def NPX (sk ln : Nat → Nat) (iv : Nat → Nat → Int) (rv : Nat → Nat → Option Nat) (s tb : Nat) (q u x : Int) : Prop := ∀ v a W t, CTX sk ln iv rv s tb q u v a W t → ∀ l ds, ¬ PC1 a W t q u x l ds
def NCP (iv : Nat → Nat → Int) (rv : Nat → Nat → Option Nat) (tb : Nat) (b : Int) : Prop := ¬ isG b ∨ 2 < iv tb 0 ∨ ∃ n, rv tb 6 = some n ∧ rv n 0 = none
def PTS (a : Nat → Nat → Int) (W : Nat → Int) (t q u : Int) (ps : List (Int × List Int)) : Prop := ∃ y, ptp a W t q u q ps y ∧ u ≤ y
def STI (iv : Nat → Nat → Int) (rv : Nat → Nat → Option Nat) (s : Nat) (m : Int) (ps : List (Int × List Int)) (q x : Int) : Prop := (∀ j : Nat, x ≤ ((j : Nat) : Int) → bgn ps m j (-1) = -1) ∧ ∀ sb, rv s 3 = some sb → ∀ j : Nat, q ≤ ((j : Nat) : Int) → ((j : Nat) : Int) < x → j < 500 → iv sb j = bgn ps m j (-1)
def ST2 (iv : Nat → Nat → Int) (rv : Nat → Nat → Option Nat) (s : Nat) (m : Int) (ps : List (Int × List Int)) (q x n : Int) : Prop := (∀ j : Nat, x ≤ ((j : Nat) : Int) → bgn ps m j (-1) = -1) ∧ ∀ sb, rv s 3 = some sb → ∀ j : Nat, q ≤ ((j : Nat) : Int) → ((j : Nat) : Int) < x + n → j < 500 → iv sb j = if j = x.toNat then m + (((cls ps).length : Nat) : Int) else bgn ps m j (-1)
def STE (iv : Nat → Nat → Int) (rv : Nat → Nat → Option Nat) (s : Nat) (m : Int) (ps : List (Int × List Int)) (q u : Int) : Prop := ∀ sb, rv s 3 = some sb → ∀ j : Nat, q ≤ ((j : Nat) : Int) → ((j : Nat) : Int) < u → j < 500 → iv sb j = bgn ps m j (-1)
def MSK (iv : Nat → Nat → Int) (rv : Nat → Nat → Option Nat) (iv1 : Nat → Nat → Int) (s : Nat) (i k : Int) : Prop := ∀ sb, rv s 3 = some sb → ∀ j : Nat, j < 500 → iv1 sb j = if i ≤ ((j : Nat) : Int) ∧ ((j : Nat) : Int) < k then (if ((j : Nat) : Int) = i then iv s 7 else -1) else iv sb j
def MSX (iv : Nat → Nat → Int) (rv : Nat → Nat → Option Nat) (iv2 : Nat → Nat → Int) (s : Nat) (i n : Int) : Prop := MSK iv rv iv2 s i (i + n)
def SPX (sk ln : Nat → Nat) (iv : Nat → Nat → Int) (rv : Nat → Nat → Option Nat) (iv2 : Nat → Nat → Int) (s : Nat) (r : Option Nat) (q u f : Int) : Prop := ∀ tb, r = some tb → ∀ v a W t, CTX sk ln iv rv s tb q u v a W t → ∀ l0, PDH iv rv s l0 → (f = 0 → ∃ ps, PTS a W t q u ps ∧ (PDH iv2 rv s (l0 ++ cls ps) ∧ STE iv2 rv s ((l0.length : Nat) : Int) ps q u)) ∧ (f ≠ 0 → ¬ ∃ ps, PTS a W t q u ps ∧ (l0 ++ cls ps).length ≤ 200)
def SPI (sk ln : Nat → Nat) (iv : Nat → Nat → Int) (rv : Nat → Nat → Option Nat) (iv1 : Nat → Nat → Int) (s tb : Nat) (q u x : Int) : Prop := ∀ v a W t, CTX sk ln iv rv s tb q u v a W t → ∀ l0, PDH iv rv s l0 → ∃ pre, ptp a W t q u q pre x ∧ (PDH iv1 rv s (l0 ++ cls pre) ∧ STI iv1 rv s ((l0.length : Nat) : Int) pre q x)
def SPM (sk ln : Nat → Nat) (iv : Nat → Nat → Int) (rv : Nat → Nat → Option Nat) (iv1 : Nat → Nat → Int) (s tb : Nat) (q u x n : Int) : Prop := ∀ v a W t, CTX sk ln iv rv s tb q u v a W t → ∀ l0, PDH iv rv s l0 → ∃ pre, ptp a W t q u q pre x ∧ (PDH iv1 rv s (l0 ++ cls pre) ∧ ST2 iv1 rv s ((l0.length : Nat) : Int) pre q x n)
def SP2 (sk ln : Nat → Nat) (iv : Nat → Nat → Int) (rv : Nat → Nat → Option Nat) (iv1 : Nat → Nat → Int) (s tb : Nat) (q u x : Int) (w : Nat) : Prop := ∀ v a W t, CTX sk ln iv rv s tb q u v a W t → ∀ l0, PDH iv rv s l0 → ∃ pre cs lb, ptp a W t q u q pre x ∧ (rv w 1 = some lb ∧ 1 ≤ ln lb ∧ PC1 a W t q u x ((ln lb : Nat) : Int) cs) ∧ (PDH iv1 rv s ((l0 ++ cls pre) ++ cs) ∧ ST2 iv1 rv s ((l0.length : Nat) : Int) pre q x ((ln lb : Nat) : Int))
def STX (ln : Nat → Nat) (iv : Nat → Nat → Int) (rv : Nat → Nat → Option Nat) (iv2 : Nat → Nat → Int) (s : Nat) (r : Option Nat) (f : Int) : Prop := (r = none ∧ f = 7) ∨ (f = 0 ∧ (∃ w, r = some w) ∧ PUX ln iv rv iv2 s r)
section SROW
variable {g : Nat} {sk : Nat → Nat} {L : List Nat} {cl ln : Nat → Nat} {iv iv1 iv2 iv3 : Nat → Nat → Int} {rv : Nat → Nat → Option Nat} {v : Nat → Int} {a : Nat → Nat → Int} {W : Nat → Int} {s w tb c cb n lb : Nat} {t : Nat} {i k x y z q u m p b b2 f : Int} {r ah fo : Option Nat} {ls : List Nat} {l l0 cs ds : List Int}
theorem rgs {h : Nat → Int} (hk : 0 ≤ k) : (List.range (k + 1).toNat).map h = (List.range k.toNat).map h ++ [h k.toNat] := by
  rw [show (k + 1).toNat = k.toNat + 1 by omega, List.range_succ, List.map_append]; rfl
theorem PDH.app1 (h : PDH iv1 rv s l) (hl : iv2 s 7 = iv1 s 7 + 1) (ho : ∀ cb, rv s 6 = some cb → (∀ j : Nat, (j : Int) < iv1 s 7 → iv2 cb j = iv1 cb j) ∧ (iv1 s 7 < 200 → iv2 cb (iv1 s 7).toNat = z)) : PDH iv2 rv s (l ++ [z]) := by
  obtain ⟨h1, h2⟩ := h
  have e0 : (l ++ [z]).length = l.length + 1 := by rw [List.length_append]; rfl
  refine ⟨by omega, fun cb hb j d hj e => ?_⟩
  obtain ⟨o1, o2⟩ := ho cb hb
  by_cases c : j < l.length
  · rw [List.getElem?_append_left c] at e
    rw [o1 j (by omega)]; exact h2 cb hb j d hj e
  · rw [List.getElem?_append_right (by omega)] at e
    have e2 : j - l.length < 1 := gl_lt e
    rw [show j - l.length = 0 by omega] at e
    cases e
    rw [show j = (iv1 s 7).toNat by omega]; exact o2 (by omega)
theorem PDH.put1 {k : Nat} (h : PDH iv1 rv s l) (e : iv2 = up2 iv1 s k z) (hk : k ≠ 7) (hne : ∀ cb, rv s 6 = some cb → cb ≠ s) : PDH iv2 rv s l := by
  obtain ⟨h1, h2⟩ := h
  refine ⟨by rw [e, up2_j (fun q => hk q.symm)]; exact h1, fun cb hb j d hj e2 => ?_⟩
  rw [e, up2_k (hne cb hb)]; exact h2 cb hb j d hj e2
theorem s6ne (hW : WT g sk L cl ln iv rv) (ts : ty L cl s 15) : ∀ cb, rv s 6 = some cb → cb ≠ s := fun cb hb => by
  obtain ⟨b', q1, t6⟩ := hW.ref ts 6 rfl rfl rfl
  rw [hb] at q1; cases q1
  exact ne_ty t6 ts (by decide)
theorem PDH.ni (hW : WT g sk L cl ln iv1 rv) (hF : fT ls L cl iv1 rv iv2 rv) (ts : ty L cl s 15) (h15 : ls.contains 15 = false) (h54 : ls.contains 54 = false) (h : PDH iv1 rv s l) : PDH iv2 rv s l := by
  obtain ⟨h1, h2⟩ := h
  refine ⟨(hF.i ts h15 7).trans h1, fun cb hb j d hj e2 => ?_⟩
  obtain ⟨b', q1, t6⟩ := hW.ref ts 6 rfl rfl rfl
  rw [hb] at q1; cases q1
  have t54 : ty L cl cb 54 := t6
  rw [hF.i t54 h54 j]; exact h2 cb hb j d hj e2
theorem PUX.no : PUX ln iv rv iv s none := fun l h cs hc => by
  rcases hc with ⟨_, e⟩ | ⟨w, c, e, _⟩
  · rw [e, List.append_nil]; exact h
  · cases e
theorem PUK.zero : PUK ln iv rv iv s r 0 := fun w c _ _ => ⟨by omega, fun l h => by
  show PDH iv rv s (l ++ [])
  rw [List.append_nil]; exact h⟩
theorem PUK.put (h : PUK ln iv rv iv1 s (some w) k) (hk : 0 ≤ k) (h2 : rv w 2 = some c) (hlt : k < ((ln c : Nat) : Int)) (h6 : rv s 6 = some cb) (e1 : iv2 = up2 iv1 cb p.toNat z) (hp : p = iv1 s 7) (hz : z = iv c k.toNat) (e2 : iv3 = up2 iv2 s 7 y) (hy : y = iv1 s 7 + 1) (h7 : 0 ≤ iv1 s 7) (hne : ∀ cb, rv s 6 = some cb → cb ≠ s) : PUK ln iv rv iv3 s (some w) (k + 1) := fun w' c' q1 q2 => by
  cases q1
  rw [h2] at q2; cases q2
  refine ⟨by omega, fun l hl => ?_⟩
  have g := (h w c rfl h2).2 l hl
  rw [rgs hk, ← List.append_assoc]
  refine g.app1 (by rw [e2, up2_s]; exact hy) (fun cb' hb => ?_)
  rw [h6] at hb; cases hb
  have n1 := hne cb h6
  subst hp
  refine ⟨fun j hj => ?_, fun _ => ?_⟩
  · rw [e2, up2_k n1, e1, up2_j (by omega)]
  · rw [e2, up2_k n1, e1, up2_s]; exact hz
theorem PUK.inc (h : PUK ln iv rv iv1 s (some w) k) (hk : 0 ≤ k) (h2 : rv w 2 = some c) (hlt : k < ((ln c : Nat) : Int)) (e2 : iv3 = up2 iv1 s 7 y) (hy : y = iv1 s 7 + 1) (h200 : 200 ≤ iv1 s 7) (hne : ∀ cb, rv s 6 = some cb → cb ≠ s) : PUK ln iv rv iv3 s (some w) (k + 1) := fun w' c' q1 q2 => by
  cases q1
  rw [h2] at q2; cases q2
  refine ⟨by omega, fun l hl => ?_⟩
  have g := (h w c rfl h2).2 l hl
  rw [rgs hk, ← List.append_assoc]
  exact g.app1 (by rw [e2, up2_s]; exact hy) (fun cb hb => ⟨fun j hj => by rw [e2, up2_k (hne cb hb)], fun e => absurd e (by omega)⟩)
theorem PUX.fin (h : PUK ln iv rv iv1 s (some w) k) (h2 : rv w 2 = some c) (hk : ((ln c : Nat) : Int) ≤ k) : PUX ln iv rv iv1 s (some w) := fun l hl cs hc => by
  rcases hc with ⟨e, _⟩ | ⟨w', c', e, e2, e3⟩
  · cases e
  · cases e
    rw [h2] at e2; cases e2
    obtain ⟨g1, g2⟩ := h w c rfl h2
    have g := g2 l hl
    rw [show k.toNat = ln c by omega] at g
    rw [e3]; exact g
theorem RCX.ni (hW : WT g sk L cl ln iv rv) (hF : fT ls L cl iv rv iv1 rv) (h1 : kpl ls = true) (tr : ∀ b, r = some b → ty L cl b 20) (h : RCX ln iv rv r cs) : RCX ln iv1 rv r cs := by
  rcases h with h | ⟨w, c, e1, e2, e3⟩
  · exact Or.inl h
  · obtain ⟨c', q1, tc⟩ := hW.ref (tr w e1) 2 rfl rfl rfl
    rw [e2] at q1; cases q1
    have t66 : ty L cl c 66 := tc
    refine Or.inr ⟨w, c, e1, e2, ?_⟩
    rw [e3, show iv1 c = iv c from funext fun j => hF.i t66 (kpl_no h1).2.2.2.2.1 j]
theorem CTX.ni (hW : WT g sk L cl ln iv rv) (hS : SKL sk L cl) (hF : fT ls L cl iv rv iv1 rv) (h1 : kpl ls = true) (a1 : ls.contains 22 = false) (a2 : ls.contains 1000 = false) (a3 : ls.contains 23 = false) (a4 : ls.contains 1001 = false) (a5 : ls.contains 50 = false) (ts : ty L cl s 15) (h : CTX sk ln iv rv s tb q u v a W t) : CTX sk ln iv1 rv s tb q u v a W t := ⟨h.1.ni hW hS hF h1 a1 a2 a3 a4, h.2.1, h.2.2.1, h.2.2.2.1, h.2.2.2.2.ni hW hF a5 ts⟩
theorem NAX.mv (h : NAX sk ln iv1 rv s tb x fo) (hW : WT g sk L cl ln iv rv) (hS : SKL sk L cl) (hW1 : WT g sk L cl ln iv1 rv) (hF : fT [15, 53, 54, 55] L cl iv rv iv1 rv) (ts : ty L cl s 15) (tf : ∀ b, fo = some b → ty L cl b 20) (h10 : iv1 s 10 = q) (h11 : iv1 s 11 = u) (hx : q ≤ x ∧ x < u) : NA0 sk ln iv rv s tb q u x fo := fun v a W t hC => by
  subst h10
  subst h11
  exact (h v a W t (hC.ni hW hS hF rfl rfl rfl rfl rfl rfl ts) hx.1 hx.2).ni hW1 hF.sym rfl tf
theorem FDX.mv (h : FDX sk ln iv1 rv s tb x b fo) (hW : WT g sk L cl ln iv rv) (hS : SKL sk L cl) (hW1 : WT g sk L cl ln iv1 rv) (hF : fT [15, 53, 54, 55] L cl iv rv iv1 rv) (ts : ty L cl s 15) (tf : ∀ b, fo = some b → ty L cl b 20) (h10 : iv1 s 10 = q) (h11 : iv1 s 11 = u) (hx : q ≤ x ∧ x < u) : FD0 sk ln iv rv s tb q u x b fo := fun v a W t hC => by
  subst h10
  subst h11
  obtain ⟨p1, p2, p3, p4, p5⟩ := hC.ni hW hS hF rfl rfl rfl rfl rfl rfl ts
  obtain ⟨y, y1, y2⟩ := h v a W t p1 p2 p3 p4 (fun lb hb j h1 h2 => p5 lb hb j (by omega) h2)
  exact ⟨y, y1, y2.ni hW1 hF.sym rfl tf⟩
theorem BST.no (h : BST ln iv rv a none z) : z = -1 := by
  rcases h with ⟨_, e⟩ | ⟨w, e, _⟩
  · exact e
  · cases e
theorem BST.rc (h : BST ln iv rv a (some w) y) : RCX ln iv rv (some w) (RCL a y) ∧ (∃ lb, rv w 1 = some lb ∧ ((ln lb : Nat) : Int) = a 12 y.toNat) ∧ 0 ≤ y := by
  rcases h with ⟨e, _⟩ | ⟨w', e, e2, e3⟩
  · cases e
  · cases e
    obtain ⟨_, _, lb, c, q1, q2, q3, q4, _, q6⟩ := e3
    refine ⟨Or.inr ⟨w, c, rfl, q2, ?_⟩, ⟨lb, q1, q3⟩, e2⟩
    unfold RCL
    rw [show (a 13 y.toNat).toNat = ln c by omega]
    exact List.map_congr_left (fun k hk => (q6 k (List.mem_range.mp hk)).1.symm)
theorem CTX.wd (h : CTX sk ln iv rv s tb q u v a W t) (h0 : rv s 0 = some lb) (hx : q ≤ x ∧ x < u) : iv lb x.toNat = W x.toNat := h.2.2.2.2 lb h0 x hx.1 hx.2
theorem vus (h : b = W x.toNat) : va_up W x.toNat b = W := by
  funext j
  unfold va_up
  split
  · rename_i e; rw [e]; exact h
  · rfl
theorem CTX.t10 (hR : TRL sk ln iv rv v a) (h0 : 0 ≤ z) (h4 : z < v 4) : a 10 z.toNat ≤ 200 := by
  obtain ⟨tt, htt⟩ := hR.smt (i := z.toNat) (by omega)
  exact (hR.tab (i := z.toNat) (by omega) htt).1.2.2.2.2
theorem fnd_rg (hR : TRL sk ln iv rv v a) : ∀ (m : Nat) (W : Nat → Int) (z r : Int), z < v 4 → 0 ≤ z → fnd a q u i m W z r → FNP a u i r := by
  intro m
  induction m with
  | zero => intro W z r _ _ h; exact False.elim h
  | succ m ih =>
    intro W z r h4 h0 h
    have ht := hR.2.2.1.1 z h0 h4
    have t8 : 1 ≤ a 6 z.toNat → a 6 z.toNat ≤ 3 → 0 ≤ a 8 z.toNat ∧ a 8 z.toNat < v 4 := by omega
    have t6 : a 6 z.toNat ≠ 1 → a 6 z.toNat ≠ 2 → a 6 z.toNat ≠ 3 → a 6 z.toNat < 1 ∨ 3 < a 6 z.toNat := by omega
    clear ht
    have ow : ∀ (W : Nat → Int) (y : Int), OWR a W q u i z y → FNP a u i y := fun W y ho => own_rg hR.2.2.1 hR.v30 h0 h4 (CTX.t10 hR h0 h4) ho
    rw [fnd_s] at h
    obtain ⟨p1, p2, p3, p4⟩ := h
    by_cases k1 : a 6 z.toNat = 1
    · obtain ⟨y, z2, e1, e2, e3⟩ := p1 k1
      rw [e3]
      exact cmb_rg (P := fun r => FNP a u i r) (ow _ _ e1) (ih _ _ _ (t8 (by omega) (by omega)).2 (t8 (by omega) (by omega)).1 e2)
    · by_cases k2 : a 6 z.toNat = 2
      · by_cases c : isD (W i.toNat)
        · exact ow _ _ ((p2 k2).1 c)
        · exact ih _ _ _ (t8 (by omega) (by omega)).2 (t8 (by omega) (by omega)).1 ((p2 k2).2 c)
      · by_cases k3 : a 6 z.toNat = 3
        · obtain ⟨y, z2, e1, e2, e3⟩ := p3 k3
          rw [e3]
          exact cmb_rg (P := fun r => FNP a u i r) (ow _ _ e1) (ih _ _ _ (t8 (by omega) (by omega)).2 (t8 (by omega) (by omega)).1 e2)
        · exact ow _ _ (p4 (t6 k1 k2 k3))
theorem CTX.ind (h : CTX sk ln iv rv s tb q u v a W t) (h6 : rv tb 6 = some n) {j : Nat} (hj : j < 4) : INDR ln iv rv (rv n j) (j : Int) (a 16 (4 * t + j)) (fun k => a 17 (4 * (4 * t + j) + k)) := by
  obtain ⟨_, _, q1, n1, ⟨_, c2, _⟩, _, c5⟩ := h.1.tab h.2.1 h.2.2.2.1
  rw [h6] at c2; cases c2
  exact c5 j hj
theorem CTX.kind (h : CTX sk ln iv rv s tb q u v a W t) : iv tb 0 = a 6 t := (h.1.tab h.2.1 h.2.2.2.1).1.1
theorem INDR.rc {h : Nat → Int} (hi : INDR ln iv rv r z m h) : RCX ln iv rv r ((List.range m.toNat).map h) := by
  rcases hi with ⟨e1, e2⟩ | ⟨b, c, e1, _, e3, e4, _, e6⟩
  · exact Or.inl ⟨e1, by rw [e2]; rfl⟩
  · refine Or.inr ⟨b, c, e1, e3, ?_⟩
    rw [show m.toNat = ln c by omega]
    exact List.map_congr_left (fun k hk => (e6 k (List.mem_range.mp hk)).1.symm)
theorem ICL.nat {j : Nat} : ICL a (4 * (t : Int) + (j : Int)) = (List.range (a 16 (4 * t + j)).toNat).map (fun k => a 17 (4 * (4 * t + j) + k)) := by
  unfold ICL
  rw [show (4 * (t : Int) + (j : Int)).toNat = 4 * t + j by omega]
theorem NAX.no (h0 : rv s 0 = some lb) (hn : ¬ (iv tb 0 = 2 ∧ isD (iv lb i.toNat) ∧ (i ≤ iv s 10 ∨ ¬ isD (iv lb (i - 1).toNat)))) : NAX sk ln iv rv s tb i none := fun v a W t hC h1 h2 => Or.inl ⟨rfl, by
  unfold nbl
  rw [if_neg]
  intro w
  rw [Int.toNat_natCast, ← hC.kind, ← hC.wd h0 ⟨h1, h2⟩] at w
  refine hn ⟨w.1, w.2.1, ?_⟩
  rcases w.2.2 with e | e
  · exact Or.inl (by omega)
  · by_cases c : i ≤ iv s 10
    · exact Or.inl c
    · rw [← hC.wd (x := i - 1) h0 ⟨by omega, by omega⟩] at e
      exact Or.inr e⟩
theorem NAX.yes (h0 : rv s 0 = some lb) (hn : iv tb 0 = 2 ∧ isD (iv lb i.toNat) ∧ (i ≤ iv s 10 ∨ ¬ isD (iv lb (i - 1).toNat))) (h6 : rv tb 6 = some n) (hr : rv n 1 = r) : NAX sk ln iv rv s tb i r := fun v a W t hC h1 h2 => by
  have hi := (hC.ind h6 (j := 1) (by decide)).rc
  rw [hr] at hi
  have e : nbl a W t (iv s 10) i = ICL a (4 * (t : Int) + ((1 : Nat) : Int)) := by
    unfold nbl
    rw [if_pos]
    · rfl
    · rw [Int.toNat_natCast, ← hC.kind, ← hC.wd h0 ⟨h1, h2⟩]
      refine ⟨hn.1, hn.2.1, ?_⟩
      by_cases c : i ≤ iv s 10
      · exact Or.inl (by omega)
      · rcases hn.2.2 with e | e
        · exact absurd e c
        · rw [← hC.wd (x := i - 1) h0 ⟨by omega, by omega⟩]
          exact Or.inr e
  rw [e, ICL.nat]
  exact hi
theorem PCX.plain (na : NA0 sk ln iv rv s tb q u x ah) (fd : FD0 sk ln iv rv s tb q u x b (some w)) (h0 : rv s 0 = some lb) (hb : b = iv lb x.toNat) (hx : q ≤ x ∧ x < u) : PCX sk ln iv rv s tb q u x ah w := fun v a W t hC => by
  obtain ⟨y, f1, f2⟩ := fd v a W t hC
  rw [vus (hb.trans (hC.wd h0 hx))] at f1
  obtain ⟨r1, ⟨lb2, r2, r3⟩, r4⟩ := f2.rc
  have r5 := fnd_rg hC.1 30 W t y hC.2.1 (by omega) f1
  refine ⟨_, _, lb2, na v a W t hC, r1, r2, ?_, y, ⟨r4, r3⟩, Or.inl ⟨f1, rfl⟩⟩
  rcases r5 with e | ⟨_, _, e, _⟩ <;> omega
theorem PCX.cap (fd : FD0 sk ln iv rv s tb q u x b none) (fd2 : FD0 sk ln iv rv s tb q u x b2 (some w)) (h0 : rv s 0 = some lb) (hb : b = iv lb x.toNat) (hb2 : b2 = b + 32) (hg : isG b) (hk : iv tb 0 ≤ 2) (h6 : rv tb 6 = some n) (hr : rv n 0 = some cb) (hx : q ≤ x ∧ x < u) : PCX sk ln iv rv s tb q u x (some cb) w := fun v a W t hC => by
  obtain ⟨y, f1, f2⟩ := fd v a W t hC
  obtain ⟨y2, g1, g2⟩ := fd2 v a W t hC
  have ew := hb.trans (hC.wd h0 hx)
  rw [vus ew] at f1
  have e1 := f2.no
  subst e1
  obtain ⟨r1, ⟨lb2, r2, r3⟩, r4⟩ := g2.rc
  refine hv2 (fnd_rg hC.1 30 _ t y2 hC.2.1 (by omega) g1) (hC.ind h6 (j := 0) (by decide)) (fun r5 hi => ?_)
  rw [hr] at hi
  have hp : 0 < a 16 (4 * t + 0) := by
    rcases hi with ⟨e, _⟩ | ⟨_, _, _, _, _, _, e, _⟩
    · cases e
    · exact e
  have hI := hi.rc
  rw [← ICL.nat] at hI
  have nb : nbl a W t q x = [] := by
    unfold nbl
    rw [if_neg]
    intro e
    rw [← ew] at e
    have e2 := e.2.1
    unfold isD at e2
    unfold isG at hg
    omega
  refine ⟨_, _, lb2, hI, r1, r2, ?_, y2, ⟨r4, r3⟩, Or.inr ⟨f1, ⟨by rw [Int.toNat_natCast, ← hC.kind]; exact hk, by rw [← ew]; exact hg, ?_⟩, ?_, ?_⟩⟩
  · rcases r5 with e | ⟨_, _, e, _⟩ <;> omega
  · rw [show (4 * (t : Int) + 0).toNat = 4 * t + 0 by omega]; exact hp
  · rw [hb2, ew] at g1; exact g1
  · rw [nb, List.nil_append]; rfl
def CPX (iv : Nat → Nat → Int) (rv : Nat → Nat → Option Nat) (tb : Nat) (cp : Option Nat) : Prop := (2 < iv tb 0 ∧ cp = none) ∨ (iv tb 0 ≤ 2 ∧ ∃ n, rv tb 6 = some n ∧ rv n 0 = cp)
theorem CPX.no (h : CPX iv rv tb none) : NCP iv rv tb b := by
  rcases h with ⟨h1, _⟩ | ⟨_, n, h1, h2⟩
  · exact Or.inr (Or.inl h1)
  · exact Or.inr (Or.inr ⟨n, h1, h2⟩)
theorem PCX.cap2 (fd : FD0 sk ln iv rv s tb q u x b none) (fd2 : FD0 sk ln iv rv s tb q u x b2 (some w)) (h0 : rv s 0 = some lb) (hb : b = iv lb x.toNat) (hb2 : b2 = b + 32) (hg : isG b) (h : CPX iv rv tb (some cb)) (hx : q ≤ x ∧ x < u) : PCX sk ln iv rv s tb q u x (some cb) w := by
  rcases h with ⟨_, h1⟩ | ⟨hk, n, h1, h2⟩
  · cases h1
  · exact PCX.cap fd fd2 h0 hb hb2 hg hk h1 h2 hx
theorem NPX.no (fd : FD0 sk ln iv rv s tb q u x b none) (h0 : rv s 0 = some lb) (hb : b = iv lb x.toNat) (hx : q ≤ x ∧ x < u) (hn : NCP iv rv tb b) : NPX sk ln iv rv s tb q u x := fun v a W t hC l ds hp => by
  obtain ⟨y, f1, f2⟩ := fd v a W t hC
  have ew := hb.trans (hC.wd h0 hx)
  rw [vus ew] at f1
  have e1 := f2.no
  subst e1
  obtain ⟨r, ⟨p1, _⟩, p3⟩ := hp
  rcases p3 with ⟨p4, _⟩ | ⟨_, p5, _⟩
  · have e := fnd_uni hC.1.2.2.1 _ _ _ _ _ _ (by omega) hC.2.1 f1 p4
    omega
  · obtain ⟨c1, c2, c3⟩ := p5
    rw [Int.toNat_natCast, ← hC.kind] at c1
    rw [← ew] at c2
    rcases hn with e | e | ⟨n, n1, n2⟩
    · exact e c2
    · omega
    · have hi := hC.ind n1 (j := 0) (by decide)
      rw [n2] at hi
      rcases hi with ⟨_, e⟩ | ⟨_, _, e, _⟩
      · rw [show (4 * (t : Int) + 0).toNat = 4 * t + 0 by omega] at c3
        omega
      · cases e
theorem NPX.cap (fd : FD0 sk ln iv rv s tb q u x b none) (fd2 : FD0 sk ln iv rv s tb q u x b2 none) (h0 : rv s 0 = some lb) (hb : b = iv lb x.toNat) (hb2 : b2 = b + 32) (hx : q ≤ x ∧ x < u) : NPX sk ln iv rv s tb q u x := fun v a W t hC l ds hp => by
  obtain ⟨y, f1, f2⟩ := fd v a W t hC
  obtain ⟨y2, g1, g2⟩ := fd2 v a W t hC
  have ew := hb.trans (hC.wd h0 hx)
  rw [vus ew] at f1
  rw [hb2, ew] at g1
  refine hv2 (f2.no) (g2.no) (fun e1 e2 => ?_)
  subst e1
  subst e2
  obtain ⟨r, ⟨p1, _⟩, p3⟩ := hp
  rcases p3 with ⟨p4, _⟩ | ⟨_, _, p6, _⟩
  · have e := fnd_uni hC.1.2.2.1 _ _ _ _ _ _ (by omega) hC.2.1 f1 p4
    omega
  · have e := fnd_uni hC.1.2.2.1 _ _ _ _ _ _ (by omega) hC.2.1 g1 p6
    omega
theorem SPX.no : SPX sk ln iv rv iv2 s none q u f := fun tb e => by cases e
theorem SPI.init (e1 : iv1 = up2 iv s 10 y) (e2 : iv2 = up2 iv1 s 11 z) (hne : ∀ cb, rv s 6 = some cb → cb ≠ s) : SPI sk ln iv rv iv2 s tb q u q := fun v a W t hC l0 hl => ⟨[], rfl, by
  rw [show cls [] = [] from rfl, List.append_nil]
  exact (hl.put1 e1 (by decide) hne).put1 e2 (by decide) hne, fun _ _ => rfl, fun sb _ j h1 h2 _ => absurd h1 (by omega)⟩
theorem sb53 (hW : WT g sk L cl ln iv rv) (ts : ty L cl s 15) (hb : rv s 3 = some cb) : ty L cl cb 53 := by
  obtain ⟨b', q1, t3⟩ := hW.ref ts 3 rfl rfl rfl
  rw [hb] at q1; cases q1
  exact t3
theorem STI.ni {ps : List (Int × List Int)} (hW : WT g sk L cl ln iv1 rv) (hF : fT ls L cl iv1 rv iv2 rv) (ts : ty L cl s 15) (h53 : ls.contains 53 = false) (h : STI iv1 rv s m ps q x) : STI iv2 rv s m ps q x := ⟨h.1, fun sb hb j j1 j2 j3 => by
  rw [hF.i (sb53 hW ts hb) h53 j]
  exact h.2 sb hb j j1 j2 j3⟩
theorem ST2.ni {ps : List (Int × List Int)} (hW : WT g sk L cl ln iv1 rv) (hF : fT ls L cl iv1 rv iv2 rv) (ts : ty L cl s 15) (h53 : ls.contains 53 = false) (h : ST2 iv1 rv s m ps q x y) : ST2 iv2 rv s m ps q x y := ⟨h.1, fun sb hb j j1 j2 j3 => by
  rw [hF.i (sb53 hW ts hb) h53 j]
  exact h.2 sb hb j j1 j2 j3⟩
theorem MSK.zero : MSK iv rv iv s i i := fun sb hb j hj => by rw [if_neg (by omega)]
theorem MSK.step (h : MSK iv rv iv1 s i k) (h3 : rv s 3 = some cb) (e : iv2 = up2 iv1 cb k.toNat z) (hk : 0 ≤ i ∧ i ≤ k) (hz : (k = i ∧ z = iv s 7) ∨ (k ≠ i ∧ z = -1)) : MSK iv rv iv2 s i (k + 1) := fun sb hb j hj => by
  have g := h sb hb j hj
  rw [h3] at hb; cases hb
  by_cases c : ((j : Nat) : Int) = k
  · rw [e, show j = k.toNat by omega, up2_s, if_pos (by omega)]
    rcases hz with ⟨e1, e2⟩ | ⟨e1, e2⟩
    · rw [if_pos (by omega)]; exact e2
    · rw [if_neg (by omega)]; exact e2
  · rw [e, up2_j (by omega), g]
    by_cases c2 : i ≤ ((j : Nat) : Int) ∧ ((j : Nat) : Int) < k
    · rw [if_pos c2, if_pos (show i ≤ ((j : Nat) : Int) ∧ ((j : Nat) : Int) < k + 1 by omega)]
    · rw [if_neg c2, if_neg (by omega)]
theorem MSK.fin {y2 : Int} (h : MSK iv rv iv1 s i k) (hk : k ≤ i + y2 ∧ (i + y2 ≤ k ∨ 500 ≤ k)) : MSX iv rv iv1 s i y2 := fun sb hb j hj => by
  rw [h sb hb j hj]
  by_cases c2 : i ≤ ((j : Nat) : Int) ∧ ((j : Nat) : Int) < k
  · rw [if_pos c2, if_pos (show i ≤ ((j : Nat) : Int) ∧ ((j : Nat) : Int) < i + y2 by omega)]
  · rw [if_neg c2, if_neg (by omega)]
theorem SPI.ni (h : SPI sk ln iv rv iv1 s tb q u x) (hW : WT g sk L cl ln iv1 rv) (hF : fT ls L cl iv1 rv iv2 rv) (ts : ty L cl s 15) (h15 : ls.contains 15 = false) (h54 : ls.contains 54 = false) (h53 : ls.contains 53 = false) : SPI sk ln iv rv iv2 s tb q u x := fun v a W t hC l0 hl => by
  obtain ⟨pre, p1, p2⟩ := h v a W t hC l0 hl
  exact ⟨pre, p1, p2.1.ni hW hF ts h15 h54, p2.2.ni hW hF ts h53⟩
theorem SPI.mark (h : SPI sk ln iv rv iv1 s tb q u x) (hW : WT g sk L cl ln iv1 rv) (hF : fT ls L cl iv1 rv iv2 rv) (ts : ty L cl s 15) (h15 : ls.contains 15 = false) (h54 : ls.contains 54 = false) (hx : 0 ≤ x ∧ x < 500) (ms : MSX iv1 rv iv2 s x y) : SPM sk ln iv rv iv2 s tb q u x y := fun v a W t hC l0 hl => by
  obtain ⟨pre, p1, p2, p3, p4⟩ := h v a W t hC l0 hl
  refine ⟨pre, p1, p2.ni hW hF ts h15 h54, p3, fun sb hb j j1 j2 j3 => ?_⟩
  have e := p2.1
  rw [List.length_append] at e
  rw [ms sb hb j j3]
  by_cases c : x ≤ ((j : Nat) : Int)
  · rw [if_pos ⟨c, j2⟩]
    by_cases c2 : ((j : Nat) : Int) = x
    · rw [if_pos c2, if_pos (by omega), e]
      push_cast
      rfl
    · rw [if_neg c2, if_neg (by omega), p3 j c]
  · rw [if_neg (by omega), if_neg (by omega)]
    exact p4 sb hb j j1 (by omega) j3
theorem SPI.unk (h : SPI sk ln iv rv iv1 s tb q u x) (hn : NPX sk ln iv rv s tb q u x) (hx : x < u) (hf : f ≠ 0) : SPX sk ln iv rv iv2 s (some tb) q u f := fun tb' e v a W t hC l0 hl => by
  cases e
  refine ⟨fun e => absurd e hf, fun _ w => ?_⟩
  obtain ⟨pre, p1, _⟩ := h v a W t hC l0 hl
  obtain ⟨ps, ⟨y, w1, w2⟩, _⟩ := w
  obtain ⟨qs, k1, k2⟩ := ptp.ext hC.1.2.2.1 (by omega) hC.2.1 pre ps q y p1 w1 w2
  cases qs with
  | nil => cases k2; omega
  | cons p qs =>
    obtain ⟨_, _, l3, k5, _⟩ := k2
    exact hn v a W t hC _ _ k5
theorem SPM.two {ls2 : List Nat} {n1 : Int} (h : SPM sk ln iv rv iv1 s tb q u x n1) (hlb : rv w 1 = some lb) (hn : n1 = ((ln lb : Nat) : Int)) (hW1 : WT g sk L cl ln iv1 rv) (hW2 : WT g sk L cl ln iv2 rv) (ts : ty L cl s 15) (hP1 : fT ls L cl iv1 rv iv2 rv) (hP2 : fT ls2 L cl iv2 rv iv3 rv) (l53 : ls.contains 53 = false) (m53 : ls2.contains 53 = false) (hW : WT g sk L cl ln iv rv) (hF1 : fT [15, 53, 54, 55] L cl iv rv iv1 rv) (hF2 : fT [15, 53, 54, 55] L cl iv rv iv2 rv) (ta : ∀ b, ah = some b → ty L cl b 20) (tw : ty L cl w 20) (pc : PCX sk ln iv rv s tb q u x ah w) (p1 : PUX ln iv1 rv iv2 s ah) (p2 : PUX ln iv2 rv iv3 s (some w)) : SP2 sk ln iv rv iv3 s tb q u x w := fun v a W t hC l0 hl => by
  obtain ⟨pre, g1, g2⟩ := h v a W t hC l0 hl
  obtain ⟨as, ds, lb2, c1, c2, c3, c4, c5⟩ := pc v a W t hC
  have d1 := p1 _ g2.1 as (c1.ni hW hF1 rfl ta)
  have d2 := p2 _ d1 ds (c2.ni hW hF2 rfl (fun b e => by cases e; exact tw))
  rw [List.append_assoc] at d2
  refine ⟨pre, as ++ ds, lb2, g1, ⟨c3, c4, c5⟩, d2, ?_⟩
  rw [hlb] at c3; cases c3
  rw [← hn]
  exact (g2.2.ni hW1 hP1 ts l53).ni hW2 hP2 ts m53
theorem SP2.many (h : SP2 sk ln iv rv iv1 s tb q u x w) (hx : x < u) (hm : 200 < iv1 s 7) (hf : f ≠ 0) : SPX sk ln iv rv iv1 s (some tb) q u f := fun tb' e v a W t hC l0 hl => by
  cases e
  refine ⟨fun e => absurd e hf, fun _ w => ?_⟩
  obtain ⟨pre, cs, lb, p1, ⟨_, _, p2⟩, p3⟩ := h v a W t hC l0 hl
  obtain ⟨ps, ⟨y, w1, w2⟩, w3⟩ := w
  obtain ⟨qs, k1, k2⟩ := ptp.ext hC.1.2.2.1 (by omega) hC.2.1 pre ps q y p1 w1 w2
  cases qs with
  | nil => cases k2; omega
  | cons p qs =>
    obtain ⟨_, _, l3, k5, _⟩ := k2
    refine hv2 ((PC1.uni hC.1.2.2.1 (by omega) hC.2.1 p2 k5).2) (p3.1.1) (fun e w4 => ?_)
    rw [k1, cls_app, cls_cons, ← e] at w3
    simp only [List.length_append] at w3 w4
    omega
theorem SP2.next (h : SP2 sk ln iv rv iv1 s tb q u x w) (hx : x < u) (hx0 : 0 ≤ x) (h1 : rv w 1 = some lb) (hm : ((ln lb : Nat) : Int) < 1 ∨ y = x + ((ln lb : Nat) : Int)) : SPI sk ln iv rv iv1 s tb q u y := fun v a W t hC l0 hl => by
  obtain ⟨pre, cs, lb2, p1, ⟨c1, c2, p2⟩, p3⟩ := h v a W t hC l0 hl
  rw [h1] at c1; cases c1
  rw [show y = x + ((ln lb : Nat) : Int) by omega]
  obtain ⟨p3, p4, p5⟩ := p3
  refine ⟨pre ++ [(x, cs)], ptp.snoc pre q p1 hx p2, ?_, fun j hj => ?_, fun sb hb j j1 j2 j3 => ?_⟩
  · rw [cls_app, cls_one, ← List.append_assoc]
    exact p3
  · rw [bgn_snoc, if_neg (by omega)]
    exact p4 j (by omega)
  · rw [bgn_snoc]
    exact p5 sb hb j j1 j2 j3
theorem SPI.done (h : SPI sk ln iv rv iv1 s tb q u x) (hx : u ≤ x) : SPX sk ln iv rv iv1 s (some tb) q u 0 := fun tb' e v a W t hC l0 hl => by
  cases e
  obtain ⟨pre, p1, p2⟩ := h v a W t hC l0 hl
  exact ⟨fun _ => ⟨pre, ⟨x, p1, hx⟩, p2.1, fun sb hb j j1 j2 j3 => p2.2.2 sb hb j j1 (by omega) j3⟩, fun e => absurd rfl e⟩
end SROW
def CTB (sk ln : Nat → Nat) (iv : Nat → Nat → Int) (rv : Nat → Nat → Option Nat) (s tb : Nat) (v : Nat → Int) (a : Nat → Nat → Int) (W : Nat → Int) (t : Nat) : Prop := TRL sk ln iv rv v a ∧ (t : Int) < v 4 ∧ el rv (sk 22) t = some tb ∧ LTW iv rv s W 0 (iv s 4)
def SW0 (a : Nat → Nat → Int) (W : Nat → Int) (n t : Int) (cs : List Int) : Prop := (a 6 t.toNat ≠ 5 ∧ ∃ ps, PTS a W t 0 n ps ∧ cs = cls ps) ∨ (a 6 t.toNat = 5 ∧ ∃ js ps g x, jtp a W n t 0 0 js g x ∧ SEG a W n t g x n ps ∧ cs = jcl a t 0 js ++ cls ps)
def STF (iv : Nat → Nat → Int) (rv : Nat → Nat → Option Nat) (s : Nat) (a : Nat → Nat → Int) (W : Nat → Int) (n t : Int) (cs : List Int) : Prop := a 6 t.toNat ≠ 5 → ∃ ps, PTS a W t 0 n ps ∧ cs = cls ps ∧ STE iv rv s 0 ps 0 n
def SBF (sk ln : Nat → Nat) (iv : Nat → Nat → Int) (rv : Nat → Nat → Option Nat) (s tb : Nat) : Prop := ∀ v a W t, CTB sk ln iv rv s tb v a W t → ¬ ∃ cs, SW0 a W (iv s 4) t cs ∧ cs.length ≤ 200
def SBX (sk ln : Nat → Nat) (iv : Nat → Nat → Int) (rv : Nat → Nat → Option Nat) (iv2 : Nat → Nat → Int) (s tb : Nat) (f : Int) : Prop := ∀ v a W t, CTB sk ln iv rv s tb v a W t → (f = 0 → ∃ cs, SW0 a W (iv s 4) t cs ∧ cs.length ≤ 200 ∧ (PDH iv2 rv s cs ∧ STF iv2 rv s a W (iv s 4) t cs)) ∧ (f ≠ 0 → ¬ ∃ cs, SW0 a W (iv s 4) t cs ∧ cs.length ≤ 200)
def SBI (sk ln : Nat → Nat) (iv : Nat → Nat → Int) (rv : Nat → Nat → Option Nat) (iv1 : Nat → Nat → Int) (s tb : Nat) (g x y : Int) : Prop := ∀ v a W t, CTB sk ln iv rv s tb v a W t → (y ≤ iv s 4 → (a 6 t ≠ 5 → (x = 0 ∧ g = 0) ∧ PDH iv1 rv s []) ∧ (a 6 t = 5 → (0 ≤ x ∧ x ≤ y) ∧ NSG W (sgj g) x y ∧ ∃ js, jtp a W (iv s 4) t 0 0 js g x ∧ PDH iv1 rv s (jcl a t 0 js))) ∧ (iv s 4 < y → ∃ cs, SW0 a W (iv s 4) t cs ∧ (PDH iv1 rv s cs ∧ STF iv1 rv s a W (iv s 4) t cs))
def SBN (sk ln : Nat → Nat) (iv : Nat → Nat → Int) (rv : Nat → Nat → Option Nat) (iv1 : Nat → Nat → Int) (s tb : Nat) (g y f : Int) : Prop := (f = 0 → SBI sk ln iv rv iv1 s tb (1 - g) (y + 1) (y + 1)) ∧ (f ≠ 0 → SBF sk ln iv rv s tb)
def NTN (iv : Nat → Nat → Int) (rv : Nat → Nat → Option Nat) (s tb : Nat) (g y : Int) : Prop := iv tb 0 ≠ 5 ∨ ∃ lb, rv s 0 = some lb ∧ iv lb y.toNat ≠ sgj g
def TRN (iv : Nat → Nat → Int) (rv : Nat → Nat → Option Nat) (s tb : Nat) (g k tn : Int) (fs : Option Nat) : Prop := (tn = 1 → iv tb 0 = 5 ∧ k < iv s 4 ∧ ∃ lb, rv s 0 = some lb ∧ iv lb k.toNat = sgj g) ∧ (tn ≠ 1 → k = iv s 4) ∧ (iv tb 0 = 5 → fs = rv tb 2) ∧ (iv tb 0 ≠ 5 → fs = some tb)
section SBYS
variable {h : Nat} {sk : Nat → Nat} {L : List Nat} {cl ln : Nat → Nat} {iv iv1 iv2 iv3 : Nat → Nat → Int} {rv : Nat → Nat → Option Nat} {v : Nat → Int} {a : Nat → Nat → Int} {W : Nat → Int} {s tb n lb : Nat} {t : Nat} {g x y z m f f2 e0 g2 : Int} {r r2 : Option Nat} {cs ds : List Int} {js : List (Int × List (Int × List Int))}
theorem SWC.iff0 {t : Int} : SWC a W m t cs ↔ SW0 a W m t cs ∧ cs.length ≤ 200 := by
  constructor
  · intro hs
    rcases hs with ⟨h1, ps, ⟨⟨y, h2, h3⟩, h4⟩, h5⟩ | ⟨h1, h2, js, ps, g, x, h3, h4, h5⟩
    · exact ⟨Or.inl ⟨h1, ps, ⟨y, h2, h3⟩, h5⟩, by rw [h5]; omega⟩
    · exact ⟨Or.inr ⟨h1, js, ps, g, x, h3, h4, h5⟩, h2⟩
  · intro ⟨hs, hl⟩
    rcases hs with ⟨h1, ps, ⟨y, h2, h3⟩, h5⟩ | ⟨h1, js, ps, g, x, h3, h4, h5⟩
    · exact Or.inl ⟨h1, ps, ⟨⟨y, h2, h3⟩, by rw [h5] at hl; omega⟩, h5⟩
    · exact Or.inr ⟨h1, hl, js, ps, g, x, h3, h4, h5⟩
theorem SW0.uni {t : Int} (hT : TBL v a) (ht : 0 ≤ t ∧ t < v 4) (hs : SW0 a W m t cs) (h2 : SW0 a W m t ds) : cs = ds := by
  rcases hs with ⟨p1, ps, ⟨y, p2, p3⟩, p5⟩ | ⟨p1, js, ps, g, x, p3, p4, p5⟩
  · rcases h2 with ⟨_, qs, ⟨z, q2, q3⟩, q5⟩ | ⟨q1, _⟩
    · rw [p5, q5, ptp.uni hT ht.1 ht.2 p2 p3 q2 q3]
    · exact absurd q1 p1
  · rcases h2 with ⟨q1, _⟩ | ⟨_, ks, qs, g2, x2, q3, q4, q5⟩
    · exact absurd p1 q1
    · obtain ⟨ls, k1, k2⟩ := jtp.ext hT ht p1 js ks 0 0 g2 x2 qs p3 q3 q4
      have pk := prt.ok (g := g) hT ht p1
      cases ls with
      | nil =>
        obtain ⟨rfl, rfl⟩ := k2
        have e := SEG.uni hT pk.1.1 pk.1.2 p4 q4
        rw [List.append_nil] at k1
        rw [p5, q5, k1, e.2]
      | cons p ls =>
        obtain ⟨m1, m2, _, _⟩ := k2
        have e := SEG.uni hT pk.1.1 pk.1.2 p4 m1
        omega
theorem CTB.kind (hC : CTB sk ln iv rv s tb v a W t) : iv tb 0 = a 6 t := (hC.1.tab hC.2.1 hC.2.2.1).1.1
theorem CTB.ind (hC : CTB sk ln iv rv s tb v a W t) (h6 : rv tb 6 = some n) {j : Nat} (hj : j < 4) : INDR ln iv rv (rv n j) (j : Int) (a 16 (4 * t + j)) (fun k => a 17 (4 * (4 * t + j) + k)) := by
  obtain ⟨_, _, q1, n1, ⟨_, c2, _⟩, _, c5⟩ := hC.1.tab hC.2.1 hC.2.2.1
  rw [h6] at c2; cases c2
  exact c5 j hj
theorem CTB.tbt (hC : CTB sk ln iv rv s tb v a W t) : TBL v a ∧ (0 ≤ (t : Int) ∧ (t : Int) < v 4) := ⟨hC.1.2.2.1, by omega, hC.2.1⟩
theorem CTB.j5 (hC : CTB sk ln iv rv s tb v a W t) (hj : iv tb 0 = 5) : a 6 t = 5 ∧ a 6 (t : Int).toNat = 5 := by
  have e := hC.kind.symm.trans hj
  exact ⟨e, by rw [Int.toNat_natCast]; exact e⟩
theorem SBI.init (e : iv1 = up2 iv s 7 0) (h4 : 0 ≤ iv s 4) : SBI sk ln iv rv iv1 s tb 0 0 0 := fun v a W t hC => by
  have pd : PDH iv1 rv s [] := ⟨by rw [e, up2_s]; rfl, fun cb hb j d hj e => by simp at e⟩
  exact ⟨fun _ => ⟨fun _ => ⟨⟨rfl, rfl⟩, pd⟩, fun h5 => ⟨⟨Int.le_refl _, Int.le_refl _⟩, NSG.zero, [], ⟨rfl, rfl⟩, pd⟩⟩, fun e => absurd e (by omega)⟩
theorem SBI.re (hs : SBI sk ln iv rv iv1 s tb g x y) (hg : g = g2) : SBI sk ln iv rv iv1 s tb g2 x y := by
  subst hg
  exact hs
theorem SBI.skip (hs : SBI sk ln iv rv iv1 s tb g x y) (hy : y < iv s 4) (hy0 : 0 ≤ y) (hn : NTN iv rv s tb g y) : SBI sk ln iv rv iv1 s tb g x (y + 1) := fun v a W t hC => by
  obtain ⟨h1, h2⟩ := hs v a W t hC
  obtain ⟨h3, h4⟩ := h1 (by omega)
  refine ⟨fun _ => ⟨h3, fun h5 => ?_⟩, fun e => absurd e (by omega)⟩
  obtain ⟨p1, p2, p3⟩ := h4 h5
  refine ⟨⟨p1.1, by omega⟩, p2.step ?_, p3⟩
  rcases hn with e | ⟨lb, e1, e2⟩
  · exact absurd (hC.kind.trans h5) e
  · rw [← hC.2.2.2 lb e1 y hy0 hy]; exact e2
theorem SBI.fin (hs : SBI sk ln iv rv iv1 s tb g x y) (hk : iv s 4 < y) (hf : (200 < iv1 s 7 ∧ f ≠ 0) ∨ (iv1 s 7 ≤ 200 ∧ f = 0)) : SBX sk ln iv rv iv1 s tb f := fun v a W t hC => by
  obtain ⟨cs, c1, c2⟩ := (hs v a W t hC).2 hk
  have c3 := c2.1.1
  refine ⟨fun e => ⟨cs, c1, by omega, c2⟩, fun e w => ?_⟩
  obtain ⟨ds, d1, d2⟩ := w
  have q := SW0.uni hC.tbt.1 hC.tbt.2 c1 d1
  subst q
  omega
theorem SBX.fail (hs : SBF sk ln iv rv s tb) (hf : f ≠ 0) : SBX sk ln iv rv iv1 s tb f := fun v a W t hC => ⟨fun e => absurd e hf, fun _ => hs v a W t hC⟩
theorem SBN.bad (hs : SBI sk ln iv rv iv1 s tb g x y) (hn : iv tb 0 ≠ 5) (hg : g ≠ 0) (hk : y ≤ iv s 4) : SBN sk ln iv rv iv2 s tb g y f := by
  have no : ∀ v a W t, CTB sk ln iv rv s tb v a W t → False := fun v a W t hC => hg ((((hs v a W t hC).1 hk).1 (fun e => hn (hC.kind.trans e))).1.2)
  exact ⟨fun _ v a W t hC => (no v a W t hC).elim, fun _ v a W t hC => (no v a W t hC).elim⟩
theorem SBI.pl (hs : SBI sk ln iv rv iv1 s tb g x (iv s 4)) (hW : WT h sk L cl ln iv rv) (hS : SKL sk L cl) (hF : fT [15, 53, 54, 55] L cl iv rv iv1 rv) (ts : ty L cl s 15) (hn : iv tb 0 ≠ 5) (sp : SPX sk ln iv1 rv iv2 s (some tb) x (iv s 4) f) (hC : CTB sk ln iv rv s tb v a W t) : a 6 t ≠ 5 ∧ (f = 0 → ∃ ps, PTS a W t 0 (iv s 4) ps ∧ (PDH iv2 rv s (cls ps) ∧ STE iv2 rv s 0 ps 0 (iv s 4))) ∧ (f ≠ 0 → ¬ ∃ ps, PTS a W t 0 (iv s 4) ps ∧ (cls ps).length ≤ 200) := by
  have h5 : a 6 t ≠ 5 := fun e => hn (hC.kind.trans e)
  obtain ⟨⟨e1, _⟩, pd⟩ := ((hs v a W t hC).1 (Int.le_refl _)).1 h5
  subst e1
  have cx : CTX sk ln iv rv s tb 0 (iv s 4) v a W t := ⟨hC.1, hC.2.1, h5, hC.2.2.1, hC.2.2.2⟩
  have q := sp tb rfl v a W t (cx.ni hW hS hF rfl rfl rfl rfl rfl rfl ts) [] pd
  exact ⟨h5, q⟩
theorem SBN.plain (hs : SBI sk ln iv rv iv1 s tb g x y) (hW : WT h sk L cl ln iv rv) (hS : SKL sk L cl) (hF : fT [15, 53, 54, 55] L cl iv rv iv1 rv) (ts : ty L cl s 15) (hn : iv tb 0 ≠ 5) (hk : y = iv s 4) (hr : r = some tb) (sp : SPX sk ln iv1 rv iv2 s r x y f) : SBN sk ln iv rv iv2 s tb g y f := by
  subst hk
  subst hr
  refine ⟨fun e v a W t hC => ⟨fun e2 => absurd e2 (by omega), fun _ => ?_⟩, fun e v a W t hC w => ?_⟩
  · obtain ⟨h5, p1, _⟩ := hs.pl hW hS hF ts hn sp hC
    obtain ⟨ps, q1, q2⟩ := p1 e
    exact ⟨cls ps, Or.inl ⟨by rw [Int.toNat_natCast]; exact h5, ps, q1, rfl⟩, q2.1, fun _ => ⟨ps, q1, rfl, q2.2⟩⟩
  · obtain ⟨h5, _, p2⟩ := hs.pl hW hS hF ts hn sp hC
    obtain ⟨cs, w1, w2⟩ := w
    rcases w1 with ⟨_, ps, w3, w4⟩ | ⟨w1, _⟩
    · rw [w4] at w2
      exact p2 e ⟨ps, w3, w2⟩
    · rw [Int.toNat_natCast] at w1
      exact h5 w1
theorem prt_el (hC : CTB sk ln iv rv s tb v a W t) (h5 : a 6 t = 5) (hr : (g = 0 ∧ r = rv tb 2) ∨ (g = 1 ∧ r = rv tb 3)) : ∃ b, r = some b ∧ el rv (sk 22) (prt a t g).toNat = some b := by
  have T := hC.1.2.2.1.1 t (by omega) hC.2.1
  rw [Int.toNat_natCast] at T
  have t4 := hC.2.1
  obtain ⟨_, ⟨c2, c3⟩, _⟩ := hC.1.tab hC.2.1 hC.2.2.1
  rcases hr with ⟨g0, hr⟩ | ⟨g1, hr⟩
  · have e : prt a t g = a 8 t := by
      unfold prt
      rw [if_neg (by omega), Int.toNat_natCast]
    rw [e]
    obtain ⟨b, hb⟩ := hC.1.smt (i := (a 8 t).toNat) (by omega)
    refine ⟨b, ?_, hb⟩
    rcases c2 with ⟨c, _⟩ | ⟨_, _, c⟩
    · omega
    · rw [hr, c]; exact hb
  · have e : prt a t g = a 9 t := by
      unfold prt
      rw [if_pos g1, Int.toNat_natCast]
    rw [e]
    obtain ⟨b, hb⟩ := hC.1.smt (i := (a 9 t).toNat) (by omega)
    refine ⟨b, ?_, hb⟩
    rcases c3 with ⟨c, _⟩ | ⟨_, _, c⟩
    · omega
    · rw [hr, c]; exact hb
theorem SBI.jn (hs : SBI sk ln iv rv iv1 s tb g x y) (hW : WT h sk L cl ln iv rv) (hS : SKL sk L cl) (hF : fT [15, 53, 54, 55] L cl iv rv iv1 rv) (ts : ty L cl s 15) (hj : iv tb 0 = 5) (hr : (g = 0 ∧ r = rv tb 2) ∨ (g = 1 ∧ r = rv tb 3)) (hk : y ≤ iv s 4) (sp : SPX sk ln iv1 rv iv2 s r x y f) (hC : CTB sk ln iv rv s tb v a W t) : ∃ js, (0 ≤ x ∧ x ≤ y) ∧ NSG W (sgj g) x y ∧ jtp a W (iv s 4) t 0 0 js g x ∧ (f = 0 → ∃ ps, PTS a W (prt a t g) x y ps ∧ PDH iv2 rv s (jcl a t 0 js ++ cls ps)) ∧ (f ≠ 0 → ¬ ∃ ps, PTS a W (prt a t g) x y ps ∧ (jcl a t 0 js ++ cls ps).length ≤ 200) := by
  have h5 := hC.j5 hj
  obtain ⟨p1, p2, js, p3, p4⟩ := ((hs v a W t hC).1 hk).2 h5.1
  have pk := prt.ok (g := g) hC.tbt.1 hC.tbt.2 h5.2
  obtain ⟨b, b1, b2⟩ := prt_el hC h5.1 hr
  have e : (((prt a t g).toNat : Nat) : Int) = prt a t g := Int.toNat_of_nonneg pk.1.1
  have cx : CTX sk ln iv rv s b x y v a W (prt a t g).toNat := ⟨hC.1, by omega, by omega, b2, fun lb hb j h1 h2 => hC.2.2.2 lb hb j (by omega) (by omega)⟩
  have q := sp b b1 v a W _ (cx.ni hW hS hF rfl rfl rfl rfl rfl rfl ts) _ p4
  rw [e] at q
  refine ⟨js, p1, p2, p3, fun e2 => ?_, q.2⟩
  obtain ⟨ps, k1, k2⟩ := q.1 e2
  exact ⟨ps, k1, k2.1⟩
theorem SBJ.no {t : Int} (hT : TBL v a) (ht : 0 ≤ t ∧ t < v 4) (h5 : a 6 t.toNat = 5) (p3 : jtp a W m t 0 0 js g x) (hy : x ≤ y ∧ y ≤ m) (hN : NSG W (sgj g) x y) (he : y = m ∨ W y.toNat = sgj g) (no : (¬ ∃ ps, PTS a W (prt a t g) x y ps ∧ (jcl a t 0 js ++ cls ps).length ≤ 200) ∨ (y < m ∧ ¬ 0 < a 16 (ind4 t g).toNat)) : ¬ ∃ cs, SW0 a W m t cs ∧ cs.length ≤ 200 := fun w => by
  obtain ⟨cs, w1, len⟩ := w
  rcases w1 with ⟨w1, _⟩ | ⟨_, ks, qs, g3, x3, w2, w3, w4⟩
  · exact w1 h5
  · obtain ⟨ls, k1, k2⟩ := jtp.ext hT ht h5 js ks 0 0 g3 x3 qs p3 w2 w3
    obtain ⟨ps, zz, ⟨m1, m2⟩, m3, m4⟩ := seg_len hT ht h5 k2 w3 hy hN he
    rcases no with no | ⟨n1, n2⟩
    · refine no ⟨ps, ⟨zz, m1, m2⟩, ?_⟩
      rw [k1, jcl.app js ls 0 0 p3, List.append_assoc] at w4
      rw [w4, List.length_append] at len
      rw [List.length_append]; omega
    · rcases m4 with m4 | ⟨_, m5, _⟩
      · omega
      · exact n2 m5
theorem SBN.jfail (hs : SBI sk ln iv rv iv1 s tb g x y) (hW : WT h sk L cl ln iv rv) (hS : SKL sk L cl) (hF : fT [15, 53, 54, 55] L cl iv rv iv1 rv) (ts : ty L cl s 15) (hj : iv tb 0 = 5) (hr : (g = 0 ∧ r = rv tb 2) ∨ (g = 1 ∧ r = rv tb 3)) (hk : 0 ≤ y ∧ y ≤ iv s 4) (sp : SPX sk ln iv1 rv iv2 s r x y f) (he : y = iv s 4 ∨ ∃ lb, rv s 0 = some lb ∧ iv lb y.toNat = sgj g) (hf : f ≠ 0) : SBN sk ln iv rv iv3 s tb g y f := by
  refine ⟨fun e => absurd e hf, fun _ v a W t hC => ?_⟩
  obtain ⟨js, p1, p2, p3, _, p5⟩ := hs.jn hW hS hF ts hj hr hk.2 sp hC
  refine SBJ.no hC.tbt.1 hC.tbt.2 (hC.j5 hj).2 p3 ⟨p1.2, hk.2⟩ p2 ?_ (Or.inl (p5 hf))
  by_cases c : y = iv s 4
  · exact Or.inl c
  · rcases he with e | ⟨lb, e1, e2⟩
    · exact Or.inl e
    · exact Or.inr (by rw [← hC.2.2.2 lb e1 y hk.1 (by omega)]; exact e2)
theorem SBN.jlast (hs : SBI sk ln iv rv iv1 s tb g x y) (hW : WT h sk L cl ln iv rv) (hS : SKL sk L cl) (hF : fT [15, 53, 54, 55] L cl iv rv iv1 rv) (ts : ty L cl s 15) (hj : iv tb 0 = 5) (hr : (g = 0 ∧ r = rv tb 2) ∨ (g = 1 ∧ r = rv tb 3)) (hk : y = iv s 4) (sp : SPX sk ln iv1 rv iv2 s r x y f) (hf : f = 0) : SBN sk ln iv rv iv2 s tb g y f := by
  refine ⟨fun _ v a W t hC => ⟨fun e2 => absurd e2 (by omega), fun _ => ?_⟩, fun e => absurd hf e⟩
  obtain ⟨js, p1, p2, p3, p4, _⟩ := hs.jn hW hS hF ts hj hr (by omega) sp hC
  obtain ⟨ps, ⟨zz, q1, q2⟩, q3⟩ := p4 hf
  subst hk
  exact ⟨_, Or.inr ⟨(hC.j5 hj).2, js, ps, g, x, p3, ⟨⟨p1.2, Int.le_refl _⟩, p2, Or.inl rfl, zz, q1, q2⟩, rfl⟩, q3, fun c => absurd (hC.j5 hj).2 c⟩
theorem CTB.sign (hC : CTB sk ln iv rv s tb v a W t) (h6 : rv tb 6 = some n) (hr2 : (g = 0 ∧ rv n 2 = r2) ∨ (g = 1 ∧ rv n 3 = r2)) : RCX ln iv rv r2 (ICL a (ind4 t g)) ∧ (r2 = none → ¬ 0 < a 16 (ind4 (t : Int) g).toNat) ∧ ((∃ w, r2 = some w) → 0 < a 16 (ind4 (t : Int) g).toNat) := by
  have key : ∀ j : Nat, j < 4 → rv n j = r2 → ind4 (t : Int) g = 4 * (t : Int) + (j : Int) → RCX ln iv rv r2 (ICL a (ind4 t g)) ∧ (r2 = none → ¬ 0 < a 16 (ind4 (t : Int) g).toNat) ∧ ((∃ w, r2 = some w) → 0 < a 16 (ind4 (t : Int) g).toNat) := fun j hj e1 e2 => by
    have hi := hC.ind h6 hj
    rw [e1] at hi
    rw [e2, ICL.nat, show (4 * (t : Int) + (j : Int)).toNat = 4 * t + j by omega]
    refine ⟨hi.rc, fun e => ?_, fun e => ?_⟩
    · rcases hi with ⟨_, q⟩ | ⟨_, _, q, _⟩
      · omega
      · rw [e] at q; cases q
    · obtain ⟨w, e⟩ := e
      rcases hi with ⟨q, _⟩ | ⟨_, _, _, _, _, _, q, _⟩
      · rw [e] at q; cases q
      · exact q
  rcases hr2 with ⟨e1, e2⟩ | ⟨e1, e2⟩
  · exact key 2 (by decide) e2 (by unfold ind4; rw [if_neg (by omega)]; rfl)
  · exact key 3 (by decide) e2 (by unfold ind4; rw [if_pos e1]; rfl)
theorem SBN.jturn (hs : SBI sk ln iv rv iv1 s tb g x y) (hW : WT h sk L cl ln iv rv) (hS : SKL sk L cl) (hF : fT [15, 53, 54, 55] L cl iv rv iv1 rv) (ts : ty L cl s 15) (hj : iv tb 0 = 5) (hr : (g = 0 ∧ r = rv tb 2) ∨ (g = 1 ∧ r = rv tb 3)) (hk : 0 ≤ y ∧ y < iv s 4) (sp : SPX sk ln iv1 rv iv2 s r x y f) (he : ∃ lb, rv s 0 = some lb ∧ iv lb y.toNat = sgj g) (hf : f = 0) (hF2 : fT [15, 53, 54, 55] L cl iv rv iv2 rv) (h6 : rv tb 6 = some n) (hr2 : (g = 0 ∧ rv n 2 = r2) ∨ (g = 1 ∧ rv n 3 = r2)) (t2 : ∀ b, r2 = some b → ty L cl b 20) (st : STX ln iv2 rv iv3 s r2 f2) : SBN sk ln iv rv iv3 s tb g y f2 := by
  obtain ⟨lb, e1, e2⟩ := he
  have hg : g = 0 ∨ g = 1 := by
    rcases hr with ⟨e, _⟩ | ⟨e, _⟩
    · exact Or.inl e
    · exact Or.inr e
  refine ⟨fun e v a W t hC => ⟨fun _ => ⟨fun n5 => absurd (hC.j5 hj).1 n5, fun _ => ?_⟩, fun e3 => absurd e3 (by omega)⟩, fun e v a W t hC => ?_⟩
  · rcases st with ⟨_, q⟩ | ⟨_, w, pu⟩
    · omega
    · obtain ⟨js, p1, p2, p3, p4, _⟩ := hs.jn hW hS hF ts hj hr (by omega) sp hC
      obtain ⟨ps, ⟨zz, q1, q2⟩, q3⟩ := p4 hf
      obtain ⟨s1, _, s3⟩ := hC.sign h6 hr2
      refine hv2 (show W y.toNat = sgj g from by rw [← hC.2.2.2 lb e1 y hk.1 hk.2]; exact e2) (pu _ q3 _ (s1.ni hW hF2 rfl t2)) (fun ew pd => ?_)
      refine ⟨⟨by omega, Int.le_refl _⟩, NSG.zero, js ++ [(y, ps)], jtp.snoc js 0 0 p3 ⟨⟨p1.2, by omega⟩, p2, Or.inr ew, zz, q1, q2⟩ hk.2 (s3 w), ?_⟩
      rw [jcl.snoc hg js 0 0 p3, ← List.append_assoc]
      exact pd
  · rcases st with ⟨q, _⟩ | ⟨q, _⟩
    · obtain ⟨js, p1, p2, p3, p4, _⟩ := hs.jn hW hS hF ts hj hr (by omega) sp hC
      obtain ⟨_, s2, _⟩ := hC.sign h6 hr2
      have ew : W y.toNat = sgj g := by rw [← hC.2.2.2 lb e1 y hk.1 hk.2]; exact e2
      exact SBJ.no hC.tbt.1 hC.tbt.2 (hC.j5 hj).2 p3 ⟨p1.2, by omega⟩ p2 (Or.inr ew) (Or.inr ⟨hk.2, s2 q⟩)
    · exact absurd q e
end SBYS
end
