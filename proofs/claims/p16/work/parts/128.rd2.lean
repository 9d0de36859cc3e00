set_option maxHeartbeats 4000000 in
set_option maxRecDepth 100000 in
theorem C_nodeBehind {l : Launch} {G : GT} {mi : Nat} {sk : Nat → Nat} {L : List Nat} {cl ln : Nat → Nat} {iv : Nat → Nat → Int} {rv : Nat → Nat → Option Nat}  {a0 : Nat} {i : Int} {x : Int} (hW : WT (g0 G) sk L cl ln iv rv) (hS : SKL sk L cl) (t_a0 : ty L cl a0 17) (h_i : -2147483648 ≤ i ∧ i ≤ 2147483647) (h_x : -2147483648 ≤ x ∧ x ≤ 2147483647) (hi : 0 ≤ i ∧ i ≤ 403) (hx : VL sk iv i x) : Mc l G mi (Phi (g0 G) sk) PHM yX4_nodeBehind cX4_nodeBehind 7 (some .int) 3 [.ref a0, .int (iI i), .int (iI x)] L cl ln iv rv 0 (fun v L2 cl2 ln2 iv2 rv2 => ∃ f : Int, v = some (.int (iI f)) ∧ L = L2 ∧ cl = cl2 ∧ ln = ln2 ∧ iv = iv2 ∧ rv = rv2 ∧ (-2147483648 ≤ f ∧ f ≤ 2147483647) ∧ ((f = -1 ∧ ¬ GD sk ln iv rv a0 i (i / 4) x) ∨ (GD sk ln iv rv a0 i (i / 4) x ∧ 4 * (i / 4) + 4 ≤ f ∧ f ≤ 4 * iv a0 9 + 3))) := by
  refine Mc.mk (by decide) (Nat.le_of_ble_eq_true rfl) ?_
  intro p e s m args below meth c A C hM
  refine hv7 (Phi.le hW hS) (show ty L cl (sk 11) 11 from ⟨(hS 11 rfl).1, by rw [(hS 11 rfl).2]; rfl⟩) (show ty L cl (sk 16) 16 from ⟨(hS 16 rfl).1, by rw [(hS 16 rfl).2]; rfl⟩) (show ty L cl (sk 24) 24 from ⟨(hS 24 rfl).1, by rw [(hS 24 rfl).2]; rfl⟩) (show ty L cl (sk 25) 25 from ⟨(hS 25 rfl).1, by rw [(hS 25 rfl).2]; rfl⟩) (show XT L cl ln L cl ln from XT.refl) (show fT [] L cl iv rv iv rv from fT.refl) (fun hph tsk11 tsk16 tsk24 tsk25 hX0 hF0 => ?_)
  refine c_iload_n (j := 1) C dX4_nodeBehind_0 rfl ?_
  refine c_iconst C dX4_nodeBehind_1 ?_
  obtain ⟨dq1, hdq1⟩ : ∃ q : Int, q = i / 4 := ⟨_, rfl⟩
  refine c_idiv (w := iI dq1) C dX4_nodeBehind_2 (iI_ne0 ⟨by omega, by omega⟩) (by rw [hdq1]; exact iI_div ⟨by omega, by omega⟩ ⟨by omega, by omega⟩) ?_
  refine c_istore_n (lv2 := [(3, .int (iI dq1)), (0, .ref a0), (1, .int (iI i)), (2, .int (iI x))]) C dX4_nodeBehind_3 (by decide) rfl ?_
  refine c_iload_n (j := 2) C dX4_nodeBehind_4 rfl ?_
  refine c_iconst C dX4_nodeBehind_5 ?_
  obtain ⟨zz1, hzz1, ezz1⟩ := iI_of (iI i &&& iI 2)
  refine c_iand (w := iI zz1) C dX4_nodeBehind_6 ezz1 ?_
  have hb2zz1 := bz_iff ezz1 hzz1
  refine c_if_eq (tgt := 14) C ⟨by omega, by omega⟩ dX4_nodeBehind_7 (by decide) (fun c1 => ?_) (fun c1 => ?_)
  · refine c_iconst C dX4_nodeBehind_14 ?_
    refine c_istore (lv2 := [(4, .int (iI 0)), (3, .int (iI dq1)), (0, .ref a0), (1, .int (iI i)), (2, .int (iI x))]) C dX4_nodeBehind_15 (by decide) rfl ?_
    refine c_iload_n (j := 4) C dX4_nodeBehind_17 rfl ?_
    refine c_if_gt (tgt := 45) C ⟨by omega, by omega⟩ dX4_nodeBehind_18 (by decide) (fun c2 => ?_) (fun c2 => ?_)
    · refine c_aload_n (j := 2) (x := a0) C dX4_nodeBehind_45 rfl ?_
      obtain ⟨rb1, rq1, trb1⟩ := hW.ref t_a0 7 rfl rfl rfl
      have erb1 := hW.sk trb1 (by decide) rfl
      subst erb1
      refine c_getr (k := 7) C ck_5 dX4_nodeBehind_46 w1_238 (by decide) t_a0 rfl rfl (by decide) rfl rq1 ?_
      refine c_st (st2 := [.ref (sk 16)]) rfl ?_
      refine c_iload_n (j := 3) C dX4_nodeBehind_49 rfl ?_
      refine c_iconst C dX4_nodeBehind_50 ?_
      obtain ⟨zz2, hzz2, ezz2⟩ := iI_of (iI i &&& iI 1)
      refine c_iand (w := iI zz2) C dX4_nodeBehind_51 ezz2 ?_
      refine hv2 (bz_iff ezz2 hzz2) (hx.zed ezz2 hzz2) (fun hb1zz2 vzzz2 => ?_)
      refine c_if_eq (tgt := 59) C ⟨by omega, by omega⟩ dX4_nodeBehind_52 (by decide) (fun c3 => ?_) (fun c3 => ?_)
      · refine c_iconst C dX4_nodeBehind_59 ?_
        refine d_callV (As := [.int (iI 0)]) (rest := []) C hM (C_rowsOf (a0 := (sk 16)) (g := 0) hW hS tsk16 ⟨by decide, by decide⟩ ) dX4_nodeBehind_60 kV_X4_95 rfl tsk16 rfl rfl (by decide) ck_4 rfl (Nat.le_of_ble_eq_true rfl) ⟨(Nat.le_of_ble_eq_true rfl), (Nat.le_of_ble_eq_true rfl)⟩ hph hph (show 0 + 0 = 0 from rfl) (by decide) (fun rh1 Lh1 clh1 lnh1 ivh1 rvh1 h1 => ?_)
        obtain ⟨f1, rfl, rfl, rfl, rfl, rfl, rfl, rgf1, exf1⟩ := h1
        refine c_st (st2 := [.ref f1]) rfl ?_
        rcases exf1 with exf1 | exf1
        · obtain ⟨hf1, rfl⟩ := exf1
          refine c_st (st2 := [.ref (sk 24)]) rfl ?_
          refine c_iload_n (j := 4) C dX4_nodeBehind_63 rfl ?_
          refine c_iconst C dX4_nodeBehind_64 ?_
          refine c_isub C dX4_nodeBehind_65 ?_
          have ri1 : 0 ≤ iv (sk 24) 2 ∧ iv (sk 24) 2 ≤ 6003 := hW.int tsk24 2
          refine d_callV (As := [.int (iI (x - 1))]) (rest := []) C hM (C_get_24 (a0 := (sk 24)) (i := x - 1) hW hS tsk24 (by omega) (by show 0 ≤ (x - 1) ∧ (x - 1) < iv (sk 24) 2; omega)) dX4_nodeBehind_66 kV_X4_110 rfl tsk24 rfl rfl (by decide) ck_0 rfl (Nat.le_of_ble_eq_true rfl) ⟨(Nat.le_of_ble_eq_true rfl), (Nat.le_of_ble_eq_true rfl)⟩ hph hph (show 0 + 0 = 0 from rfl) (by decide) (fun rh2 Lh2 clh2 lnh2 ivh2 rvh2 h2 => ?_)
          obtain ⟨f2, rfl, rfl, rfl, rfl, rfl, rfl, rgf2, exf2⟩ := h2
          refine c_st (st2 := [.ref f2]) rfl ?_
          have gf2 : el rv (sk 24) (x - 1).toNat = some f2 := exf2
          refine c_cast C ck_6 dX4_nodeBehind_69 w5_149 w8_169t rgf2 rfl rfl (by decide) ?_
          refine c_astore (lv2 := [(5, .ref f2), (4, .int (iI 0)), (3, .int (iI dq1)), (0, .ref a0), (1, .int (iI i)), (2, .int (iI x))]) C dX4_nodeBehind_72 (by decide) rfl ?_
          refine c_aload_n (j := 3) (x := a0) C dX4_nodeBehind_74 rfl ?_
          refine c_aload (j := 0) (x := f2) C dX4_nodeBehind_75 rfl ?_
          refine c_iload_n (j := 2) C dX4_nodeBehind_77 rfl ?_
          refine d_callV (As := [.ref f2, .int (iI dq1)]) (rest := []) C hM (C_looksLikeRow (a0 := a0) (a1 := f2) (i := dq1) hW hS t_a0 rgf2 (by omega) (by show 0 ≤ dq1 ∧ dq1 ≤ 1000; omega)) dX4_nodeBehind_78 kV_X4_116 rfl t_a0 rfl rfl (by decide) ck_5 rfl (Nat.le_of_ble_eq_true rfl) ⟨(Nat.le_of_ble_eq_true rfl), (Nat.le_of_ble_eq_true rfl)⟩ hph hph (show 0 + 0 = 0 from rfl) (by decide) (fun rh3 Lh3 clh3 lnh3 ivh3 rvh3 h3 => ?_)
          obtain ⟨f3, rfl, rfl, rfl, rfl, rfl, rfl, rgf3, exf3⟩ := h3
          refine c_st (st2 := [.int (iI f3)]) rfl ?_
          have gf3 : f3 = 1 ↔ LRw ln iv rv a0 f2 dq1 := exf3
          refine c_if_eq (tgt := 97) C ⟨by omega, by omega⟩ dX4_nodeBehind_81 (by decide) (fun c4 => ?_) (fun c4 => ?_)
          · refine c_iconst C dX4_nodeBehind_97 ?_
            exact c_iret C dX4_nodeBehind_98 rfl (by decide) (rom0 hph hph (by decide)) ⟨(-1), rfl, rfl, rfl, rfl, rfl, rfl, ⟨by decide, by decide⟩, (by rw [← hdq1]; exact Or.inl ⟨rfl, GD.no1 (by omega) (Or.inl ⟨hb1zz2.mpr (by omega), exf2⟩) (fun q _ => absurd (gf3.mpr q) (by omega))⟩)⟩
          · refine c_iload (j := 1) C dX4_nodeBehind_84 rfl ?_
            refine c_if_eq (tgt := 99) C ⟨by decide, by decide⟩ dX4_nodeBehind_86 (by decide) (fun _ => ?_) (fun z => absurd z (by omega))
            refine c_iload_n (j := 4) C dX4_nodeBehind_99 rfl ?_
            refine c_iconst C dX4_nodeBehind_100 ?_
            obtain ⟨zz3, hzz3, ezz3⟩ := iI_of (iI i &&& iI 1)
            refine c_iand (w := iI zz3) C dX4_nodeBehind_101 ezz3 ?_
            have bazz3 := and1 ezz3 hzz3
            refine c_istore (lv2 := [(6, .int (iI zz3)), (5, .ref f2), (4, .int (iI 0)), (3, .int (iI dq1)), (0, .ref a0), (1, .int (iI i)), (2, .int (iI x))]) C dX4_nodeBehind_102 (by decide) rfl ?_
            refine c_aload (j := 1) (x := f2) C dX4_nodeBehind_104 rfl ?_
            have ri2 : (-2147483648) ≤ iv f2 0 ∧ iv f2 0 ≤ 2147483647 := hW.int rgf2 0
            refine c_get (k := 0) C ck_6 dX4_nodeBehind_106 w3_136 (by decide) rgf2 rfl rfl (by decide) rfl ?_
            rcases (show (iv f2 0) = 0 ∨ (iv f2 0) = 1 ∨ (iv f2 0) = 2 ∨ (iv f2 0) = 3 ∨ ((iv f2 0) < 0 ∨ 3 < (iv f2 0)) by omega) with sw1 | sw1 | sw1 | sw1 | sw1
            · refine c_tabIn (tgt := 140) (off := 31) C (r32_c (lo := (-2147483648)) (hi := 2147483647) ri2.1 ri2.2 (by decide) (by decide)) dX4_nodeBehind_109 (by omega) (by omega) (by rw [sw1]; rfl) (by decide) ?_
              refine c_iload (j := 0) C dX4_nodeBehind_140 rfl ?_
              refine c_iconst C dX4_nodeBehind_142 ?_
              obtain ⟨zz4, hzz4, ezz4⟩ := iI_of (iI zz3 ||| iI 2)
              refine c_ior (w := iI zz4) C dX4_nodeBehind_143 ezz4 ?_
              have bozz4 := or2 bazz3 ezz4 hzz4
              refine c_istore (lv2 := [(6, .int (iI zz4)), (5, .ref f2), (4, .int (iI 0)), (3, .int (iI dq1)), (0, .ref a0), (1, .int (iI i)), (2, .int (iI x))]) C dX4_nodeBehind_144 (by decide) rfl ?_
              refine c_goto (tgt := 161) C dX4_nodeBehind_146 (by decide) ?_
              refine c_iload_n (j := 3) C dX4_nodeBehind_161 rfl ?_
              refine c_aload (j := 1) (x := f2) C dX4_nodeBehind_162 rfl ?_
              obtain ⟨rb2, rq2, trb2⟩ := hW.ref rgf2 2 rfl rfl rfl
              have lnrb2 : 1 ≤ ln rb2 ∧ ln rb2 ≤ 4 := hW.len trb2 rfl
              refine c_getr (k := 2) C ck_6 dX4_nodeBehind_164 w3_144 (by decide) rgf2 rfl rfl (by decide) rfl rq2 ?_
              refine c_st (st2 := [.ref rb2, .int (iI dq1)]) rfl ?_
              have ll1 : 1 ≤ ln rb2 ∧ ln rb2 ≤ 4 := hW.len trb2 rfl
              refine c_alenI C dX4_nodeBehind_167 trb2 rfl ?_
              refine c_iadd C dX4_nodeBehind_168 ?_
              refine c_iconst C dX4_nodeBehind_169 ?_
              refine c_imul C dX4_nodeBehind_170 ?_
              refine c_iload (j := 0) C dX4_nodeBehind_171 rfl ?_
              refine c_iadd C dX4_nodeBehind_173 ?_
              have up9 := (gf3.mp (by omega) rb2 rq2 (ln rb2 - 1) (by omega)).1
              exact c_iret C dX4_nodeBehind_174 rfl (by decide) (rom0 hph hph (by decide)) ⟨(((dq1 + ((ln rb2 : Nat) : Int)) * 4) + zz4), rfl, rfl, rfl, rfl, rfl, rfl, ⟨by omega, by omega⟩, (by rw [← hdq1]; exact Or.inr ⟨GD.mk1 (by omega) (Or.inl ⟨hb1zz2.mpr (by omega), exf2⟩) (gf3.mp (by omega)) (Or.inl (hb2zz1.mpr (by omega))), by omega⟩)⟩
            · refine c_tabIn (tgt := 161) (off := 52) C (r32_c (lo := (-2147483648)) (hi := 2147483647) ri2.1 ri2.2 (by decide) (by decide)) dX4_nodeBehind_109 (by omega) (by omega) (by rw [sw1]; rfl) (by decide) ?_
              refine c_iload_n (j := 3) C dX4_nodeBehind_161 rfl ?_
              refine c_aload (j := 1) (x := f2) C dX4_nodeBehind_162 rfl ?_
              obtain ⟨rb3, rq3, trb3⟩ := hW.ref rgf2 2 rfl rfl rfl
              have lnrb3 : 1 ≤ ln rb3 ∧ ln rb3 ≤ 4 := hW.len trb3 rfl
              refine c_getr (k := 2) C ck_6 dX4_nodeBehind_164 w3_144 (by decide) rgf2 rfl rfl (by decide) rfl rq3 ?_
              refine c_st (st2 := [.ref rb3, .int (iI dq1)]) rfl ?_
              have ll2 : 1 ≤ ln rb3 ∧ ln rb3 ≤ 4 := hW.len trb3 rfl
              refine c_alenI C dX4_nodeBehind_167 trb3 rfl ?_
              refine c_iadd C dX4_nodeBehind_168 ?_
              refine c_iconst C dX4_nodeBehind_169 ?_
              refine c_imul C dX4_nodeBehind_170 ?_
              refine c_iload (j := 0) C dX4_nodeBehind_171 rfl ?_
              refine c_iadd C dX4_nodeBehind_173 ?_
              have up9 := (gf3.mp (by omega) rb3 rq3 (ln rb3 - 1) (by omega)).1
              exact c_iret C dX4_nodeBehind_174 rfl (by decide) (rom0 hph hph (by decide)) ⟨(((dq1 + ((ln rb3 : Nat) : Int)) * 4) + zz3), rfl, rfl, rfl, rfl, rfl, rfl, ⟨by omega, by omega⟩, (by rw [← hdq1]; exact Or.inr ⟨GD.mk1 (by omega) (Or.inl ⟨hb1zz2.mpr (by omega), exf2⟩) (gf3.mp (by omega)) (Or.inl (hb2zz1.mpr (by omega))), by omega⟩)⟩
            · refine c_tabIn (tgt := 149) (off := 40) C (r32_c (lo := (-2147483648)) (hi := 2147483647) ri2.1 ri2.2 (by decide) (by decide)) dX4_nodeBehind_109 (by omega) (by omega) (by rw [sw1]; rfl) (by decide) ?_
              refine c_iconst C dX4_nodeBehind_149 ?_
              refine c_istore (lv2 := [(6, .int (iI 1)), (5, .ref f2), (4, .int (iI 0)), (3, .int (iI dq1)), (0, .ref a0), (1, .int (iI i)), (2, .int (iI x))]) C dX4_nodeBehind_150 (by decide) rfl ?_
              refine c_goto (tgt := 161) C dX4_nodeBehind_152 (by decide) ?_
              refine c_iload_n (j := 3) C dX4_nodeBehind_161 rfl ?_
              refine c_aload (j := 1) (x := f2) C dX4_nodeBehind_162 rfl ?_
              obtain ⟨rb4, rq4, trb4⟩ := hW.ref rgf2 2 rfl rfl rfl
              have lnrb4 : 1 ≤ ln rb4 ∧ ln rb4 ≤ 4 := hW.len trb4 rfl
              refine c_getr (k := 2) C ck_6 dX4_nodeBehind_164 w3_144 (by decide) rgf2 rfl rfl (by decide) rfl rq4 ?_
              refine c_st (st2 := [.ref rb4, .int (iI dq1)]) rfl ?_
              have ll3 : 1 ≤ ln rb4 ∧ ln rb4 ≤ 4 := hW.len trb4 rfl
              refine c_alenI C dX4_nodeBehind_167 trb4 rfl ?_
              refine c_iadd C dX4_nodeBehind_168 ?_
              refine c_iconst C dX4_nodeBehind_169 ?_
              refine c_imul C dX4_nodeBehind_170 ?_
              refine c_iload (j := 0) C dX4_nodeBehind_171 rfl ?_
              refine c_iadd C dX4_nodeBehind_173 ?_
              have up9 := (gf3.mp (by omega) rb4 rq4 (ln rb4 - 1) (by omega)).1
              exact c_iret C dX4_nodeBehind_174 rfl (by decide) (rom0 hph hph (by decide)) ⟨(((dq1 + ((ln rb4 : Nat) : Int)) * 4) + 1), rfl, rfl, rfl, rfl, rfl, rfl, ⟨by omega, by omega⟩, (by rw [← hdq1]; exact Or.inr ⟨GD.mk1 (by omega) (Or.inl ⟨hb1zz2.mpr (by omega), exf2⟩) (gf3.mp (by omega)) (Or.inl (hb2zz1.mpr (by omega))), by omega⟩)⟩
            · refine c_tabIn (tgt := 155) (off := 46) C (r32_c (lo := (-2147483648)) (hi := 2147483647) ri2.1 ri2.2 (by decide) (by decide)) dX4_nodeBehind_109 (by omega) (by omega) (by rw [sw1]; rfl) (by decide) ?_
              refine c_iconst C dX4_nodeBehind_155 ?_
              refine c_istore (lv2 := [(6, .int (iI 0)), (5, .ref f2), (4, .int (iI 0)), (3, .int (iI dq1)), (0, .ref a0), (1, .int (iI i)), (2, .int (iI x))]) C dX4_nodeBehind_156 (by decide) rfl ?_
              refine c_goto (tgt := 161) C dX4_nodeBehind_158 (by decide) ?_
              refine c_iload_n (j := 3) C dX4_nodeBehind_161 rfl ?_
              refine c_aload (j := 1) (x := f2) C dX4_nodeBehind_162 rfl ?_
              obtain ⟨rb5, rq5, trb5⟩ := hW.ref rgf2 2 rfl rfl rfl
              have lnrb5 : 1 ≤ ln rb5 ∧ ln rb5 ≤ 4 := hW.len trb5 rfl
              refine c_getr (k := 2) C ck_6 dX4_nodeBehind_164 w3_144 (by decide) rgf2 rfl rfl (by decide) rfl rq5 ?_
              refine c_st (st2 := [.ref rb5, .int (iI dq1)]) rfl ?_
              have ll4 : 1 ≤ ln rb5 ∧ ln rb5 ≤ 4 := hW.len trb5 rfl
              refine c_alenI C dX4_nodeBehind_167 trb5 rfl ?_
              refine c_iadd C dX4_nodeBehind_168 ?_
              refine c_iconst C dX4_nodeBehind_169 ?_
              refine c_imul C dX4_nodeBehind_170 ?_
              refine c_iload (j := 0) C dX4_nodeBehind_171 rfl ?_
              refine c_iadd C dX4_nodeBehind_173 ?_
              have up9 := (gf3.mp (by omega) rb5 rq5 (ln rb5 - 1) (by omega)).1
              exact c_iret C dX4_nodeBehind_174 rfl (by decide) (rom0 hph hph (by decide)) ⟨(((dq1 + ((ln rb5 : Nat) : Int)) * 4) + 0), rfl, rfl, rfl, rfl, rfl, rfl, ⟨by omega, by omega⟩, (by rw [← hdq1]; exact Or.inr ⟨GD.mk1 (by omega) (Or.inl ⟨hb1zz2.mpr (by omega), exf2⟩) (gf3.mp (by omega)) (Or.inl (hb2zz1.mpr (by omega))), by omega⟩)⟩
            · refine c_tabOut (tgt := 161) C (r32_c (lo := (-2147483648)) (hi := 2147483647) ri2.1 ri2.2 (by decide) (by decide)) dX4_nodeBehind_109 sw1 (by decide) ?_
              refine c_iload_n (j := 3) C dX4_nodeBehind_161 rfl ?_
              refine c_aload (j := 1) (x := f2) C dX4_nodeBehind_162 rfl ?_
              obtain ⟨rb6, rq6, trb6⟩ := hW.ref rgf2 2 rfl rfl rfl
              have lnrb6 : 1 ≤ ln rb6 ∧ ln rb6 ≤ 4 := hW.len trb6 rfl
              refine c_getr (k := 2) C ck_6 dX4_nodeBehind_164 w3_144 (by decide) rgf2 rfl rfl (by decide) rfl rq6 ?_
              refine c_st (st2 := [.ref rb6, .int (iI dq1)]) rfl ?_
              have ll5 : 1 ≤ ln rb6 ∧ ln rb6 ≤ 4 := hW.len trb6 rfl
              refine c_alenI C dX4_nodeBehind_167 trb6 rfl ?_
              refine c_iadd C dX4_nodeBehind_168 ?_
              refine c_iconst C dX4_nodeBehind_169 ?_
              refine c_imul C dX4_nodeBehind_170 ?_
              refine c_iload (j := 0) C dX4_nodeBehind_171 rfl ?_
              refine c_iadd C dX4_nodeBehind_173 ?_
              have up9 := (gf3.mp (by omega) rb6 rq6 (ln rb6 - 1) (by omega)).1
              exact c_iret C dX4_nodeBehind_174 rfl (by decide) (rom0 hph hph (by decide)) ⟨(((dq1 + ((ln rb6 : Nat) : Int)) * 4) + zz3), rfl, rfl, rfl, rfl, rfl, rfl, ⟨by omega, by omega⟩, (by rw [← hdq1]; exact Or.inr ⟨GD.mk1 (by omega) (Or.inl ⟨hb1zz2.mpr (by omega), exf2⟩) (gf3.mp (by omega)) (Or.inl (hb2zz1.mpr (by omega))), by omega⟩)⟩
        · exact absurd exf1.1 (by decide)
      · refine c_iconst C dX4_nodeBehind_55 ?_
        refine c_goto (tgt := 60) C dX4_nodeBehind_56 (by decide) ?_
        refine d_callV (As := [.int (iI 1)]) (rest := []) C hM (C_rowsOf (a0 := (sk 16)) (g := 1) hW hS tsk16 ⟨by decide, by decide⟩ ) dX4_nodeBehind_60 kV_X4_95 rfl tsk16 rfl rfl (by decide) ck_4 rfl (Nat.le_of_ble_eq_true rfl) ⟨(Nat.le_of_ble_eq_true rfl), (Nat.le_of_ble_eq_true rfl)⟩ hph hph (show 0 + 0 = 0 from rfl) (by decide) (fun rh4 Lh4 clh4 lnh4 ivh4 rvh4 h4 => ?_)
        obtain ⟨f4, rfl, rfl, rfl, rfl, rfl, rfl, rgf4, exf4⟩ := h4
        refine c_st (st2 := [.ref f4]) rfl ?_
        rcases exf4 with exf4 | exf4
        · exact absurd exf4.1 (by decide)
        · obtain ⟨hf4, rfl⟩ := exf4
          refine c_st (st2 := [.ref (sk 25)]) rfl ?_
          refine c_iload_n (j := 4) C dX4_nodeBehind_63 rfl ?_
          refine c_iconst C dX4_nodeBehind_64 ?_
          refine c_isub C dX4_nodeBehind_65 ?_
          have ri3 : 0 ≤ iv (sk 25) 2 ∧ iv (sk 25) 2 ≤ 6003 := hW.int tsk25 2
          refine d_callV (As := [.int (iI (x - 1))]) (rest := []) C hM (C_get_25 (a0 := (sk 25)) (i := x - 1) hW hS tsk25 (by omega) (by show 0 ≤ (x - 1) ∧ (x - 1) < iv (sk 25) 2; omega)) dX4_nodeBehind_66 kV_X4_110 rfl tsk25 rfl rfl (by decide) ck_0 rfl (Nat.le_of_ble_eq_true rfl) ⟨(Nat.le_of_ble_eq_true rfl), (Nat.le_of_ble_eq_true rfl)⟩ hph hph (show 0 + 0 = 0 from rfl) (by decide) (fun rh5 Lh5 clh5 lnh5 ivh5 rvh5 h5 => ?_)
          obtain ⟨f5, rfl, rfl, rfl, rfl, rfl, rfl, rgf5, exf5⟩ := h5
          refine c_st (st2 := [.ref f5]) rfl ?_
          have gf5 : el rv (sk 25) (x - 1).toNat = some f5 := exf5
          refine c_cast C ck_6 dX4_nodeBehind_69 w5_149 w8_169t rgf5 rfl rfl (by decide) ?_
          refine c_astore (lv2 := [(5, .ref f5), (4, .int (iI 0)), (3, .int (iI dq1)), (0, .ref a0), (1, .int (iI i)), (2, .int (iI x))]) C dX4_nodeBehind_72 (by decide) rfl ?_
          refine c_aload_n (j := 3) (x := a0) C dX4_nodeBehind_74 rfl ?_
          refine c_aload (j := 0) (x := f5) C dX4_nodeBehind_75 rfl ?_
          refine c_iload_n (j := 2) C dX4_nodeBehind_77 rfl ?_
          refine d_callV (As := [.ref f5, .int (iI dq1)]) (rest := []) C hM (C_looksLikeRow (a0 := a0) (a1 := f5) (i := dq1) hW hS t_a0 rgf5 (by omega) (by show 0 ≤ dq1 ∧ dq1 ≤ 1000; omega)) dX4_nodeBehind_78 kV_X4_116 rfl t_a0 rfl rfl (by decide) ck_5 rfl (Nat.le_of_ble_eq_true rfl) ⟨(Nat.le_of_ble_eq_true rfl), (Nat.le_of_ble_eq_true rfl)⟩ hph hph (show 0 + 0 = 0 from rfl) (by decide) (fun rh6 Lh6 clh6 lnh6 ivh6 rvh6 h6 => ?_)
          obtain ⟨f6, rfl, rfl, rfl, rfl, rfl, rfl, rgf6, exf6⟩ := h6
          refine c_st (st2 := [.int (iI f6)]) rfl ?_
          have gf6 : f6 = 1 ↔ LRw ln iv rv a0 f5 dq1 := exf6
          refine c_if_eq (tgt := 97) C ⟨by omega, by omega⟩ dX4_nodeBehind_81 (by decide) (fun c5 => ?_) (fun c5 => ?_)
          · refine c_iconst C dX4_nodeBehind_97 ?_
            exact c_iret C dX4_nodeBehind_98 rfl (by decide) (rom0 hph hph (by decide)) ⟨(-1), rfl, rfl, rfl, rfl, rfl, rfl, ⟨by decide, by decide⟩, (by rw [← hdq1]; exact Or.inl ⟨rfl, GD.no1 (by omega) (Or.inr ⟨fun q => absurd (hb1zz2.mp q) (by omega), exf5⟩) (fun q _ => absurd (gf6.mpr q) (by omega))⟩)⟩
          · refine c_iload (j := 1) C dX4_nodeBehind_84 rfl ?_
            refine c_if_eq (tgt := 99) C ⟨by decide, by decide⟩ dX4_nodeBehind_86 (by decide) (fun _ => ?_) (fun z => absurd z (by omega))
            refine c_iload_n (j := 4) C dX4_nodeBehind_99 rfl ?_
            refine c_iconst C dX4_nodeBehind_100 ?_
            obtain ⟨zz5, hzz5, ezz5⟩ := iI_of (iI i &&& iI 1)
            refine c_iand (w := iI zz5) C dX4_nodeBehind_101 ezz5 ?_
            have bazz5 := and1 ezz5 hzz5
            refine c_istore (lv2 := [(6, .int (iI zz5)), (5, .ref f5), (4, .int (iI 0)), (3, .int (iI dq1)), (0, .ref a0), (1, .int (iI i)), (2, .int (iI x))]) C dX4_nodeBehind_102 (by decide) rfl ?_
            refine c_aload (j := 1) (x := f5) C dX4_nodeBehind_104 rfl ?_
            have ri4 : (-2147483648) ≤ iv f5 0 ∧ iv f5 0 ≤ 2147483647 := hW.int rgf5 0
            refine c_get (k := 0) C ck_6 dX4_nodeBehind_106 w3_136 (by decide) rgf5 rfl rfl (by decide) rfl ?_
            rcases (show (iv f5 0) = 0 ∨ (iv f5 0) = 1 ∨ (iv f5 0) = 2 ∨ (iv f5 0) = 3 ∨ ((iv f5 0) < 0 ∨ 3 < (iv f5 0)) by omega) with sw2 | sw2 | sw2 | sw2 | sw2
            · refine c_tabIn (tgt := 140) (off := 31) C (r32_c (lo := (-2147483648)) (hi := 2147483647) ri4.1 ri4.2 (by decide) (by decide)) dX4_nodeBehind_109 (by omega) (by omega) (by rw [sw2]; rfl) (by decide) ?_
              refine c_iload (j := 0) C dX4_nodeBehind_140 rfl ?_
              refine c_iconst C dX4_nodeBehind_142 ?_
              obtain ⟨zz6, hzz6, ezz6⟩ := iI_of (iI zz5 ||| iI 2)
              refine c_ior (w := iI zz6) C dX4_nodeBehind_143 ezz6 ?_
              have bozz6 := or2 bazz5 ezz6 hzz6
              refine c_istore (lv2 := [(6, .int (iI zz6)), (5, .ref f5), (4, .int (iI 0)), (3, .int (iI dq1)), (0, .ref a0), (1, .int (iI i)), (2, .int (iI x))]) C dX4_nodeBehind_144 (by decide) rfl ?_
              refine c_goto (tgt := 161) C dX4_nodeBehind_146 (by decide) ?_
              refine c_iload_n (j := 3) C dX4_nodeBehind_161 rfl ?_
              refine c_aload (j := 1) (x := f5) C dX4_nodeBehind_162 rfl ?_
              obtain ⟨rb7, rq7, trb7⟩ := hW.ref rgf5 2 rfl rfl rfl
              have lnrb7 : 1 ≤ ln rb7 ∧ ln rb7 ≤ 4 := hW.len trb7 rfl
              refine c_getr (k := 2) C ck_6 dX4_nodeBehind_164 w3_144 (by decide) rgf5 rfl rfl (by decide) rfl rq7 ?_
              refine c_st (st2 := [.ref rb7, .int (iI dq1)]) rfl ?_
              have ll6 : 1 ≤ ln rb7 ∧ ln rb7 ≤ 4 := hW.len trb7 rfl
              refine c_alenI C dX4_nodeBehind_167 trb7 rfl ?_
              refine c_iadd C dX4_nodeBehind_168 ?_
              refine c_iconst C dX4_nodeBehind_169 ?_
              refine c_imul C dX4_nodeBehind_170 ?_
              refine c_iload (j := 0) C dX4_nodeBehind_171 rfl ?_
              refine c_iadd C dX4_nodeBehind_173 ?_
              have up9 := (gf6.mp (by omega) rb7 rq7 (ln rb7 - 1) (by omega)).1
              exact c_iret C dX4_nodeBehind_174 rfl (by decide) (rom0 hph hph (by decide)) ⟨(((dq1 + ((ln rb7 : Nat) : Int)) * 4) + zz6), rfl, rfl, rfl, rfl, rfl, rfl, ⟨by omega, by omega⟩, (by rw [← hdq1]; exact Or.inr ⟨GD.mk1 (by omega) (Or.inr ⟨fun q => absurd (hb1zz2.mp q) (by omega), exf5⟩) (gf6.mp (by omega)) (Or.inl (hb2zz1.mpr (by omega))), by omega⟩)⟩
            · refine c_tabIn (tgt := 161) (off := 52) C (r32_c (lo := (-2147483648)) (hi := 2147483647) ri4.1 ri4.2 (by decide) (by decide)) dX4_nodeBehind_109 (by omega) (by omega) (by rw [sw2]; rfl) (by decide) ?_
              refine c_iload_n (j := 3) C dX4_nodeBehind_161 rfl ?_
              refine c_aload (j := 1) (x := f5) C dX4_nodeBehind_162 rfl ?_
              obtain ⟨rb8, rq8, trb8⟩ := hW.ref rgf5 2 rfl rfl rfl
              have lnrb8 : 1 ≤ ln rb8 ∧ ln rb8 ≤ 4 := hW.len trb8 rfl
              refine c_getr (k := 2) C ck_6 dX4_nodeBehind_164 w3_144 (by decide) rgf5 rfl rfl (by decide) rfl rq8 ?_
              refine c_st (st2 := [.ref rb8, .int (iI dq1)]) rfl ?_
              have ll7 : 1 ≤ ln rb8 ∧ ln rb8 ≤ 4 := hW.len trb8 rfl
              refine c_alenI C dX4_nodeBehind_167 trb8 rfl ?_
              refine c_iadd C dX4_nodeBehind_168 ?_
              refine c_iconst C dX4_nodeBehind_169 ?_
              refine c_imul C dX4_nodeBehind_170 ?_
              refine c_iload (j := 0) C dX4_nodeBehind_171 rfl ?_
              refine c_iadd C dX4_nodeBehind_173 ?_
              have up9 := (gf6.mp (by omega) rb8 rq8 (ln rb8 - 1) (by omega)).1
              exact c_iret C dX4_nodeBehind_174 rfl (by decide) (rom0 hph hph (by decide)) ⟨(((dq1 + ((ln rb8 : Nat) : Int)) * 4) + zz5), rfl, rfl, rfl, rfl, rfl, rfl, ⟨by omega, by omega⟩, (by rw [← hdq1]; exact Or.inr ⟨GD.mk1 (by omega) (Or.inr ⟨fun q => absurd (hb1zz2.mp q) (by omega), exf5⟩) (gf6.mp (by omega)) (Or.inl (hb2zz1.mpr (by omega))), by omega⟩)⟩
            · refine c_tabIn (tgt := 149) (off := 40) C (r32_c (lo := (-2147483648)) (hi := 2147483647) ri4.1 ri4.2 (by decide) (by decide)) dX4_nodeBehind_109 (by omega) (by omega) (by rw [sw2]; rfl) (by decide) ?_
              refine c_iconst C dX4_nodeBehind_149 ?_
              refine c_istore (lv2 := [(6, .int (iI 1)), (5, .ref f5), (4, .int (iI 0)), (3, .int (iI dq1)), (0, .ref a0), (1, .int (iI i)), (2, .int (iI x))]) C dX4_nodeBehind_150 (by decide) rfl ?_
              refine c_goto (tgt := 161) C dX4_nodeBehind_152 (by decide) ?_
              refine c_iload_n (j := 3) C dX4_nodeBehind_161 rfl ?_
              refine c_aload (j := 1) (x := f5) C dX4_nodeBehind_162 rfl ?_
              obtain ⟨rb9, rq9, trb9⟩ := hW.ref rgf5 2 rfl rfl rfl
              have lnrb9 : 1 ≤ ln rb9 ∧ ln rb9 ≤ 4 := hW.len trb9 rfl
              refine c_getr (k := 2) C ck_6 dX4_nodeBehind_164 w3_144 (by decide) rgf5 rfl rfl (by decide) rfl rq9 ?_
              refine c_st (st2 := [.ref rb9, .int (iI dq1)]) rfl ?_
              have ll8 : 1 ≤ ln rb9 ∧ ln rb9 ≤ 4 := hW.len trb9 rfl
              refine c_alenI C dX4_nodeBehind_167 trb9 rfl ?_
              refine c_iadd C dX4_nodeBehind_168 ?_
              refine c_iconst C dX4_nodeBehind_169 ?_
              refine c_imul C dX4_nodeBehind_170 ?_
              refine c_iload (j := 0) C dX4_nodeBehind_171 rfl ?_
              refine c_iadd C dX4_nodeBehind_173 ?_
              have up9 := (gf6.mp (by omega) rb9 rq9 (ln rb9 - 1) (by omega)).1
              exact c_iret C dX4_nodeBehind_174 rfl (by decide) (rom0 hph hph (by decide)) ⟨(((dq1 + ((ln rb9 : Nat) : Int)) * 4) + 1), rfl, rfl, rfl, rfl, rfl, rfl, ⟨by omega, by omega⟩, (by rw [← hdq1]; exact Or.inr ⟨GD.mk1 (by omega) (Or.inr ⟨fun q => absurd (hb1zz2.mp q) (by omega), exf5⟩) (gf6.mp (by omega)) (Or.inl (hb2zz1.mpr (by omega))), by omega⟩)⟩
            · refine c_tabIn (tgt := 155) (off := 46) C (r32_c (lo := (-2147483648)) (hi := 2147483647) ri4.1 ri4.2 (by decide) (by decide)) dX4_nodeBehind_109 (by omega) (by omega) (by rw [sw2]; rfl) (by decide) ?_
              refine c_iconst C dX4_nodeBehind_155 ?_
              refine c_istore (lv2 := [(6, .int (iI 0)), (5, .ref f5), (4, .int (iI 0)), (3, .int (iI dq1)), (0, .ref a0), (1, .int (iI i)), (2, .int (iI x))]) C dX4_nodeBehind_156 (by decide) rfl ?_
              refine c_goto (tgt := 161) C dX4_nodeBehind_158 (by decide) ?_
              refine c_iload_n (j := 3) C dX4_nodeBehind_161 rfl ?_
              refine c_aload (j := 1) (x := f5) C dX4_nodeBehind_162 rfl ?_
              obtain ⟨rb10, rq10, trb10⟩ := hW.ref rgf5 2 rfl rfl rfl
              have lnrb10 : 1 ≤ ln rb10 ∧ ln rb10 ≤ 4 := hW.len trb10 rfl
              refine c_getr (k := 2) C ck_6 dX4_nodeBehind_164 w3_144 (by decide) rgf5 rfl rfl (by decide) rfl rq10 ?_
              refine c_st (st2 := [.ref rb10, .int (iI dq1)]) rfl ?_
              have ll9 : 1 ≤ ln rb10 ∧ ln rb10 ≤ 4 := hW.len trb10 rfl
              refine c_alenI C dX4_nodeBehind_167 trb10 rfl ?_
              refine c_iadd C dX4_nodeBehind_168 ?_
              refine c_iconst C dX4_nodeBehind_169 ?_
              refine c_imul C dX4_nodeBehind_170 ?_
              refine c_iload (j := 0) C dX4_nodeBehind_171 rfl ?_
              refine c_iadd C dX4_nodeBehind_173 ?_
              have up9 := (gf6.mp (by omega) rb10 rq10 (ln rb10 - 1) (by omega)).1
              exact c_iret C dX4_nodeBehind_174 rfl (by decide) (rom0 hph hph (by decide)) ⟨(((dq1 + ((ln rb10 : Nat) : Int)) * 4) + 0), rfl, rfl, rfl, rfl, rfl, rfl, ⟨by omega, by omega⟩, (by rw [← hdq1]; exact Or.inr ⟨GD.mk1 (by omega) (Or.inr ⟨fun q => absurd (hb1zz2.mp q) (by omega), exf5⟩) (gf6.mp (by omega)) (Or.inl (hb2zz1.mpr (by omega))), by omega⟩)⟩
            · refine c_tabOut (tgt := 161) C (r32_c (lo := (-2147483648)) (hi := 2147483647) ri4.1 ri4.2 (by decide) (by decide)) dX4_nodeBehind_109 sw2 (by decide) ?_
              refine c_iload_n (j := 3) C dX4_nodeBehind_161 rfl ?_
              refine c_aload (j := 1) (x := f5) C dX4_nodeBehind_162 rfl ?_
              obtain ⟨rb11, rq11, trb11⟩ := hW.ref rgf5 2 rfl rfl rfl
              have lnrb11 : 1 ≤ ln rb11 ∧ ln rb11 ≤ 4 := hW.len trb11 rfl
              refine c_getr (k := 2) C ck_6 dX4_nodeBehind_164 w3_144 (by decide) rgf5 rfl rfl (by decide) rfl rq11 ?_
              refine c_st (st2 := [.ref rb11, .int (iI dq1)]) rfl ?_
              have ll10 : 1 ≤ ln rb11 ∧ ln rb11 ≤ 4 := hW.len trb11 rfl
              refine c_alenI C dX4_nodeBehind_167 trb11 rfl ?_
              refine c_iadd C dX4_nodeBehind_168 ?_
              refine c_iconst C dX4_nodeBehind_169 ?_
              refine c_imul C dX4_nodeBehind_170 ?_
              refine c_iload (j := 0) C dX4_nodeBehind_171 rfl ?_
              refine c_iadd C dX4_nodeBehind_173 ?_
              have up9 := (gf6.mp (by omega) rb11 rq11 (ln rb11 - 1) (by omega)).1
              exact c_iret C dX4_nodeBehind_174 rfl (by decide) (rom0 hph hph (by decide)) ⟨(((dq1 + ((ln rb11 : Nat) : Int)) * 4) + zz5), rfl, rfl, rfl, rfl, rfl, rfl, ⟨by omega, by omega⟩, (by rw [← hdq1]; exact Or.inr ⟨GD.mk1 (by omega) (Or.inr ⟨fun q => absurd (hb1zz2.mp q) (by omega), exf5⟩) (gf6.mp (by omega)) (Or.inl (hb2zz1.mpr (by omega))), by omega⟩)⟩
    · refine c_iload (j := 0) C dX4_nodeBehind_21 rfl ?_
      refine c_if_ne (tgt := 35) C ⟨by decide, by decide⟩ dX4_nodeBehind_23 (by decide) (fun z => absurd z (by omega)) (fun _ => ?_)
      refine c_aload_n (j := 2) (x := a0) C dX4_nodeBehind_26 rfl ?_
      refine c_iconst C dX4_nodeBehind_27 ?_
      refine c_iload_n (j := 1) C dX4_nodeBehind_28 rfl ?_
      refine d_callV (As := [.int (iI 0), .int (iI dq1)]) (rest := []) C hM (C_looksLike (a0 := a0) (x := 0) (i := dq1) hW hS t_a0 ⟨by decide, by decide⟩ (by omega) (by show 0 ≤ dq1; omega)) dX4_nodeBehind_29 kV_X4_106 rfl t_a0 rfl rfl (by decide) ck_5 rfl (Nat.le_of_ble_eq_true rfl) ⟨(Nat.le_of_ble_eq_true rfl), (Nat.le_of_ble_eq_true rfl)⟩ hph hph (show 0 + 0 = 0 from rfl) (by decide) (fun rh7 Lh7 clh7 lnh7 ivh7 rvh7 h7 => ?_)
      obtain ⟨f7, rfl, rfl, rfl, rfl, rfl, rfl, rgf7, exf7⟩ := h7
      refine c_st (st2 := [.int (iI f7)]) rfl ?_
      have gf7 : f7 = 1 ↔ LLw iv rv a0 (0 : Int) dq1 := exf7
      refine c_if_ne (tgt := 39) C ⟨by omega, by omega⟩ dX4_nodeBehind_32 (by decide) (fun c6 => ?_) (fun c6 => ?_)
      · refine c_iload_n (j := 1) C dX4_nodeBehind_39 rfl ?_
        refine c_iconst C dX4_nodeBehind_40 ?_
        refine c_iadd C dX4_nodeBehind_41 ?_
        refine c_iconst C dX4_nodeBehind_42 ?_
        refine c_imul C dX4_nodeBehind_43 ?_
        exact c_iret C dX4_nodeBehind_44 rfl (by decide) (rom0 hph hph (by decide)) ⟨((dq1 + 1) * 4), rfl, rfl, rfl, rfl, rfl, rfl, ⟨by omega, by omega⟩, (by rw [← hdq1]; exact Or.inr ⟨GD.mk0 (by omega) (hb2zz1.mpr (by omega)) (gf7.mp (by omega)), by have q := (gf7.mp (by omega)).1; omega⟩)⟩
      · refine c_iconst C dX4_nodeBehind_35 ?_
        refine c_goto (tgt := 44) C dX4_nodeBehind_36 (by decide) ?_
        exact c_iret C dX4_nodeBehind_44 rfl (by decide) (rom0 hph hph (by decide)) ⟨(-1), rfl, rfl, rfl, rfl, rfl, rfl, ⟨by decide, by decide⟩, (by rw [← hdq1]; exact Or.inl ⟨rfl, GD.no0 (by omega) (fun _ q => absurd (gf7.mpr q) (by omega))⟩)⟩
  · refine c_iconst C dX4_nodeBehind_10 ?_
    refine c_goto (tgt := 15) C dX4_nodeBehind_11 (by decide) ?_
    refine c_istore (lv2 := [(4, .int (iI 1)), (3, .int (iI dq1)), (0, .ref a0), (1, .int (iI i)), (2, .int (iI x))]) C dX4_nodeBehind_15 (by decide) rfl ?_
    refine c_iload_n (j := 4) C dX4_nodeBehind_17 rfl ?_
    refine c_if_gt (tgt := 45) C ⟨by omega, by omega⟩ dX4_nodeBehind_18 (by decide) (fun c7 => ?_) (fun c7 => ?_)
    · refine c_aload_n (j := 2) (x := a0) C dX4_nodeBehind_45 rfl ?_
      obtain ⟨rb12, rq12, trb12⟩ := hW.ref t_a0 7 rfl rfl rfl
      have erb12 := hW.sk trb12 (by decide) rfl
      subst erb12
      refine c_getr (k := 7) C ck_5 dX4_nodeBehind_46 w1_238 (by decide) t_a0 rfl rfl (by decide) rfl rq12 ?_
      refine c_st (st2 := [.ref (sk 16)]) rfl ?_
      refine c_iload_n (j := 3) C dX4_nodeBehind_49 rfl ?_
      refine c_iconst C dX4_nodeBehind_50 ?_
      obtain ⟨zz7, hzz7, ezz7⟩ := iI_of (iI i &&& iI 1)
      refine c_iand (w := iI zz7) C dX4_nodeBehind_51 ezz7 ?_
      refine hv2 (bz_iff ezz7 hzz7) (hx.zed ezz7 hzz7) (fun hb1zz7 vzzz7 => ?_)
      refine c_if_eq (tgt := 59) C ⟨by omega, by omega⟩ dX4_nodeBehind_52 (by decide) (fun c8 => ?_) (fun c8 => ?_)
      · refine c_iconst C dX4_nodeBehind_59 ?_
        refine d_callV (As := [.int (iI 0)]) (rest := []) C hM (C_rowsOf (a0 := (sk 16)) (g := 0) hW hS tsk16 ⟨by decide, by decide⟩ ) dX4_nodeBehind_60 kV_X4_95 rfl tsk16 rfl rfl (by decide) ck_4 rfl (Nat.le_of_ble_eq_true rfl) ⟨(Nat.le_of_ble_eq_true rfl), (Nat.le_of_ble_eq_true rfl)⟩ hph hph (show 0 + 0 = 0 from rfl) (by decide) (fun rh8 Lh8 clh8 lnh8 ivh8 rvh8 h8 => ?_)
        obtain ⟨f8, rfl, rfl, rfl, rfl, rfl, rfl, rgf8, exf8⟩ := h8
        refine c_st (st2 := [.ref f8]) rfl ?_
        rcases exf8 with exf8 | exf8
        · obtain ⟨hf8, rfl⟩ := exf8
          refine c_st (st2 := [.ref (sk 24)]) rfl ?_
          refine c_iload_n (j := 4) C dX4_nodeBehind_63 rfl ?_
          refine c_iconst C dX4_nodeBehind_64 ?_
          refine c_isub C dX4_nodeBehind_65 ?_
          have ri5 : 0 ≤ iv (sk 24) 2 ∧ iv (sk 24) 2 ≤ 6003 := hW.int tsk24 2
          refine d_callV (As := [.int (iI (x - 1))]) (rest := []) C hM (C_get_24 (a0 := (sk 24)) (i := x - 1) hW hS tsk24 (by omega) (by show 0 ≤ (x - 1) ∧ (x - 1) < iv (sk 24) 2; omega)) dX4_nodeBehind_66 kV_X4_110 rfl tsk24 rfl rfl (by decide) ck_0 rfl (Nat.le_of_ble_eq_true rfl) ⟨(Nat.le_of_ble_eq_true rfl), (Nat.le_of_ble_eq_true rfl)⟩ hph hph (show 0 + 0 = 0 from rfl) (by decide) (fun rh9 Lh9 clh9 lnh9 ivh9 rvh9 h9 => ?_)
          obtain ⟨f9, rfl, rfl, rfl, rfl, rfl, rfl, rgf9, exf9⟩ := h9
          refine c_st (st2 := [.ref f9]) rfl ?_
          have gf9 : el rv (sk 24) (x - 1).toNat = some f9 := exf9
          refine c_cast C ck_6 dX4_nodeBehind_69 w5_149 w8_169t rgf9 rfl rfl (by decide) ?_
          refine c_astore (lv2 := [(5, .ref f9), (4, .int (iI 1)), (3, .int (iI dq1)), (0, .ref a0), (1, .int (iI i)), (2, .int (iI x))]) C dX4_nodeBehind_72 (by decide) rfl ?_
          refine c_aload_n (j := 3) (x := a0) C dX4_nodeBehind_74 rfl ?_
          refine c_aload (j := 0) (x := f9) C dX4_nodeBehind_75 rfl ?_
          refine c_iload_n (j := 2) C dX4_nodeBehind_77 rfl ?_
          refine d_callV (As := [.ref f9, .int (iI dq1)]) (rest := []) C hM (C_looksLikeRow (a0 := a0) (a1 := f9) (i := dq1) hW hS t_a0 rgf9 (by omega) (by show 0 ≤ dq1 ∧ dq1 ≤ 1000; omega)) dX4_nodeBehind_78 kV_X4_116 rfl t_a0 rfl rfl (by decide) ck_5 rfl (Nat.le_of_ble_eq_true rfl) ⟨(Nat.le_of_ble_eq_true rfl), (Nat.le_of_ble_eq_true rfl)⟩ hph hph (show 0 + 0 = 0 from rfl) (by decide) (fun rh10 Lh10 clh10 lnh10 ivh10 rvh10 h10 => ?_)
          obtain ⟨f10, rfl, rfl, rfl, rfl, rfl, rfl, rgf10, exf10⟩ := h10
          refine c_st (st2 := [.int (iI f10)]) rfl ?_
          have gf10 : f10 = 1 ↔ LRw ln iv rv a0 f9 dq1 := exf10
          refine c_if_eq (tgt := 97) C ⟨by omega, by omega⟩ dX4_nodeBehind_81 (by decide) (fun c9 => ?_) (fun c9 => ?_)
          · refine c_iconst C dX4_nodeBehind_97 ?_
            exact c_iret C dX4_nodeBehind_98 rfl (by decide) (rom0 hph hph (by decide)) ⟨(-1), rfl, rfl, rfl, rfl, rfl, rfl, ⟨by decide, by decide⟩, (by rw [← hdq1]; exact Or.inl ⟨rfl, GD.no1 (by omega) (Or.inl ⟨hb1zz7.mpr (by omega), exf9⟩) (fun q _ => absurd (gf10.mpr q) (by omega))⟩)⟩
          · refine c_iload (j := 1) C dX4_nodeBehind_84 rfl ?_
            refine c_if_eq (tgt := 99) C ⟨by decide, by decide⟩ dX4_nodeBehind_86 (by decide) (fun z => absurd z (by omega)) (fun _ => ?_)
            refine c_aload (j := 0) (x := f9) C dX4_nodeBehind_89 rfl ?_
            refine d_callV (As := []) (rest := []) C hM (C_bsmall (a0 := f9) hW hS rgf9  ) dX4_nodeBehind_91 kV_X4_120 rfl rgf9 rfl rfl (by decide) ck_6 rfl (Nat.le_of_ble_eq_true rfl) ⟨(Nat.le_of_ble_eq_true rfl), (Nat.le_of_ble_eq_true rfl)⟩ hph hph (show 0 + 0 = 0 from rfl) (by decide) (fun rh11 Lh11 clh11 lnh11 ivh11 rvh11 h11 => ?_)
            obtain ⟨f11, rfl, rfl, rfl, rfl, rfl, rfl, rgf11, exf11⟩ := h11
            refine c_st (st2 := [.int (iI f11)]) rfl ?_
            have gf11 : f11 = 1 ↔ BSw ln iv rv f9 := exf11
            refine c_if_ne (tgt := 99) C ⟨by omega, by omega⟩ dX4_nodeBehind_94 (by decide) (fun c10 => ?_) (fun c10 => ?_)
            · refine c_iload_n (j := 4) C dX4_nodeBehind_99 rfl ?_
              refine c_iconst C dX4_nodeBehind_100 ?_
              obtain ⟨zz8, hzz8, ezz8⟩ := iI_of (iI i &&& iI 1)
              refine c_iand (w := iI zz8) C dX4_nodeBehind_101 ezz8 ?_
              have bazz8 := and1 ezz8 hzz8
              refine c_istore (lv2 := [(6, .int (iI zz8)), (5, .ref f9), (4, .int (iI 1)), (3, .int (iI dq1)), (0, .ref a0), (1, .int (iI i)), (2, .int (iI x))]) C dX4_nodeBehind_102 (by decide) rfl ?_
              refine c_aload (j := 1) (x := f9) C dX4_nodeBehind_104 rfl ?_
              have ri6 : (-2147483648) ≤ iv f9 0 ∧ iv f9 0 ≤ 2147483647 := hW.int rgf9 0
              refine c_get (k := 0) C ck_6 dX4_nodeBehind_106 w3_136 (by decide) rgf9 rfl rfl (by decide) rfl ?_
              rcases (show (iv f9 0) = 0 ∨ (iv f9 0) = 1 ∨ (iv f9 0) = 2 ∨ (iv f9 0) = 3 ∨ ((iv f9 0) < 0 ∨ 3 < (iv f9 0)) by omega) with sw3 | sw3 | sw3 | sw3 | sw3
              · refine c_tabIn (tgt := 140) (off := 31) C (r32_c (lo := (-2147483648)) (hi := 2147483647) ri6.1 ri6.2 (by decide) (by decide)) dX4_nodeBehind_109 (by omega) (by omega) (by rw [sw3]; rfl) (by decide) ?_
                refine c_iload (j := 0) C dX4_nodeBehind_140 rfl ?_
                refine c_iconst C dX4_nodeBehind_142 ?_
                obtain ⟨zz9, hzz9, ezz9⟩ := iI_of (iI zz8 ||| iI 2)
                refine c_ior (w := iI zz9) C dX4_nodeBehind_143 ezz9 ?_
                have bozz9 := or2 bazz8 ezz9 hzz9
                refine c_istore (lv2 := [(6, .int (iI zz9)), (5, .ref f9), (4, .int (iI 1)), (3, .int (iI dq1)), (0, .ref a0), (1, .int (iI i)), (2, .int (iI x))]) C dX4_nodeBehind_144 (by decide) rfl ?_
                refine c_goto (tgt := 161) C dX4_nodeBehind_146 (by decide) ?_
                refine c_iload_n (j := 3) C dX4_nodeBehind_161 rfl ?_
                refine c_aload (j := 1) (x := f9) C dX4_nodeBehind_162 rfl ?_
                obtain ⟨rb13, rq13, trb13⟩ := hW.ref rgf9 2 rfl rfl rfl
                have lnrb13 : 1 ≤ ln rb13 ∧ ln rb13 ≤ 4 := hW.len trb13 rfl
                refine c_getr (k := 2) C ck_6 dX4_nodeBehind_164 w3_144 (by decide) rgf9 rfl rfl (by decide) rfl rq13 ?_
                refine c_st (st2 := [.ref rb13, .int (iI dq1)]) rfl ?_
                have ll11 : 1 ≤ ln rb13 ∧ ln rb13 ≤ 4 := hW.len trb13 rfl
                refine c_alenI C dX4_nodeBehind_167 trb13 rfl ?_
                refine c_iadd C dX4_nodeBehind_168 ?_
                refine c_iconst C dX4_nodeBehind_169 ?_
                refine c_imul C dX4_nodeBehind_170 ?_
                refine c_iload (j := 0) C dX4_nodeBehind_171 rfl ?_
                refine c_iadd C dX4_nodeBehind_173 ?_
                have up9 := (gf10.mp (by omega) rb13 rq13 (ln rb13 - 1) (by omega)).1
                exact c_iret C dX4_nodeBehind_174 rfl (by decide) (rom0 hph hph (by decide)) ⟨(((dq1 + ((ln rb13 : Nat) : Int)) * 4) + zz9), rfl, rfl, rfl, rfl, rfl, rfl, ⟨by omega, by omega⟩, (by rw [← hdq1]; exact Or.inr ⟨GD.mk1 (by omega) (Or.inl ⟨hb1zz7.mpr (by omega), exf9⟩) (gf10.mp (by omega)) (Or.inr (gf11.mp (by omega))), by omega⟩)⟩
              · refine c_tabIn (tgt := 161) (off := 52) C (r32_c (lo := (-2147483648)) (hi := 2147483647) ri6.1 ri6.2 (by decide) (by decide)) dX4_nodeBehind_109 (by omega) (by omega) (by rw [sw3]; rfl) (by decide) ?_
                refine c_iload_n (j := 3) C dX4_nodeBehind_161 rfl ?_
                refine c_aload (j := 1) (x := f9) C dX4_nodeBehind_162 rfl ?_
                obtain ⟨rb14, rq14, trb14⟩ := hW.ref rgf9 2 rfl rfl rfl
                have lnrb14 : 1 ≤ ln rb14 ∧ ln rb14 ≤ 4 := hW.len trb14 rfl
                refine c_getr (k := 2) C ck_6 dX4_nodeBehind_164 w3_144 (by decide) rgf9 rfl rfl (by decide) rfl rq14 ?_
                refine c_st (st2 := [.ref rb14, .int (iI dq1)]) rfl ?_
                have ll12 : 1 ≤ ln rb14 ∧ ln rb14 ≤ 4 := hW.len trb14 rfl
                refine c_alenI C dX4_nodeBehind_167 trb14 rfl ?_
                refine c_iadd C dX4_nodeBehind_168 ?_
                refine c_iconst C dX4_nodeBehind_169 ?_
                refine c_imul C dX4_nodeBehind_170 ?_
                refine c_iload (j := 0) C dX4_nodeBehind_171 rfl ?_
                refine c_iadd C dX4_nodeBehind_173 ?_
                have up9 := (gf10.mp (by omega) rb14 rq14 (ln rb14 - 1) (by omega)).1
                exact c_iret C dX4_nodeBehind_174 rfl (by decide) (rom0 hph hph (by decide)) ⟨(((dq1 + ((ln rb14 : Nat) : Int)) * 4) + zz8), rfl, rfl, rfl, rfl, rfl, rfl, ⟨by omega, by omega⟩, (by rw [← hdq1]; exact Or.inr ⟨GD.mk1 (by omega) (Or.inl ⟨hb1zz7.mpr (by omega), exf9⟩) (gf10.mp (by omega)) (Or.inr (gf11.mp (by omega))), by omega⟩)⟩
              · refine c_tabIn (tgt := 149) (off := 40) C (r32_c (lo := (-2147483648)) (hi := 2147483647) ri6.1 ri6.2 (by decide) (by decide)) dX4_nodeBehind_109 (by omega) (by omega) (by rw [sw3]; rfl) (by decide) ?_
                refine c_iconst C dX4_nodeBehind_149 ?_
                refine c_istore (lv2 := [(6, .int (iI 1)), (5, .ref f9), (4, .int (iI 1)), (3, .int (iI dq1)), (0, .ref a0), (1, .int (iI i)), (2, .int (iI x))]) C dX4_nodeBehind_150 (by decide) rfl ?_
                refine c_goto (tgt := 161) C dX4_nodeBehind_152 (by decide) ?_
                refine c_iload_n (j := 3) C dX4_nodeBehind_161 rfl ?_
                refine c_aload (j := 1) (x := f9) C dX4_nodeBehind_162 rfl ?_
                obtain ⟨rb15, rq15, trb15⟩ := hW.ref rgf9 2 rfl rfl rfl
                have lnrb15 : 1 ≤ ln rb15 ∧ ln rb15 ≤ 4 := hW.len trb15 rfl
                refine c_getr (k := 2) C ck_6 dX4_nodeBehind_164 w3_144 (by decide) rgf9 rfl rfl (by decide) rfl rq15 ?_
                refine c_st (st2 := [.ref rb15, .int (iI dq1)]) rfl ?_
                have ll13 : 1 ≤ ln rb15 ∧ ln rb15 ≤ 4 := hW.len trb15 rfl
                refine c_alenI C dX4_nodeBehind_167 trb15 rfl ?_
                refine c_iadd C dX4_nodeBehind_168 ?_
                refine c_iconst C dX4_nodeBehind_169 ?_
                refine c_imul C dX4_nodeBehind_170 ?_
                refine c_iload (j := 0) C dX4_nodeBehind_171 rfl ?_
                refine c_iadd C dX4_nodeBehind_173 ?_
                have up9 := (gf10.mp (by omega) rb15 rq15 (ln rb15 - 1) (by omega)).1
                exact c_iret C dX4_nodeBehind_174 rfl (by decide) (rom0 hph hph (by decide)) ⟨(((dq1 + ((ln rb15 : Nat) : Int)) * 4) + 1), rfl, rfl, rfl, rfl, rfl, rfl, ⟨by omega, by omega⟩, (by rw [← hdq1]; exact Or.inr ⟨GD.mk1 (by omega) (Or.inl ⟨hb1zz7.mpr (by omega), exf9⟩) (gf10.mp (by omega)) (Or.inr (gf11.mp (by omega))), by omega⟩)⟩
              · refine c_tabIn (tgt := 155) (off := 46) C (r32_c (lo := (-2147483648)) (hi := 2147483647) ri6.1 ri6.2 (by decide) (by decide)) dX4_nodeBehind_109 (by omega) (by omega) (by rw [sw3]; rfl) (by decide) ?_
                refine c_iconst C dX4_nodeBehind_155 ?_
                refine c_istore (lv2 := [(6, .int (iI 0)), (5, .ref f9), (4, .int (iI 1)), (3, .int (iI dq1)), (0, .ref a0), (1, .int (iI i)), (2, .int (iI x))]) C dX4_nodeBehind_156 (by decide) rfl ?_
                refine c_goto (tgt := 161) C dX4_nodeBehind_158 (by decide) ?_
                refine c_iload_n (j := 3) C dX4_nodeBehind_161 rfl ?_
                refine c_aload (j := 1) (x := f9) C dX4_nodeBehind_162 rfl ?_
                obtain ⟨rb16, rq16, trb16⟩ := hW.ref rgf9 2 rfl rfl rfl
                have lnrb16 : 1 ≤ ln rb16 ∧ ln rb16 ≤ 4 := hW.len trb16 rfl
                refine c_getr (k := 2) C ck_6 dX4_nodeBehind_164 w3_144 (by decide) rgf9 rfl rfl (by decide) rfl rq16 ?_
                refine c_st (st2 := [.ref rb16, .int (iI dq1)]) rfl ?_
                have ll14 : 1 ≤ ln rb16 ∧ ln rb16 ≤ 4 := hW.len trb16 rfl
                refine c_alenI C dX4_nodeBehind_167 trb16 rfl ?_
                refine c_iadd C dX4_nodeBehind_168 ?_
                refine c_iconst C dX4_nodeBehind_169 ?_
                refine c_imul C dX4_nodeBehind_170 ?_
                refine c_iload (j := 0) C dX4_nodeBehind_171 rfl ?_
                refine c_iadd C dX4_nodeBehind_173 ?_
                have up9 := (gf10.mp (by omega) rb16 rq16 (ln rb16 - 1) (by omega)).1
                exact c_iret C dX4_nodeBehind_174 rfl (by decide) (rom0 hph hph (by decide)) ⟨(((dq1 + ((ln rb16 : Nat) : Int)) * 4) + 0), rfl, rfl, rfl, rfl, rfl, rfl, ⟨by omega, by omega⟩, (by rw [← hdq1]; exact Or.inr ⟨GD.mk1 (by omega) (Or.inl ⟨hb1zz7.mpr (by omega), exf9⟩) (gf10.mp (by omega)) (Or.inr (gf11.mp (by omega))), by omega⟩)⟩
              · refine c_tabOut (tgt := 161) C (r32_c (lo := (-2147483648)) (hi := 2147483647) ri6.1 ri6.2 (by decide) (by decide)) dX4_nodeBehind_109 sw3 (by decide) ?_
                refine c_iload_n (j := 3) C dX4_nodeBehind_161 rfl ?_
                refine c_aload (j := 1) (x := f9) C dX4_nodeBehind_162 rfl ?_
                obtain ⟨rb17, rq17, trb17⟩ := hW.ref rgf9 2 rfl rfl rfl
                have lnrb17 : 1 ≤ ln rb17 ∧ ln rb17 ≤ 4 := hW.len trb17 rfl
                refine c_getr (k := 2) C ck_6 dX4_nodeBehind_164 w3_144 (by decide) rgf9 rfl rfl (by decide) rfl rq17 ?_
                refine c_st (st2 := [.ref rb17, .int (iI dq1)]) rfl ?_
                have ll15 : 1 ≤ ln rb17 ∧ ln rb17 ≤ 4 := hW.len trb17 rfl
                refine c_alenI C dX4_nodeBehind_167 trb17 rfl ?_
                refine c_iadd C dX4_nodeBehind_168 ?_
                refine c_iconst C dX4_nodeBehind_169 ?_
                refine c_imul C dX4_nodeBehind_170 ?_
                refine c_iload (j := 0) C dX4_nodeBehind_171 rfl ?_
                refine c_iadd C dX4_nodeBehind_173 ?_
                have up9 := (gf10.mp (by omega) rb17 rq17 (ln rb17 - 1) (by omega)).1
                exact c_iret C dX4_nodeBehind_174 rfl (by decide) (rom0 hph hph (by decide)) ⟨(((dq1 + ((ln rb17 : Nat) : Int)) * 4) + zz8), rfl, rfl, rfl, rfl, rfl, rfl, ⟨by omega, by omega⟩, (by rw [← hdq1]; exact Or.inr ⟨GD.mk1 (by omega) (Or.inl ⟨hb1zz7.mpr (by omega), exf9⟩) (gf10.mp (by omega)) (Or.inr (gf11.mp (by omega))), by omega⟩)⟩
            · refine c_iconst C dX4_nodeBehind_97 ?_
              exact c_iret C dX4_nodeBehind_98 rfl (by decide) (rom0 hph hph (by decide)) ⟨(-1), rfl, rfl, rfl, rfl, rfl, rfl, ⟨by decide, by decide⟩, (by rw [← hdq1]; exact Or.inl ⟨rfl, GD.no1 (by omega) (Or.inl ⟨hb1zz7.mpr (by omega), exf9⟩) (fun _ q => q.elim (fun q => absurd (hb2zz1.mp q) (by omega)) (fun q2 => absurd (gf11.mpr q2) (by omega)))⟩)⟩
        · exact absurd exf8.1 (by decide)
      · refine c_iconst C dX4_nodeBehind_55 ?_
        refine c_goto (tgt := 60) C dX4_nodeBehind_56 (by decide) ?_
        refine d_callV (As := [.int (iI 1)]) (rest := []) C hM (C_rowsOf (a0 := (sk 16)) (g := 1) hW hS tsk16 ⟨by decide, by decide⟩ ) dX4_nodeBehind_60 kV_X4_95 rfl tsk16 rfl rfl (by decide) ck_4 rfl (Nat.le_of_ble_eq_true rfl) ⟨(Nat.le_of_ble_eq_true rfl), (Nat.le_of_ble_eq_true rfl)⟩ hph hph (show 0 + 0 = 0 from rfl) (by decide) (fun rh12 Lh12 clh12 lnh12 ivh12 rvh12 h12 => ?_)
        obtain ⟨f12, rfl, rfl, rfl, rfl, rfl, rfl, rgf12, exf12⟩ := h12
        refine c_st (st2 := [.ref f12]) rfl ?_
        rcases exf12 with exf12 | exf12
        · exact absurd exf12.1 (by decide)
        · obtain ⟨hf12, rfl⟩ := exf12
          refine c_st (st2 := [.ref (sk 25)]) rfl ?_
          refine c_iload_n (j := 4) C dX4_nodeBehind_63 rfl ?_
          refine c_iconst C dX4_nodeBehind_64 ?_
          refine c_isub C dX4_nodeBehind_65 ?_
          have ri7 : 0 ≤ iv (sk 25) 2 ∧ iv (sk 25) 2 ≤ 6003 := hW.int tsk25 2
          refine d_callV (As := [.int (iI (x - 1))]) (rest := []) C hM (C_get_25 (a0 := (sk 25)) (i := x - 1) hW hS tsk25 (by omega) (by show 0 ≤ (x - 1) ∧ (x - 1) < iv (sk 25) 2; omega)) dX4_nodeBehind_66 kV_X4_110 rfl tsk25 rfl rfl (by decide) ck_0 rfl (Nat.le_of_ble_eq_true rfl) ⟨(Nat.le_of_ble_eq_true rfl), (Nat.le_of_ble_eq_true rfl)⟩ hph hph (show 0 + 0 = 0 from rfl) (by decide) (fun rh13 Lh13 clh13 lnh13 ivh13 rvh13 h13 => ?_)
          obtain ⟨f13, rfl, rfl, rfl, rfl, rfl, rfl, rgf13, exf13⟩ := h13
          refine c_st (st2 := [.ref f13]) rfl ?_
          have gf13 : el rv (sk 25) (x - 1).toNat = some f13 := exf13
          refine c_cast C ck_6 dX4_nodeBehind_69 w5_149 w8_169t rgf13 rfl rfl (by decide) ?_
          refine c_astore (lv2 := [(5, .ref f13), (4, .int (iI 1)), (3, .int (iI dq1)), (0, .ref a0), (1, .int (iI i)), (2, .int (iI x))]) C dX4_nodeBehind_72 (by decide) rfl ?_
          refine c_aload_n (j := 3) (x := a0) C dX4_nodeBehind_74 rfl ?_
          refine c_aload (j := 0) (x := f13) C dX4_nodeBehind_75 rfl ?_
          refine c_iload_n (j := 2) C dX4_nodeBehind_77 rfl ?_
          refine d_callV (As := [.ref f13, .int (iI dq1)]) (rest := []) C hM (C_looksLikeRow (a0 := a0) (a1 := f13) (i := dq1) hW hS t_a0 rgf13 (by omega) (by show 0 ≤ dq1 ∧ dq1 ≤ 1000; omega)) dX4_nodeBehind_78 kV_X4_116 rfl t_a0 rfl rfl (by decide) ck_5 rfl (Nat.le_of_ble_eq_true rfl) ⟨(Nat.le_of_ble_eq_true rfl), (Nat.le_of_ble_eq_true rfl)⟩ hph hph (show 0 + 0 = 0 from rfl) (by decide) (fun rh14 Lh14 clh14 lnh14 ivh14 rvh14 h14 => ?_)
          obtain ⟨f14, rfl, rfl, rfl, rfl, rfl, rfl, rgf14, exf14⟩ := h14
          refine c_st (st2 := [.int (iI f14)]) rfl ?_
          have gf14 : f14 = 1 ↔ LRw ln iv rv a0 f13 dq1 := exf14
          refine c_if_eq (tgt := 97) C ⟨by omega, by omega⟩ dX4_nodeBehind_81 (by decide) (fun c11 => ?_) (fun c11 => ?_)
          · refine c_iconst C dX4_nodeBehind_97 ?_
            exact c_iret C dX4_nodeBehind_98 rfl (by decide) (rom0 hph hph (by decide)) ⟨(-1), rfl, rfl, rfl, rfl, rfl, rfl, ⟨by decide, by decide⟩, (by rw [← hdq1]; exact Or.inl ⟨rfl, GD.no1 (by omega) (Or.inr ⟨fun q => absurd (hb1zz7.mp q) (by omega), exf13⟩) (fun q _ => absurd (gf14.mpr q) (by omega))⟩)⟩
          · refine c_iload (j := 1) C dX4_nodeBehind_84 rfl ?_
            refine c_if_eq (tgt := 99) C ⟨by decide, by decide⟩ dX4_nodeBehind_86 (by decide) (fun z => absurd z (by omega)) (fun _ => ?_)
            refine c_aload (j := 0) (x := f13) C dX4_nodeBehind_89 rfl ?_
            refine d_callV (As := []) (rest := []) C hM (C_bsmall (a0 := f13) hW hS rgf13  ) dX4_nodeBehind_91 kV_X4_120 rfl rgf13 rfl rfl (by decide) ck_6 rfl (Nat.le_of_ble_eq_true rfl) ⟨(Nat.le_of_ble_eq_true rfl), (Nat.le_of_ble_eq_true rfl)⟩ hph hph (show 0 + 0 = 0 from rfl) (by decide) (fun rh15 Lh15 clh15 lnh15 ivh15 rvh15 h15 => ?_)
            obtain ⟨f15, rfl, rfl, rfl, rfl, rfl, rfl, rgf15, exf15⟩ := h15
            refine c_st (st2 := [.int (iI f15)]) rfl ?_
            have gf15 : f15 = 1 ↔ BSw ln iv rv f13 := exf15
            refine c_if_ne (tgt := 99) C ⟨by omega, by omega⟩ dX4_nodeBehind_94 (by decide) (fun c12 => ?_) (fun c12 => ?_)
            · refine c_iload_n (j := 4) C dX4_nodeBehind_99 rfl ?_
              refine c_iconst C dX4_nodeBehind_100 ?_
              obtain ⟨zz10, hzz10, ezz10⟩ := iI_of (iI i &&& iI 1)
              refine c_iand (w := iI zz10) C dX4_nodeBehind_101 ezz10 ?_
              have bazz10 := and1 ezz10 hzz10
              refine c_istore (lv2 := [(6, .int (iI zz10)), (5, .ref f13), (4, .int (iI 1)), (3, .int (iI dq1)), (0, .ref a0), (1, .int (iI i)), (2, .int (iI x))]) C dX4_nodeBehind_102 (by decide) rfl ?_
              refine c_aload (j := 1) (x := f13) C dX4_nodeBehind_104 rfl ?_
              have ri8 : (-2147483648) ≤ iv f13 0 ∧ iv f13 0 ≤ 2147483647 := hW.int rgf13 0
              refine c_get (k := 0) C ck_6 dX4_nodeBehind_106 w3_136 (by decide) rgf13 rfl rfl (by decide) rfl ?_
              rcases (show (iv f13 0) = 0 ∨ (iv f13 0) = 1 ∨ (iv f13 0) = 2 ∨ (iv f13 0) = 3 ∨ ((iv f13 0) < 0 ∨ 3 < (iv f13 0)) by omega) with sw4 | sw4 | sw4 | sw4 | sw4
              · refine c_tabIn (tgt := 140) (off := 31) C (r32_c (lo := (-2147483648)) (hi := 2147483647) ri8.1 ri8.2 (by decide) (by decide)) dX4_nodeBehind_109 (by omega) (by omega) (by rw [sw4]; rfl) (by decide) ?_
                refine c_iload (j := 0) C dX4_nodeBehind_140 rfl ?_
                refine c_iconst C dX4_nodeBehind_142 ?_
                obtain ⟨zz11, hzz11, ezz11⟩ := iI_of (iI zz10 ||| iI 2)
                refine c_ior (w := iI zz11) C dX4_nodeBehind_143 ezz11 ?_
                have bozz11 := or2 bazz10 ezz11 hzz11
                refine c_istore (lv2 := [(6, .int (iI zz11)), (5, .ref f13), (4, .int (iI 1)), (3, .int (iI dq1)), (0, .ref a0), (1, .int (iI i)), (2, .int (iI x))]) C dX4_nodeBehind_144 (by decide) rfl ?_
                refine c_goto (tgt := 161) C dX4_nodeBehind_146 (by decide) ?_
                refine c_iload_n (j := 3) C dX4_nodeBehind_161 rfl ?_
                refine c_aload (j := 1) (x := f13) C dX4_nodeBehind_162 rfl ?_
                obtain ⟨rb18, rq18, trb18⟩ := hW.ref rgf13 2 rfl rfl rfl
                have lnrb18 : 1 ≤ ln rb18 ∧ ln rb18 ≤ 4 := hW.len trb18 rfl
                refine c_getr (k := 2) C ck_6 dX4_nodeBehind_164 w3_144 (by decide) rgf13 rfl rfl (by decide) rfl rq18 ?_
                refine c_st (st2 := [.ref rb18, .int (iI dq1)]) rfl ?_
                have ll16 : 1 ≤ ln rb18 ∧ ln rb18 ≤ 4 := hW.len trb18 rfl
                refine c_alenI C dX4_nodeBehind_167 trb18 rfl ?_
                refine c_iadd C dX4_nodeBehind_168 ?_
                refine c_iconst C dX4_nodeBehind_169 ?_
                refine c_imul C dX4_nodeBehind_170 ?_
                refine c_iload (j := 0) C dX4_nodeBehind_171 rfl ?_
                refine c_iadd C dX4_nodeBehind_173 ?_
                have up9 := (gf14.mp (by omega) rb18 rq18 (ln rb18 - 1) (by omega)).1
                exact c_iret C dX4_nodeBehind_174 rfl (by decide) (rom0 hph hph (by decide)) ⟨(((dq1 + ((ln rb18 : Nat) : Int)) * 4) + zz11), rfl, rfl, rfl, rfl, rfl, rfl, ⟨by omega, by omega⟩, (by rw [← hdq1]; exact Or.inr ⟨GD.mk1 (by omega) (Or.inr ⟨fun q => absurd (hb1zz7.mp q) (by omega), exf13⟩) (gf14.mp (by omega)) (Or.inr (gf15.mp (by omega))), by omega⟩)⟩
              · refine c_tabIn (tgt := 161) (off := 52) C (r32_c (lo := (-2147483648)) (hi := 2147483647) ri8.1 ri8.2 (by decide) (by decide)) dX4_nodeBehind_109 (by omega) (by omega) (by rw [sw4]; rfl) (by decide) ?_
                refine c_iload_n (j := 3) C dX4_nodeBehind_161 rfl ?_
                refine c_aload (j := 1) (x := f13) C dX4_nodeBehind_162 rfl ?_
                obtain ⟨rb19, rq19, trb19⟩ := hW.ref rgf13 2 rfl rfl rfl
                have lnrb19 : 1 ≤ ln rb19 ∧ ln rb19 ≤ 4 := hW.len trb19 rfl
                refine c_getr (k := 2) C ck_6 dX4_nodeBehind_164 w3_144 (by decide) rgf13 rfl rfl (by decide) rfl rq19 ?_
                refine c_st (st2 := [.ref rb19, .int (iI dq1)]) rfl ?_
                have ll17 : 1 ≤ ln rb19 ∧ ln rb19 ≤ 4 := hW.len trb19 rfl
                refine c_alenI C dX4_nodeBehind_167 trb19 rfl ?_
                refine c_iadd C dX4_nodeBehind_168 ?_
                refine c_iconst C dX4_nodeBehind_169 ?_
                refine c_imul C dX4_nodeBehind_170 ?_
                refine c_iload (j := 0) C dX4_nodeBehind_171 rfl ?_
                refine c_iadd C dX4_nodeBehind_173 ?_
                have up9 := (gf14.mp (by omega) rb19 rq19 (ln rb19 - 1) (by omega)).1
                exact c_iret C dX4_nodeBehind_174 rfl (by decide) (rom0 hph hph (by decide)) ⟨(((dq1 + ((ln rb19 : Nat) : Int)) * 4) + zz10), rfl, rfl, rfl, rfl, rfl, rfl, ⟨by omega, by omega⟩, (by rw [← hdq1]; exact Or.inr ⟨GD.mk1 (by omega) (Or.inr ⟨fun q => absurd (hb1zz7.mp q) (by omega), exf13⟩) (gf14.mp (by omega)) (Or.inr (gf15.mp (by omega))), by omega⟩)⟩
              · refine c_tabIn (tgt := 149) (off := 40) C (r32_c (lo := (-2147483648)) (hi := 2147483647) ri8.1 ri8.2 (by decide) (by decide)) dX4_nodeBehind_109 (by omega) (by omega) (by rw [sw4]; rfl) (by decide) ?_
                refine c_iconst C dX4_nodeBehind_149 ?_
                refine c_istore (lv2 := [(6, .int (iI 1)), (5, .ref f13), (4, .int (iI 1)), (3, .int (iI dq1)), (0, .ref a0), (1, .int (iI i)), (2, .int (iI x))]) C dX4_nodeBehind_150 (by decide) rfl ?_
                refine c_goto (tgt := 161) C dX4_nodeBehind_152 (by decide) ?_
                refine c_iload_n (j := 3) C dX4_nodeBehind_161 rfl ?_
                refine c_aload (j := 1) (x := f13) C dX4_nodeBehind_162 rfl ?_
                obtain ⟨rb20, rq20, trb20⟩ := hW.ref rgf13 2 rfl rfl rfl
                have lnrb20 : 1 ≤ ln rb20 ∧ ln rb20 ≤ 4 := hW.len trb20 rfl
                refine c_getr (k := 2) C ck_6 dX4_nodeBehind_164 w3_144 (by decide) rgf13 rfl rfl (by decide) rfl rq20 ?_
                refine c_st (st2 := [.ref rb20, .int (iI dq1)]) rfl ?_
                have ll18 : 1 ≤ ln rb20 ∧ ln rb20 ≤ 4 := hW.len trb20 rfl
                refine c_alenI C dX4_nodeBehind_167 trb20 rfl ?_
                refine c_iadd C dX4_nodeBehind_168 ?_
                refine c_iconst C dX4_nodeBehind_169 ?_
                refine c_imul C dX4_nodeBehind_170 ?_
                refine c_iload (j := 0) C dX4_nodeBehind_171 rfl ?_
                refine c_iadd C dX4_nodeBehind_173 ?_
                have up9 := (gf14.mp (by omega) rb20 rq20 (ln rb20 - 1) (by omega)).1
                exact c_iret C dX4_nodeBehind_174 rfl (by decide) (rom0 hph hph (by decide)) ⟨(((dq1 + ((ln rb20 : Nat) : Int)) * 4) + 1), rfl, rfl, rfl, rfl, rfl, rfl, ⟨by omega, by omega⟩, (by rw [← hdq1]; exact Or.inr ⟨GD.mk1 (by omega) (Or.inr ⟨fun q => absurd (hb1zz7.mp q) (by omega), exf13⟩) (gf14.mp (by omega)) (Or.inr (gf15.mp (by omega))), by omega⟩)⟩
              · refine c_tabIn (tgt := 155) (off := 46) C (r32_c (lo := (-2147483648)) (hi := 2147483647) ri8.1 ri8.2 (by decide) (by decide)) dX4_nodeBehind_109 (by omega) (by omega) (by rw [sw4]; rfl) (by decide) ?_
                refine c_iconst C dX4_nodeBehind_155 ?_
                refine c_istore (lv2 := [(6, .int (iI 0)), (5, .ref f13), (4, .int (iI 1)), (3, .int (iI dq1)), (0, .ref a0), (1, .int (iI i)), (2, .int (iI x))]) C dX4_nodeBehind_156 (by decide) rfl ?_
                refine c_goto (tgt := 161) C dX4_nodeBehind_158 (by decide) ?_
                refine c_iload_n (j := 3) C dX4_nodeBehind_161 rfl ?_
                refine c_aload (j := 1) (x := f13) C dX4_nodeBehind_162 rfl ?_
                obtain ⟨rb21, rq21, trb21⟩ := hW.ref rgf13 2 rfl rfl rfl
                have lnrb21 : 1 ≤ ln rb21 ∧ ln rb21 ≤ 4 := hW.len trb21 rfl
                refine c_getr (k := 2) C ck_6 dX4_nodeBehind_164 w3_144 (by decide) rgf13 rfl rfl (by decide) rfl rq21 ?_
                refine c_st (st2 := [.ref rb21, .int (iI dq1)]) rfl ?_
                have ll19 : 1 ≤ ln rb21 ∧ ln rb21 ≤ 4 := hW.len trb21 rfl
                refine c_alenI C dX4_nodeBehind_167 trb21 rfl ?_
                refine c_iadd C dX4_nodeBehind_168 ?_
                refine c_iconst C dX4_nodeBehind_169 ?_
                refine c_imul C dX4_nodeBehind_170 ?_
                refine c_iload (j := 0) C dX4_nodeBehind_171 rfl ?_
                refine c_iadd C dX4_nodeBehind_173 ?_
                have up9 := (gf14.mp (by omega) rb21 rq21 (ln rb21 - 1) (by omega)).1
                exact c_iret C dX4_nodeBehind_174 rfl (by decide) (rom0 hph hph (by decide)) ⟨(((dq1 + ((ln rb21 : Nat) : Int)) * 4) + 0), rfl, rfl, rfl, rfl, rfl, rfl, ⟨by omega, by omega⟩, (by rw [← hdq1]; exact Or.inr ⟨GD.mk1 (by omega) (Or.inr ⟨fun q => absurd (hb1zz7.mp q) (by omega), exf13⟩) (gf14.mp (by omega)) (Or.inr (gf15.mp (by omega))), by omega⟩)⟩
              · refine c_tabOut (tgt := 161) C (r32_c (lo := (-2147483648)) (hi := 2147483647) ri8.1 ri8.2 (by decide) (by decide)) dX4_nodeBehind_109 sw4 (by decide) ?_
                refine c_iload_n (j := 3) C dX4_nodeBehind_161 rfl ?_
                refine c_aload (j := 1) (x := f13) C dX4_nodeBehind_162 rfl ?_
                obtain ⟨rb22, rq22, trb22⟩ := hW.ref rgf13 2 rfl rfl rfl
                have lnrb22 : 1 ≤ ln rb22 ∧ ln rb22 ≤ 4 := hW.len trb22 rfl
                refine c_getr (k := 2) C ck_6 dX4_nodeBehind_164 w3_144 (by decide) rgf13 rfl rfl (by decide) rfl rq22 ?_
                refine c_st (st2 := [.ref rb22, .int (iI dq1)]) rfl ?_
                have ll20 : 1 ≤ ln rb22 ∧ ln rb22 ≤ 4 := hW.len trb22 rfl
                refine c_alenI C dX4_nodeBehind_167 trb22 rfl ?_
                refine c_iadd C dX4_nodeBehind_168 ?_
                refine c_iconst C dX4_nodeBehind_169 ?_
                refine c_imul C dX4_nodeBehind_170 ?_
                refine c_iload (j := 0) C dX4_nodeBehind_171 rfl ?_
                refine c_iadd C dX4_nodeBehind_173 ?_
                have up9 := (gf14.mp (by omega) rb22 rq22 (ln rb22 - 1) (by omega)).1
                exact c_iret C dX4_nodeBehind_174 rfl (by decide) (rom0 hph hph (by decide)) ⟨(((dq1 + ((ln rb22 : Nat) : Int)) * 4) + zz10), rfl, rfl, rfl, rfl, rfl, rfl, ⟨by omega, by omega⟩, (by rw [← hdq1]; exact Or.inr ⟨GD.mk1 (by omega) (Or.inr ⟨fun q => absurd (hb1zz7.mp q) (by omega), exf13⟩) (gf14.mp (by omega)) (Or.inr (gf15.mp (by omega))), by omega⟩)⟩
            · refine c_iconst C dX4_nodeBehind_97 ?_
              exact c_iret C dX4_nodeBehind_98 rfl (by decide) (rom0 hph hph (by decide)) ⟨(-1), rfl, rfl, rfl, rfl, rfl, rfl, ⟨by decide, by decide⟩, (by rw [← hdq1]; exact Or.inl ⟨rfl, GD.no1 (by omega) (Or.inr ⟨fun q => absurd (hb1zz7.mp q) (by omega), exf13⟩) (fun _ q => q.elim (fun q => absurd (hb2zz1.mp q) (by omega)) (fun q2 => absurd (gf15.mpr q2) (by omega)))⟩)⟩
    · refine c_iload (j := 0) C dX4_nodeBehind_21 rfl ?_
      refine c_if_ne (tgt := 35) C ⟨by decide, by decide⟩ dX4_nodeBehind_23 (by decide) (fun _ => ?_) (fun z => absurd z (by omega))
      refine c_iconst C dX4_nodeBehind_35 ?_
      refine c_goto (tgt := 44) C dX4_nodeBehind_36 (by decide) ?_
      exact c_iret C dX4_nodeBehind_44 rfl (by decide) (rom0 hph hph (by decide)) ⟨(-1), rfl, rfl, rfl, rfl, rfl, rfl, ⟨by decide, by decide⟩, (by rw [← hdq1]; exact Or.inl ⟨rfl, GD.no0 (by omega) (fun q _ => (fun q => absurd (hb2zz1.mp q) (by omega)) q)⟩)⟩
set_option maxHeartbeats 4000000 in
set_option maxRecDepth 100000 in
theorem C_nextChoice {l : Launch} {G : GT} {mi : Nat} {sk : Nat → Nat} {L : List Nat} {cl ln : Nat → Nat} {iv : Nat → Nat → Int} {rv : Nat → Nat → Option Nat}  {a0 : Nat} {i : Int} {x : Int} (hW : WT (g0 G) sk L cl ln iv rv) (hS : SKL sk L cl) (t_a0 : ty L cl a0 17) (h_i : -2147483648 ≤ i ∧ i ≤ 2147483647) (h_x : -2147483648 ≤ x ∧ x ≤ 2147483647) (hi : 0 ≤ i ∧ i ≤ 403 ∧ 0 ≤ x) : Mc l G mi (Phi (g0 G) sk) PHM yX4_nextChoice cX4_nextChoice 6 (some .int) 4 [.ref a0, .int (iI i), .int (iI x)] L cl ln iv rv 0 (fun v L2 cl2 ln2 iv2 rv2 => ∃ f : Int, v = some (.int (iI f)) ∧ L = L2 ∧ cl = cl2 ∧ ln = ln2 ∧ iv = iv2 ∧ rv = rv2 ∧ (-2147483648 ≤ f ∧ f ≤ 2147483647) ∧ (f = -1 ∨ (x ≤ f ∧ VL sk iv i f ∧ GD sk ln iv rv a0 i (i / 4) f))) := by
  refine Mc.mk (by decide) (Nat.le_of_ble_eq_true rfl) ?_
  intro p e s m args below meth c A C hM
  refine hv7 (Phi.le hW hS) (show ty L cl (sk 11) 11 from ⟨(hS 11 rfl).1, by rw [(hS 11 rfl).2]; rfl⟩) (show ty L cl (sk 16) 16 from ⟨(hS 16 rfl).1, by rw [(hS 16 rfl).2]; rfl⟩) (show ty L cl (sk 24) 24 from ⟨(hS 24 rfl).1, by rw [(hS 24 rfl).2]; rfl⟩) (show ty L cl (sk 25) 25 from ⟨(hS 25 rfl).1, by rw [(hS 25 rfl).2]; rfl⟩) (show XT L cl ln L cl ln from XT.refl) (show fT [] L cl iv rv iv rv from fT.refl) (fun hph tsk11 tsk16 tsk24 tsk25 hX0 hF0 => ?_)
  refine c_aload_n (j := 0) (x := a0) C dX4_nextChoice_0 rfl ?_
  obtain ⟨rb1, rq1, trb1⟩ := hW.ref t_a0 7 rfl rfl rfl
  have erb1 := hW.sk trb1 (by decide) rfl
  subst erb1
  refine c_getr (k := 7) C ck_5 dX4_nextChoice_1 w1_238 (by decide) t_a0 rfl rfl (by decide) rfl rq1 ?_
  refine c_st (st2 := [.ref (sk 16)]) rfl ?_
  refine c_iload_n (j := 1) C dX4_nextChoice_4 rfl ?_
  refine c_iconst C dX4_nextChoice_5 ?_
  obtain ⟨zz1, hzz1, ezz1⟩ := iI_of (iI i &&& iI 1)
  refine c_iand (w := iI zz1) C dX4_nextChoice_6 ezz1 ?_
  have hb1zz1 := bz_iff ezz1 hzz1
  refine c_if_eq (tgt := 14) C ⟨by omega, by omega⟩ dX4_nextChoice_7 (by decide) (fun c1 => ?_) (fun c1 => ?_)
  · refine c_iconst C dX4_nextChoice_14 ?_
    refine d_callV (As := [.int (iI 0)]) (rest := []) C hM (C_rowsOf (a0 := (sk 16)) (g := 0) hW hS tsk16 ⟨by decide, by decide⟩ ) dX4_nextChoice_15 kV_X4_95 rfl tsk16 rfl rfl (by decide) ck_4 rfl (Nat.le_of_ble_eq_true rfl) ⟨(Nat.le_of_ble_eq_true rfl), (Nat.le_of_ble_eq_true rfl)⟩ hph hph (show 0 + 0 = 0 from rfl) (by decide) (fun rh1 Lh1 clh1 lnh1 ivh1 rvh1 h1 => ?_)
    obtain ⟨f1, rfl, rfl, rfl, rfl, rfl, rfl, rgf1, exf1⟩ := h1
    refine c_st (st2 := [.ref f1]) rfl ?_
    rcases exf1 with exf1 | exf1
    · obtain ⟨hf1, rfl⟩ := exf1
      refine c_st (st2 := [.ref (sk 24)]) rfl ?_
      have ri1 : 0 ≤ iv (sk 24) 2 ∧ iv (sk 24) 2 ≤ 6003 := hW.int tsk24 2
      refine d_callV (As := []) (rest := []) C hM (C_size_24 (a0 := (sk 24)) hW hS tsk24  ) dX4_nextChoice_18 kV_X4_101 rfl tsk24 rfl rfl (by decide) ck_0 rfl (Nat.le_of_ble_eq_true rfl) ⟨(Nat.le_of_ble_eq_true rfl), (Nat.le_of_ble_eq_true rfl)⟩ hph hph (show 0 + 0 = 0 from rfl) (by decide) (fun rh2 Lh2 clh2 lnh2 ivh2 rvh2 h2 => ?_)
      obtain ⟨f2, rfl, rfl, rfl, rfl, rfl, rfl, rgf2, exf2⟩ := h2
      refine c_st (st2 := [.int (iI f2)]) rfl ?_
      have gf2 : f2 = iv (sk 24) 2 := exf2
      refine c_istore_n (lv2 := [(3, .int (iI f2)), (0, .ref a0), (1, .int (iI i)), (2, .int (iI x))]) C dX4_nextChoice_21 (by decide) rfl ?_
      refine c_iload_n (j := 3) C dX4_nextChoice_22 rfl ?_
      refine c_istore (lv2 := [(4, .int (iI x)), (3, .int (iI f2)), (0, .ref a0), (1, .int (iI i)), (2, .int (iI x))]) C dX4_nextChoice_23 (by decide) rfl ?_
      have Lp1 : ∀ (nn : Nat) (k : Int) , max 0 (6004 - k) < (nn : Int) → (x ≤ k ∧ k ≤ 2147483647) → cw p l e 4 ((PHM) + 0 - ((Phi (g0 G) sk) ln rv)) s m args below meth c G A 6 (MQ below (Qu G A (Qp G (Phi (g0 G) sk) ((Phi (g0 G) sk) ln rv) 0 (fun v L2 cl2 ln2 iv2 rv2 => ∃ f : Int, v = some (.int (iI f)) ∧ L = L2 ∧ cl = cl2 ∧ ln = ln2 ∧ iv = iv2 ∧ rv = rv2 ∧ (-2147483648 ≤ f ∧ f ≤ 2147483647) ∧ (f = -1 ∨ (x ≤ f ∧ VL sk iv i f ∧ GD sk ln iv rv a0 i (i / 4) f))))) args s (((PHM) + 0 - ((Phi (g0 G) sk) ln rv)) / 16) ((PHM) + 0 - ((Phi (g0 G) sk) ln rv)) A) (Phi (g0 G) sk) ((Phi (g0 G) sk) ln rv) L cl ln iv rv 0 25 [(4, .int (iI k)), (3, .int (iI f2)), (0, .ref a0), (1, .int (iI i)), (2, .int (iI x))] [] := by
        intro nn
        induction nn with
        | zero =>
          intro  k  hm   hk
          exact absurd hm (by omega)
        | succ nn ih1 =>
          intro  k  hm   hk
          refine c_iload (j := 0) C dX4_nextChoice_25 rfl ?_
          refine c_iload_n (j := 1) C dX4_nextChoice_27 rfl ?_
          refine c_icmp_gt (tgt := 64) C ⟨by omega, by omega⟩ ⟨by omega, by omega⟩ dX4_nextChoice_28 (by decide) (fun c2 => ?_) (fun c2 => ?_)
          · refine c_iconst C dX4_nextChoice_64 ?_
            exact c_iret C dX4_nextChoice_65 rfl (by decide) (rom0 hph hph (by decide)) ⟨(-1), rfl, rfl, rfl, rfl, rfl, rfl, ⟨by decide, by decide⟩, (Or.inl rfl)⟩
          · refine c_aload_n (j := 2) (x := a0) C dX4_nextChoice_31 rfl ?_
            refine c_iload_n (j := 3) C dX4_nextChoice_32 rfl ?_
            refine c_iload (j := 0) C dX4_nextChoice_33 rfl ?_
            have ri2 : 0 ≤ iv a0 9 ∧ iv a0 9 ≤ 100 := hW.int t_a0 9
            refine d_callV (As := [.int (iI i), .int (iI k)]) (rest := []) C hM (C_nodeBehind (a0 := a0) (i := i) (x := k) hW hS t_a0 (by omega) (by omega) (by show 0 ≤ i ∧ i ≤ 403; omega) (Or.inr (Or.inl ⟨hb1zz1.mpr (by omega), by omega⟩))) dX4_nextChoice_35 kV_X4_92 rfl t_a0 rfl rfl (by decide) ck_5 rfl (Nat.le_of_ble_eq_true rfl) ⟨(Nat.le_of_ble_eq_true rfl), (Nat.le_of_ble_eq_true rfl)⟩ hph hph (show 0 + 0 = 0 from rfl) (by decide) (fun rh3 Lh3 clh3 lnh3 ivh3 rvh3 h3 => ?_)
            obtain ⟨f3, rfl, rfl, rfl, rfl, rfl, rfl, rgf3, exf3⟩ := h3
            refine c_st (st2 := [.int (iI f3)]) rfl ?_
            refine hv2 (show (f3 = -1 ∧ ¬ GD sk ln iv rv a0 i (i / 4) k) ∨ (GD sk ln iv rv a0 i (i / 4) k ∧ 4 * (i / 4) + 4 ≤ f3 ∧ f3 ≤ 4 * iv a0 9 + 3) from exf3) (show f3 = -1 ∨ (4 * (i / 4) + 4 ≤ f3 ∧ f3 ≤ 4 * iv a0 9 + 3) from exf3.elim (fun q => Or.inl q.1) (fun q => Or.inr q.2)) (fun gf3 nqf3 => ?_)
            refine c_istore (lv2 := [(5, .int (iI f3)), (4, .int (iI k)), (3, .int (iI f2)), (0, .ref a0), (1, .int (iI i)), (2, .int (iI x))]) C dX4_nextChoice_38 (by decide) rfl ?_
            refine c_iload (j := 0) C dX4_nextChoice_40 rfl ?_
            refine c_if_lt (tgt := 58) C ⟨by omega, by omega⟩ dX4_nextChoice_42 (by decide) (fun c3 => ?_) (fun c3 => ?_)
            · refine c_iinc (z := k) (j := 1) (lv2 := [(4, .int (iI (k + 1))), (5, .int (iI f3)), (3, .int (iI f2)), (0, .ref a0), (1, .int (iI i)), (2, .int (iI x))]) C dX4_nextChoice_58 rfl (by decide) rfl ?_
              refine c_goto (tgt := 25) C dX4_nextChoice_61 (by decide) ?_
              refine c_lv (lv2 := [(4, .int (iI (k + 1))), (3, .int (iI f2)), (0, .ref a0), (1, .int (iI i)), (2, .int (iI x))]) [0, 2, 3, 4, 5] rfl ?_
              exact ih1  (k + 1)  (by omega)   (by omega)
            · refine c_aload_n (j := 3) (x := a0) C dX4_nextChoice_45 rfl ?_
              obtain ⟨rb2, rq2, trb2⟩ := hW.ref t_a0 0 rfl rfl rfl
              have lnrb2 : 404 ≤ ln rb2 ∧ ln rb2 ≤ 404 := hW.len trb2 rfl
              refine c_getr (k := 0) C ck_5 dX4_nextChoice_46 w1_229 (by decide) t_a0 rfl rfl (by decide) rfl rq2 ?_
              refine c_st (st2 := [.ref rb2]) rfl ?_
              refine c_iload (j := 0) C dX4_nextChoice_49 rfl ?_
              have ll1 : 404 ≤ ln rb2 ∧ ln rb2 ≤ 404 := hW.len trb2 rfl
              refine c_zald C dX4_nextChoice_51 trb2 rfl (by omega) (by omega) (by omega) ?_
              have ri3 : 0 ≤ iv rb2 f3.toNat ∧ iv rb2 f3.toNat ≤ 1 := hW.int trb2 f3.toNat
              refine c_if_eq (tgt := 58) C (r32_c (lo := 0) (hi := 1) ri3.1 ri3.2 (by decide) (by decide)) dX4_nextChoice_52 (by decide) (fun c4 => ?_) (fun c4 => ?_)
              · refine c_iinc (z := k) (j := 1) (lv2 := [(4, .int (iI (k + 1))), (5, .int (iI f3)), (3, .int (iI f2)), (0, .ref a0), (1, .int (iI i)), (2, .int (iI x))]) C dX4_nextChoice_58 rfl (by decide) rfl ?_
                refine c_goto (tgt := 25) C dX4_nextChoice_61 (by decide) ?_
                refine c_lv (lv2 := [(4, .int (iI (k + 1))), (3, .int (iI f2)), (0, .ref a0), (1, .int (iI i)), (2, .int (iI x))]) [0, 2, 3, 4, 5] rfl ?_
                exact ih1  (k + 1)  (by omega)   (by omega)
              · refine c_iload (j := 1) C dX4_nextChoice_55 rfl ?_
                exact c_iret C dX4_nextChoice_57 rfl (by decide) (rom0 hph hph (by decide)) ⟨k, rfl, rfl, rfl, rfl, rfl, rfl, ⟨by omega, by omega⟩, (Or.inr ⟨by omega, (Or.inr (Or.inl ⟨hb1zz1.mpr (by omega), by omega⟩)), (gf3.resolve_left (fun q => absurd q.1 (by omega))).1⟩)⟩
      refine c_lv (lv2 := [(4, .int (iI x)), (3, .int (iI f2)), (0, .ref a0), (1, .int (iI i)), (2, .int (iI x))]) [0, 1, 2, 3, 4] rfl ?_
      exact Lp1 6006 x  (by omega)   (by omega)
    · exact absurd exf1.1 (by decide)
  · refine c_iconst C dX4_nextChoice_10 ?_
    refine c_goto (tgt := 15) C dX4_nextChoice_11 (by decide) ?_
    refine d_callV (As := [.int (iI 1)]) (rest := []) C hM (C_rowsOf (a0 := (sk 16)) (g := 1) hW hS tsk16 ⟨by decide, by decide⟩ ) dX4_nextChoice_15 kV_X4_95 rfl tsk16 rfl rfl (by decide) ck_4 rfl (Nat.le_of_ble_eq_true rfl) ⟨(Nat.le_of_ble_eq_true rfl), (Nat.le_of_ble_eq_true rfl)⟩ hph hph (show 0 + 0 = 0 from rfl) (by decide) (fun rh4 Lh4 clh4 lnh4 ivh4 rvh4 h4 => ?_)
    obtain ⟨f4, rfl, rfl, rfl, rfl, rfl, rfl, rgf4, exf4⟩ := h4
    refine c_st (st2 := [.ref f4]) rfl ?_
    rcases exf4 with exf4 | exf4
    · exact absurd exf4.1 (by decide)
    · obtain ⟨hf4, rfl⟩ := exf4
      refine c_st (st2 := [.ref (sk 25)]) rfl ?_
      have ri4 : 0 ≤ iv (sk 25) 2 ∧ iv (sk 25) 2 ≤ 6003 := hW.int tsk25 2
      refine d_callV (As := []) (rest := []) C hM (C_size_25 (a0 := (sk 25)) hW hS tsk25  ) dX4_nextChoice_18 kV_X4_101 rfl tsk25 rfl rfl (by decide) ck_0 rfl (Nat.le_of_ble_eq_true rfl) ⟨(Nat.le_of_ble_eq_true rfl), (Nat.le_of_ble_eq_true rfl)⟩ hph hph (show 0 + 0 = 0 from rfl) (by decide) (fun rh5 Lh5 clh5 lnh5 ivh5 rvh5 h5 => ?_)
      obtain ⟨f5, rfl, rfl, rfl, rfl, rfl, rfl, rgf5, exf5⟩ := h5
      refine c_st (st2 := [.int (iI f5)]) rfl ?_
      have gf5 : f5 = iv (sk 25) 2 := exf5
      refine c_istore_n (lv2 := [(3, .int (iI f5)), (0, .ref a0), (1, .int (iI i)), (2, .int (iI x))]) C dX4_nextChoice_21 (by decide) rfl ?_
      refine c_iload_n (j := 3) C dX4_nextChoice_22 rfl ?_
      refine c_istore (lv2 := [(4, .int (iI x)), (3, .int (iI f5)), (0, .ref a0), (1, .int (iI i)), (2, .int (iI x))]) C dX4_nextChoice_23 (by decide) rfl ?_
      have Lp2 : ∀ (nn : Nat) (k : Int) , max 0 (6004 - k) < (nn : Int) → (x ≤ k ∧ k ≤ 2147483647) → cw p l e 4 ((PHM) + 0 - ((Phi (g0 G) sk) ln rv)) s m args below meth c G A 6 (MQ below (Qu G A (Qp G (Phi (g0 G) sk) ((Phi (g0 G) sk) ln rv) 0 (fun v L2 cl2 ln2 iv2 rv2 => ∃ f : Int, v = some (.int (iI f)) ∧ L = L2 ∧ cl = cl2 ∧ ln = ln2 ∧ iv = iv2 ∧ rv = rv2 ∧ (-2147483648 ≤ f ∧ f ≤ 2147483647) ∧ (f = -1 ∨ (x ≤ f ∧ VL sk iv i f ∧ GD sk ln iv rv a0 i (i / 4) f))))) args s (((PHM) + 0 - ((Phi (g0 G) sk) ln rv)) / 16) ((PHM) + 0 - ((Phi (g0 G) sk) ln rv)) A) (Phi (g0 G) sk) ((Phi (g0 G) sk) ln rv) L cl ln iv rv 0 25 [(4, .int (iI k)), (3, .int (iI f5)), (0, .ref a0), (1, .int (iI i)), (2, .int (iI x))] [] := by
        intro nn
        induction nn with
        | zero =>
          intro  k  hm   hk
          exact absurd hm (by omega)
        | succ nn ih2 =>
          intro  k  hm   hk
          refine c_iload (j := 0) C dX4_nextChoice_25 rfl ?_
          refine c_iload_n (j := 1) C dX4_nextChoice_27 rfl ?_
          refine c_icmp_gt (tgt := 64) C ⟨by omega, by omega⟩ ⟨by omega, by omega⟩ dX4_nextChoice_28 (by decide) (fun c5 => ?_) (fun c5 => ?_)
          · refine c_iconst C dX4_nextChoice_64 ?_
            exact c_iret C dX4_nextChoice_65 rfl (by decide) (rom0 hph hph (by decide)) ⟨(-1), rfl, rfl, rfl, rfl, rfl, rfl, ⟨by decide, by decide⟩, (Or.inl rfl)⟩
          · refine c_aload_n (j := 2) (x := a0) C dX4_nextChoice_31 rfl ?_
            refine c_iload_n (j := 3) C dX4_nextChoice_32 rfl ?_
            refine c_iload (j := 0) C dX4_nextChoice_33 rfl ?_
            have ri5 : 0 ≤ iv a0 9 ∧ iv a0 9 ≤ 100 := hW.int t_a0 9
            refine d_callV (As := [.int (iI i), .int (iI k)]) (rest := []) C hM (C_nodeBehind (a0 := a0) (i := i) (x := k) hW hS t_a0 (by omega) (by omega) (by show 0 ≤ i ∧ i ≤ 403; omega) (Or.inr (Or.inr ⟨fun q => absurd (hb1zz1.mp q) (by omega), by omega⟩))) dX4_nextChoice_35 kV_X4_92 rfl t_a0 rfl rfl (by decide) ck_5 rfl (Nat.le_of_ble_eq_true rfl) ⟨(Nat.le_of_ble_eq_true rfl), (Nat.le_of_ble_eq_true rfl)⟩ hph hph (show 0 + 0 = 0 from rfl) (by decide) (fun rh6 Lh6 clh6 lnh6 ivh6 rvh6 h6 => ?_)
            obtain ⟨f6, rfl, rfl, rfl, rfl, rfl, rfl, rgf6, exf6⟩ := h6
            refine c_st (st2 := [.int (iI f6)]) rfl ?_
            refine hv2 (show (f6 = -1 ∧ ¬ GD sk ln iv rv a0 i (i / 4) k) ∨ (GD sk ln iv rv a0 i (i / 4) k ∧ 4 * (i / 4) + 4 ≤ f6 ∧ f6 ≤ 4 * iv a0 9 + 3) from exf6) (show f6 = -1 ∨ (4 * (i / 4) + 4 ≤ f6 ∧ f6 ≤ 4 * iv a0 9 + 3) from exf6.elim (fun q => Or.inl q.1) (fun q => Or.inr q.2)) (fun gf6 nqf6 => ?_)
            refine c_istore (lv2 := [(5, .int (iI f6)), (4, .int (iI k)), (3, .int (iI f5)), (0, .ref a0), (1, .int (iI i)), (2, .int (iI x))]) C dX4_nextChoice_38 (by decide) rfl ?_
            refine c_iload (j := 0) C dX4_nextChoice_40 rfl ?_
            refine c_if_lt (tgt := 58) C ⟨by omega, by omega⟩ dX4_nextChoice_42 (by decide) (fun c6 => ?_) (fun c6 => ?_)
            · refine c_iinc (z := k) (j := 1) (lv2 := [(4, .int (iI (k + 1))), (5, .int (iI f6)), (3, .int (iI f5)), (0, .ref a0), (1, .int (iI i)), (2, .int (iI x))]) C dX4_nextChoice_58 rfl (by decide) rfl ?_
              refine c_goto (tgt := 25) C dX4_nextChoice_61 (by decide) ?_
              refine c_lv (lv2 := [(4, .int (iI (k + 1))), (3, .int (iI f5)), (0, .ref a0), (1, .int (iI i)), (2, .int (iI x))]) [0, 2, 3, 4, 5] rfl ?_
              exact ih2  (k + 1)  (by omega)   (by omega)
            · refine c_aload_n (j := 3) (x := a0) C dX4_nextChoice_45 rfl ?_
              obtain ⟨rb3, rq3, trb3⟩ := hW.ref t_a0 0 rfl rfl rfl
              have lnrb3 : 404 ≤ ln rb3 ∧ ln rb3 ≤ 404 := hW.len trb3 rfl
              refine c_getr (k := 0) C ck_5 dX4_nextChoice_46 w1_229 (by decide) t_a0 rfl rfl (by decide) rfl rq3 ?_
              refine c_st (st2 := [.ref rb3]) rfl ?_
              refine c_iload (j := 0) C dX4_nextChoice_49 rfl ?_
              have ll2 : 404 ≤ ln rb3 ∧ ln rb3 ≤ 404 := hW.len trb3 rfl
              refine c_zald C dX4_nextChoice_51 trb3 rfl (by omega) (by omega) (by omega) ?_
              have ri6 : 0 ≤ iv rb3 f6.toNat ∧ iv rb3 f6.toNat ≤ 1 := hW.int trb3 f6.toNat
              refine c_if_eq (tgt := 58) C (r32_c (lo := 0) (hi := 1) ri6.1 ri6.2 (by decide) (by decide)) dX4_nextChoice_52 (by decide) (fun c7 => ?_) (fun c7 => ?_)
              · refine c_iinc (z := k) (j := 1) (lv2 := [(4, .int (iI (k + 1))), (5, .int (iI f6)), (3, .int (iI f5)), (0, .ref a0), (1, .int (iI i)), (2, .int (iI x))]) C dX4_nextChoice_58 rfl (by decide) rfl ?_
                refine c_goto (tgt := 25) C dX4_nextChoice_61 (by decide) ?_
                refine c_lv (lv2 := [(4, .int (iI (k + 1))), (3, .int (iI f5)), (0, .ref a0), (1, .int (iI i)), (2, .int (iI x))]) [0, 2, 3, 4, 5] rfl ?_
                exact ih2  (k + 1)  (by omega)   (by omega)
              · refine c_iload (j := 1) C dX4_nextChoice_55 rfl ?_
                exact c_iret C dX4_nextChoice_57 rfl (by decide) (rom0 hph hph (by decide)) ⟨k, rfl, rfl, rfl, rfl, rfl, rfl, ⟨by omega, by omega⟩, (Or.inr ⟨by omega, (Or.inr (Or.inr ⟨fun q => absurd (hb1zz1.mp q) (by omega), by omega⟩)), (gf6.resolve_left (fun q => absurd q.1 (by omega))).1⟩)⟩
      refine c_lv (lv2 := [(4, .int (iI x)), (3, .int (iI f5)), (0, .ref a0), (1, .int (iI i)), (2, .int (iI x))]) [0, 1, 2, 3, 4] rfl ?_
      exact Lp2 6006 x  (by omega)   (by omega)
