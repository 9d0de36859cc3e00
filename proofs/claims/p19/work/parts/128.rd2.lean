section
set_option maxHeartbeats 4000000 in
set_option maxRecDepth 100000 in
theorem C_nodeBehind {l : Launch} {G : GT} {mi : Nat} {sk : Nat → Nat} {L : List Nat} {cl ln : Nat → Nat} {iv : Nat → Nat → Int} {rv : Nat → Nat → Option Nat}  {a0 : Nat} {i : Int} {x : Int} (hW : WT (g0 G) sk L cl ln iv rv) (hS : SKL sk L cl) (t_a0 : ty L cl a0 17) (h_i : -2147483648 ≤ i ∧ i ≤ 2147483647) (h_x : -2147483648 ≤ x ∧ x ≤ 2147483647) (hi : 0 ≤ i ∧ i ≤ 403) (hx : VL sk iv i x) : Mc l G mi (Phi (g0 G) sk) PHM yX4_nodeBehind cX4_nodeBehind 7 (some .int) 3 [.ref a0, .int (iI i), .int (iI x)] L cl ln iv rv 0 (fun v L2 cl2 ln2 iv2 rv2 => ∃ f : Int, v = some (.int (iI f)) ∧ L = L2 ∧ cl = cl2 ∧ ln = ln2 ∧ iv = iv2 ∧ rv = rv2 ∧ (-2147483648 ≤ f ∧ f ≤ 2147483647) ∧ ((f = -1 ∧ ¬ GD sk ln iv rv a0 i (i / 4) x) ∨ (GD sk ln iv rv a0 i (i / 4) x ∧ 4 * (i / 4) + 4 ≤ f ∧ f ≤ 4 * iv a0 9 + 3))) := by
  refine Mc.mk (by decide) (Nat.le_of_ble_eq_true rfl) ?_
  intro p e s m args below meth c A C hM
  refine hv7 (Phi.le hW hS) (show ty L cl (sk 11) 11 from ⟨(hS 11 rfl).1, by rw [(hS 11 rfl).2]; rfl⟩) (show ty L cl (sk 16) 16 from ⟨(hS 16 rfl).1, by rw [(hS 16 rfl).2]; rfl⟩) (show ty L cl (sk 24) 24 from ⟨(hS 24 rfl).1, by rw [(hS 24 rfl).2]; rfl⟩) (show ty L cl (sk 25) 25 from ⟨(hS 25 rfl).1, by rw [(hS 25 rfl).2]; rfl⟩) (show XT L cl ln L cl ln from XT.refl) (show fT [] L cl iv rv iv rv from fT.refl) (fun hph tsk11 tsk16 tsk24 tsk25 hX0 hF0 => ?_)
  refine c_iload_n (j := 1) C dX4_nodeBehind_0 rfl ?_
  refine c_iconst C dX4_nodeBehind_1 ?_
  obtain ⟨dq1, hdq1⟩ : ∃ q : Int, q = i / 4 := ⟨_, rfl⟩
  refine c_idiv (w := iI dq1) C dX4_nodeBehind_2 (iI_ne0 ⟨by omega, by omega⟩) (by rw [hdq1]; exact iI_div ⟨by omega, by omega⟩ ⟨by omega, by omega⟩) ?_
  refine c_istore_n (lv2 := [(3, .int (iI dq1)), (0, .ref a0), (1, .int (iI i)), (2, .int (iI x))]) C dX4_nodeBehind_3 (by decide) rfl ?_
  refine c_iload_n (j := 2) C dX4_nodeBehind_4 rfl ?_
  refine c_iconst C dX4_nodeBehind_5 ?_
  obtain ⟨zz1, hzz1, ezz1⟩ := iI_of (iI i &&& iI 2)
  refine c_iand (w := iI zz1) C dX4_nodeBehind_6 ezz1 ?_
  have hb2zz1 := bz_iff ezz1 hzz1
  refine c_if_eq (tgt := 14) C ⟨by omega, by omega⟩ dX4_nodeBehind_7 (by decide) (fun c1 => ?_) (fun c1 => ?_)
  · refine c_iconst C dX4_nodeBehind_14 ?_
    refine c_istore (lv2 := [(4, .int (iI 0)), (3, .int (iI dq1)), (0, .ref a0), (1, .int (iI i)), (2, .int (iI x))]) C dX4_nodeBehind_15 (by decide) rfl ?_
    refine c_iload_n (j := 4) C dX4_nodeBehind_17 rfl ?_
    refine c_if_gt (tgt := 45) C ⟨by omega, by omega⟩ dX4_nodeBehind_18 (by decide) (fun c2 => ?_) (fun c2 => ?_)
    · refine c_aload_n (j := 2) (x := a0) C dX4_nodeBehind_45 rfl ?_
      obtain ⟨rb1, rq1, trb1⟩ := hW.ref t_a0 7 rfl rfl rfl
      have erb1 := hW.sk trb1 (by decide) rfl
      subst erb1
      refine c_getr (k := 7) C ck_5 dX4_nodeBehind_46 w1_238 (by decide) t_a0 rfl rfl (by decide) rfl rq1 ?_
      refine c_st (st2 := [.ref (sk 16)]) rfl ?_
      refine c_iload_n (j := 3) C dX4_nodeBehind_49 rfl ?_
      refine c_iconst C dX4_nodeBehind_50 ?_
      obtain ⟨zz2, hzz2, ezz2⟩ := iI_of (iI i &&& iI 1)
      refine c_iand (w := iI zz2) C dX4_nodeBehind_51 ezz2 ?_
      refine hv2 (bz_iff ezz2 hzz2) (hx.zed ezz2 hzz2) (fun hb1zz2 vzzz2 => ?_)
      refine c_if_eq (tgt := 59) C ⟨by omega, by omega⟩ dX4_nodeBehind_52 (by decide) (fun c3 => ?_) (fun c3 => ?_)
      · refine c_iconst C dX4_nodeBehind_59 ?_
        refine d_callV (As := [.int (iI 0)]) (rest := []) C hM (C_rowsOf (a0 := (sk 16)) (g := 0) hW hS tsk16 ⟨by decide, by decide⟩ ) dX4_nodeBehind_60 kV_X4_95 rfl tsk16 rfl rfl (by decide) ck_4 rfl (Nat.le_of_ble_eq_true rfl) ⟨(Nat.le_of_ble_eq_true rfl), (Nat.le_of_ble_eq_true rfl)⟩ hph hph (show 0 + 0 = 0 from rfl) (by decide) (fun rh1 Lh1 clh1 lnh1 ivh1 rvh1 h1 => ?_)
        obtain ⟨f1, rfl, rfl, rfl, rfl, rfl, rfl, rgf1, exf1⟩ := h1
        refine c_st (st2 := [.ref f1]) rfl ?_
        rcases exf1 with exf1 | exf1
        · obtain ⟨hf1, rfl⟩ := exf1
          refine c_st (st2 := [.ref (sk 24)]) rfl ?_
          refine c_iload_n (j := 4) C dX4_nodeBehind_63 rfl ?_
          refine c_iconst C dX4_nodeBehind_64 ?_
          refine c_isub C dX4_nodeBehind_65 ?_
          have ri1 : 0 ≤ iv (sk 24) 2 ∧ iv (sk 24) 2 ≤ 6003 := hW.int tsk24 2
          refine d_callV (As := [.int (iI (x - 1))]) (rest := []) C hM (C_get_24 (a0 := (sk 24)) (i := x - 1) hW hS tsk24 (by omega) (by show 0 ≤ (x - 1) ∧ (x - 1) < iv (sk 24) 2; omega)) dX4_nodeBehind_66 kV_X4_110 rfl tsk24 rfl rfl (by decide) ck_0 rfl (Nat.le_of_ble_eq_true rfl) ⟨(Nat.le_of_ble_eq_true rfl), (Nat.le_of_ble_eq_true rfl)⟩ hph hph (show 0 + 0 = 0 from rfl) (by decide) (fun rh2 Lh2 clh2 lnh2 ivh2 rvh2 h2 => ?_)
          obtain ⟨f2, rfl, rfl, rfl, rfl, rfl, rfl, rgf2, exf2⟩ := h2
          refine c_st (st2 := [.ref f2]) rfl ?_
          have gf2 : el rv (sk 24) (x - 1).toNat = some f2 := exf2
          refine c_cast C ck_6 dX4_nodeBehind_69 w5_149 w8_169t rgf2 rfl rfl (by decide) ?_
          refine c_astore (lv2 := [(5, .ref f2), (4, .int (iI 0)), (3, .int (iI dq1)), (0, .ref a0), (1, .int (iI i)), (2, .int (iI x))]) C dX4_nodeBehind_72 (by decide) rfl ?_
          refine c_aload_n (j := 3) (x := a0) C dX4_nodeBehind_74 rfl ?_
          refine c_aload (j := 0) (x := f2) C dX4_nodeBehind_75 rfl ?_
          refine c_iload_n (j := 2) C dX4_nodeBehind_77 rfl ?_
          refine d_callV (As := [.ref f2, .int (iI dq1)]) (rest := []) C hM (C_looksLikeRow (a0 := a0) (a1 := f2) (i := dq1) hW hS t_a0 rgf2 (by omega) (by show 0 ≤ dq1 ∧ dq1 ≤ 1000; omega)) dX4_nodeBehind_78 kV_X4_116 rfl t_a0 rfl rfl (by decide) ck_5 rfl (Nat.le_of_ble_eq_true rfl) ⟨(Nat.le_of_ble_eq_true rfl), (Nat.le_of_ble_eq_true rfl)⟩ hph hph (show 0 + 0 = 0 from rfl) (by decide) (fun rh3 Lh3 clh3 lnh3 ivh3 rvh3 h3 => ?_)
          obtain ⟨f3, rfl, rfl, rfl, rfl, rfl, rfl, rgf3, exf3⟩ := h3
          refine c_st (st2 := [.int (iI f3)]) rfl ?_
          have gf3 : f3 = 1 ↔ LRw ln iv rv a0 f2 dq1 := exf3
          refine c_if_eq (tgt := 97) C ⟨by omega, by omega⟩ dX4_nodeBehind_81 (by decide) (fun c4 => ?_) (fun c4 => ?_)
          · refine c_iconst C dX4_nodeBehind_97 ?_
            exact c_iret C dX4_nodeBehind_98 rfl (by decide) (rom0 hph hph (by decide)) ⟨(-1), rfl, rfl, rfl, rfl, rfl, rfl, ⟨by decide, by decide⟩, (by rw [← hdq1]; exact Or.inl ⟨rfl, GD.no1 (by omega) (Or.inl ⟨hb1zz2.mpr (by omega), exf2⟩) (fun q _ => absurd (gf3.mpr q) (by omega))⟩)⟩
          · refine c_iload (j := 1) C dX4_nodeBehind_84 rfl ?_
            refine c_if_eq (tgt := 99) C ⟨by decide, by decide⟩ dX4_nodeBehind_86 (by decide) (fun _ => ?_) (fun z => absurd z (by omega))
            refine c_iload_n (j := 4) C dX4_nodeBehind_99 rfl ?_
            refine c_iconst C dX4_nodeBehind_100 ?_
            obtain ⟨zz3, hzz3, ezz3⟩ := iI_of (iI i &&& iI 1)
            refine c_iand (w := iI zz3) C dX4_nodeBehind_101 ezz3 ?_
            have bazz3 := and1 ezz3 hzz3
            refine c_istore (lv2 := [(6, .int (iI zz3)), (5, .ref f2), (4, .int (iI 0)), (3, .int (iI dq1)), (0, .ref a0), (1, .int (iI i)), (2, .int (iI x))]) C dX4_nodeBehind_102 (by decide) rfl ?_
            refine c_aload (j := 1) (x := f2) C dX4_nodeBehind_104 rfl ?_
            have ri2 : (-2147483648) ≤ iv f2 0 ∧ iv f2 0 ≤ 2147483647 := hW.int rgf2 0
            refine c_get (k := 0) C ck_6 dX4_nodeBehind_106 w3_136 (by decide) rgf2 rfl rfl (by decide) rfl ?_
            rcases (show (iv f2 0) = 0 ∨ (iv f2 0) = 1 ∨ (iv f2 0) = 2 ∨ (iv f2 0) = 3 ∨ ((iv f2 0) < 0 ∨ 3 < (iv f2 0)) by omega) with sw1 | sw1 | sw1 | sw1 | sw1
            · refine c_tabIn (tgt := 140) (off := 31) C (r32_c (lo := (-2147483648)) (hi := 2147483647) ri2.1 ri2.2 (by decide) (by decide)) dX4_nodeBehind_109 (by omega) (by omega) (by rw [sw1]; rfl) (by decide) ?_
              refine c_iload (j := 0) C dX4_nodeBehind_140 rfl ?_
              refine c_iconst C dX4_nodeBehind_142 ?_
              obtain ⟨zz4, hzz4, ezz4⟩ := iI_of (iI zz3 ||| iI 2)
              refine c_ior (w := iI zz4) C dX4_nodeBehind_143 ezz4 ?_
              have bozz4 := or2 bazz3 ezz4 hzz4
              refine c_istore (lv2 := [(6, .int (iI zz4)), (5, .ref f2), (4, .int (iI 0)), (3, .int (iI dq1)), (0, .ref a0), (1, .int (iI i)), (2, .int (iI x))]) C dX4_nodeBehind_144 (by decide) rfl ?_
              refine c_goto (tgt := 161) C dX4_nodeBehind_146 (by decide) ?_
              refine c_iload_n (j := 3) C dX4_nodeBehind_161 rfl ?_
              refine c_aload (j := 1) (x := f2) C dX4_nodeBehind_162 rfl ?_
              obtain ⟨rb2, rq2, trb2⟩ := hW.ref rgf2 2 rfl rfl rfl
              have lnrb2 : 1 ≤ ln rb2 ∧ ln rb2 ≤ 4 := hW.len trb2 rfl
              refine c_getr (k := 2) C ck_6 dX4_nodeBehind_164 w3_144 (by decide) rgf2 rfl rfl (by decide) rfl rq2 ?_
              refine c_st (st2 := [.ref rb2, .int (iI dq1)]) rfl ?_
              have ll1 : 1 ≤ ln rb2 ∧ ln rb2 ≤ 4 := hW.len trb2 rfl
              refine c_alenI C dX4_nodeBehind_167 trb2 rfl ?_
              refine c_iadd C dX4_nodeBehind_168 ?_
              refine c_iconst C dX4_nodeBehind_169 ?_
              refine c_imul C dX4_nodeBehind_170 ?_
              refine c_iload (j := 0) C dX4_nodeBehind_171 rfl ?_
              refine c_iadd C dX4_nodeBehind_173 ?_
              have up9 := (gf3.mp (by omega) rb2 rq2 (ln rb2 - 1) (by omega)).1
              exact c_iret C dX4_nodeBehind_174 rfl (by decide) (rom0 hph hph (by decide)) ⟨(((dq1 + ((ln rb2 : Nat) : Int)) * 4) + zz4), rfl, rfl, rfl, rfl, rfl, rfl, ⟨by omega, by omega⟩, (by rw [← hdq1]; exact Or.inr ⟨GD.mk1 (by omega) (Or.inl ⟨hb1zz2.mpr (by omega), exf2⟩) (gf3.mp (by omega)) (Or.inl (hb2zz1.mpr (by omega))), by omega⟩)⟩
            · refine c_tabIn (tgt := 161) (off := 52) C (r32_c (lo := (-2147483648)) (hi := 2147483647) ri2.1 ri2.2 (by decide) (by decide)) dX4_nodeBehind_109 (by omega) (by omega) (by rw [sw1]; rfl) (by decide) ?_
              refine c_iload_n (j := 3) C dX4_nodeBehind_161 rfl ?_
              refine c_aload (j := 1) (x := f2) C dX4_nodeBehind_162 rfl ?_
              obtain ⟨rb3, rq3, trb3⟩ := hW.ref rgf2 2 rfl rfl rfl
              have lnrb3 : 1 ≤ ln rb3 ∧ ln rb3 ≤ 4 := hW.len trb3 rfl
              refine c_getr (k := 2) C ck_6 dX4_nodeBehind_164 w3_144 (by decide) rgf2 rfl rfl (by decide) rfl rq3 ?_
              refine c_st (st2 := [.ref rb3, .int (iI dq1)]) rfl ?_
              have ll2 : 1 ≤ ln rb3 ∧ ln rb3 ≤ 4 := hW.len trb3 rfl
              refine c_alenI C dX4_nodeBehind_167 trb3 rfl ?_
              refine c_iadd C dX4_nodeBehind_168 ?_
              refine c_iconst C dX4_nodeBehind_169 ?_
              refine c_imul C dX4_nodeBehind_170 ?_
              refine c_iload (j := 0) C dX4_nodeBehind_171 rfl ?_
              refine c_iadd C dX4_nodeBehind_173 ?_
              have up9 := (gf3.mp (by omega) rb3 rq3 (ln rb3 - 1) (by omega)).1
              exact c_iret C dX4_nodeBehind_174 rfl (by decide) (rom0 hph hph (by decide)) ⟨(((dq1 + ((ln rb3 : Nat) : Int)) * 4) + zz3), rfl, rfl, rfl, rfl, rfl, rfl, ⟨by omega, by omega⟩, (by rw [← hdq1]; exact Or.inr ⟨GD.mk1 (by omega) (Or.inl ⟨hb1zz2.mpr (by omega), exf2⟩) (gf3.mp (by omega)) (Or.inl (hb2zz1.mpr (by omega))), by omega⟩)⟩
            · refine c_tabIn (tgt := 149) (off := 40) C (r32_c (lo := (-2147483648)) (hi := 2147483647) ri2.1 ri2.2 (by decide) (by decide)) dX4_nodeBehind_109 (by omega) (by omega) (by rw [sw1]; rfl) (by decide) ?_
              refine c_iconst C dX4_nodeBehind_149 ?_
              refine c_istore (lv2 := [(6, .int (iI 1)), (5, .ref f2), (4, .int (iI 0)), (3, .int (iI dq1)), (0, .ref a0), (1, .int (iI i)), (2, .int (iI x))]) C dX4_nodeBehind_150 (by decide) rfl ?_
              refine c_goto (tgt := 161) C dX4_nodeBehind_152 (by decide) ?_
              refine c_iload_n (j := 3) C dX4_nodeBehind_161 rfl ?_
              refine c_aload (j := 1) (x := f2) C dX4_nodeBehind_162 rfl ?_
              obtain ⟨rb4, rq4, trb4⟩ := hW.ref rgf2 2 rfl rfl rfl
              have lnrb4 : 1 ≤ ln rb4 ∧ ln rb4 ≤ 4 := hW.len trb4 rfl
              refine c_getr (k := 2) C ck_6 dX4_nodeBehind_164 w3_144 (by decide) rgf2 rfl rfl (by decide) rfl rq4 ?_
              refine c_st (st2 := [.ref rb4, .int (iI dq1)]) rfl ?_
              have ll3 : 1 ≤ ln rb4 ∧ ln rb4 ≤ 4 := hW.len trb4 rfl
              refine c_alenI C dX4_nodeBehind_167 trb4 rfl ?_
              refine c_iadd C dX4_nodeBehind_168 ?_
              refine c_iconst C dX4_nodeBehind_169 ?_
              refine c_imul C dX4_nodeBehind_170 ?_
              refine c_iload (j := 0) C dX4_nodeBehind_171 rfl ?_
              refine c_iadd C dX4_nodeBehind_173 ?_
              have up9 := (gf3.mp (by omega) rb4 rq4 (ln rb4 - 1) (by omega)).1
              exact c_iret C dX4_nodeBehind_174 rfl (by decide) (rom0 hph hph (by decide)) ⟨(((dq1 + ((ln rb4 : Nat) : Int)) * 4) + 1), rfl, rfl, rfl, rfl, rfl, rfl, ⟨by omega, by omega⟩, (by rw [← hdq1]; exact Or.inr ⟨GD.mk1 (by omega) (Or.inl ⟨hb1zz2.mpr (by omega), exf2⟩) (gf3.mp (by omega)) (Or.inl (hb2zz1.mpr (by omega))), by omega⟩)⟩
            · refine c_tabIn (tgt := 155) (off := 46) C (r32_c (lo := (-2147483648)) (hi := 2147483647) ri2.1 ri2.2 (by decide) (by decide)) dX4_nodeBehind_109 (by omega) (by omega) (by rw [sw1]; rfl) (by decide) ?_
              refine c_iconst C dX4_nodeBehind_155 ?_
              refine c_istore (lv2 := [(6, .int (iI 0)), (5, .ref f2), (4, .int (iI 0)), (3, .int (iI dq1)), (0, .ref a0), (1, .int (iI i)), (2, .int (iI x))]) C dX4_nodeBehind_156 (by decide) rfl ?_
              refine c_goto (tgt := 161) C dX4_nodeBehind_158 (by decide) ?_
              refine c_iload_n (j := 3) C dX4_nodeBehind_161 rfl ?_
              refine c_aload (j := 1) (x := f2) C dX4_nodeBehind_162 rfl ?_
              obtain ⟨rb5, rq5, trb5⟩ := hW.ref rgf2 2 rfl rfl rfl
              have lnrb5 : 1 ≤ ln rb5 ∧ ln rb5 ≤ 4 := hW.len trb5 rfl
              refine c_getr (k := 2) C ck_6 dX4_nodeBehind_164 w3_144 (by decide) rgf2 rfl rfl (by decide) rfl rq5 ?_
              refine c_st (st2 := [.ref rb5, .int (iI dq1)]) rfl ?_
              have ll4 : 1 ≤ ln rb5 ∧ ln rb5 ≤ 4 := hW.len trb5 rfl
              refine c_alenI C dX4_nodeBehind_167 trb5 rfl ?_
              refine c_iadd C dX4_nodeBehind_168 ?_
              refine c_iconst C dX4_nodeBehind_169 ?_
              refine c_imul C dX4_nodeBehind_170 ?_
              refine c_iload (j := 0) C dX4_nodeBehind_171 rfl ?_
              refine c_iadd C dX4_nodeBehind_173 ?_
              have up9 := (gf3.mp (by omega) rb5 rq5 (ln rb5 - 1) (by omega)).1
              exact c_iret C dX4_nodeBehind_174 rfl (by decide) (rom0 hph hph (by decide)) ⟨(((dq1 + ((ln rb5 : Nat) : Int)) * 4) + 0), rfl, rfl, rfl, rfl, rfl, rfl, ⟨by omega, by omega⟩, (by rw [← hdq1]; exact Or.inr ⟨GD.mk1 (by omega) (Or.inl ⟨hb1zz2.mpr (by omega), exf2⟩) (gf3.mp (by omega)) (Or.inl (hb2zz1.mpr (by omega))), by omega⟩)⟩
            · refine c_tabOut (tgt := 161) C (r32_c (lo := (-2147483648)) (hi := 2147483647) ri2.1 ri2.2 (by decide) (by decide)) dX4_nodeBehind_109 sw1 (by decide) ?_
              refine c_iload_n (j := 3) C dX4_nodeBehind_161 rfl ?_
              refine c_aload (j := 1) (x := f2) C dX4_nodeBehind_162 rfl ?_
              obtain ⟨rb6, rq6, trb6⟩ := hW.ref rgf2 2 rfl rfl rfl
              have lnrb6 : 1 ≤ ln rb6 ∧ ln rb6 ≤ 4 := hW.len trb6 rfl
              refine c_getr (k := 2) C ck_6 dX4_nodeBehind_164 w3_144 (by decide) rgf2 rfl rfl (by decide) rfl rq6 ?_
              refine c_st (st2 := [.ref rb6, .int (iI dq1)]) rfl ?_
              have ll5 : 1 ≤ ln rb6 ∧ ln rb6 ≤ 4 := hW.len trb6 rfl
              refine c_alenI C dX4_nodeBehind_167 trb6 rfl ?_
              refine c_iadd C dX4_nodeBehind_168 ?_
              refine c_iconst C dX4_nodeBehind_169 ?_
              refine c_imul C dX4_nodeBehind_170 ?_
              refine c_iload (j := 0) C dX4_nodeBehind_171 rfl ?_
              refine c_iadd C dX4_nodeBehind_173 ?_
              have up9 := (gf3.mp (by omega) rb6 rq6 (ln rb6 - 1) (by omega)).1
              exact c_iret C dX4_nodeBehind_174 rfl (by decide) (rom0 hph hph (by decide)) ⟨(((dq1 + ((ln rb6 : Nat) : Int)) * 4) + zz3), rfl, rfl, rfl, rfl, rfl, rfl, ⟨by omega, by omega⟩, (by rw [← hdq1]; exact Or.inr ⟨GD.mk1 (by omega) (Or.inl ⟨hb1zz2.mpr (by omega), exf2⟩) (gf3.mp (by omega)) (Or.inl (hb2zz1.mpr (by omega))), by omega⟩)⟩
        · exact absurd exf1.1 (by decide)
      · refine c_iconst C dX4_nodeBehind_55 ?_
        refine c_goto (tgt := 60) C dX4_nodeBehind_56 (by decide) ?_
        refine d_callV (As := [.int (iI 1)]) (rest := []) C hM (C_rowsOf (a0 := (sk 16)) (g := 1) hW hS tsk16 ⟨by decide, by decide⟩ ) dX4_nodeBehind_60 kV_X4_95 rfl tsk16 rfl rfl (by decide) ck_4 rfl (Nat.le_of_ble_eq_true rfl) ⟨(Nat.le_of_ble_eq_true rfl), (Nat.le_of_ble_eq_true rfl)⟩ hph hph (show 0 + 0 = 0 from rfl) (by decide) (fun rh4 Lh4 clh4 lnh4 ivh4 rvh4 h4 => ?_)
        obtain ⟨f4, rfl, rfl, rfl, rfl, rfl, rfl, rgf4, exf4⟩ := h4
        refine c_st (st2 := [.ref f4]) rfl ?_
        rcases exf4 with exf4 | exf4
        · exact absurd exf4.1 (by decide)
        · obtain ⟨hf4, rfl⟩ := exf4
          refine c_st (st2 := [.ref (sk 25)]) rfl ?_
          refine c_iload_n (j := 4) C dX4_nodeBehind_63 rfl ?_
          refine c_iconst C dX4_nodeBehind_64 ?_
          refine c_isub C dX4_nodeBehind_65 ?_
          have ri3 : 0 ≤ iv (sk 25) 2 ∧ iv (sk 25) 2 ≤ 6003 := hW.int tsk25 2
          refine d_callV (As := [.int (iI (x - 1))]) (rest := []) C hM (C_get_25 (a0 := (sk 25)) (i := x - 1) hW hS tsk25 (by omega) (by show 0 ≤ (x - 1) ∧ (x - 1) < iv (sk 25) 2; omega)) dX4_nodeBehind_66 kV_X4_110 rfl tsk25 rfl rfl (by decide) ck_0 rfl (Nat.le_of_ble_eq_true rfl) ⟨(Nat.le_of_ble_eq_true rfl), (Nat.le_of_ble_eq_true rfl)⟩ hph hph (show 0 + 0 = 0 from rfl) (by decide) (fun rh5 Lh5 clh5 lnh5 ivh5 rvh5 h5 => ?_)
          obtain ⟨f5, rfl, rfl, rfl, rfl, rfl, rfl, rgf5, exf5⟩ := h5
          refine c_st (st2 := [.ref f5]) rfl ?_
          have gf5 : el rv (sk 25) (x - 1).toNat = some f5 := exf5
          refine c_cast C ck_6 dX4_nodeBehind_69 w5_149 w8_169t rgf5 rfl rfl (by decide) ?_
          refine c_astore (lv2 := [(5, .ref f5), (4, .int (iI 0)), (3, .int (iI dq1)), (0, .ref a0), (1, .int (iI i)), (2, .int (iI x))]) C dX4_nodeBehind_72 (by decide) rfl ?_
          refine c_aload_n (j := 3) (x := a0) C dX4_nodeBehind_74 rfl ?_
          refine c_aload (j := 0) (x := f5) C dX4_nodeBehind_75 rfl ?_
          refine c_iload_n (j := 2) C dX4_nodeBehind_77 rfl ?_
          refine d_callV (As := [.ref f5, .int (iI dq1)]) (rest := []) C hM (C_looksLikeRow (a0 := a0) (a1 := f5) (i := dq1) hW hS t_a0 rgf5 (by omega) (by show 0 ≤ dq1 ∧ dq1 ≤ 1000; omega)) dX4_nodeBehind_78 kV_X4_116 rfl t_a0 rfl rfl (by decide) ck_5 rfl (Nat.le_of_ble_eq_true rfl) ⟨(Nat.le_of_ble_eq_true rfl), (Nat.le_of_ble_eq_true rfl)⟩ hph hph (show 0 + 0 = 0 from rfl) (by decide) (fun rh6 Lh6 clh6 lnh6 ivh6 rvh6 h6 => ?_)
          obtain ⟨f6, rfl, rfl, rfl, rfl, rfl, rfl, rgf6, exf6⟩ := h6
          refine c_st (st2 := [.int (iI f6)]) rfl ?_
          have gf6 : f6 = 1 ↔ LRw ln iv rv a0 f5 dq1 := exf6
          refine c_if_eq (tgt := 97) C ⟨by omega, by omega⟩ dX4_nodeBehind_81 (by decide) (fun c5 => ?_) (fun c5 => ?_)
          · refine c_iconst C dX4_nodeBehind_97 ?_
            exact c_iret C dX4_nodeBehind_98 rfl (by decide) (rom0 hph hph (by decide)) ⟨(-1), rfl, rfl, rfl, rfl, rfl, rfl, ⟨by decide, by decide⟩, (by rw [← hdq1]; exact Or.inl ⟨rfl, GD.no1 (by omega) (Or.inr ⟨fun q => absurd (hb1zz2.mp q) (by omega), exf5⟩) (fun q _ => absurd (gf6.mpr q) (by omega))⟩)⟩
          · refine c_iload (j := 1) C dX4_nodeBehind_84 rfl ?_
            refine c_if_eq (tgt := 99) C ⟨by decide, by decide⟩ dX4_nodeBehind_86 (by decide) (fun _ => ?_) (fun z => absurd z (by omega))
            refine c_iload_n (j := 4) C dX4_nodeBehind_99 rfl ?_
            refine c_iconst C dX4_nodeBehind_100 ?_
            obtain ⟨zz5, hzz5, ezz5⟩ := iI_of (iI i &&& iI 1)
            refine c_iand (w := iI zz5) C dX4_nodeBehind_101 ezz5 ?_
            have bazz5 := and1 ezz5 hzz5
            refine c_istore (lv2 := [(6, .int (iI zz5)), (5, .ref f5), (4, .int (iI 0)), (3, .int (iI dq1)), (0, .ref a0), (1, .int (iI i)), (2, .int (iI x))]) C dX4_nodeBehind_102 (by decide) rfl ?_
            refine c_aload (j := 1) (x := f5) C dX4_nodeBehind_104 rfl ?_
            have ri4 : (-2147483648) ≤ iv f5 0 ∧ iv f5 0 ≤ 2147483647 := hW.int rgf5 0
            refine c_get (k := 0) C ck_6 dX4_nodeBehind_106 w3_136 (by decide) rgf5 rfl rfl (by decide) rfl ?_
            rcases (show (iv f5 0) = 0 ∨ (iv f5 0) = 1 ∨ (iv f5 0) = 2 ∨ (iv f5 0) = 3 ∨ ((iv f5 0) < 0 ∨ 3 < (iv f5 0)) by omega) with sw2 | sw2 | sw2 | sw2 | sw2
            · refine c_tabIn (tgt := 140) (off := 31) C (r32_c (lo := (-2147483648)) (hi := 2147483647) ri4.1 ri4.2 (by decide) (by decide)) dX4_nodeBehind_109 (by omega) (by omega) (by rw [sw2]; rfl) (by decide) ?_
              refine c_iload (j := 0) C dX4_nodeBehind_140 rfl ?_
              refine c_iconst C dX4_nodeBehind_142 ?_
              obtain ⟨zz6, hzz6, ezz6⟩ := iI_of (iI zz5 ||| iI 2)
              refine c_ior (w := iI zz6) C dX4_nodeBehind_143 ezz6 ?_
              have bozz6 := or2 bazz5 ezz6 hzz6
              refine c_istore (lv2 := [(6, .int (iI zz6)), (5, .ref f5), (4, .int (iI 0)), (3, .int (iI dq1)), (0, .ref a0), (1, .int (iI i)), (2, .int (iI x))]) C dX4_nodeBehind_144 (by decide) rfl ?_
              refine c_goto (tgt := 161) C dX4_nodeBehind_146 (by decide) ?_
              refine c_iload_n (j := 3) C dX4_nodeBehind_161 rfl ?_
              refine c_aload (j := 1) (x := f5) C dX4_nodeBehind_162 rfl ?_
              obtain ⟨rb7, rq7, trb7⟩ := hW.ref rgf5 2 rfl rfl rfl
              have lnrb7 : 1 ≤ ln rb7 ∧ ln rb7 ≤ 4 := hW.len trb7 rfl
              refine c_getr (k := 2) C ck_6 dX4_nodeBehind_164 w3_144 (by decide) rgf5 rfl rfl (by decide) rfl rq7 ?_
              refine c_st (st2 := [.ref rb7, .int (iI dq1)]) rfl ?_
              have ll6 : 1 ≤ ln rb7 ∧ ln rb7 ≤ 4 := hW.len trb7 rfl
              refine c_alenI C dX4_nodeBehind_167 trb7 rfl ?_
              refine c_iadd C dX4_nodeBehind_168 ?_
              refine c_iconst C dX4_nodeBehind_169 ?_
              refine c_imul C dX4_nodeBehind_170 ?_
              refine c_iload (j := 0) C dX4_nodeBehind_171 rfl ?_
              refine c_iadd C dX4_nodeBehind_173 ?_
              have up9 := (gf6.mp (by omega) rb7 rq7 (ln rb7 - 1) (by omega)).1
              exact c_iret C dX4_nodeBehind_174 rfl (by decide) (rom0 hph hph (by decide)) ⟨(((dq1 + ((ln rb7 : Nat) : Int)) * 4) + zz6), rfl, rfl, rfl, rfl, rfl, rfl, ⟨by omega, by omega⟩, (by rw [← hdq1]; exact Or.inr ⟨GD.mk1 (by omega) (Or.inr ⟨fun q => absurd (hb1zz2.mp q) (by omega), exf5⟩) (gf6.mp (by omega)) (Or.inl (hb2zz1.mpr (by omega))), by omega⟩)⟩
            · refine c_tabIn (tgt := 161) (off := 52) C (r32_c (lo := (-2147483648)) (hi := 2147483647) ri4.1 ri4.2 (by decide) (by decide)) dX4_nodeBehind_109 (by omega) (by omega) (by rw [sw2]; rfl) (by decide) ?_
              refine c_iload_n (j := 3) C dX4_nodeBehind_161 rfl ?_
              refine c_aload (j := 1) (x := f5) C dX4_nodeBehind_162 rfl ?_
              obtain ⟨rb8, rq8, trb8⟩ := hW.ref rgf5 2 rfl rfl rfl
              have lnrb8 : 1 ≤ ln rb8 ∧ ln rb8 ≤ 4 := hW.len trb8 rfl
              refine c_getr (k := 2) C ck_6 dX4_nodeBehind_164 w3_144 (by decide) rgf5 rfl rfl (by decide) rfl rq8 ?_
              refine c_st (st2 := [.ref rb8, .int (iI dq1)]) rfl ?_
              have ll7 : 1 ≤ ln rb8 ∧ ln rb8 ≤ 4 := hW.len trb8 rfl
              refine c_alenI C dX4_nodeBehind_167 trb8 rfl ?_
              refine c_iadd C dX4_nodeBehind_168 ?_
              refine c_iconst C dX4_nodeBehind_169 ?_
              refine c_imul C dX4_nodeBehind_170 ?_
              refine c_iload (j := 0) C dX4_nodeBehind_171 rfl ?_
              refine c_iadd C dX4_nodeBehind_173 ?_
              have up9 := (gf6.mp (by omega) rb8 rq8 (ln rb8 - 1) (by omega)).1
              exact c_iret C dX4_nodeBehind_174 rfl (by decide) (rom0 hph hph (by decide)) ⟨(((dq1 + ((ln rb8 : Nat) : Int)) * 4) + zz5), rfl, rfl, rfl, rfl, rfl, rfl, ⟨by omega, by omega⟩, (by rw [← hdq1]; exact Or.inr ⟨GD.mk1 (by omega) (Or.inr ⟨fun q => absurd (hb1zz2.mp q) (by omega), exf5⟩) (gf6.mp (by omega)) (Or.inl (hb2zz1.mpr (by omega))), by omega⟩)⟩
            · refine c_tabIn (tgt := 149) (off := 40) C (r32_c (lo := (-2147483648)) (hi := 2147483647) ri4.1 ri4.2 (by decide) (by decide)) dX4_nodeBehind_109 (by omega) (by omega) (by rw [sw2]; rfl) (by decide) ?_
              refine c_iconst C dX4_nodeBehind_149 ?_
              refine c_istore (lv2 := [(6, .int (iI 1)), (5, .ref f5), (4, .int (iI 0)), (3, .int (iI dq1)), (0, .ref a0), (1, .int (iI i)), (2, .int (iI x))]) C dX4_nodeBehind_150 (by decide) rfl ?_
              refine c_goto (tgt := 161) C dX4_nodeBehind_152 (by decide) ?_
              refine c_iload_n (j := 3) C dX4_nodeBehind_161 rfl ?_
              refine c_aload (j := 1) (x := f5) C dX4_nodeBehind_162 rfl ?_
              obtain ⟨rb9, rq9, trb9⟩ := hW.ref rgf5 2 rfl rfl rfl
              have lnrb9 : 1 ≤ ln rb9 ∧ ln rb9 ≤ 4 := hW.len trb9 rfl
              refine c_getr (k := 2) C ck_6 dX4_nodeBehind_164 w3_144 (by decide) rgf5 rfl rfl (by decide) rfl rq9 ?_
              refine c_st (st2 := [.ref rb9, .int (iI dq1)]) rfl ?_
              have ll8 : 1 ≤ ln rb9 ∧ ln rb9 ≤ 4 := hW.len trb9 rfl
              refine c_alenI C dX4_nodeBehind_167 trb9 rfl ?_
              refine c_iadd C dX4_nodeBehind_168 ?_
              refine c_iconst C dX4_nodeBehind_169 ?_
              refine c_imul C dX4_nodeBehind_170 ?_
              refine c_iload (j := 0) C dX4_nodeBehind_171 rfl ?_
              refine c_iadd C dX4_nodeBehind_173 ?_
              have up9 := (gf6.mp (by omega) rb9 rq9 (ln rb9 - 1) (by omega)).1
              exact c_iret C dX4_nodeBehind_174 rfl (by decide) (rom0 hph hph (by decide)) ⟨(((dq1 + ((ln rb9 : Nat) : Int)) * 4) + 1), rfl, rfl, rfl, rfl, rfl, rfl, ⟨by omega, by omega⟩, (by rw [← hdq1]; exact Or.inr ⟨GD.mk1 (by omega) (Or.inr ⟨fun q => absurd (hb1zz2.mp q) (by omega), exf5⟩) (gf6.mp (by omega)) (Or.inl (hb2zz1.mpr (by omega))), by omega⟩)⟩
            · refine c_tabIn (tgt := 155) (off := 46) C (r32_c (lo := (-2147483648)) (hi := 2147483647) ri4.1 ri4.2 (by decide) (by decide)) dX4_nodeBehind_109 (by omega) (by omega) (by rw [sw2]; rfl) (by decide) ?_
              refine c_iconst C dX4_nodeBehind_155 ?_
              refine c_istore (lv2 := [(6, .int (iI 0)), (5, .ref f5), (4, .int (iI 0)), (3, .int (iI dq1)), (0, .ref a0), (1, .int (iI i)), (2, .int (iI x))]) C dX4_nodeBehind_156 (by decide) rfl ?_
              refine c_goto (tgt := 161) C dX4_nodeBehind_158 (by decide) ?_
              refine c_iload_n (j := 3) C dX4_nodeBehind_161 rfl ?_
              refine c_aload (j := 1) (x := f5) C dX4_nodeBehind_162 rfl ?_
              obtain ⟨rb10, rq10, trb10⟩ := hW.ref rgf5 2 rfl rfl rfl
              have lnrb10 : 1 ≤ ln rb10 ∧ ln rb10 ≤ 4 := hW.len trb10 rfl
              refine c_getr (k := 2) C ck_6 dX4_nodeBehind_164 w3_144 (by decide) rgf5 rfl rfl (by decide) rfl rq10 ?_
              refine c_st (st2 := [.ref rb10, .int (iI dq1)]) rfl ?_
              have ll9 : 1 ≤ ln rb10 ∧ ln rb10 ≤ 4 := hW.len trb10 rfl
              refine c_alenI C dX4_nodeBehind_167 trb10 rfl ?_
              refine c_iadd C dX4_nodeBehind_168 ?_
              refine c_iconst C dX4_nodeBehind_169 ?_
              refine c_imul C dX4_nodeBehind_170 ?_
              refine c_iload (j := 0) C dX4_nodeBehind_171 rfl ?_
              refine c_iadd C dX4_nodeBehind_173 ?_
              have up9 := (gf6.mp (by omega) rb10 rq10 (ln rb10 - 1) (by omega)).1
              exact c_iret C dX4_nodeBehind_174 rfl (by decide) (rom0 hph hph (by decide)) ⟨(((dq1 + ((ln rb10 : Nat) : Int)) * 4) + 0), rfl, rfl, rfl, rfl, rfl, rfl, ⟨by omega, by omega⟩, (by rw [← hdq1]; exact Or.inr ⟨GD.mk1 (by omega) (Or.inr ⟨fun q => absurd (hb1zz2.mp q) (by omega), exf5⟩) (gf6.mp (by omega)) (Or.inl (hb2zz1.mpr (by omega))), by omega⟩)⟩
            · refine c_tabOut (tgt := 161) C (r32_c (lo := (-2147483648)) (hi := 2147483647) ri4.1 ri4.2 (by decide) (by decide)) dX4_nodeBehind_109 sw2 (by decide) ?_
              refine c_iload_n (j := 3) C dX4_nodeBehind_161 rfl ?_
              refine c_aload (j := 1) (x := f5) C dX4_nodeBehind_162 rfl ?_
              obtain ⟨rb11, rq11, trb11⟩ := hW.ref rgf5 2 rfl rfl rfl
              have lnrb11 : 1 ≤ ln rb11 ∧ ln rb11 ≤ 4 := hW.len trb11 rfl
              refine c_getr (k := 2) C ck_6 dX4_nodeBehind_164 w3_144 (by decide) rgf5 rfl rfl (by decide) rfl rq11 ?_
              refine c_st (st2 := [.ref rb11, .int (iI dq1)]) rfl ?_
              have ll10 : 1 ≤ ln rb11 ∧ ln rb11 ≤ 4 := hW.len trb11 rfl
              refine c_alenI C dX4_nodeBehind_167 trb11 rfl ?_
              refine c_iadd C dX4_nodeBehind_168 ?_
              refine c_iconst C dX4_nodeBehind_169 ?_
              refine c_imul C dX4_nodeBehind_170 ?_
              refine c_iload (j := 0) C dX4_nodeBehind_171 rfl ?_
              refine c_iadd C dX4_nodeBehind_173 ?_
              have up9 := (gf6.mp (by omega) rb11 rq11 (ln rb11 - 1) (by omega)).1
              exact c_iret C dX4_nodeBehind_174 rfl (by decide) (rom0 hph hph (by decide)) ⟨(((dq1 + ((ln rb11 : Nat) : Int)) * 4) + zz5), rfl, rfl, rfl, rfl, rfl, rfl, ⟨by omega, by omega⟩, (by rw [← hdq1]; exact Or.inr ⟨GD.mk1 (by omega) (Or.inr ⟨fun q => absurd (hb1zz2.mp q) (by omega), exf5⟩) (gf6.mp (by omega)) (Or.inl (hb2zz1.mpr (by omega))), by omega⟩)⟩
    · refine c_iload (j := 0) C dX4_nodeBehind_21 rfl ?_
      refine c_if_ne (tgt := 35) C ⟨by decide, by decide⟩ dX4_nodeBehind_23 (by decide) (fun z => absurd z (by omega)) (fun _ => ?_)
      refine c_aload_n (j := 2) (x := a0) C dX4_nodeBehind_26 rfl ?_
      refine c_iconst C dX4_nodeBehind_27 ?_
      refine c_iload_n (j := 1) C dX4_nodeBehind_28 rfl ?_
      refine d_callV (As := [.int (iI 0), .int (iI dq1)]) (rest := []) C hM (C_looksLike (a0 := a0) (x := 0) (i := dq1) hW hS t_a0 ⟨by decide, by decide⟩ (by omega) (by show 0 ≤ dq1; omega)) dX4_nodeBehind_29 kV_X4_106 rfl t_a0 rfl rfl (by decide) ck_5 rfl (Nat.le_of_ble_eq_true rfl) ⟨(Nat.le_of_ble_eq_true rfl), (Nat.le_of_ble_eq_true rfl)⟩ hph hph (show 0 + 0 = 0 from rfl) (by decide) (fun rh7 Lh7 clh7 lnh7 ivh7 rvh7 h7 => ?_)
      obtain ⟨f7, rfl, rfl, rfl, rfl, rfl, rfl, rgf7, exf7⟩ := h7
      refine c_st (st2 := [.int (iI f7)]) rfl ?_
      have gf7 : f7 = 1 ↔ LLw iv rv a0 (0 : Int) dq1 := exf7
      refine c_if_ne (tgt := 39) C ⟨by omega, by omega⟩ dX4_nodeBehind_32 (by decide) (fun c6 => ?_) (fun c6 => ?_)
      · refine c_iload_n (j := 1) C dX4_nodeBehind_39 rfl ?_
        refine c_iconst C dX4_nodeBehind_40 ?_
        refine c_iadd C dX4_nodeBehind_41 ?_
        refine c_iconst C dX4_nodeBehind_42 ?_
        refine c_imul C dX4_nodeBehind_43 ?_
        exact c_iret C dX4_nodeBehind_44 rfl (by decide) (rom0 hph hph (by decide)) ⟨((dq1 + 1) * 4), rfl, rfl, rfl, rfl, rfl, rfl, ⟨by omega, by omega⟩, (by rw [← hdq1]; exact Or.inr ⟨GD.mk0 (by omega) (hb2zz1.mpr (by omega)) (gf7.mp (by omega)), by have q := (gf7.mp (by omega)).1; omega⟩)⟩
      · refine c_iconst C dX4_nodeBehind_35 ?_
        refine c_goto (tgt := 44) C dX4_nodeBehind_36 (by decide) ?_
        exact c_iret C dX4_nodeBehind_44 rfl (by decide) (rom0 hph hph (by decide)) ⟨(-1), rfl, rfl, rfl, rfl, rfl, rfl, ⟨by decide, by decide⟩, (by rw [← hdq1]; exact Or.inl ⟨rfl, GD.no0 (by omega) (fun _ q => absurd (gf7.mpr q) (by omega))⟩)⟩
  · refine c_iconst C dX4_nodeBehind_10 ?_
    refine c_goto (tgt := 15) C dX4_nodeBehind_11 (by decide) ?_
    refine c_istore (lv2 := [(4, .int (iI 1)), (3, .int (iI dq1)), (0, .ref a0), (1, .int (iI i)), (2, .int (iI x))]) C dX4_nodeBehind_15 (by decide) rfl ?_
    refine c_iload_n (j := 4) C dX4_nodeBehind_17 rfl ?_
    refine c_if_gt (tgt := 45) C ⟨by omega, by omega⟩ dX4_nodeBehind_18 (by decide) (fun c7 => ?_) (fun c7 => ?_)
    · refine c_aload_n (j := 2) (x := a0) C dX4_nodeBehind_45 rfl ?_
      obtain ⟨rb12, rq12, trb12⟩ := hW.ref t_a0 7 rfl rfl rfl
      have erb12 := hW.sk trb12 (by decide) rfl
      subst erb12
      refine c_getr (k := 7) C ck_5 dX4_nodeBehind_46 w1_238 (by decide) t_a0 rfl rfl (by decide) rfl rq12 ?_
      refine c_st (st2 := [.ref (sk 16)]) rfl ?_
      refine c_iload_n (j := 3) C dX4_nodeBehind_49 rfl ?_
      refine c_iconst C dX4_nodeBehind_50 ?_
      obtain ⟨zz7, hzz7, ezz7⟩ := iI_of (iI i &&& iI 1)
      refine c_iand (w := iI zz7) C dX4_nodeBehind_51 ezz7 ?_
      refine hv2 (bz_iff ezz7 hzz7) (hx.zed ezz7 hzz7) (fun hb1zz7 vzzz7 => ?_)
      refine c_if_eq (tgt := 59) C ⟨by omega, by omega⟩ dX4_nodeBehind_52 (by decide) (fun c8 => ?_) (fun c8 => ?_)
      · refine c_iconst C dX4_nodeBehind_59 ?_
        refine d_callV (As := [.int (iI 0)]) (rest := []) C hM (C_rowsOf (a0 := (sk 16)) (g := 0) hW hS tsk16 ⟨by decide, by decide⟩ ) dX4_nodeBehind_60 kV_X4_95 rfl tsk16 rfl rfl (by decide) ck_4 rfl (Nat.le_of_ble_eq_true rfl) ⟨(Nat.le_of_ble_eq_true rfl), (Nat.le_of_ble_eq_true rfl)⟩ hph hph (show 0 + 0 = 0 from rfl) (by decide) (fun rh8 Lh8 clh8 lnh8 ivh8 rvh8 h8 => ?_)
        obtain ⟨f8, rfl, rfl, rfl, rfl, rfl, rfl, rgf8, exf8⟩ := h8
        refine c_st (st2 := [.ref f8]) rfl ?_
        rcases exf8 with exf8 | exf8
        · obtain ⟨hf8, rfl⟩ := exf8
          refine c_st (st2 := [.ref (sk 24)]) rfl ?_
          refine c_iload_n (j := 4) C dX4_nodeBehind_63 rfl ?_
          refine c_iconst C dX4_nodeBehind_64 ?_
          refine c_isub C dX4_nodeBehind_65 ?_
          have ri5 : 0 ≤ iv (sk 24) 2 ∧ iv (sk 24) 2 ≤ 6003 := hW.int tsk24 2
          refine d_callV (As := [.int (iI (x - 1))]) (rest := []) C hM (C_get_24 (a0 := (sk 24)) (i := x - 1) hW hS tsk24 (by omega) (by show 0 ≤ (x - 1) ∧ (x - 1) < iv (sk 24) 2; omega)) dX4_nodeBehind_66 kV_X4_110 rfl tsk24 rfl rfl (by decide) ck_0 rfl (Nat.le_of_ble_eq_true rfl) ⟨(Nat.le_of_ble_eq_true rfl), (Nat.le_of_ble_eq_true rfl)⟩ hph hph (show 0 + 0 = 0 from rfl) (by decide) (fun rh9 Lh9 clh9 lnh9 ivh9 rvh9 h9 => ?_)
          obtain ⟨f9, rfl, rfl, rfl, rfl, rfl, rfl, rgf9, exf9⟩ := h9
          refine c_st (st2 := [.ref f9]) rfl ?_
          have gf9 : el rv (sk 24) (x - 1).toNat = some f9 := exf9
          refine c_cast C ck_6 dX4_nodeBehind_69 w5_149 w8_169t rgf9 rfl rfl (by decide) ?_
          refine c_astore (lv2 := [(5, .ref f9), (4, .int (iI 1)), (3, .int (iI dq1)), (0, .ref a0), (1, .int (iI i)), (2, .int (iI x))]) C dX4_nodeBehind_72 (by decide) rfl ?_
          refine c_aload_n (j := 3) (x := a0) C dX4_nodeBehind_74 rfl ?_
          refine c_aload (j := 0) (x := f9) C dX4_nodeBehind_75 rfl ?_
          refine c_iload_n (j := 2) C dX4_nodeBehind_77 rfl ?_
          refine d_callV (As := [.ref f9, .int (iI dq1)]) (rest := []) C hM (C_looksLikeRow (a0 := a0) (a1 := f9) (i := dq1) hW hS t_a0 rgf9 (by omega) (by show 0 ≤ dq1 ∧ dq1 ≤ 1000; omega)) dX4_nodeBehind_78 kV_X4_116 rfl t_a0 rfl rfl (by decide) ck_5 rfl (Nat.le_of_ble_eq_true rfl) ⟨(Nat.le_of_ble_eq_true rfl), (Nat.le_of_ble_eq_true rfl)⟩ hph hph (show 0 + 0 = 0 from rfl) (by decide) (fun rh10 Lh10 clh10 lnh10 ivh10 rvh10 h10 => ?_)
          obtain ⟨f10, rfl, rfl, rfl, rfl, rfl, rfl, rgf10, exf10⟩ := h10
          refine c_st (st2 := [.int (iI f10)]) rfl ?_
          have gf10 : f10 = 1 ↔ LRw ln iv rv a0 f9 dq1 := exf10
          refine c_if_eq (tgt := 97) C ⟨by omega, by omega⟩ dX4_nodeBehind_81 (by decide) (fun c9 => ?_) (fun c9 => ?_)
          · refine c_iconst C dX4_nodeBehind_97 ?_
            exact c_iret C dX4_nodeBehind_98 rfl (by decide) (rom0 hph hph (by decide)) ⟨(-1), rfl, rfl, rfl, rfl, rfl, rfl, ⟨by decide, by decide⟩, (by rw [← hdq1]; exact Or.inl ⟨rfl, GD.no1 (by omega) (Or.inl ⟨hb1zz7.mpr (by omega), exf9⟩) (fun q _ => absurd (gf10.mpr q) (by omega))⟩)⟩
          · refine c_iload (j := 1) C dX4_nodeBehind_84 rfl ?_
            refine c_if_eq (tgt := 99) C ⟨by decide, by decide⟩ dX4_nodeBehind_86 (by decide) (fun z => absurd z (by omega)) (fun _ => ?_)
            refine c_aload (j := 0) (x := f9) C dX4_nodeBehind_89 rfl ?_
            refine d_callV (As := []) (rest := []) C hM (C_bsmall (a0 := f9) hW hS rgf9  ) dX4_nodeBehind_91 kV_X4_120 rfl rgf9 rfl rfl (by decide) ck_6 rfl (Nat.le_of_ble_eq_true rfl) ⟨(Nat.le_of_ble_eq_true rfl), (Nat.le_of_ble_eq_true rfl)⟩ hph hph (show 0 + 0 = 0 from rfl) (by decide) (fun rh11 Lh11 clh11 lnh11 ivh11 rvh11 h11 => ?_)
            obtain ⟨f11, rfl, rfl, rfl, rfl, rfl, rfl, rgf11, exf11⟩ := h11
            refine c_st (st2 := [.int (iI f11)]) rfl ?_
            have gf11 : f11 = 1 ↔ BSw ln iv rv f9 := exf11
            refine c_if_ne (tgt := 99) C ⟨by omega, by omega⟩ dX4_nodeBehind_94 (by decide) (fun c10 => ?_) (fun c10 => ?_)
            · refine c_iload_n (j := 4) C dX4_nodeBehind_99 rfl ?_
              refine c_iconst C dX4_nodeBehind_100 ?_
              obtain ⟨zz8, hzz8, ezz8⟩ := iI_of (iI i &&& iI 1)
              refine c_iand (w := iI zz8) C dX4_nodeBehind_101 ezz8 ?_
              have bazz8 := and1 ezz8 hzz8
              refine c_istore (lv2 := [(6, .int (iI zz8)), (5, .ref f9), (4, .int (iI 1)), (3, .int (iI dq1)), (0, .ref a0), (1, .int (iI i)), (2, .int (iI x))]) C dX4_nodeBehind_102 (by decide) rfl ?_
              refine c_aload (j := 1) (x := f9) C dX4_nodeBehind_104 rfl ?_
              have ri6 : (-2147483648) ≤ iv f9 0 ∧ iv f9 0 ≤ 2147483647 := hW.int rgf9 0
              refine c_get (k := 0) C ck_6 dX4_nodeBehind_106 w3_136 (by decide) rgf9 rfl rfl (by decide) rfl ?_
              rcases (show (iv f9 0) = 0 ∨ (iv f9 0) = 1 ∨ (iv f9 0) = 2 ∨ (iv f9 0) = 3 ∨ ((iv f9 0) < 0 ∨ 3 < (iv f9 0)) by omega) with sw3 | sw3 | sw3 | sw3 | sw3
              · refine c_tabIn (tgt := 140) (off := 31) C (r32_c (lo := (-2147483648)) (hi := 2147483647) ri6.1 ri6.2 (by decide) (by decide)) dX4_nodeBehind_109 (by omega) (by omega) (by rw [sw3]; rfl) (by decide) ?_
                refine c_iload (j := 0) C dX4_nodeBehind_140 rfl ?_
                refine c_iconst C dX4_nodeBehind_142 ?_
                obtain ⟨zz9, hzz9, ezz9⟩ := iI_of (iI zz8 ||| iI 2)
                refine c_ior (w := iI zz9) C dX4_nodeBehind_143 ezz9 ?_
                have bozz9 := or2 bazz8 ezz9 hzz9
                refine c_istore (lv2 := [(6, .int (iI zz9)), (5, .ref f9), (4, .int (iI 1)), (3, .int (iI dq1)), (0, .ref a0), (1, .int (iI i)), (2, .int (iI x))]) C dX4_nodeBehind_144 (by decide) rfl ?_
                refine c_goto (tgt := 161) C dX4_nodeBehind_146 (by decide) ?_
                refine c_iload_n (j := 3) C dX4_nodeBehind_161 rfl ?_
                refine c_aload (j := 1) (x := f9) C dX4_nodeBehind_162 rfl ?_
                obtain ⟨rb13, rq13, trb13⟩ := hW.ref rgf9 2 rfl rfl rfl
                have lnrb13 : 1 ≤ ln rb13 ∧ ln rb13 ≤ 4 := hW.len trb13 rfl
                refine c_getr (k := 2) C ck_6 dX4_nodeBehind_164 w3_144 (by decide) rgf9 rfl rfl (by decide) rfl rq13 ?_
                refine c_st (st2 := [.ref rb13, .int (iI dq1)]) rfl ?_
                have ll11 : 1 ≤ ln rb13 ∧ ln rb13 ≤ 4 := hW.len trb13 rfl
                refine c_alenI C dX4_nodeBehind_167 trb13 rfl ?_
                refine c_iadd C dX4_nodeBehind_168 ?_
                refine c_iconst C dX4_nodeBehind_169 ?_
                refine c_imul C dX4_nodeBehind_170 ?_
                refine c_iload (j := 0) C dX4_nodeBehind_171 rfl ?_
                refine c_iadd C dX4_nodeBehind_173 ?_
                have up9 := (gf10.mp (by omega) rb13 rq13 (ln rb13 - 1) (by omega)).1
                exact c_iret C dX4_nodeBehind_174 rfl (by decide) (rom0 hph hph (by decide)) ⟨(((dq1 + ((ln rb13 : Nat) : Int)) * 4) + zz9), rfl, rfl, rfl, rfl, rfl, rfl, ⟨by omega, by omega⟩, (by rw [← hdq1]; exact Or.inr ⟨GD.mk1 (by omega) (Or.inl ⟨hb1zz7.mpr (by omega), exf9⟩) (gf10.mp (by omega)) (Or.inr (gf11.mp (by omega))), by omega⟩)⟩
              · refine c_tabIn (tgt := 161) (off := 52) C (r32_c (lo := (-2147483648)) (hi := 2147483647) ri6.1 ri6.2 (by decide) (by decide)) dX4_nodeBehind_109 (by omega) (by omega) (by rw [sw3]; rfl) (by decide) ?_
                refine c_iload_n (j := 3) C dX4_nodeBehind_161 rfl ?_
                refine c_aload (j := 1) (x := f9) C dX4_nodeBehind_162 rfl ?_
                obtain ⟨rb14, rq14, trb14⟩ := hW.ref rgf9 2 rfl rfl rfl
                have lnrb14 : 1 ≤ ln rb14 ∧ ln rb14 ≤ 4 := hW.len trb14 rfl
                refine c_getr (k := 2) C ck_6 dX4_nodeBehind_164 w3_144 (by decide) rgf9 rfl rfl (by decide) rfl rq14 ?_
                refine c_st (st2 := [.ref rb14, .int (iI dq1)]) rfl ?_
                have ll12 : 1 ≤ ln rb14 ∧ ln rb14 ≤ 4 := hW.len trb14 rfl
                refine c_alenI C dX4_nodeBehind_167 trb14 rfl ?_
                refine c_iadd C dX4_nodeBehind_168 ?_
                refine c_iconst C dX4_nodeBehind_169 ?_
                refine c_imul C dX4_nodeBehind_170 ?_
                refine c_iload (j := 0) C dX4_nodeBehind_171 rfl ?_
                refine c_iadd C dX4_nodeBehind_173 ?_
                have up9 := (gf10.mp (by omega) rb14 rq14 (ln rb14 - 1) (by omega)).1
                exact c_iret C dX4_nodeBehind_174 rfl (by decide) (rom0 hph hph (by decide)) ⟨(((dq1 + ((ln rb14 : Nat) : Int)) * 4) + zz8), rfl, rfl, rfl, rfl, rfl, rfl, ⟨by omega, by omega⟩, (by rw [← hdq1]; exact Or.inr ⟨GD.mk1 (by omega) (Or.inl ⟨hb1zz7.mpr (by omega), exf9⟩) (gf10.mp (by omega)) (Or.inr (gf11.mp (by omega))), by omega⟩)⟩
              · refine c_tabIn (tgt := 149) (off := 40) C (r32_c (lo := (-2147483648)) (hi := 2147483647) ri6.1 ri6.2 (by decide) (by decide)) dX4_nodeBehind_109 (by omega) (by omega) (by rw [sw3]; rfl) (by decide) ?_
                refine c_iconst C dX4_nodeBehind_149 ?_
                refine c_istore (lv2 := [(6, .int (iI 1)), (5, .ref f9), (4, .int (iI 1)), (3, .int (iI dq1)), (0, .ref a0), (1, .int (iI i)), (2, .int (iI x))]) C dX4_nodeBehind_150 (by decide) rfl ?_
                refine c_goto (tgt := 161) C dX4_nodeBehind_152 (by decide) ?_
                refine c_iload_n (j := 3) C dX4_nodeBehind_161 rfl ?_
                refine c_aload (j := 1) (x := f9) C dX4_nodeBehind_162 rfl ?_
                obtain ⟨rb15, rq15, trb15⟩ := hW.ref rgf9 2 rfl rfl rfl
                have lnrb15 : 1 ≤ ln rb15 ∧ ln rb15 ≤ 4 := hW.len trb15 rfl
                refine c_getr (k := 2) C ck_6 dX4_nodeBehind_164 w3_144 (by decide) rgf9 rfl rfl (by decide) rfl rq15 ?_
                refine c_st (st2 := [.ref rb15, .int (iI dq1)]) rfl ?_
                have ll13 : 1 ≤ ln rb15 ∧ ln rb15 ≤ 4 := hW.len trb15 rfl
                refine c_alenI C dX4_nodeBehind_167 trb15 rfl ?_
                refine c_iadd C dX4_nodeBehind_168 ?_
                refine c_iconst C dX4_nodeBehind_169 ?_
                refine c_imul C dX4_nodeBehind_170 ?_
                refine c_iload (j := 0) C dX4_nodeBehind_171 rfl ?_
                refine c_iadd C dX4_nodeBehind_173 ?_
                have up9 := (gf10.mp (by omega) rb15 rq15 (ln rb15 - 1) (by omega)).1
                exact c_iret C dX4_nodeBehind_174 rfl (by decide) (rom0 hph hph (by decide)) ⟨(((dq1 + ((ln rb15 : Nat) : Int)) * 4) + 1), rfl, rfl, rfl, rfl, rfl, rfl, ⟨by omega, by omega⟩, (by rw [← hdq1]; exact Or.inr ⟨GD.mk1 (by omega) (Or.inl ⟨hb1zz7.mpr (by omega), exf9⟩) (gf10.mp (by omega)) (Or.inr (gf11.mp (by omega))), by omega⟩)⟩
              · refine c_tabIn (tgt := 155) (off := 46) C (r32_c (lo := (-2147483648)) (hi := 2147483647) ri6.1 ri6.2 (by decide) (by decide)) dX4_nodeBehind_109 (by omega) (by omega) (by rw [sw3]; rfl) (by decide) ?_
                refine c_iconst C dX4_nodeBehind_155 ?_
                refine c_istore (lv2 := [(6, .int (iI 0)), (5, .ref f9), (4, .int (iI 1)), (3, .int (iI dq1)), (0, .ref a0), (1, .int (iI i)), (2, .int (iI x))]) C dX4_nodeBehind_156 (by decide) rfl ?_
                refine c_goto (tgt := 161) C dX4_nodeBehind_158 (by decide) ?_
                refine c_iload_n (j := 3) C dX4_nodeBehind_161 rfl ?_
                refine c_aload (j := 1) (x := f9) C dX4_nodeBehind_162 rfl ?_
                obtain ⟨rb16, rq16, trb16⟩ := hW.ref rgf9 2 rfl rfl rfl
                have lnrb16 : 1 ≤ ln rb16 ∧ ln rb16 ≤ 4 := hW.len trb16 rfl
                refine c_getr (k := 2) C ck_6 dX4_nodeBehind_164 w3_144 (by decide) rgf9 rfl rfl (by decide) rfl rq16 ?_
                refine c_st (st2 := [.ref rb16, .int (iI dq1)]) rfl ?_
                have ll14 : 1 ≤ ln rb16 ∧ ln rb16 ≤ 4 := hW.len trb16 rfl
                refine c_alenI C dX4_nodeBehind_167 trb16 rfl ?_
                refine c_iadd C dX4_nodeBehind_168 ?_
                refine c_iconst C dX4_nodeBehind_169 ?_
                refine c_imul C dX4_nodeBehind_170 ?_
                refine c_iload (j := 0) C dX4_nodeBehind_171 rfl ?_
                refine c_iadd C dX4_nodeBehind_173 ?_
                have up9 := (gf10.mp (by omega) rb16 rq16 (ln rb16 - 1) (by omega)).1
                exact c_iret C dX4_nodeBehind_174 rfl (by decide) (rom0 hph hph (by decide)) ⟨(((dq1 + ((ln rb16 : Nat) : Int)) * 4) + 0), rfl, rfl, rfl, rfl, rfl, rfl, ⟨by omega, by omega⟩, (by rw [← hdq1]; exact Or.inr ⟨GD.mk1 (by omega) (Or.inl ⟨hb1zz7.mpr (by omega), exf9⟩) (gf10.mp (by omega)) (Or.inr (gf11.mp (by omega))), by omega⟩)⟩
              · refine c_tabOut (tgt := 161) C (r32_c (lo := (-2147483648)) (hi := 2147483647) ri6.1 ri6.2 (by decide) (by decide)) dX4_nodeBehind_109 sw3 (by decide) ?_
                refine c_iload_n (j := 3) C dX4_nodeBehind_161 rfl ?_
                refine c_aload (j := 1) (x := f9) C dX4_nodeBehind_162 rfl ?_
                obtain ⟨rb17, rq17, trb17⟩ := hW.ref rgf9 2 rfl rfl rfl
                have lnrb17 : 1 ≤ ln rb17 ∧ ln rb17 ≤ 4 := hW.len trb17 rfl
                refine c_getr (k := 2) C ck_6 dX4_nodeBehind_164 w3_144 (by decide) rgf9 rfl rfl (by decide) rfl rq17 ?_
                refine c_st (st2 := [.ref rb17, .int (iI dq1)]) rfl ?_
                have ll15 : 1 ≤ ln rb17 ∧ ln rb17 ≤ 4 := hW.len trb17 rfl
                refine c_alenI C dX4_nodeBehind_167 trb17 rfl ?_
                refine c_iadd C dX4_nodeBehind_168 ?_
                refine c_iconst C dX4_nodeBehind_169 ?_
                refine c_imul C dX4_nodeBehind_170 ?_
                refine c_iload (j := 0) C dX4_nodeBehind_171 rfl ?_
                refine c_iadd C dX4_nodeBehind_173 ?_
                have up9 := (gf10.mp (by omega) rb17 rq17 (ln rb17 - 1) (by omega)).1
                exact c_iret C dX4_nodeBehind_174 rfl (by decide) (rom0 hph hph (by decide)) ⟨(((dq1 + ((ln rb17 : Nat) : Int)) * 4) + zz8), rfl, rfl, rfl, rfl, rfl, rfl, ⟨by omega, by omega⟩, (by rw [← hdq1]; exact Or.inr ⟨GD.mk1 (by omega) (Or.inl ⟨hb1zz7.mpr (by omega), exf9⟩) (gf10.mp (by omega)) (Or.inr (gf11.mp (by omega))), by omega⟩)⟩
            · refine c_iconst C dX4_nodeBehind_97 ?_
              exact c_iret C dX4_nodeBehind_98 rfl (by decide) (rom0 hph hph (by decide)) ⟨(-1), rfl, rfl, rfl, rfl, rfl, rfl, ⟨by decide, by decide⟩, (by rw [← hdq1]; exact Or.inl ⟨rfl, GD.no1 (by omega) (Or.inl ⟨hb1zz7.mpr (by omega), exf9⟩) (fun _ q => q.elim (fun q => absurd (hb2zz1.mp q) (by omega)) (fun q2 => absurd (gf11.mpr q2) (by omega)))⟩)⟩
        · exact absurd exf8.1 (by decide)
      · refine c_iconst C dX4_nodeBehind_55 ?_
        refine c_goto (tgt := 60) C dX4_nodeBehind_56 (by decide) ?_
        refine d_callV (As := [.int (iI 1)]) (rest := []) C hM (C_rowsOf (a0 := (sk 16)) (g := 1) hW hS tsk16 ⟨by decide, by decide⟩ ) dX4_nodeBehind_60 kV_X4_95 rfl tsk16 rfl rfl (by decide) ck_4 rfl (Nat.le_of_ble_eq_true rfl) ⟨(Nat.le_of_ble_eq_true rfl), (Nat.le_of_ble_eq_true rfl)⟩ hph hph (show 0 + 0 = 0 from rfl) (by decide) (fun rh12 Lh12 clh12 lnh12 ivh12 rvh12 h12 => ?_)
        obtain ⟨f12, rfl, rfl, rfl, rfl, rfl, rfl, rgf12, exf12⟩ := h12
        refine c_st (st2 := [.ref f12]) rfl ?_
        rcases exf12 with exf12 | exf12
        · exact absurd exf12.1 (by decide)
        · obtain ⟨hf12, rfl⟩ := exf12
          refine c_st (st2 := [.ref (sk 25)]) rfl ?_
          refine c_iload_n (j := 4) C dX4_nodeBehind_63 rfl ?_
          refine c_iconst C dX4_nodeBehind_64 ?_
          refine c_isub C dX4_nodeBehind_65 ?_
          have ri7 : 0 ≤ iv (sk 25) 2 ∧ iv (sk 25) 2 ≤ 6003 := hW.int tsk25 2
          refine d_callV (As := [.int (iI (x - 1))]) (rest := []) C hM (C_get_25 (a0 := (sk 25)) (i := x - 1) hW hS tsk25 (by omega) (by show 0 ≤ (x - 1) ∧ (x - 1) < iv (sk 25) 2; omega)) dX4_nodeBehind_66 kV_X4_110 rfl tsk25 rfl rfl (by decide) ck_0 rfl (Nat.le_of_ble_eq_true rfl) ⟨(Nat.le_of_ble_eq_true rfl), (Nat.le_of_ble_eq_true rfl)⟩ hph hph (show 0 + 0 = 0 from rfl) (by decide) (fun rh13 Lh13 clh13 lnh13 ivh13 rvh13 h13 => ?_)
          obtain ⟨f13, rfl, rfl, rfl, rfl, rfl, rfl, rgf13, exf13⟩ := h13
          refine c_st (st2 := [.ref f13]) rfl ?_
          have gf13 : el rv (sk 25) (x - 1).toNat = some f13 := exf13
          refine c_cast C ck_6 dX4_nodeBehind_69 w5_149 w8_169t rgf13 rfl rfl (by decide) ?_
          refine c_astore (lv2 := [(5, .ref f13), (4, .int (iI 1)), (3, .int (iI dq1)), (0, .ref a0), (1, .int (iI i)), (2, .int (iI x))]) C dX4_nodeBehind_72 (by decide) rfl ?_
          refine c_aload_n (j := 3) (x := a0) C dX4_nodeBehind_74 rfl ?_
          refine c_aload (j := 0) (x := f13) C dX4_nodeBehind_75 rfl ?_
          refine c_iload_n (j := 2) C dX4_nodeBehind_77 rfl ?_
          refine d_callV (As := [.ref f13, .int (iI dq1)]) (rest := []) C hM (C_looksLikeRow (a0 := a0) (a1 := f13) (i := dq1) hW hS t_a0 rgf13 (by omega) (by show 0 ≤ dq1 ∧ dq1 ≤ 1000; omega)) dX4_nodeBehind_78 kV_X4_116 rfl t_a0 rfl rfl (by decide) ck_5 rfl (Nat.le_of_ble_eq_true rfl) ⟨(Nat.le_of_ble_eq_true rfl), (Nat.le_of_ble_eq_true rfl)⟩ hph hph (show 0 + 0 = 0 from rfl) (by decide) (fun rh14 Lh14 clh14 lnh14 ivh14 rvh14 h14 => ?_)
          obtain ⟨f14, rfl, rfl, rfl, rfl, rfl, rfl, rgf14, exf14⟩ := h14
          refine c_st (st2 := [.int (iI f14)]) rfl ?_
          have gf14 : f14 = 1 ↔ LRw ln iv rv a0 f13 dq1 := exf14
          refine c_if_eq (tgt := 97) C ⟨by omega, by omega⟩ dX4_nodeBehind_81 (by decide) (fun c11 => ?_) (fun c11 => ?_)
          · refine c_iconst C dX4_nodeBehind_97 ?_
            exact c_iret C dX4_nodeBehind_98 rfl (by decide) (rom0 hph hph (by decide)) ⟨(-1), rfl, rfl, rfl, rfl, rfl, rfl, ⟨by decide, by decide⟩, (by rw [← hdq1]; exact Or.inl ⟨rfl, GD.no1 (by omega) (Or.inr ⟨fun q => absurd (hb1zz7.mp q) (by omega), exf13⟩) (fun q _ => absurd (gf14.mpr q) (by omega))⟩)⟩
          · refine c_iload (j := 1) C dX4_nodeBehind_84 rfl ?_
            refine c_if_eq (tgt := 99) C ⟨by decide, by decide⟩ dX4_nodeBehind_86 (by decide) (fun z => absurd z (by omega)) (fun _ => ?_)
            refine c_aload (j := 0) (x := f13) C dX4_nodeBehind_89 rfl ?_
            refine d_callV (As := []) (rest := []) C hM (C_bsmall (a0 := f13) hW hS rgf13  ) dX4_nodeBehind_91 kV_X4_120 rfl rgf13 rfl rfl (by decide) ck_6 rfl (Nat.le_of_ble_eq_true rfl) ⟨(Nat.le_of_ble_eq_true rfl), (Nat.le_of_ble_eq_true rfl)⟩ hph hph (show 0 + 0 = 0 from rfl) (by decide) (fun rh15 Lh15 clh15 lnh15 ivh15 rvh15 h15 => ?_)
            obtain ⟨f15, rfl, rfl, rfl, rfl, rfl, rfl, rgf15, exf15⟩ := h15
            refine c_st (st2 := [.int (iI f15)]) rfl ?_
            have gf15 : f15 = 1 ↔ BSw ln iv rv f13 := exf15
            refine c_if_ne (tgt := 99) C ⟨by omega, by omega⟩ dX4_nodeBehind_94 (by decide) (fun c12 => ?_) (fun c12 => ?_)
            · refine c_iload_n (j := 4) C dX4_nodeBehind_99 rfl ?_
              refine c_iconst C dX4_nodeBehind_100 ?_
              obtain ⟨zz10, hzz10, ezz10⟩ := iI_of (iI i &&& iI 1)
              refine c_iand (w := iI zz10) C dX4_nodeBehind_101 ezz10 ?_
              have bazz10 := and1 ezz10 hzz10
              refine c_istore (lv2 := [(6, .int (iI zz10)), (5, .ref f13), (4, .int (iI 1)), (3, .int (iI dq1)), (0, .ref a0), (1, .int (iI i)), (2, .int (iI x))]) C dX4_nodeBehind_102 (by decide) rfl ?_
              refine c_aload (j := 1) (x := f13) C dX4_nodeBehind_104 rfl ?_
              have ri8 : (-2147483648) ≤ iv f13 0 ∧ iv f13 0 ≤ 2147483647 := hW.int rgf13 0
              refine c_get (k := 0) C ck_6 dX4_nodeBehind_106 w3_136 (by decide) rgf13 rfl rfl (by decide) rfl ?_
              rcases (show (iv f13 0) = 0 ∨ (iv f13 0) = 1 ∨ (iv f13 0) = 2 ∨ (iv f13 0) = 3 ∨ ((iv f13 0) < 0 ∨ 3 < (iv f13 0)) by omega) with sw4 | sw4 | sw4 | sw4 | sw4
              · refine c_tabIn (tgt := 140) (off := 31) C (r32_c (lo := (-2147483648)) (hi := 2147483647) ri8.1 ri8.2 (by decide) (by decide)) dX4_nodeBehind_109 (by omega) (by omega) (by rw [sw4]; rfl) (by decide) ?_
                refine c_iload (j := 0) C dX4_nodeBehind_140 rfl ?_
                refine c_iconst C dX4_nodeBehind_142 ?_
                obtain ⟨zz11, hzz11, ezz11⟩ := iI_of (iI zz10 ||| iI 2)
                refine c_ior (w := iI zz11) C dX4_nodeBehind_143 ezz11 ?_
                have bozz11 := or2 bazz10 ezz11 hzz11
                refine c_istore (lv2 := [(6, .int (iI zz11)), (5, .ref f13), (4, .int (iI 1)), (3, .int (iI dq1)), (0, .ref a0), (1, .int (iI i)), (2, .int (iI x))]) C dX4_nodeBehind_144 (by decide) rfl ?_
                refine c_goto (tgt := 161) C dX4_nodeBehind_146 (by decide) ?_
                refine c_iload_n (j := 3) C dX4_nodeBehind_161 rfl ?_
                refine c_aload (j := 1) (x := f13) C dX4_nodeBehind_162 rfl ?_
                obtain ⟨rb18, rq18, trb18⟩ := hW.ref rgf13 2 rfl rfl rfl
                have lnrb18 : 1 ≤ ln rb18 ∧ ln rb18 ≤ 4 := hW.len trb18 rfl
                refine c_getr (k := 2) C ck_6 dX4_nodeBehind_164 w3_144 (by decide) rgf13 rfl rfl (by decide) rfl rq18 ?_
                refine c_st (st2 := [.ref rb18, .int (iI dq1)]) rfl ?_
                have ll16 : 1 ≤ ln rb18 ∧ ln rb18 ≤ 4 := hW.len trb18 rfl
                refine c_alenI C dX4_nodeBehind_167 trb18 rfl ?_
                refine c_iadd C dX4_nodeBehind_168 ?_
                refine c_iconst C dX4_nodeBehind_169 ?_
                refine c_imul C dX4_nodeBehind_170 ?_
                refine c_iload (j := 0) C dX4_nodeBehind_171 rfl ?_
                refine c_iadd C dX4_nodeBehind_173 ?_
                have up9 := (gf14.mp (by omega) rb18 rq18 (ln rb18 - 1) (by omega)).1
                exact c_iret C dX4_nodeBehind_174 rfl (by decide) (rom0 hph hph (by decide)) ⟨(((dq1 + ((ln rb18 : Nat) : Int)) * 4) + zz11), rfl, rfl, rfl, rfl, rfl, rfl, ⟨by omega, by omega⟩, (by rw [← hdq1]; exact Or.inr ⟨GD.mk1 (by omega) (Or.inr ⟨fun q => absurd (hb1zz7.mp q) (by omega), exf13⟩) (gf14.mp (by omega)) (Or.inr (gf15.mp (by omega))), by omega⟩)⟩
              · refine c_tabIn (tgt := 161) (off := 52) C (r32_c (lo := (-2147483648)) (hi := 2147483647) ri8.1 ri8.2 (by decide) (by decide)) dX4_nodeBehind_109 (by omega) (by omega) (by rw [sw4]; rfl) (by decide) ?_
                refine c_iload_n (j := 3) C dX4_nodeBehind_161 rfl ?_
                refine c_aload (j := 1) (x := f13) C dX4_nodeBehind_162 rfl ?_
                obtain ⟨rb19, rq19, trb19⟩ := hW.ref rgf13 2 rfl rfl rfl
                have lnrb19 : 1 ≤ ln rb19 ∧ ln rb19 ≤ 4 := hW.len trb19 rfl
                refine c_getr (k := 2) C ck_6 dX4_nodeBehind_164 w3_144 (by decide) rgf13 rfl rfl (by decide) rfl rq19 ?_
                refine c_st (st2 := [.ref rb19, .int (iI dq1)]) rfl ?_
                have ll17 : 1 ≤ ln rb19 ∧ ln rb19 ≤ 4 := hW.len trb19 rfl
                refine c_alenI C dX4_nodeBehind_167 trb19 rfl ?_
                refine c_iadd C dX4_nodeBehind_168 ?_
                refine c_iconst C dX4_nodeBehind_169 ?_
                refine c_imul C dX4_nodeBehind_170 ?_
                refine c_iload (j := 0) C dX4_nodeBehind_171 rfl ?_
                refine c_iadd C dX4_nodeBehind_173 ?_
                have up9 := (gf14.mp (by omega) rb19 rq19 (ln rb19 - 1) (by omega)).1
                exact c_iret C dX4_nodeBehind_174 rfl (by decide) (rom0 hph hph (by decide)) ⟨(((dq1 + ((ln rb19 : Nat) : Int)) * 4) + zz10), rfl, rfl, rfl, rfl, rfl, rfl, ⟨by omega, by omega⟩, (by rw [← hdq1]; exact Or.inr ⟨GD.mk1 (by omega) (Or.inr ⟨fun q => absurd (hb1zz7.mp q) (by omega), exf13⟩) (gf14.mp (by omega)) (Or.inr (gf15.mp (by omega))), by omega⟩)⟩
              · refine c_tabIn (tgt := 149) (off := 40) C (r32_c (lo := (-2147483648)) (hi := 2147483647) ri8.1 ri8.2 (by decide) (by decide)) dX4_nodeBehind_109 (by omega) (by omega) (by rw [sw4]; rfl) (by decide) ?_
                refine c_iconst C dX4_nodeBehind_149 ?_
                refine c_istore (lv2 := [(6, .int (iI 1)), (5, .ref f13), (4, .int (iI 1)), (3, .int (iI dq1)), (0, .ref a0), (1, .int (iI i)), (2, .int (iI x))]) C dX4_nodeBehind_150 (by decide) rfl ?_
                refine c_goto (tgt := 161) C dX4_nodeBehind_152 (by decide) ?_
                refine c_iload_n (j := 3) C dX4_nodeBehind_161 rfl ?_
                refine c_aload (j := 1) (x := f13) C dX4_nodeBehind_162 rfl ?_
                obtain ⟨rb20, rq20, trb20⟩ := hW.ref rgf13 2 rfl rfl rfl
                have lnrb20 : 1 ≤ ln rb20 ∧ ln rb20 ≤ 4 := hW.len trb20 rfl
                refine c_getr (k := 2) C ck_6 dX4_nodeBehind_164 w3_144 (by decide) rgf13 rfl rfl (by decide) rfl rq20 ?_
                refine c_st (st2 := [.ref rb20, .int (iI dq1)]) rfl ?_
                have ll18 : 1 ≤ ln rb20 ∧ ln rb20 ≤ 4 := hW.len trb20 rfl
                refine c_alenI C dX4_nodeBehind_167 trb20 rfl ?_
                refine c_iadd C dX4_nodeBehind_168 ?_
                refine c_iconst C dX4_nodeBehind_169 ?_
                refine c_imul C dX4_nodeBehind_170 ?_
                refine c_iload (j := 0) C dX4_nodeBehind_171 rfl ?_
                refine c_iadd C dX4_nodeBehind_173 ?_
                have up9 := (gf14.mp (by omega) rb20 rq20 (ln rb20 - 1) (by omega)).1
                exact c_iret C dX4_nodeBehind_174 rfl (by decide) (rom0 hph hph (by decide)) ⟨(((dq1 + ((ln rb20 : Nat) : Int)) * 4) + 1), rfl, rfl, rfl, rfl, rfl, rfl, ⟨by omega, by omega⟩, (by rw [← hdq1]; exact Or.inr ⟨GD.mk1 (by omega) (Or.inr ⟨fun q => absurd (hb1zz7.mp q) (by omega), exf13⟩) (gf14.mp (by omega)) (Or.inr (gf15.mp (by omega))), by omega⟩)⟩
              · refine c_tabIn (tgt := 155) (off := 46) C (r32_c (lo := (-2147483648)) (hi := 2147483647) ri8.1 ri8.2 (by decide) (by decide)) dX4_nodeBehind_109 (by omega) (by omega) (by rw [sw4]; rfl) (by decide) ?_
                refine c_iconst C dX4_nodeBehind_155 ?_
                refine c_istore (lv2 := [(6, .int (iI 0)), (5, .ref f13), (4, .int (iI 1)), (3, .int (iI dq1)), (0, .ref a0), (1, .int (iI i)), (2, .int (iI x))]) C dX4_nodeBehind_156 (by decide) rfl ?_
                refine c_goto (tgt := 161) C dX4_nodeBehind_158 (by decide) ?_
                refine c_iload_n (j := 3) C dX4_nodeBehind_161 rfl ?_
                refine c_aload (j := 1) (x := f13) C dX4_nodeBehind_162 rfl ?_
                obtain ⟨rb21, rq21, trb21⟩ := hW.ref rgf13 2 rfl rfl rfl
                have lnrb21 : 1 ≤ ln rb21 ∧ ln rb21 ≤ 4 := hW.len trb21 rfl
                refine c_getr (k := 2) C ck_6 dX4_nodeBehind_164 w3_144 (by decide) rgf13 rfl rfl (by decide) rfl rq21 ?_
                refine c_st (st2 := [.ref rb21, .int (iI dq1)]) rfl ?_
                have ll19 : 1 ≤ ln rb21 ∧ ln rb21 ≤ 4 := hW.len trb21 rfl
                refine c_alenI C dX4_nodeBehind_167 trb21 rfl ?_
                refine c_iadd C dX4_nodeBehind_168 ?_
                refine c_iconst C dX4_nodeBehind_169 ?_
                refine c_imul C dX4_nodeBehind_170 ?_
                refine c_iload (j := 0) C dX4_nodeBehind_171 rfl ?_
                refine c_iadd C dX4_nodeBehind_173 ?_
                have up9 := (gf14.mp (by omega) rb21 rq21 (ln rb21 - 1) (by omega)).1
                exact c_iret C dX4_nodeBehind_174 rfl (by decide) (rom0 hph hph (by decide)) ⟨(((dq1 + ((ln rb21 : Nat) : Int)) * 4) + 0), rfl, rfl, rfl, rfl, rfl, rfl, ⟨by omega, by omega⟩, (by rw [← hdq1]; exact Or.inr ⟨GD.mk1 (by omega) (Or.inr ⟨fun q => absurd (hb1zz7.mp q) (by omega), exf13⟩) (gf14.mp (by omega)) (Or.inr (gf15.mp (by omega))), by omega⟩)⟩
              · refine c_tabOut (tgt := 161) C (r32_c (lo := (-2147483648)) (hi := 2147483647) ri8.1 ri8.2 (by decide) (by decide)) dX4_nodeBehind_109 sw4 (by decide) ?_
                refine c_iload_n (j := 3) C dX4_nodeBehind_161 rfl ?_
                refine c_aload (j := 1) (x := f13) C dX4_nodeBehind_162 rfl ?_
                obtain ⟨rb22, rq22, trb22⟩ := hW.ref rgf13 2 rfl rfl rfl
                have lnrb22 : 1 ≤ ln rb22 ∧ ln rb22 ≤ 4 := hW.len trb22 rfl
                refine c_getr (k := 2) C ck_6 dX4_nodeBehind_164 w3_144 (by decide) rgf13 rfl rfl (by decide) rfl rq22 ?_
                refine c_st (st2 := [.ref rb22, .int (iI dq1)]) rfl ?_
                have ll20 : 1 ≤ ln rb22 ∧ ln rb22 ≤ 4 := hW.len trb22 rfl
                refine c_alenI C dX4_nodeBehind_167 trb22 rfl ?_
                refine c_iadd C dX4_nodeBehind_168 ?_
                refine c_iconst C dX4_nodeBehind_169 ?_
                refine c_imul C dX4_nodeBehind_170 ?_
                refine c_iload (j := 0) C dX4_nodeBehind_171 rfl ?_
                refine c_iadd C dX4_nodeBehind_173 ?_
                have up9 := (gf14.mp (by omega) rb22 rq22 (ln rb22 - 1) (by omega)).1
                exact c_iret C dX4_nodeBehind_174 rfl (by decide) (rom0 hph hph (by decide)) ⟨(((dq1 + ((ln rb22 : Nat) : Int)) * 4) + zz10), rfl, rfl, rfl, rfl, rfl, rfl, ⟨by omega, by omega⟩, (by rw [← hdq1]; exact Or.inr ⟨GD.mk1 (by omega) (Or.inr ⟨fun q => absurd (hb1zz7.mp q) (by omega), exf13⟩) (gf14.mp (by omega)) (Or.inr (gf15.mp (by omega))), by omega⟩)⟩
            · refine c_iconst C dX4_nodeBehind_97 ?_
              exact c_iret C dX4_nodeBehind_98 rfl (by decide) (rom0 hph hph (by decide)) ⟨(-1), rfl, rfl, rfl, rfl, rfl, rfl, ⟨by decide, by decide⟩, (by rw [← hdq1]; exact Or.inl ⟨rfl, GD.no1 (by omega) (Or.inr ⟨fun q => absurd (hb1zz7.mp q) (by omega), exf13⟩) (fun _ q => q.elim (fun q => absurd (hb2zz1.mp q) (by omega)) (fun q2 => absurd (gf15.mpr q2) (by omega)))⟩)⟩
    · refine c_iload (j := 0) C dX4_nodeBehind_21 rfl ?_
      refine c_if_ne (tgt := 35) C ⟨by decide, by decide⟩ dX4_nodeBehind_23 (by decide) (fun _ => ?_) (fun z => absurd z (by omega))
      refine c_iconst C dX4_nodeBehind_35 ?_
      refine c_goto (tgt := 44) C dX4_nodeBehind_36 (by decide) ?_
      exact c_iret C dX4_nodeBehind_44 rfl (by decide) (rom0 hph hph (by decide)) ⟨(-1), rfl, rfl, rfl, rfl, rfl, rfl, ⟨by decide, by decide⟩, (by rw [← hdq1]; exact Or.inl ⟨rfl, GD.no0 (by omega) (fun q _ => (fun q => absurd (hb2zz1.mp q) (by omega)) q)⟩)⟩
set_option maxHeartbeats 4000000 in
set_option maxRecDepth 100000 in
theorem C_nextChoice {l : Launch} {G : GT} {mi : Nat} {sk : Nat → Nat} {L : List Nat} {cl ln : Nat → Nat} {iv : Nat → Nat → Int} {rv : Nat → Nat → Option Nat}  {a0 : Nat} {i : Int} {x : Int} (hW : WT (g0 G) sk L cl ln iv rv) (hS : SKL sk L cl) (t_a0 : ty L cl a0 17) (h_i : -2147483648 ≤ i ∧ i ≤ 2147483647) (h_x : -2147483648 ≤ x ∧ x ≤ 2147483647) (hi : 0 ≤ i ∧ i ≤ 403 ∧ 0 ≤ x) : Mc l G mi (Phi (g0 G) sk) PHM yX4_nextChoice cX4_nextChoice 6 (some .int) 4 [.ref a0, .int (iI i), .int (iI x)] L cl ln iv rv 0 (fun v L2 cl2 ln2 iv2 rv2 => ∃ f : Int, v = some (.int (iI f)) ∧ L = L2 ∧ cl = cl2 ∧ ln = ln2 ∧ iv = iv2 ∧ rv = rv2 ∧ (-2147483648 ≤ f ∧ f ≤ 2147483647) ∧ (f = -1 ∨ (x ≤ f ∧ VL sk iv i f ∧ GD sk ln iv rv a0 i (i / 4) f))) := by
  refine Mc.mk (by decide) (Nat.le_of_ble_eq_true rfl) ?_
  intro p e s m args below meth c A C hM
  refine hv7 (Phi.le hW hS) (show ty L cl (sk 11) 11 from ⟨(hS 11 rfl).1, by rw [(hS 11 rfl).2]; rfl⟩) (show ty L cl (sk 16) 16 from ⟨(hS 16 rfl).1, by rw [(hS 16 rfl).2]; rfl⟩) (show ty L cl (sk 24) 24 from ⟨(hS 24 rfl).1, by rw [(hS 24 rfl).2]; rfl⟩) (show ty L cl (sk 25) 25 from ⟨(hS 25 rfl).1, by rw [(hS 25 rfl).2]; rfl⟩) (show XT L cl ln L cl ln from XT.refl) (show fT [] L cl iv rv iv rv from fT.refl) (fun hph tsk11 tsk16 tsk24 tsk25 hX0 hF0 => ?_)
  refine c_aload_n (j := 0) (x := a0) C dX4_nextChoice_0 rfl ?_
  obtain ⟨rb1, rq1, trb1⟩ := hW.ref t_a0 7 rfl rfl rfl
  have erb1 := hW.sk trb1 (by decide) rfl
  subst erb1
  refine c_getr (k := 7) C ck_5 dX4_nextChoice_1 w1_238 (by decide) t_a0 rfl rfl (by decide) rfl rq1 ?_
  refine c_st (st2 := [.ref (sk 16)]) rfl ?_
  refine c_iload_n (j := 1) C dX4_nextChoice_4 rfl ?_
  refine c_iconst C dX4_nextChoice_5 ?_
  obtain ⟨zz1, hzz1, ezz1⟩ := iI_of (iI i &&& iI 1)
  refine c_iand (w := iI zz1) C dX4_nextChoice_6 ezz1 ?_
  have hb1zz1 := bz_iff ezz1 hzz1
  refine c_if_eq (tgt := 14) C ⟨by omega, by omega⟩ dX4_nextChoice_7 (by decide) (fun c1 => ?_) (fun c1 => ?_)
  · refine c_iconst C dX4_nextChoice_14 ?_
    refine d_callV (As := [.int (iI 0)]) (rest := []) C hM (C_rowsOf (a0 := (sk 16)) (g := 0) hW hS tsk16 ⟨by decide, by decide⟩ ) dX4_nextChoice_15 kV_X4_95 rfl tsk16 rfl rfl (by decide) ck_4 rfl (Nat.le_of_ble_eq_true rfl) ⟨(Nat.le_of_ble_eq_true rfl), (Nat.le_of_ble_eq_true rfl)⟩ hph hph (show 0 + 0 = 0 from rfl) (by decide) (fun rh1 Lh1 clh1 lnh1 ivh1 rvh1 h1 => ?_)
    obtain ⟨f1, rfl, rfl, rfl, rfl, rfl, rfl, rgf1, exf1⟩ := h1
    refine c_st (st2 := [.ref f1]) rfl ?_
    rcases exf1 with exf1 | exf1
    · obtain ⟨hf1, rfl⟩ := exf1
      refine c_st (st2 := [.ref (sk 24)]) rfl ?_
      have ri1 : 0 ≤ iv (sk 24) 2 ∧ iv (sk 24) 2 ≤ 6003 := hW.int tsk24 2
      refine d_callV (As := []) (rest := []) C hM (C_size_24 (a0 := (sk 24)) hW hS tsk24  ) dX4_nextChoice_18 kV_X4_101 rfl tsk24 rfl rfl (by decide) ck_0 rfl (Nat.le_of_ble_eq_true rfl) ⟨(Nat.le_of_ble_eq_true rfl), (Nat.le_of_ble_eq_true rfl)⟩ hph hph (show 0 + 0 = 0 from rfl) (by decide) (fun rh2 Lh2 clh2 lnh2 ivh2 rvh2 h2 => ?_)
      obtain ⟨f2, rfl, rfl, rfl, rfl, rfl, rfl, rgf2, exf2⟩ := h2
      refine c_st (st2 := [.int (iI f2)]) rfl ?_
      have gf2 : f2 = iv (sk 24) 2 := exf2
      refine c_istore_n (lv2 := [(3, .int (iI f2)), (0, .ref a0), (1, .int (iI i)), (2, .int (iI x))]) C dX4_nextChoice_21 (by decide) rfl ?_
      refine c_iload_n (j := 3) C dX4_nextChoice_22 rfl ?_
      refine c_istore (lv2 := [(4, .int (iI x)), (3, .int (iI f2)), (0, .ref a0), (1, .int (iI i)), (2, .int (iI x))]) C dX4_nextChoice_23 (by decide) rfl ?_
      have Lp1 : ∀ (nn : Nat) (k : Int) , max 0 (6004 - k) < (nn : Int) → (x ≤ k ∧ k ≤ 2147483647) → cw p l e 4 ((PHM) + 0 - ((Phi (g0 G) sk) ln rv)) s m args below meth c G A 6 (MQ below (Qu G A (Qp G (Phi (g0 G) sk) ((Phi (g0 G) sk) ln rv) 0 (fun v L2 cl2 ln2 iv2 rv2 => ∃ f : Int, v = some (.int (iI f)) ∧ L = L2 ∧ cl = cl2 ∧ ln = ln2 ∧ iv = iv2 ∧ rv = rv2 ∧ (-2147483648 ≤ f ∧ f ≤ 2147483647) ∧ (f = -1 ∨ (x ≤ f ∧ VL sk iv i f ∧ GD sk ln iv rv a0 i (i / 4) f))))) args s (((PHM) + 0 - ((Phi (g0 G) sk) ln rv)) / 16) ((PHM) + 0 - ((Phi (g0 G) sk) ln rv)) A) (Phi (g0 G) sk) ((Phi (g0 G) sk) ln rv) L cl ln iv rv 0 25 [(4, .int (iI k)), (3, .int (iI f2)), (0, .ref a0), (1, .int (iI i)), (2, .int (iI x))] [] := by
        intro nn
        induction nn with
        | zero =>
          intro  k  hm   hk
          exact absurd hm (by omega)
        | succ nn ih1 =>
          intro  k  hm   hk
          refine c_iload (j := 0) C dX4_nextChoice_25 rfl ?_
          refine c_iload_n (j := 1) C dX4_nextChoice_27 rfl ?_
          refine c_icmp_gt (tgt := 64) C ⟨by omega, by omega⟩ ⟨by omega, by omega⟩ dX4_nextChoice_28 (by decide) (fun c2 => ?_) (fun c2 => ?_)
          · refine c_iconst C dX4_nextChoice_64 ?_
            exact c_iret C dX4_nextChoice_65 rfl (by decide) (rom0 hph hph (by decide)) ⟨(-1), rfl, rfl, rfl, rfl, rfl, rfl, ⟨by decide, by decide⟩, (Or.inl rfl)⟩
          · refine c_aload_n (j := 2) (x := a0) C dX4_nextChoice_31 rfl ?_
            refine c_iload_n (j := 3) C dX4_nextChoice_32 rfl ?_
            refine c_iload (j := 0) C dX4_nextChoice_33 rfl ?_
            have ri2 : 0 ≤ iv a0 9 ∧ iv a0 9 ≤ 100 := hW.int t_a0 9
            refine d_callV (As := [.int (iI i), .int (iI k)]) (rest := []) C hM (C_nodeBehind (a0 := a0) (i := i) (x := k) hW hS t_a0 (by omega) (by omega) (by show 0 ≤ i ∧ i ≤ 403; omega) (Or.inr (Or.inl ⟨hb1zz1.mpr (by omega), by omega⟩))) dX4_nextChoice_35 kV_X4_92 rfl t_a0 rfl rfl (by decide) ck_5 rfl (Nat.le_of_ble_eq_true rfl) ⟨(Nat.le_of_ble_eq_true rfl), (Nat.le_of_ble_eq_true rfl)⟩ hph hph (show 0 + 0 = 0 from rfl) (by decide) (fun rh3 Lh3 clh3 lnh3 ivh3 rvh3 h3 => ?_)
            obtain ⟨f3, rfl, rfl, rfl, rfl, rfl, rfl, rgf3, exf3⟩ := h3
            refine c_st (st2 := [.int (iI f3)]) rfl ?_
            refine hv2 (show (f3 = -1 ∧ ¬ GD sk ln iv rv a0 i (i / 4) k) ∨ (GD sk ln iv rv a0 i (i / 4) k ∧ 4 * (i / 4) + 4 ≤ f3 ∧ f3 ≤ 4 * iv a0 9 + 3) from exf3) (show f3 = -1 ∨ (4 * (i / 4) + 4 ≤ f3 ∧ f3 ≤ 4 * iv a0 9 + 3) from exf3.elim (fun q => Or.inl q.1) (fun q => Or.inr q.2)) (fun gf3 nqf3 => ?_)
            refine c_istore (lv2 := [(5, .int (iI f3)), (4, .int (iI k)), (3, .int (iI f2)), (0, .ref a0), (1, .int (iI i)), (2, .int (iI x))]) C dX4_nextChoice_38 (by decide) rfl ?_
            refine c_iload (j := 0) C dX4_nextChoice_40 rfl ?_
            refine c_if_lt (tgt := 58) C ⟨by omega, by omega⟩ dX4_nextChoice_42 (by decide) (fun c3 => ?_) (fun c3 => ?_)
            · refine c_iinc (z := k) (j := 1) (lv2 := [(4, .int (iI (k + 1))), (5, .int (iI f3)), (3, .int (iI f2)), (0, .ref a0), (1, .int (iI i)), (2, .int (iI x))]) C dX4_nextChoice_58 rfl (by decide) rfl ?_
              refine c_goto (tgt := 25) C dX4_nextChoice_61 (by decide) ?_
              refine c_lv (lv2 := [(4, .int (iI (k + 1))), (3, .int (iI f2)), (0, .ref a0), (1, .int (iI i)), (2, .int (iI x))]) [0, 2, 3, 4, 5] rfl ?_
              exact ih1  (k + 1)  (by omega)   (by omega)
            · refine c_aload_n (j := 3) (x := a0) C dX4_nextChoice_45 rfl ?_
              obtain ⟨rb2, rq2, trb2⟩ := hW.ref t_a0 0 rfl rfl rfl
              have lnrb2 : 404 ≤ ln rb2 ∧ ln rb2 ≤ 404 := hW.len trb2 rfl
              refine c_getr (k := 0) C ck_5 dX4_nextChoice_46 w1_229 (by decide) t_a0 rfl rfl (by decide) rfl rq2 ?_
              refine c_st (st2 := [.ref rb2]) rfl ?_
              refine c_iload (j := 0) C dX4_nextChoice_49 rfl ?_
              have ll1 : 404 ≤ ln rb2 ∧ ln rb2 ≤ 404 := hW.len trb2 rfl
              refine c_zald C dX4_nextChoice_51 trb2 rfl (by omega) (by omega) (by omega) ?_
              have ri3 : 0 ≤ iv rb2 f3.toNat ∧ iv rb2 f3.toNat ≤ 1 := hW.int trb2 f3.toNat
              refine c_if_eq (tgt := 58) C (r32_c (lo := 0) (hi := 1) ri3.1 ri3.2 (by decide) (by decide)) dX4_nextChoice_52 (by decide) (fun c4 => ?_) (fun c4 => ?_)
              · refine c_iinc (z := k) (j := 1) (lv2 := [(4, .int (iI (k + 1))), (5, .int (iI f3)), (3, .int (iI f2)), (0, .ref a0), (1, .int (iI i)), (2, .int (iI x))]) C dX4_nextChoice_58 rfl (by decide) rfl ?_
                refine c_goto (tgt := 25) C dX4_nextChoice_61 (by decide) ?_
                refine c_lv (lv2 := [(4, .int (iI (k + 1))), (3, .int (iI f2)), (0, .ref a0), (1, .int (iI i)), (2, .int (iI x))]) [0, 2, 3, 4, 5] rfl ?_
                exact ih1  (k + 1)  (by omega)   (by omega)
              · refine c_iload (j := 1) C dX4_nextChoice_55 rfl ?_
                exact c_iret C dX4_nextChoice_57 rfl (by decide) (rom0 hph hph (by decide)) ⟨k, rfl, rfl, rfl, rfl, rfl, rfl, ⟨by omega, by omega⟩, (Or.inr ⟨by omega, (Or.inr (Or.inl ⟨hb1zz1.mpr (by omega), by omega⟩)), (gf3.resolve_left (fun q => absurd q.1 (by omega))).1⟩)⟩
      refine c_lv (lv2 := [(4, .int (iI x)), (3, .int (iI f2)), (0, .ref a0), (1, .int (iI i)), (2, .int (iI x))]) [0, 1, 2, 3, 4] rfl ?_
      exact Lp1 6006 x  (by omega)   (by omega)
    · exact absurd exf1.1 (by decide)
  · refine c_iconst C dX4_nextChoice_10 ?_
    refine c_goto (tgt := 15) C dX4_nextChoice_11 (by decide) ?_
    refine d_callV (As := [.int (iI 1)]) (rest := []) C hM (C_rowsOf (a0 := (sk 16)) (g := 1) hW hS tsk16 ⟨by decide, by decide⟩ ) dX4_nextChoice_15 kV_X4_95 rfl tsk16 rfl rfl (by decide) ck_4 rfl (Nat.le_of_ble_eq_true rfl) ⟨(Nat.le_of_ble_eq_true rfl), (Nat.le_of_ble_eq_true rfl)⟩ hph hph (show 0 + 0 = 0 from rfl) (by decide) (fun rh4 Lh4 clh4 lnh4 ivh4 rvh4 h4 => ?_)
    obtain ⟨f4, rfl, rfl, rfl, rfl, rfl, rfl, rgf4, exf4⟩ := h4
    refine c_st (st2 := [.ref f4]) rfl ?_
    rcases exf4 with exf4 | exf4
    · exact absurd exf4.1 (by decide)
    · obtain ⟨hf4, rfl⟩ := exf4
      refine c_st (st2 := [.ref (sk 25)]) rfl ?_
      have ri4 : 0 ≤ iv (sk 25) 2 ∧ iv (sk 25) 2 ≤ 6003 := hW.int tsk25 2
      refine d_callV (As := []) (rest := []) C hM (C_size_25 (a0 := (sk 25)) hW hS tsk25  ) dX4_nextChoice_18 kV_X4_101 rfl tsk25 rfl rfl (by decide) ck_0 rfl (Nat.le_of_ble_eq_true rfl) ⟨(Nat.le_of_ble_eq_true rfl), (Nat.le_of_ble_eq_true rfl)⟩ hph hph (show 0 + 0 = 0 from rfl) (by decide) (fun rh5 Lh5 clh5 lnh5 ivh5 rvh5 h5 => ?_)
      obtain ⟨f5, rfl, rfl, rfl, rfl, rfl, rfl, rgf5, exf5⟩ := h5
      refine c_st (st2 := [.int (iI f5)]) rfl ?_
      have gf5 : f5 = iv (sk 25) 2 := exf5
      refine c_istore_n (lv2 := [(3, .int (iI f5)), (0, .ref a0), (1, .int (iI i)), (2, .int (iI x))]) C dX4_nextChoice_21 (by decide) rfl ?_
      refine c_iload_n (j := 3) C dX4_nextChoice_22 rfl ?_
      refine c_istore (lv2 := [(4, .int (iI x)), (3, .int (iI f5)), (0, .ref a0), (1, .int (iI i)), (2, .int (iI x))]) C dX4_nextChoice_23 (by decide) rfl ?_
      have Lp2 : ∀ (nn : Nat) (k : Int) , max 0 (6004 - k) < (nn : Int) → (x ≤ k ∧ k ≤ 2147483647) → cw p l e 4 ((PHM) + 0 - ((Phi (g0 G) sk) ln rv)) s m args below meth c G A 6 (MQ below (Qu G A (Qp G (Phi (g0 G) sk) ((Phi (g0 G) sk) ln rv) 0 (fun v L2 cl2 ln2 iv2 rv2 => ∃ f : Int, v = some (.int (iI f)) ∧ L = L2 ∧ cl = cl2 ∧ ln = ln2 ∧ iv = iv2 ∧ rv = rv2 ∧ (-2147483648 ≤ f ∧ f ≤ 2147483647) ∧ (f = -1 ∨ (x ≤ f ∧ VL sk iv i f ∧ GD sk ln iv rv a0 i (i / 4) f))))) args s (((PHM) + 0 - ((Phi (g0 G) sk) ln rv)) / 16) ((PHM) + 0 - ((Phi (g0 G) sk) ln rv)) A) (Phi (g0 G) sk) ((Phi (g0 G) sk) ln rv) L cl ln iv rv 0 25 [(4, .int (iI k)), (3, .int (iI f5)), (0, .ref a0), (1, .int (iI i)), (2, .int (iI x))] [] := by
        intro nn
        induction nn with
        | zero =>
          intro  k  hm   hk
          exact absurd hm (by omega)
        | succ nn ih2 =>
          intro  k  hm   hk
          refine c_iload (j := 0) C dX4_nextChoice_25 rfl ?_
          refine c_iload_n (j := 1) C dX4_nextChoice_27 rfl ?_
          refine c_icmp_gt (tgt := 64) C ⟨by omega, by omega⟩ ⟨by omega, by omega⟩ dX4_nextChoice_28 (by decide) (fun c5 => ?_) (fun c5 => ?_)
          · refine c_iconst C dX4_nextChoice_64 ?_
            exact c_iret C dX4_nextChoice_65 rfl (by decide) (rom0 hph hph (by decide)) ⟨(-1), rfl, rfl, rfl, rfl, rfl, rfl, ⟨by decide, by decide⟩, (Or.inl rfl)⟩
          · refine c_aload_n (j := 2) (x := a0) C dX4_nextChoice_31 rfl ?_
            refine c_iload_n (j := 3) C dX4_nextChoice_32 rfl ?_
            refine c_iload (j := 0) C dX4_nextChoice_33 rfl ?_
            have ri5 : 0 ≤ iv a0 9 ∧ iv a0 9 ≤ 100 := hW.int t_a0 9
            refine d_callV (As := [.int (iI i), .int (iI k)]) (rest := []) C hM (C_nodeBehind (a0 := a0) (i := i) (x := k) hW hS t_a0 (by omega) (by omega) (by show 0 ≤ i ∧ i ≤ 403; omega) (Or.inr (Or.inr ⟨fun q => absurd (hb1zz1.mp q) (by omega), by omega⟩))) dX4_nextChoice_35 kV_X4_92 rfl t_a0 rfl rfl (by decide) ck_5 rfl (Nat.le_of_ble_eq_true rfl) ⟨(Nat.le_of_ble_eq_true rfl), (Nat.le_of_ble_eq_true rfl)⟩ hph hph (show 0 + 0 = 0 from rfl) (by decide) (fun rh6 Lh6 clh6 lnh6 ivh6 rvh6 h6 => ?_)
            obtain ⟨f6, rfl, rfl, rfl, rfl, rfl, rfl, rgf6, exf6⟩ := h6
            refine c_st (st2 := [.int (iI f6)]) rfl ?_
            refine hv2 (show (f6 = -1 ∧ ¬ GD sk ln iv rv a0 i (i / 4) k) ∨ (GD sk ln iv rv a0 i (i / 4) k ∧ 4 * (i / 4) + 4 ≤ f6 ∧ f6 ≤ 4 * iv a0 9 + 3) from exf6) (show f6 = -1 ∨ (4 * (i / 4) + 4 ≤ f6 ∧ f6 ≤ 4 * iv a0 9 + 3) from exf6.elim (fun q => Or.inl q.1) (fun q => Or.inr q.2)) (fun gf6 nqf6 => ?_)
            refine c_istore (lv2 := [(5, .int (iI f6)), (4, .int (iI k)), (3, .int (iI f5)), (0, .ref a0), (1, .int (iI i)), (2, .int (iI x))]) C dX4_nextChoice_38 (by decide) rfl ?_
            refine c_iload (j := 0) C dX4_nextChoice_40 rfl ?_
            refine c_if_lt (tgt := 58) C ⟨by omega, by omega⟩ dX4_nextChoice_42 (by decide) (fun c6 => ?_) (fun c6 => ?_)
            · refine c_iinc (z := k) (j := 1) (lv2 := [(4, .int (iI (k + 1))), (5, .int (iI f6)), (3, .int (iI f5)), (0, .ref a0), (1, .int (iI i)), (2, .int (iI x))]) C dX4_nextChoice_58 rfl (by decide) rfl ?_
              refine c_goto (tgt := 25) C dX4_nextChoice_61 (by decide) ?_
              refine c_lv (lv2 := [(4, .int (iI (k + 1))), (3, .int (iI f5)), (0, .ref a0), (1, .int (iI i)), (2, .int (iI x))]) [0, 2, 3, 4, 5] rfl ?_
              exact ih2  (k + 1)  (by omega)   (by omega)
            · refine c_aload_n (j := 3) (x := a0) C dX4_nextChoice_45 rfl ?_
              obtain ⟨rb3, rq3, trb3⟩ := hW.ref t_a0 0 rfl rfl rfl
              have lnrb3 : 404 ≤ ln rb3 ∧ ln rb3 ≤ 404 := hW.len trb3 rfl
              refine c_getr (k := 0) C ck_5 dX4_nextChoice_46 w1_229 (by decide) t_a0 rfl rfl (by decide) rfl rq3 ?_
              refine c_st (st2 := [.ref rb3]) rfl ?_
              refine c_iload (j := 0) C dX4_nextChoice_49 rfl ?_
              have ll2 : 404 ≤ ln rb3 ∧ ln rb3 ≤ 404 := hW.len trb3 rfl
              refine c_zald C dX4_nextChoice_51 trb3 rfl (by omega) (by omega) (by omega) ?_
              have ri6 : 0 ≤ iv rb3 f6.toNat ∧ iv rb3 f6.toNat ≤ 1 := hW.int trb3 f6.toNat
              refine c_if_eq (tgt := 58) C (r32_c (lo := 0) (hi := 1) ri6.1 ri6.2 (by decide) (by decide)) dX4_nextChoice_52 (by decide) (fun c7 => ?_) (fun c7 => ?_)
              · refine c_iinc (z := k) (j := 1) (lv2 := [(4, .int (iI (k + 1))), (5, .int (iI f6)), (3, .int (iI f5)), (0, .ref a0), (1, .int (iI i)), (2, .int (iI x))]) C dX4_nextChoice_58 rfl (by decide) rfl ?_
                refine c_goto (tgt := 25) C dX4_nextChoice_61 (by decide) ?_
                refine c_lv (lv2 := [(4, .int (iI (k + 1))), (3, .int (iI f5)), (0, .ref a0), (1, .int (iI i)), (2, .int (iI x))]) [0, 2, 3, 4, 5] rfl ?_
                exact ih2  (k + 1)  (by omega)   (by omega)
              · refine c_iload (j := 1) C dX4_nextChoice_55 rfl ?_
                exact c_iret C dX4_nextChoice_57 rfl (by decide) (rom0 hph hph (by decide)) ⟨k, rfl, rfl, rfl, rfl, rfl, rfl, ⟨by omega, by omega⟩, (Or.inr ⟨by omega, (Or.inr (Or.inr ⟨fun q => absurd (hb1zz1.mp q) (by omega), by omega⟩)), (gf6.resolve_left (fun q => absurd q.1 (by omega))).1⟩)⟩
      refine c_lv (lv2 := [(4, .int (iI x)), (3, .int (iI f5)), (0, .ref a0), (1, .int (iI i)), (2, .int (iI x))]) [0, 1, 2, 3, 4] rfl ?_
      exact Lp2 6006 x  (by omega)   (by omega)
end
section
set_option maxHeartbeats 4000000 in
set_option maxRecDepth 100000 in
theorem C_byteOf {l : Launch} {G : GT} {mi : Nat} {sk : Nat → Nat} {L : List Nat} {cl ln : Nat → Nat} {iv : Nat → Nat → Int} {rv : Nat → Nat → Option Nat}  {a0 : Nat} {i : Int} {j : Int} (hW : WT (g0 G) sk L cl ln iv rv) (hS : SKL sk L cl) (t_a0 : ty L cl a0 17) (h_i : -2147483648 ≤ i ∧ i ≤ 2147483647) (h_j : -2147483648 ≤ j ∧ j ≤ 2147483647)  : Mc l G mi (Phi (g0 G) sk) PHM yX4_byteOf cX4_byteOf 4 (some .int) 1 [.ref a0, .int (iI i), .int (iI j)] L cl ln iv rv 0 (fun v L2 cl2 ln2 iv2 rv2 => ∃ f : Int, v = some (.int (iI f)) ∧ L = L2 ∧ cl = cl2 ∧ ln = ln2 ∧ iv = iv2 ∧ rv = rv2 ∧ (-2147483648 ≤ f ∧ f ≤ 2147483647) ∧ (True)) := by
  refine Mc.mk (by decide) (Nat.le_of_ble_eq_true rfl) ?_
  intro p e s m args below meth c A C hM
  refine hv7 (Phi.le hW hS) (show ty L cl (sk 11) 11 from ⟨(hS 11 rfl).1, by rw [(hS 11 rfl).2]; rfl⟩) (show ty L cl (sk 16) 16 from ⟨(hS 16 rfl).1, by rw [(hS 16 rfl).2]; rfl⟩) (show ty L cl (sk 24) 24 from ⟨(hS 24 rfl).1, by rw [(hS 24 rfl).2]; rfl⟩) (show ty L cl (sk 25) 25 from ⟨(hS 25 rfl).1, by rw [(hS 25 rfl).2]; rfl⟩) (show XT L cl ln L cl ln from XT.refl) (show fT [] L cl iv rv iv rv from fT.refl) (fun hph tsk11 tsk16 tsk24 tsk25 hX0 hF0 => ?_)
  refine c_iload_n (j := 1) C dX4_byteOf_0 rfl ?_
  refine c_if_lt (tgt := 12) C ⟨by omega, by omega⟩ dX4_byteOf_1 (by decide) (fun c1 => ?_) (fun c1 => ?_)
  · refine c_iconst C dX4_byteOf_12 ?_
    exact c_iret C dX4_byteOf_13 rfl (by decide) (rom0 hph hph (by decide)) ⟨(-1), rfl, rfl, rfl, rfl, rfl, rfl, ⟨by decide, by decide⟩, trivial⟩
  · refine c_iload_n (j := 1) C dX4_byteOf_4 rfl ?_
    refine c_aload_n (j := 0) (x := a0) C dX4_byteOf_5 rfl ?_
    have ri1 : 0 ≤ iv a0 5 ∧ iv a0 5 ≤ 50 := hW.int t_a0 5
    refine c_get (k := 5) C ck_5 dX4_byteOf_6 w1_234 (by decide) t_a0 rfl rfl (by decide) rfl ?_
    refine c_icmp_lt (tgt := 14) C ⟨by omega, by omega⟩ (r32_c (lo := 0) (hi := 50) ri1.1 ri1.2 (by decide) (by decide)) dX4_byteOf_9 (by decide) (fun c2 => ?_) (fun c2 => ?_)
    · refine c_iload_n (j := 1) C dX4_byteOf_14 rfl ?_
      refine c_if_ne (tgt := 22) C ⟨by omega, by omega⟩ dX4_byteOf_15 (by decide) (fun c3 => ?_) (fun c3 => ?_)
      · refine c_aload_n (j := 0) (x := a0) C dX4_byteOf_22 rfl ?_
        obtain ⟨rb1, rq1, trb1⟩ := hW.ref t_a0 3 rfl rfl rfl
        have lnrb1 : 50 ≤ ln rb1 ∧ ln rb1 ≤ 50 := hW.len trb1 rfl
        refine c_getr (k := 3) C ck_5 dX4_byteOf_23 w1_232 (by decide) t_a0 rfl rfl (by decide) rfl rq1 ?_
        refine c_st (st2 := [.ref rb1]) rfl ?_
        refine c_iload_n (j := 1) C dX4_byteOf_26 rfl ?_
        refine c_iconst C dX4_byteOf_27 ?_
        refine c_isub C dX4_byteOf_28 ?_
        have ll1 : 50 ≤ ln rb1 ∧ ln rb1 ≤ 50 := hW.len trb1 rfl
        refine c_iald C dX4_byteOf_29 trb1 rfl (by omega) (by omega) (by omega) ?_
        have ri2 : (-2147483648) ≤ iv rb1 ((i - 1).toNat) ∧ iv rb1 ((i - 1).toNat) ≤ 2147483647 := hW.int trb1 ((i - 1).toNat)
        refine c_istore_n (lv2 := [(3, .int (iI (iv rb1 (i - 1).toNat))), (0, .ref a0), (1, .int (iI i)), (2, .int (iI j))]) C dX4_byteOf_30 (by decide) rfl ?_
        refine c_iload_n (j := 3) C dX4_byteOf_31 rfl ?_
        refine c_if_lt (tgt := 47) C ⟨by omega, by omega⟩ dX4_byteOf_32 (by decide) (fun c4 => ?_) (fun c4 => ?_)
        · refine c_iconst C dX4_byteOf_47 ?_
          refine c_goto (tgt := 61) C dX4_byteOf_48 (by decide) ?_
          exact c_iret C dX4_byteOf_61 rfl (by decide) (rom0 hph hph (by decide)) ⟨(-1), rfl, rfl, rfl, rfl, rfl, rfl, ⟨by decide, by decide⟩, trivial⟩
        · refine c_iload_n (j := 3) C dX4_byteOf_35 rfl ?_
          refine c_aload_n (j := 1) (x := a0) C dX4_byteOf_36 rfl ?_
          refine c_getr (k := 3) C ck_5 dX4_byteOf_37 w1_232 (by decide) t_a0 rfl rfl (by decide) rfl rq1 ?_
          refine c_st (st2 := [.ref rb1, .int (iI j)]) rfl ?_
          refine c_iload_n (j := 2) C dX4_byteOf_40 rfl ?_
          refine c_iald C dX4_byteOf_41 trb1 rfl (by omega) (by omega) (by omega) ?_
          have ri3 : (-2147483648) ≤ iv rb1 i.toNat ∧ iv rb1 i.toNat ≤ 2147483647 := hW.int trb1 i.toNat
          refine c_iload_n (j := 0) C dX4_byteOf_42 rfl ?_
          refine c_isub C dX4_byteOf_43 ?_
          obtain ⟨zz1, hzz1, ezz1⟩ := iI_of (iI ((iv rb1 i.toNat) - (iv rb1 (i - 1).toNat)))
          refine c_st (st2 := [.int (iI zz1), .int (iI j)]) (by rw [ezz1]) ?_
          refine c_icmp_lt (tgt := 51) C ⟨by omega, by omega⟩ ⟨by omega, by omega⟩ dX4_byteOf_44 (by decide) (fun c5 => ?_) (fun c5 => ?_)
          · refine c_aload_n (j := 1) (x := a0) C dX4_byteOf_51 rfl ?_
            obtain ⟨rb2, rq2, trb2⟩ := hW.ref t_a0 4 rfl rfl rfl
            have erb2 := hW.sk trb2 (by decide) rfl
            subst erb2
            refine c_getr (k := 4) C ck_5 dX4_byteOf_52 w1_233 (by decide) t_a0 rfl rfl (by decide) rfl rq2 ?_
            refine c_st (st2 := [.ref (sk 11)]) rfl ?_
            refine c_iload_n (j := 0) C dX4_byteOf_55 rfl ?_
            refine c_iload_n (j := 3) C dX4_byteOf_56 rfl ?_
            refine c_iadd C dX4_byteOf_57 ?_
            obtain ⟨zz2, hzz2, ezz2⟩ := iI_of (iI ((iv rb1 (i - 1).toNat) + j))
            refine c_st (st2 := [.int (iI zz2), .ref (sk 11)]) (by rw [ezz2]) ?_
            have ri4 : 0 ≤ iv (sk 11) 2 ∧ iv (sk 11) 2 ≤ 40000 := hW.int tsk11 2
            refine d_callV (As := [.int (iI zz2)]) (rest := []) C hM (C_at_11 (a0 := (sk 11)) (i := zz2) hW hS tsk11 (by omega) ) dX4_byteOf_58 kV_X4_56 rfl tsk11 rfl rfl (by decide) ck_2 rfl (Nat.le_of_ble_eq_true rfl) ⟨(Nat.le_of_ble_eq_true rfl), (Nat.le_of_ble_eq_true rfl)⟩ hph hph (show 0 + 0 = 0 from rfl) (by decide) (fun rh1 Lh1 clh1 lnh1 ivh1 rvh1 h1 => ?_)
            obtain ⟨f1, rfl, rfl, rfl, rfl, rfl, rfl, rgf1, exf1⟩ := h1
            refine c_st (st2 := [.int (iI f1)]) rfl ?_
            have gf1 : ((0 ≤ zz2 ∧ zz2 < iv (sk 11) 2) ∨ f1 = 0) ∧ ∀ ss, CT iv rv (sk 11) ss → 0 ≤ zz2 → zz2 < iv (sk 11) 2 → f1 = ss zz2.toNat := exf1
            exact c_iret C dX4_byteOf_61 rfl (by decide) (rom0 hph hph (by decide)) ⟨f1, rfl, rfl, rfl, rfl, rfl, rfl, ⟨by omega, by omega⟩, trivial⟩
          · refine c_iconst C dX4_byteOf_47 ?_
            refine c_goto (tgt := 61) C dX4_byteOf_48 (by decide) ?_
            exact c_iret C dX4_byteOf_61 rfl (by decide) (rom0 hph hph (by decide)) ⟨(-1), rfl, rfl, rfl, rfl, rfl, rfl, ⟨by decide, by decide⟩, trivial⟩
      · refine c_iconst C dX4_byteOf_18 ?_
        refine c_goto (tgt := 30) C dX4_byteOf_19 (by decide) ?_
        refine c_istore_n (lv2 := [(3, .int (iI 0)), (0, .ref a0), (1, .int (iI i)), (2, .int (iI j))]) C dX4_byteOf_30 (by decide) rfl ?_
        refine c_iload_n (j := 3) C dX4_byteOf_31 rfl ?_
        refine c_if_lt (tgt := 47) C ⟨by omega, by omega⟩ dX4_byteOf_32 (by decide) (fun c6 => ?_) (fun c6 => ?_)
        · refine c_iconst C dX4_byteOf_47 ?_
          refine c_goto (tgt := 61) C dX4_byteOf_48 (by decide) ?_
          exact c_iret C dX4_byteOf_61 rfl (by decide) (rom0 hph hph (by decide)) ⟨(-1), rfl, rfl, rfl, rfl, rfl, rfl, ⟨by decide, by decide⟩, trivial⟩
        · refine c_iload_n (j := 3) C dX4_byteOf_35 rfl ?_
          refine c_aload_n (j := 1) (x := a0) C dX4_byteOf_36 rfl ?_
          obtain ⟨rb3, rq3, trb3⟩ := hW.ref t_a0 3 rfl rfl rfl
          have lnrb3 : 50 ≤ ln rb3 ∧ ln rb3 ≤ 50 := hW.len trb3 rfl
          refine c_getr (k := 3) C ck_5 dX4_byteOf_37 w1_232 (by decide) t_a0 rfl rfl (by decide) rfl rq3 ?_
          refine c_st (st2 := [.ref rb3, .int (iI j)]) rfl ?_
          refine c_iload_n (j := 2) C dX4_byteOf_40 rfl ?_
          have ll2 : 50 ≤ ln rb3 ∧ ln rb3 ≤ 50 := hW.len trb3 rfl
          refine c_iald C dX4_byteOf_41 trb3 rfl (by omega) (by omega) (by omega) ?_
          have ri5 : (-2147483648) ≤ iv rb3 i.toNat ∧ iv rb3 i.toNat ≤ 2147483647 := hW.int trb3 i.toNat
          refine c_iload_n (j := 0) C dX4_byteOf_42 rfl ?_
          refine c_isub C dX4_byteOf_43 ?_
          obtain ⟨zz3, hzz3, ezz3⟩ := iI_of (iI ((iv rb3 i.toNat) - 0))
          refine c_st (st2 := [.int (iI zz3), .int (iI j)]) (by rw [ezz3]) ?_
          refine c_icmp_lt (tgt := 51) C ⟨by omega, by omega⟩ ⟨by omega, by omega⟩ dX4_byteOf_44 (by decide) (fun c7 => ?_) (fun c7 => ?_)
          · refine c_aload_n (j := 1) (x := a0) C dX4_byteOf_51 rfl ?_
            obtain ⟨rb4, rq4, trb4⟩ := hW.ref t_a0 4 rfl rfl rfl
            have erb4 := hW.sk trb4 (by decide) rfl
            subst erb4
            refine c_getr (k := 4) C ck_5 dX4_byteOf_52 w1_233 (by decide) t_a0 rfl rfl (by decide) rfl rq4 ?_
            refine c_st (st2 := [.ref (sk 11)]) rfl ?_
            refine c_iload_n (j := 0) C dX4_byteOf_55 rfl ?_
            refine c_iload_n (j := 3) C dX4_byteOf_56 rfl ?_
            refine c_iadd C dX4_byteOf_57 ?_
            obtain ⟨zz4, hzz4, ezz4⟩ := iI_of (iI (0 + j))
            refine c_st (st2 := [.int (iI zz4), .ref (sk 11)]) (by rw [ezz4]) ?_
            have ri6 : 0 ≤ iv (sk 11) 2 ∧ iv (sk 11) 2 ≤ 40000 := hW.int tsk11 2
            refine d_callV (As := [.int (iI zz4)]) (rest := []) C hM (C_at_11 (a0 := (sk 11)) (i := zz4) hW hS tsk11 (by omega) ) dX4_byteOf_58 kV_X4_56 rfl tsk11 rfl rfl (by decide) ck_2 rfl (Nat.le_of_ble_eq_true rfl) ⟨(Nat.le_of_ble_eq_true rfl), (Nat.le_of_ble_eq_true rfl)⟩ hph hph (show 0 + 0 = 0 from rfl) (by decide) (fun rh2 Lh2 clh2 lnh2 ivh2 rvh2 h2 => ?_)
            obtain ⟨f2, rfl, rfl, rfl, rfl, rfl, rfl, rgf2, exf2⟩ := h2
            refine c_st (st2 := [.int (iI f2)]) rfl ?_
            have gf2 : ((0 ≤ zz4 ∧ zz4 < iv (sk 11) 2) ∨ f2 = 0) ∧ ∀ ss, CT iv rv (sk 11) ss → 0 ≤ zz4 → zz4 < iv (sk 11) 2 → f2 = ss zz4.toNat := exf2
            exact c_iret C dX4_byteOf_61 rfl (by decide) (rom0 hph hph (by decide)) ⟨f2, rfl, rfl, rfl, rfl, rfl, rfl, ⟨by omega, by omega⟩, trivial⟩
          · refine c_iconst C dX4_byteOf_47 ?_
            refine c_goto (tgt := 61) C dX4_byteOf_48 (by decide) ?_
            exact c_iret C dX4_byteOf_61 rfl (by decide) (rom0 hph hph (by decide)) ⟨(-1), rfl, rfl, rfl, rfl, rfl, rfl, ⟨by decide, by decide⟩, trivial⟩
    · refine c_iconst C dX4_byteOf_12 ?_
      exact c_iret C dX4_byteOf_13 rfl (by decide) (rom0 hph hph (by decide)) ⟨(-1), rfl, rfl, rfl, rfl, rfl, rfl, ⟨by decide, by decide⟩, trivial⟩
set_option maxHeartbeats 4000000 in
set_option maxRecDepth 100000 in
theorem C_markEnds {l : Launch} {G : GT} {mi : Nat} {sk : Nat → Nat} {L : List Nat} {cl ln : Nat → Nat} {iv : Nat → Nat → Int} {rv : Nat → Nat → Option Nat}  {a0 : Nat} (hW : WT (g0 G) sk L cl ln iv rv) (hS : SKL sk L cl) (t_a0 : ty L cl a0 17)  : Mc l G mi (Phi (g0 G) sk) PHM yX4_markEnds cX4_markEnds 2 none 5 [.ref a0] L cl ln iv rv 0 (fun v L2 cl2 ln2 iv2 rv2 => v = none ∧ L = L2 ∧ cl = cl2 ∧ ln = ln2 ∧ rv = rv2 ∧ fT [59] L cl iv rv iv2 rv2 ∧ WT (g0 G) sk L2 cl2 ln2 iv2 rv2 ∧ (True)) := by
  refine Mc.mk (by decide) (Nat.le_of_ble_eq_true rfl) ?_
  intro p e s m args below meth c A C hM
  refine hv7 (Phi.le hW hS) (show ty L cl (sk 11) 11 from ⟨(hS 11 rfl).1, by rw [(hS 11 rfl).2]; rfl⟩) (show ty L cl (sk 16) 16 from ⟨(hS 16 rfl).1, by rw [(hS 16 rfl).2]; rfl⟩) (show ty L cl (sk 24) 24 from ⟨(hS 24 rfl).1, by rw [(hS 24 rfl).2]; rfl⟩) (show ty L cl (sk 25) 25 from ⟨(hS 25 rfl).1, by rw [(hS 25 rfl).2]; rfl⟩) (show XT L cl ln L cl ln from XT.refl) (show fT [59] L cl iv rv iv rv from fT.refl) (fun hph tsk11 tsk16 tsk24 tsk25 hX0 hF0 => ?_)
  refine c_aload_n (j := 0) (x := a0) C dX4_markEnds_0 rfl ?_
  have ri1 : 0 ≤ iv a0 9 ∧ iv a0 9 ≤ 100 := hW.int t_a0 9
  refine c_get (k := 9) C ck_5 dX4_markEnds_1 w2_0 (by decide) t_a0 rfl rfl (by decide) rfl ?_
  refine c_iconst C dX4_markEnds_4 ?_
  refine c_imul C dX4_markEnds_5 ?_
  refine c_iconst C dX4_markEnds_6 ?_
  refine c_iadd C dX4_markEnds_7 ?_
  refine c_istore_n (lv2 := [(1, .int (iI (((iv a0 9) * 4) + 3))), (0, .ref a0)]) C dX4_markEnds_8 (by decide) rfl ?_
  have Lp1 : ∀ (nn : Nat) (k : Int) (ivb1 : Nat → Nat → Int) , k + 2 < (nn : Int) → WT (g0 G) sk L cl ln ivb1 rv → fT [59] L cl iv rv ivb1 rv → (-1 ≤ k ∧ k ≤ 403) → cw p l e 5 ((PHM) + 0 - ((Phi (g0 G) sk) ln rv)) s m args below meth c G A 2 (MQ below (Qu G A (Qp G (Phi (g0 G) sk) ((Phi (g0 G) sk) ln rv) 0 (fun v L2 cl2 ln2 iv2 rv2 => v = none ∧ L = L2 ∧ cl = cl2 ∧ ln = ln2 ∧ rv = rv2 ∧ fT [59] L cl iv rv iv2 rv2 ∧ WT (g0 G) sk L2 cl2 ln2 iv2 rv2 ∧ (True)))) args s (((PHM) + 0 - ((Phi (g0 G) sk) ln rv)) / 16) ((PHM) + 0 - ((Phi (g0 G) sk) ln rv)) A) (Phi (g0 G) sk) ((Phi (g0 G) sk) ln rv) L cl ln ivb1 rv 0 9 [(1, .int (iI k)), (0, .ref a0)] [] := by
    intro nn
    induction nn with
    | zero =>
      intro  k ivb1 hm Wb1 Fb1  hk
      exact absurd hm (by omega)
    | succ nn ih1 =>
      intro  k ivb1 hm Wb1 Fb1  hk
      refine c_iload_n (j := 0) C dX4_markEnds_9 rfl ?_
      refine c_if_lt (tgt := 63) C (r32_c (lo := (-1)) (hi := 403) hk.1 hk.2 (by decide) (by decide)) dX4_markEnds_10 (by decide) (fun c1 => ?_) (fun c1 => ?_)
      · exact c_vret C dX4_markEnds_63 rfl (by decide) (rom0 hph hph (by decide)) ⟨rfl, rfl, rfl, rfl, rfl, Fb1, Wb1, trivial⟩
      · refine c_aload_n (j := 1) (x := a0) C dX4_markEnds_13 rfl ?_
        obtain ⟨rb1, rq1, trb1⟩ := Wb1.ref t_a0 0 rfl rfl rfl
        have lnrb1 : 404 ≤ ln rb1 ∧ ln rb1 ≤ 404 := Wb1.len trb1 rfl
        refine c_getr (k := 0) C ck_5 dX4_markEnds_14 w1_229 (by decide) t_a0 rfl rfl (by decide) rfl rq1 ?_
        refine c_st (st2 := [.ref rb1]) rfl ?_
        refine c_iload_n (j := 0) C dX4_markEnds_17 rfl ?_
        refine c_iload_n (j := 0) C dX4_markEnds_18 rfl ?_
        refine c_aload_n (j := 1) (x := a0) C dX4_markEnds_19 rfl ?_
        refine hv2 (show 0 ≤ ivb1 a0 9 ∧ ivb1 a0 9 ≤ 100 from Wb1.int t_a0 9) (show ivb1 a0 9 = iv a0 9 from Fb1.i t_a0 rfl 9) (fun ri2 ie1 => ?_)
        refine c_get (k := 9) C ck_5 dX4_markEnds_20 w2_0 (by decide) t_a0 rfl rfl (by decide) rfl ?_
        refine c_iconst C dX4_markEnds_23 ?_
        refine c_imul C dX4_markEnds_24 ?_
        refine c_icmp_lt (tgt := 42) C (r32_c (lo := (-1)) (hi := 403) hk.1 hk.2 (by decide) (by decide)) ⟨by omega, by omega⟩ dX4_markEnds_25 (by decide) (fun c2 => ?_) (fun c2 => ?_)
        · refine c_aload_n (j := 1) (x := a0) C dX4_markEnds_42 rfl ?_
          refine c_iload_n (j := 0) C dX4_markEnds_43 rfl ?_
          refine c_iconst C dX4_markEnds_44 ?_
          refine d_callV (As := [.int (iI k), .int (iI 0)]) (rest := [.int (iI k), .ref rb1]) C hM (C_nextChoice (a0 := a0) (i := k) (x := 0) Wb1 hS t_a0 (by omega) ⟨by decide, by decide⟩ (by show 0 ≤ k ∧ k ≤ 403 ∧ 0 ≤ (0 : Int); omega)) dX4_markEnds_45 kV_X4_85 rfl t_a0 rfl rfl (by decide) ck_5 rfl (Nat.le_of_ble_eq_true rfl) ⟨(Nat.le_of_ble_eq_true rfl), (Nat.le_of_ble_eq_true rfl)⟩ hph hph (show 0 + 0 = 0 from rfl) (by decide) (fun rh1 Lh1 clh1 lnh1 ivh1 rvh1 h1 => ?_)
          obtain ⟨f1, rfl, rfl, rfl, rfl, rfl, rfl, rgf1, exf1⟩ := h1
          refine c_st (st2 := [.int (iI f1), .int (iI k), .ref rb1]) rfl ?_
          have gf1 : f1 = -1 ∨ ((0 : Int) ≤ f1 ∧ VL sk ivb1 k f1 ∧ GD sk ln ivb1 rv a0 k (k / 4) f1) := exf1
          refine c_if_lt (tgt := 55) C ⟨by omega, by omega⟩ dX4_markEnds_48 (by decide) (fun c3 => ?_) (fun c3 => ?_)
          · refine c_iconst C dX4_markEnds_55 ?_
            have ll1 : 404 ≤ ln rb1 ∧ ln rb1 ≤ 404 := Wb1.len trb1 rfl
            refine c_zast (x := 0) C dX4_markEnds_56 trb1 rfl (by omega) (by omega) (by omega) (by omega) (fun iv1 pq1 => ?_)
            refine hv2 (Wb1.puti pq1 trb1 (show 0 ≤ 0 ∧ 0 ≤ 1 by omega) rfl) (Fb1.puti hX0 pq1 trb1 rfl) (fun W2 F1 => ?_)
            refine c_iinc (z := k) (j := 0) (lv2 := [(1, .int (iI (k + (-1)))), (0, .ref a0)]) C dX4_markEnds_57 rfl (by decide) rfl ?_
            refine c_goto (tgt := 9) C dX4_markEnds_60 (by decide) ?_
            refine c_lv (lv2 := [(1, .int (iI (k + (-1)))), (0, .ref a0)]) [0, 1] rfl ?_
            exact ih1  (k + (-1)) _ (by omega) W2 F1  (by omega)
          · replace gf1 := gf1.resolve_left (fun q => by omega)
            refine c_iconst C dX4_markEnds_51 ?_
            refine c_goto (tgt := 56) C dX4_markEnds_52 (by decide) ?_
            have ll2 : 404 ≤ ln rb1 ∧ ln rb1 ≤ 404 := Wb1.len trb1 rfl
            refine c_zast (x := 1) C dX4_markEnds_56 trb1 rfl (by omega) (by omega) (by omega) (by omega) (fun iv2 pq2 => ?_)
            refine hv2 (Wb1.puti pq2 trb1 (show 0 ≤ 1 ∧ 1 ≤ 1 by omega) rfl) (Fb1.puti hX0 pq2 trb1 rfl) (fun W3 F2 => ?_)
            refine c_iinc (z := k) (j := 0) (lv2 := [(1, .int (iI (k + (-1)))), (0, .ref a0)]) C dX4_markEnds_57 rfl (by decide) rfl ?_
            refine c_goto (tgt := 9) C dX4_markEnds_60 (by decide) ?_
            refine c_lv (lv2 := [(1, .int (iI (k + (-1)))), (0, .ref a0)]) [0, 1] rfl ?_
            exact ih1  (k + (-1)) _ (by omega) W3 F2  (by omega)
        · refine c_iload_n (j := 0) C dX4_markEnds_28 rfl ?_
          refine c_iconst C dX4_markEnds_29 ?_
          obtain ⟨zz1, hzz1, ezz1⟩ := iI_of (iI k &&& iI 2)
          refine c_iand (w := iI zz1) C dX4_markEnds_30 ezz1 ?_
          refine c_if_ne (tgt := 38) C ⟨by omega, by omega⟩ dX4_markEnds_31 (by decide) (fun c4 => ?_) (fun c4 => ?_)
          · refine c_iconst C dX4_markEnds_38 ?_
            refine c_goto (tgt := 56) C dX4_markEnds_39 (by decide) ?_
            have ll3 : 404 ≤ ln rb1 ∧ ln rb1 ≤ 404 := Wb1.len trb1 rfl
            refine c_zast (x := 0) C dX4_markEnds_56 trb1 rfl (by omega) (by omega) (by omega) (by omega) (fun iv3 pq3 => ?_)
            refine hv2 (Wb1.puti pq3 trb1 (show 0 ≤ 0 ∧ 0 ≤ 1 by omega) rfl) (Fb1.puti hX0 pq3 trb1 rfl) (fun W4 F3 => ?_)
            refine c_iinc (z := k) (j := 0) (lv2 := [(1, .int (iI (k + (-1)))), (0, .ref a0)]) C dX4_markEnds_57 rfl (by decide) rfl ?_
            refine c_goto (tgt := 9) C dX4_markEnds_60 (by decide) ?_
            refine c_lv (lv2 := [(1, .int (iI (k + (-1)))), (0, .ref a0)]) [0, 1] rfl ?_
            exact ih1  (k + (-1)) _ (by omega) W4 F3  (by omega)
          · refine c_iconst C dX4_markEnds_34 ?_
            refine c_goto (tgt := 56) C dX4_markEnds_35 (by decide) ?_
            have ll4 : 404 ≤ ln rb1 ∧ ln rb1 ≤ 404 := Wb1.len trb1 rfl
            refine c_zast (x := 1) C dX4_markEnds_56 trb1 rfl (by omega) (by omega) (by omega) (by omega) (fun iv4 pq4 => ?_)
            refine hv2 (Wb1.puti pq4 trb1 (show 0 ≤ 1 ∧ 1 ≤ 1 by omega) rfl) (Fb1.puti hX0 pq4 trb1 rfl) (fun W5 F4 => ?_)
            refine c_iinc (z := k) (j := 0) (lv2 := [(1, .int (iI (k + (-1)))), (0, .ref a0)]) C dX4_markEnds_57 rfl (by decide) rfl ?_
            refine c_goto (tgt := 9) C dX4_markEnds_60 (by decide) ?_
            refine c_lv (lv2 := [(1, .int (iI (k + (-1)))), (0, .ref a0)]) [0, 1] rfl ?_
            exact ih1  (k + (-1)) _ (by omega) W5 F4  (by omega)
  refine c_lv (lv2 := [(1, .int (iI (((iv a0 9) * 4) + 3))), (0, .ref a0)]) [0, 1] rfl ?_
  exact Lp1 410 (((iv a0 9) * 4) + 3) _ (by omega) hW hF0  (by omega)
set_option maxHeartbeats 4000000 in
set_option maxRecDepth 100000 in
theorem C_rwrite {l : Launch} {G : GT} {mi : Nat} {sk : Nat → Nat} {L : List Nat} {cl ln : Nat → Nat} {iv : Nat → Nat → Int} {rv : Nat → Nat → Option Nat}  {a0 : Nat} {n : Int} (hW : WT (g0 G) sk L cl ln iv rv) (hS : SKL sk L cl) (t_a0 : ty L cl a0 17) (h_n : -2147483648 ≤ n ∧ n ≤ 2147483647) (hn : 0 ≤ n ∧ n ≤ 100) (hct : iv a0 5 < 50) (hwk : ∀ nb cb, rv a0 1 = some nb → rv a0 2 = some cb → ∀ d : Nat, (d : Int) < n → 0 ≤ iv cb d ∧ VL sk iv (iv nb d) (iv cb d)) : Mc l G mi (Phi (g0 G) sk) PHM yX4_write cX4_write 5 none 5 [.ref a0, .int (iI n)] L cl ln iv rv 0 (fun v L2 cl2 ln2 iv2 rv2 => v = none ∧ XT L cl ln L2 cl2 ln2 ∧ fT [17, 62, 11, 41] L cl iv rv iv2 rv2 ∧ WT (g0 G) sk L2 cl2 ln2 iv2 rv2 ∧ (rv2 a0 1 = rv a0 1 ∧ rv2 a0 2 = rv a0 2)) := by
  refine Mc.mk (by decide) (Nat.le_of_ble_eq_true rfl) ?_
  intro p e s m args below meth c A C hM
  refine hv7 (Phi.le hW hS) (show ty L cl (sk 11) 11 from ⟨(hS 11 rfl).1, by rw [(hS 11 rfl).2]; rfl⟩) (show ty L cl (sk 16) 16 from ⟨(hS 16 rfl).1, by rw [(hS 16 rfl).2]; rfl⟩) (show ty L cl (sk 24) 24 from ⟨(hS 24 rfl).1, by rw [(hS 24 rfl).2]; rfl⟩) (show ty L cl (sk 25) 25 from ⟨(hS 25 rfl).1, by rw [(hS 25 rfl).2]; rfl⟩) (show XT L cl ln L cl ln from XT.refl) (show fT [17, 62, 11, 41] L cl iv rv iv rv from fT.refl) (fun hph tsk11 tsk16 tsk24 tsk25 hX0 hF0 => ?_)
  obtain ⟨nb0, hnb0, tnb0⟩ := hW.ref t_a0 1 rfl rfl rfl
  obtain ⟨cb0, hcb0, tcb0⟩ := hW.ref t_a0 2 rfl rfl rfl
  refine c_iconst C dX4_write_0 ?_
  refine c_istore_n (lv2 := [(2, .int (iI 0)), (0, .ref a0), (1, .int (iI n))]) C dX4_write_1 (by decide) rfl ?_
  refine c_iconst C dX4_write_2 ?_
  refine c_istore_n (lv2 := [(3, .int (iI 0)), (2, .int (iI 0)), (0, .ref a0), (1, .int (iI n))]) C dX4_write_3 (by decide) rfl ?_
  have Lp1 : ∀ (nn : Nat) (cc0 k : Int) (Lb1 : List Nat) (clb1 lnb1 : Nat → Nat) (ivb1 : Nat → Nat → Int) (rvb1 : Nat → Nat → Option Nat) , 101 - k < (nn : Int) → XT L cl ln Lb1 clb1 lnb1 → WT (g0 G) sk Lb1 clb1 lnb1 ivb1 rvb1 → fT [17, 62, 11, 41] L cl iv rv ivb1 rvb1 → (cc0 = 0 ∨ cc0 = 1) → (0 ≤ k ∧ k ≤ n) → (ivb1 a0 5 = iv a0 5) → (rvb1 a0 1 = some nb0 ∧ rvb1 a0 2 = some cb0) → cw p l e 5 ((PHM) + 0 - ((Phi (g0 G) sk) ln rv)) s m args below meth c G A 5 (MQ below (Qu G A (Qp G (Phi (g0 G) sk) ((Phi (g0 G) sk) ln rv) 0 (fun v L2 cl2 ln2 iv2 rv2 => v = none ∧ XT L cl ln L2 cl2 ln2 ∧ fT [17, 62, 11, 41] L cl iv rv iv2 rv2 ∧ WT (g0 G) sk L2 cl2 ln2 iv2 rv2 ∧ (rv2 a0 1 = rv a0 1 ∧ rv2 a0 2 = rv a0 2)))) args s (((PHM) + 0 - ((Phi (g0 G) sk) ln rv)) / 16) ((PHM) + 0 - ((Phi (g0 G) sk) ln rv)) A) (Phi (g0 G) sk) ((Phi (g0 G) sk) ln rv) Lb1 clb1 lnb1 ivb1 rvb1 0 4 [(2, .int (iI cc0)), (3, .int (iI k)), (0, .ref a0), (1, .int (iI n))] [] := by
    intro nn
    induction nn with
    | zero =>
      intro  cc0 k Lb1 clb1 lnb1 ivb1 rvb1 hm Xb1 Wb1 Fb1  hcc hk hc5 hr
      have skb1 := Xb1.skl hS
      exact absurd hm (by omega)
    | succ nn ih1 =>
      intro  cc0 k Lb1 clb1 lnb1 ivb1 rvb1 hm Xb1 Wb1 Fb1  hcc hk hc5 hr
      have skb1 := Xb1.skl hS
      refine c_iload_n (j := 1) C dX4_write_4 rfl ?_
      refine c_iload_n (j := 3) C dX4_write_5 rfl ?_
      refine c_icmp_ge (tgt := 140) C ⟨by omega, by omega⟩ ⟨by omega, by omega⟩ dX4_write_6 (by decide) (fun c1 => ?_) (fun c1 => ?_)
      · refine c_aload_n (j := 2) (x := a0) C dX4_write_140 rfl ?_
        have ty1 := Xb1.ty t_a0
        obtain ⟨rb1, rq1, trb1⟩ := Wb1.ref ty1 3 rfl rfl rfl
        have lnrb1 : 50 ≤ lnb1 rb1 ∧ lnb1 rb1 ≤ 50 := Wb1.len trb1 rfl
        refine c_getr (k := 3) C ck_5 dX4_write_141 w1_232 (by decide) ty1 rfl rfl (by decide) rfl rq1 ?_
        refine c_st (st2 := [.ref rb1]) rfl ?_
        refine c_aload_n (j := 2) (x := a0) C dX4_write_144 rfl ?_
        have ri1 : 0 ≤ ivb1 a0 5 ∧ ivb1 a0 5 ≤ 50 := Wb1.int ty1 5
        refine c_get (k := 5) C ck_5 dX4_write_145 w1_234 (by decide) ty1 rfl rfl (by decide) rfl ?_
        refine c_aload_n (j := 2) (x := a0) C dX4_write_148 rfl ?_
        obtain ⟨rb2, rq2, trb2⟩ := Wb1.ref ty1 4 rfl rfl rfl
        have erb2 := Wb1.sk trb2 (by decide) rfl
        subst erb2
        refine c_getr (k := 4) C ck_5 dX4_write_149 w1_233 (by decide) ty1 rfl rfl (by decide) rfl rq2 ?_
        refine c_st (st2 := [.ref (sk 11), .int (iI (ivb1 a0 5)), .ref rb1]) rfl ?_
        have ty2 := Xb1.ty tsk11
        have ri2 : 0 ≤ ivb1 (sk 11) 2 ∧ ivb1 (sk 11) 2 ≤ 40000 := Wb1.int ty2 2
        refine c_get (k := 2) C ck_2 dX4_write_152 w1_48 (by decide) ty2 rfl rfl (by decide) rfl ?_
        have ll1 : 50 ≤ lnb1 rb1 ∧ lnb1 rb1 ≤ 50 := Wb1.len trb1 rfl
        refine c_iast (x := ivb1 (sk 11) 2) C dX4_write_155 trb1 rfl (by omega) (by omega) (by omega) (fun iv1 pq1 => ?_)
        refine hv2 (Wb1.puti pq1 trb1 (show (-2147483648) ≤ (ivb1 (sk 11) 2) ∧ (ivb1 (sk 11) 2) ≤ 2147483647 by omega) rfl) (Fb1.puti Xb1 pq1 trb1 rfl) (fun W1 F1 => ?_)
        refine c_aload_n (j := 2) (x := a0) C dX4_write_156 rfl ?_
        refine c_dup C dX4_write_157 rfl ?_
        refine hv2 (show 0 ≤ iv1 a0 5 ∧ iv1 a0 5 ≤ 50 from W1.int ty1 5) (show iv1 a0 5 = ivb1 a0 5 from by rw [pq1]; exact up2_k (ne_ty ty1 trb1 (by decide))) (fun ri3 ie3 => ?_)
        refine c_get (k := 5) C ck_5 dX4_write_158 w1_234 (by decide) ty1 rfl rfl (by decide) rfl ?_
        refine c_iconst C dX4_write_161 ?_
        refine c_iadd C dX4_write_162 ?_
        refine c_put (z := (iv1 a0 5) + 1) (k := 5) C ck_5 dX4_write_163 w1_234 (by decide) rfl ty1 rfl rfl (by decide) rfl (by rfl) (by rfl) (fun iv2 pq2 => ?_)
        refine hv2 (W1.puti pq2 ty1 (show 0 ≤ ((iv1 a0 5) + 1) ∧ ((iv1 a0 5) + 1) ≤ 50 by omega) rfl) (F1.puti Xb1 pq2 ty1 rfl) (fun W2 F2 => ?_)
        have pl1 := Phi.le W2 skb1
        exact c_vret C dX4_write_166 rfl (by decide) (rom0 hph pl1 (by decide)) ⟨rfl, Xb1, F2, W2, ⟨(hr.1).trans hnb0.symm, (hr.2).trans hcb0.symm⟩⟩
      · refine c_aload_n (j := 2) (x := a0) C dX4_write_9 rfl ?_
        have ty3 := Xb1.ty t_a0
        refine c_getr (k := 2) C ck_5 dX4_write_10 w1_231 (by decide) ty3 rfl rfl (by decide) rfl hr.2 ?_
        refine c_st (st2 := [.ref cb0]) rfl ?_
        refine c_iload_n (j := 1) C dX4_write_13 rfl ?_
        have ty4 := Xb1.ty tcb0
        have ll2 : 101 ≤ lnb1 cb0 ∧ lnb1 cb0 ≤ 101 := Wb1.len ty4 rfl
        refine c_iald C dX4_write_14 ty4 rfl (by omega) (by omega) (by omega) ?_
        refine hv2 (show (-2147483648) ≤ ivb1 cb0 k.toNat ∧ ivb1 cb0 k.toNat ≤ 2147483647 from Wb1.int ty4 k.toNat) (show ivb1 cb0 k.toNat = iv cb0 k.toNat from Fb1.i tcb0 rfl k.toNat) (fun ri4 ie4 => ?_)
        have vc := (hwk nb0 cb0 hnb0 hcb0 k.toNat (by omega)).1
        refine c_if_ne (tgt := 30) C (r32_c (lo := (-2147483648)) (hi := 2147483647) ri4.1 ri4.2 (by decide) (by decide)) dX4_write_15 (by decide) (fun c2 => ?_) (fun c2 => ?_)
        · refine c_aload_n (j := 2) (x := a0) C dX4_write_30 rfl ?_
          obtain ⟨rb3, rq3, trb3⟩ := Wb1.ref ty3 7 rfl rfl rfl
          have erb3 := Wb1.sk trb3 (by decide) rfl
          subst erb3
          refine c_getr (k := 7) C ck_5 dX4_write_31 w1_238 (by decide) ty3 rfl rfl (by decide) rfl rq3 ?_
          refine c_st (st2 := [.ref (sk 16)]) rfl ?_
          refine c_aload_n (j := 2) (x := a0) C dX4_write_34 rfl ?_
          refine c_getr (k := 1) C ck_5 dX4_write_35 w1_230 (by decide) ty3 rfl rfl (by decide) rfl hr.1 ?_
          refine c_st (st2 := [.ref nb0, .ref (sk 16)]) rfl ?_
          refine c_iload_n (j := 1) C dX4_write_38 rfl ?_
          have ty5 := Xb1.ty tnb0
          have ll3 : 101 ≤ lnb1 nb0 ∧ lnb1 nb0 ≤ 101 := Wb1.len ty5 rfl
          refine c_iald C dX4_write_39 ty5 rfl (by omega) (by omega) (by omega) ?_
          refine hv2 (show (-2147483648) ≤ ivb1 nb0 k.toNat ∧ ivb1 nb0 k.toNat ≤ 2147483647 from Wb1.int ty5 k.toNat) (show ivb1 nb0 k.toNat = iv nb0 k.toNat from Fb1.i tnb0 rfl k.toNat) (fun ri5 ie5 => ?_)
          refine c_iconst C dX4_write_40 ?_
          obtain ⟨zz1, hzz1, ezz1⟩ := iI_of (iI (ivb1 nb0 k.toNat) &&& iI 1)
          refine c_iand (w := iI zz1) C dX4_write_41 ezz1 ?_
          refine hv6 (Xb1.ty tsk24) (show ivb1 (sk 24) 2 = iv (sk 24) 2 from Fb1.i tsk24 rfl 2) (Xb1.ty tsk25) (show ivb1 (sk 25) 2 = iv (sk 25) 2 from Fb1.i tsk25 rfl 2) (show ivb1 nb0 k.toNat = iv nb0 k.toNat from (show ivb1 nb0 k.toNat = iv nb0 k.toNat from Fb1.i tnb0 rfl k.toNat)) (bz_iff ezz1 hzz1) (fun ty6 ie6 ty7 ie7 enzz1 hb1zz1 => ?_)
          refine hv2 (show 0 ≤ ivb1 (sk 24) 2 ∧ ivb1 (sk 24) 2 ≤ 6003 from Wb1.int ty6 2) (show 0 ≤ ivb1 (sk 25) 2 ∧ ivb1 (sk 25) 2 ≤ 6003 from Wb1.int ty7 2) (fun ri6 ri7 => ?_)
          have vwzz1 := (hwk nb0 cb0 hnb0 hcb0 k.toNat (by omega))
          have vzzz1 := vwzz1.2.zed (by rw [← enzz1]; exact ezz1) hzz1
          refine c_if_eq (tgt := 49) C ⟨by omega, by omega⟩ dX4_write_42 (by decide) (fun c3 => ?_) (fun c3 => ?_)
          · refine c_iconst C dX4_write_49 ?_
            refine hv2 (Xb1.ty tsk16) (Phi.le Wb1 skb1) (fun ty8 pl2 => ?_)
            refine d_callV (As := [.int (iI 0)]) (rest := []) C hM (C_rowsOf (a0 := (sk 16)) (g := 0) Wb1 skb1 ty8 ⟨by decide, by decide⟩ ) dX4_write_50 kV_X4_95 rfl ty8 rfl rfl (by decide) ck_4 rfl (Nat.le_of_ble_eq_true rfl) ⟨(Nat.le_of_ble_eq_true rfl), (Nat.le_of_ble_eq_true rfl)⟩ hph pl2 (show 0 + 0 = 0 from rfl) (by decide) (fun rh1 Lh1 clh1 lnh1 ivh1 rvh1 h1 => ?_)
            obtain ⟨f1, rfl, rfl, rfl, rfl, rfl, rfl, rgf1, exf1⟩ := h1
            refine c_st (st2 := [.ref f1]) rfl ?_
            rcases exf1 with exf1 | exf1
            · obtain ⟨hf1, rfl⟩ := exf1
              refine c_st (st2 := [.ref (sk 24)]) rfl ?_
              refine c_aload_n (j := 2) (x := a0) C dX4_write_53 rfl ?_
              refine c_getr (k := 2) C ck_5 dX4_write_54 w1_231 (by decide) ty3 rfl rfl (by decide) rfl hr.2 ?_
              refine c_st (st2 := [.ref cb0, .ref (sk 24)]) rfl ?_
              refine c_iload_n (j := 1) C dX4_write_57 rfl ?_
              refine c_iald C dX4_write_58 ty4 rfl (by omega) (by omega) (by omega) ?_
              refine c_iconst C dX4_write_59 ?_
              refine c_isub C dX4_write_60 ?_
              refine d_callV (As := [.int (iI ((ivb1 cb0 k.toNat) - 1))]) (rest := []) C hM (C_get_24 (a0 := (sk 24)) (i := (ivb1 cb0 k.toNat) - 1) Wb1 skb1 ty6 (by omega) (by show 0 ≤ ((ivb1 cb0 k.toNat) - 1) ∧ ((ivb1 cb0 k.toNat) - 1) < ivb1 (sk 24) 2; omega)) dX4_write_61 kV_X4_110 rfl ty6 rfl rfl (by decide) ck_0 rfl (Nat.le_of_ble_eq_true rfl) ⟨(Nat.le_of_ble_eq_true rfl), (Nat.le_of_ble_eq_true rfl)⟩ hph pl2 (show 0 + 0 = 0 from rfl) (by decide) (fun rh2 Lh2 clh2 lnh2 ivh2 rvh2 h2 => ?_)
              obtain ⟨f2, rfl, rfl, rfl, rfl, rfl, rfl, rgf2, exf2⟩ := h2
              refine c_st (st2 := [.ref f2]) rfl ?_
              have gf2 : el rvb1 (sk 24) ((ivb1 cb0 k.toNat) - 1).toNat = some f2 := exf2
              refine c_cast C ck_6 dX4_write_64 w5_149 w8_169t rgf2 rfl rfl (by decide) ?_
              refine c_astore (lv2 := [(4, .ref f2), (2, .int (iI cc0)), (3, .int (iI k)), (0, .ref a0), (1, .int (iI n))]) C dX4_write_67 (by decide) rfl ?_
              refine c_aload (j := 0) (x := f2) C dX4_write_69 rfl ?_
              have ri8 : (-2147483648) ≤ ivb1 f2 0 ∧ ivb1 f2 0 ≤ 2147483647 := Wb1.int rgf2 0
              refine c_get (k := 0) C ck_6 dX4_write_71 w3_136 (by decide) rgf2 rfl rfl (by decide) rfl ?_
              refine c_iconst C dX4_write_74 ?_
              refine c_icmp_eq (tgt := 87) C (r32_c (lo := (-2147483648)) (hi := 2147483647) ri8.1 ri8.2 (by decide) (by decide)) ⟨by decide, by decide⟩ dX4_write_75 (by decide) (fun c4 => ?_) (fun c4 => ?_)
              · refine c_aload_n (j := 3) (x := a0) C dX4_write_87 rfl ?_
                obtain ⟨rb4, rq4, trb4⟩ := Wb1.ref ty3 4 rfl rfl rfl
                have erb4 := Wb1.sk trb4 (by decide) rfl
                subst erb4
                refine c_getr (k := 4) C ck_5 dX4_write_88 w1_233 (by decide) ty3 rfl rfl (by decide) rfl rq4 ?_
                refine c_st (st2 := [.ref (sk 11)]) rfl ?_
                refine c_aload (j := 0) (x := f2) C dX4_write_91 rfl ?_
                refine c_get (k := 0) C ck_6 dX4_write_93 w3_136 (by decide) rgf2 rfl rfl (by decide) rfl ?_
                refine c_iconst C dX4_write_96 ?_
                refine c_icmp_ne (tgt := 105) C (r32_c (lo := (-2147483648)) (hi := 2147483647) ri8.1 ri8.2 (by decide) (by decide)) ⟨by decide, by decide⟩ dX4_write_97 (by decide) (fun z => absurd z (by omega)) (fun _ => ?_)
                refine c_bipush (z := 60) C dX4_write_100 (by decide) ?_
                refine c_goto (tgt := 107) C dX4_write_102 (by decide) ?_
                have ty9 := Xb1.ty tsk11
                have ri9 : 0 ≤ ivb1 (sk 11) 2 ∧ ivb1 (sk 11) 2 ≤ 40000 := Wb1.int ty9 2
                refine d_callV (As := [.int (iI 60)]) (rest := []) C hM (C_add_11 (a0 := (sk 11)) (x := 60) Wb1 skb1 ty9 ⟨by decide, by decide⟩ ) dX4_write_107 kV_X4_128 rfl ty9 rfl rfl (by decide) ck_2 rfl (Nat.le_of_ble_eq_true rfl) ⟨(Nat.le_of_ble_eq_true rfl), (Nat.le_of_ble_eq_true rfl)⟩ hph pl2 (show 0 + 0 = 0 from rfl) (by decide) (fun rh3 Lh3 clh3 lnh3 ivh3 rvh3 h3 => ?_)
                obtain ⟨rfl, xl3, fl3, W5, exf3⟩ := h3
                refine hv3 (Fb1.call Xb1 fl3 rfl) (Xb1.trans xl3) (xl3.skl skb1) (fun F3 X1 sk1 => ?_)
                refine c_st (st2 := []) rfl ?_
                refine hv2 (xl3.ty ty9) (show ((ivh3 (sk 11) 2 = ivb1 (sk 11) 2 ∧ ivb1 (sk 11) 2 = 40000) ∨ (ivh3 (sk 11) 2 = ivb1 (sk 11) 2 + 1 ∧ ivb1 (sk 11) 2 < 40000)) from exf3) (fun ty10 gf3 => ?_)
                have ri10 : 0 ≤ ivh3 (sk 11) 2 ∧ ivh3 (sk 11) 2 ≤ 40000 := W5.int ty10 2
                refine c_aload (j := 0) (x := f2) C dX4_write_110 rfl ?_
                refine c_aload_n (j := 3) (x := a0) C dX4_write_112 rfl ?_
                refine hv2 (xl3.ty ty3) (show rvh3 a0 4 = rvb1 a0 4 from (fl3.r ty3 rfl 4)) (fun ty11 re1 => ?_)
                rw [rq4] at re1
                refine c_getr (k := 4) C ck_5 dX4_write_113 w1_233 (by decide) ty11 rfl rfl (by decide) rfl re1 ?_
                refine c_st (st2 := [.ref (sk 11), .ref f2]) rfl ?_
                refine c_iload_n (j := 1) C dX4_write_116 rfl ?_
                refine hv2 (xl3.ty rgf2) (Phi.le W5 sk1) (fun ty12 pl3 => ?_)
                refine d_callV (As := [.ref (sk 11), .int (iI cc0)]) (rest := []) C hM (C_wl_11 (a0 := f2) (a1 := (sk 11)) (g := cc0) W5 sk1 ty12 ty10 (by omega) ) dX4_write_117 kV_X4_131 rfl ty12 rfl rfl (by decide) ck_6 rfl (Nat.le_of_ble_eq_true rfl) ⟨(Nat.le_of_ble_eq_true rfl), (Nat.le_of_ble_eq_true rfl)⟩ hph pl3 (show 0 + 0 = 0 from rfl) (by decide) (fun rh4 Lh4 clh4 lnh4 ivh4 rvh4 h4 => ?_)
                obtain ⟨rfl, xl4, fl4, W6, exf4⟩ := h4
                refine hv8 (F3.call X1 fl4 rfl) (xl3.ty ty8) (xl3.ty ty6) (xl3.ty ty7) (xl3.ty ty5) (xl3.ty ty4) (X1.trans xl4) (xl4.skl sk1) (fun F4 ty13 ty14 ty15 ty16 ty17 X2 sk2 => ?_)
                refine c_st (st2 := []) rfl ?_
                refine c_aload (j := 0) (x := f2) C dX4_write_120 rfl ?_
                refine hv3 (xl4.ty ty12) (show ivh4 f2 0 = ivh3 f2 0 from fl4.i ty12 rfl 0) (show ivh3 f2 0 = ivb1 f2 0 from fl3.i rgf2 rfl 0) (fun ty18 ie11 ie12 => ?_)
                have ri11 : (-2147483648) ≤ ivh4 f2 0 ∧ ivh4 f2 0 ≤ 2147483647 := W6.int ty18 0
                refine c_get (k := 0) C ck_6 dX4_write_122 w3_136 (by decide) ty18 rfl rfl (by decide) rfl ?_
                refine c_if_ne (tgt := 132) C (r32_c (lo := (-2147483648)) (hi := 2147483647) ri11.1 ri11.2 (by decide) (by decide)) dX4_write_125 (by decide) (fun c5 => ?_) (fun c5 => ?_)
                · refine c_iconst C dX4_write_132 ?_
                  refine c_istore_n (lv2 := [(2, .int (iI 0)), (4, .ref f2), (3, .int (iI k)), (0, .ref a0), (1, .int (iI n))]) C dX4_write_133 (by decide) rfl ?_
                  refine c_iinc (z := k) (j := 2) (lv2 := [(3, .int (iI (k + 1))), (2, .int (iI 0)), (4, .ref f2), (0, .ref a0), (1, .int (iI n))]) C dX4_write_134 rfl (by decide) rfl ?_
                  refine c_goto (tgt := 4) C dX4_write_137 (by decide) ?_
                  refine hv4 (xl4.ty ty11) (show ivh4 a0 5 = ivh3 a0 5 from fl4.i ty11 rfl 5) (show ivh3 a0 5 = ivb1 a0 5 from fl3.i ty3 rfl 5) (show rvh3 a0 1 = rvb1 a0 1 from (fl3.r ty3 rfl 1)) (fun ty19 ie13 ie14 re2 => ?_)
                  have ri12 : 0 ≤ ivh4 a0 5 ∧ ivh4 a0 5 ≤ 50 := W6.int ty19 5
                  rw [hr.1] at re2
                  have re3 : rvh4 a0 1 = rvh3 a0 1 := (fl4.r ty11 rfl 1)
                  rw [re2] at re3
                  have re4 : rvh3 a0 2 = rvb1 a0 2 := (fl3.r ty3 rfl 2)
                  rw [hr.2] at re4
                  have re5 : rvh4 a0 2 = rvh3 a0 2 := (fl4.r ty11 rfl 2)
                  rw [re4] at re5
                  refine c_lv (lv2 := [(2, .int (iI 0)), (3, .int (iI (k + 1))), (0, .ref a0), (1, .int (iI n))]) [1, 0, 3, 4] rfl ?_
                  exact ih1  0 (k + 1) _ _ _ _ _ (by omega) X2 W6 F4  (by omega) (by omega) (ie13.trans (ie14.trans hc5)) ⟨re3, re5⟩
                · refine c_iconst C dX4_write_128 ?_
                  refine c_goto (tgt := 133) C dX4_write_129 (by decide) ?_
                  refine c_istore_n (lv2 := [(2, .int (iI 1)), (4, .ref f2), (3, .int (iI k)), (0, .ref a0), (1, .int (iI n))]) C dX4_write_133 (by decide) rfl ?_
                  refine c_iinc (z := k) (j := 2) (lv2 := [(3, .int (iI (k + 1))), (2, .int (iI 1)), (4, .ref f2), (0, .ref a0), (1, .int (iI n))]) C dX4_write_134 rfl (by decide) rfl ?_
                  refine c_goto (tgt := 4) C dX4_write_137 (by decide) ?_
                  refine hv4 (xl4.ty ty11) (show ivh4 a0 5 = ivh3 a0 5 from fl4.i ty11 rfl 5) (show ivh3 a0 5 = ivb1 a0 5 from fl3.i ty3 rfl 5) (show rvh3 a0 1 = rvb1 a0 1 from (fl3.r ty3 rfl 1)) (fun ty20 ie16 ie17 re6 => ?_)
                  have ri13 : 0 ≤ ivh4 a0 5 ∧ ivh4 a0 5 ≤ 50 := W6.int ty20 5
                  rw [hr.1] at re6
                  have re7 : rvh4 a0 1 = rvh3 a0 1 := (fl4.r ty11 rfl 1)
                  rw [re6] at re7
                  have re8 : rvh3 a0 2 = rvb1 a0 2 := (fl3.r ty3 rfl 2)
                  rw [hr.2] at re8
                  have re9 : rvh4 a0 2 = rvh3 a0 2 := (fl4.r ty11 rfl 2)
                  rw [re8] at re9
                  refine c_lv (lv2 := [(2, .int (iI 1)), (3, .int (iI (k + 1))), (0, .ref a0), (1, .int (iI n))]) [1, 0, 3, 4] rfl ?_
                  exact ih1  1 (k + 1) _ _ _ _ _ (by omega) X2 W6 F4  (by omega) (by omega) (ie16.trans (ie17.trans hc5)) ⟨re7, re9⟩
              · refine c_aload (j := 0) (x := f2) C dX4_write_78 rfl ?_
                refine c_get (k := 0) C ck_6 dX4_write_80 w3_136 (by decide) rgf2 rfl rfl (by decide) rfl ?_
                refine c_iconst C dX4_write_83 ?_
                refine c_icmp_ne (tgt := 110) C (r32_c (lo := (-2147483648)) (hi := 2147483647) ri8.1 ri8.2 (by decide) (by decide)) ⟨by decide, by decide⟩ dX4_write_84 (by decide) (fun c6 => ?_) (fun c6 => ?_)
                · refine c_aload (j := 0) (x := f2) C dX4_write_110 rfl ?_
                  refine c_aload_n (j := 3) (x := a0) C dX4_write_112 rfl ?_
                  obtain ⟨rb5, rq5, trb5⟩ := Wb1.ref ty3 4 rfl rfl rfl
                  have erb5 := Wb1.sk trb5 (by decide) rfl
                  subst erb5
                  refine c_getr (k := 4) C ck_5 dX4_write_113 w1_233 (by decide) ty3 rfl rfl (by decide) rfl rq5 ?_
                  refine c_st (st2 := [.ref (sk 11), .ref f2]) rfl ?_
                  refine c_iload_n (j := 1) C dX4_write_116 rfl ?_
                  have ty21 := Xb1.ty tsk11
                  refine d_callV (As := [.ref (sk 11), .int (iI cc0)]) (rest := []) C hM (C_wl_11 (a0 := f2) (a1 := (sk 11)) (g := cc0) Wb1 skb1 rgf2 ty21 (by omega) ) dX4_write_117 kV_X4_131 rfl rgf2 rfl rfl (by decide) ck_6 rfl (Nat.le_of_ble_eq_true rfl) ⟨(Nat.le_of_ble_eq_true rfl), (Nat.le_of_ble_eq_true rfl)⟩ hph pl2 (show 0 + 0 = 0 from rfl) (by decide) (fun rh5 Lh5 clh5 lnh5 ivh5 rvh5 h5 => ?_)
                  obtain ⟨rfl, xl5, fl5, W7, exf5⟩ := h5
                  refine hv3 (Fb1.call Xb1 fl5 rfl) (Xb1.trans xl5) (xl5.skl skb1) (fun F5 X3 sk3 => ?_)
                  refine c_st (st2 := []) rfl ?_
                  refine c_aload (j := 0) (x := f2) C dX4_write_120 rfl ?_
                  refine hv2 (xl5.ty rgf2) (show ivh5 f2 0 = ivb1 f2 0 from fl5.i rgf2 rfl 0) (fun ty22 ie19 => ?_)
                  have ri14 : (-2147483648) ≤ ivh5 f2 0 ∧ ivh5 f2 0 ≤ 2147483647 := W7.int ty22 0
                  refine c_get (k := 0) C ck_6 dX4_write_122 w3_136 (by decide) ty22 rfl rfl (by decide) rfl ?_
                  refine c_if_ne (tgt := 132) C (r32_c (lo := (-2147483648)) (hi := 2147483647) ri14.1 ri14.2 (by decide) (by decide)) dX4_write_125 (by decide) (fun c7 => ?_) (fun c7 => ?_)
                  · refine c_iconst C dX4_write_132 ?_
                    refine c_istore_n (lv2 := [(2, .int (iI 0)), (4, .ref f2), (3, .int (iI k)), (0, .ref a0), (1, .int (iI n))]) C dX4_write_133 (by decide) rfl ?_
                    refine c_iinc (z := k) (j := 2) (lv2 := [(3, .int (iI (k + 1))), (2, .int (iI 0)), (4, .ref f2), (0, .ref a0), (1, .int (iI n))]) C dX4_write_134 rfl (by decide) rfl ?_
                    refine c_goto (tgt := 4) C dX4_write_137 (by decide) ?_
                    refine hv3 (xl5.ty ty3) (show ivh5 a0 5 = ivb1 a0 5 from fl5.i ty3 rfl 5) (show rvh5 a0 1 = rvb1 a0 1 from (fl5.r ty3 rfl 1)) (fun ty23 ie20 re10 => ?_)
                    have ri15 : 0 ≤ ivh5 a0 5 ∧ ivh5 a0 5 ≤ 50 := W7.int ty23 5
                    rw [hr.1] at re10
                    have re11 : rvh5 a0 2 = rvb1 a0 2 := (fl5.r ty3 rfl 2)
                    rw [hr.2] at re11
                    refine c_lv (lv2 := [(2, .int (iI 0)), (3, .int (iI (k + 1))), (0, .ref a0), (1, .int (iI n))]) [1, 0, 3, 4] rfl ?_
                    exact ih1  0 (k + 1) _ _ _ _ _ (by omega) X3 W7 F5  (by omega) (by omega) (ie20.trans hc5) ⟨re10, re11⟩
                  · refine c_iconst C dX4_write_128 ?_
                    refine c_goto (tgt := 133) C dX4_write_129 (by decide) ?_
                    refine c_istore_n (lv2 := [(2, .int (iI 1)), (4, .ref f2), (3, .int (iI k)), (0, .ref a0), (1, .int (iI n))]) C dX4_write_133 (by decide) rfl ?_
                    refine c_iinc (z := k) (j := 2) (lv2 := [(3, .int (iI (k + 1))), (2, .int (iI 1)), (4, .ref f2), (0, .ref a0), (1, .int (iI n))]) C dX4_write_134 rfl (by decide) rfl ?_
                    refine c_goto (tgt := 4) C dX4_write_137 (by decide) ?_
                    refine hv3 (xl5.ty ty3) (show ivh5 a0 5 = ivb1 a0 5 from fl5.i ty3 rfl 5) (show rvh5 a0 1 = rvb1 a0 1 from (fl5.r ty3 rfl 1)) (fun ty24 ie22 re12 => ?_)
                    have ri16 : 0 ≤ ivh5 a0 5 ∧ ivh5 a0 5 ≤ 50 := W7.int ty24 5
                    rw [hr.1] at re12
                    have re13 : rvh5 a0 2 = rvb1 a0 2 := (fl5.r ty3 rfl 2)
                    rw [hr.2] at re13
                    refine c_lv (lv2 := [(2, .int (iI 1)), (3, .int (iI (k + 1))), (0, .ref a0), (1, .int (iI n))]) [1, 0, 3, 4] rfl ?_
                    exact ih1  1 (k + 1) _ _ _ _ _ (by omega) X3 W7 F5  (by omega) (by omega) (ie22.trans hc5) ⟨re12, re13⟩
                · refine c_aload_n (j := 3) (x := a0) C dX4_write_87 rfl ?_
                  obtain ⟨rb6, rq6, trb6⟩ := Wb1.ref ty3 4 rfl rfl rfl
                  have erb6 := Wb1.sk trb6 (by decide) rfl
                  subst erb6
                  refine c_getr (k := 4) C ck_5 dX4_write_88 w1_233 (by decide) ty3 rfl rfl (by decide) rfl rq6 ?_
                  refine c_st (st2 := [.ref (sk 11)]) rfl ?_
                  refine c_aload (j := 0) (x := f2) C dX4_write_91 rfl ?_
                  refine c_get (k := 0) C ck_6 dX4_write_93 w3_136 (by decide) rgf2 rfl rfl (by decide) rfl ?_
                  refine c_iconst C dX4_write_96 ?_
                  refine c_icmp_ne (tgt := 105) C (r32_c (lo := (-2147483648)) (hi := 2147483647) ri8.1 ri8.2 (by decide) (by decide)) ⟨by decide, by decide⟩ dX4_write_97 (by decide) (fun _ => ?_) (fun z => absurd z (by omega))
                  refine c_bipush (z := 62) C dX4_write_105 (by decide) ?_
                  have ty25 := Xb1.ty tsk11
                  have ri17 : 0 ≤ ivb1 (sk 11) 2 ∧ ivb1 (sk 11) 2 ≤ 40000 := Wb1.int ty25 2
                  refine d_callV (As := [.int (iI 62)]) (rest := []) C hM (C_add_11 (a0 := (sk 11)) (x := 62) Wb1 skb1 ty25 ⟨by decide, by decide⟩ ) dX4_write_107 kV_X4_128 rfl ty25 rfl rfl (by decide) ck_2 rfl (Nat.le_of_ble_eq_true rfl) ⟨(Nat.le_of_ble_eq_true rfl), (Nat.le_of_ble_eq_true rfl)⟩ hph pl2 (show 0 + 0 = 0 from rfl) (by decide) (fun rh6 Lh6 clh6 lnh6 ivh6 rvh6 h6 => ?_)
                  obtain ⟨rfl, xl6, fl6, W8, exf6⟩ := h6
                  refine hv3 (Fb1.call Xb1 fl6 rfl) (Xb1.trans xl6) (xl6.skl skb1) (fun F6 X4 sk4 => ?_)
                  refine c_st (st2 := []) rfl ?_
                  refine hv2 (xl6.ty ty25) (show ((ivh6 (sk 11) 2 = ivb1 (sk 11) 2 ∧ ivb1 (sk 11) 2 = 40000) ∨ (ivh6 (sk 11) 2 = ivb1 (sk 11) 2 + 1 ∧ ivb1 (sk 11) 2 < 40000)) from exf6) (fun ty26 gf6 => ?_)
                  have ri18 : 0 ≤ ivh6 (sk 11) 2 ∧ ivh6 (sk 11) 2 ≤ 40000 := W8.int ty26 2
                  refine c_aload (j := 0) (x := f2) C dX4_write_110 rfl ?_
                  refine c_aload_n (j := 3) (x := a0) C dX4_write_112 rfl ?_
                  refine hv2 (xl6.ty ty3) (show rvh6 a0 4 = rvb1 a0 4 from (fl6.r ty3 rfl 4)) (fun ty27 re14 => ?_)
                  rw [rq6] at re14
                  refine c_getr (k := 4) C ck_5 dX4_write_113 w1_233 (by decide) ty27 rfl rfl (by decide) rfl re14 ?_
                  refine c_st (st2 := [.ref (sk 11), .ref f2]) rfl ?_
                  refine c_iload_n (j := 1) C dX4_write_116 rfl ?_
                  refine hv2 (xl6.ty rgf2) (Phi.le W8 sk4) (fun ty28 pl4 => ?_)
                  refine d_callV (As := [.ref (sk 11), .int (iI cc0)]) (rest := []) C hM (C_wl_11 (a0 := f2) (a1 := (sk 11)) (g := cc0) W8 sk4 ty28 ty26 (by omega) ) dX4_write_117 kV_X4_131 rfl ty28 rfl rfl (by decide) ck_6 rfl (Nat.le_of_ble_eq_true rfl) ⟨(Nat.le_of_ble_eq_true rfl), (Nat.le_of_ble_eq_true rfl)⟩ hph pl4 (show 0 + 0 = 0 from rfl) (by decide) (fun rh7 Lh7 clh7 lnh7 ivh7 rvh7 h7 => ?_)
                  obtain ⟨rfl, xl7, fl7, W9, exf7⟩ := h7
                  refine hv8 (F6.call X4 fl7 rfl) (xl6.ty ty8) (xl6.ty ty6) (xl6.ty ty7) (xl6.ty ty5) (xl6.ty ty4) (X4.trans xl7) (xl7.skl sk4) (fun F7 ty29 ty30 ty31 ty32 ty33 X5 sk5 => ?_)
                  refine c_st (st2 := []) rfl ?_
                  refine c_aload (j := 0) (x := f2) C dX4_write_120 rfl ?_
                  refine hv3 (xl7.ty ty28) (show ivh7 f2 0 = ivh6 f2 0 from fl7.i ty28 rfl 0) (show ivh6 f2 0 = ivb1 f2 0 from fl6.i rgf2 rfl 0) (fun ty34 ie26 ie27 => ?_)
                  have ri19 : (-2147483648) ≤ ivh7 f2 0 ∧ ivh7 f2 0 ≤ 2147483647 := W9.int ty34 0
                  refine c_get (k := 0) C ck_6 dX4_write_122 w3_136 (by decide) ty34 rfl rfl (by decide) rfl ?_
                  refine c_if_ne (tgt := 132) C (r32_c (lo := (-2147483648)) (hi := 2147483647) ri19.1 ri19.2 (by decide) (by decide)) dX4_write_125 (by decide) (fun c8 => ?_) (fun c8 => ?_)
                  · refine c_iconst C dX4_write_132 ?_
                    refine c_istore_n (lv2 := [(2, .int (iI 0)), (4, .ref f2), (3, .int (iI k)), (0, .ref a0), (1, .int (iI n))]) C dX4_write_133 (by decide) rfl ?_
                    refine c_iinc (z := k) (j := 2) (lv2 := [(3, .int (iI (k + 1))), (2, .int (iI 0)), (4, .ref f2), (0, .ref a0), (1, .int (iI n))]) C dX4_write_134 rfl (by decide) rfl ?_
                    refine c_goto (tgt := 4) C dX4_write_137 (by decide) ?_
                    refine hv4 (xl7.ty ty27) (show ivh7 a0 5 = ivh6 a0 5 from fl7.i ty27 rfl 5) (show ivh6 a0 5 = ivb1 a0 5 from fl6.i ty3 rfl 5) (show rvh6 a0 1 = rvb1 a0 1 from (fl6.r ty3 rfl 1)) (fun ty35 ie28 ie29 re15 => ?_)
                    have ri20 : 0 ≤ ivh7 a0 5 ∧ ivh7 a0 5 ≤ 50 := W9.int ty35 5
                    rw [hr.1] at re15
                    have re16 : rvh7 a0 1 = rvh6 a0 1 := (fl7.r ty27 rfl 1)
                    rw [re15] at re16
                    have re17 : rvh6 a0 2 = rvb1 a0 2 := (fl6.r ty3 rfl 2)
                    rw [hr.2] at re17
                    have re18 : rvh7 a0 2 = rvh6 a0 2 := (fl7.r ty27 rfl 2)
                    rw [re17] at re18
                    refine c_lv (lv2 := [(2, .int (iI 0)), (3, .int (iI (k + 1))), (0, .ref a0), (1, .int (iI n))]) [1, 0, 3, 4] rfl ?_
                    exact ih1  0 (k + 1) _ _ _ _ _ (by omega) X5 W9 F7  (by omega) (by omega) (ie28.trans (ie29.trans hc5)) ⟨re16, re18⟩
                  · refine c_iconst C dX4_write_128 ?_
                    refine c_goto (tgt := 133) C dX4_write_129 (by decide) ?_
                    refine c_istore_n (lv2 := [(2, .int (iI 1)), (4, .ref f2), (3, .int (iI k)), (0, .ref a0), (1, .int (iI n))]) C dX4_write_133 (by decide) rfl ?_
                    refine c_iinc (z := k) (j := 2) (lv2 := [(3, .int (iI (k + 1))), (2, .int (iI 1)), (4, .ref f2), (0, .ref a0), (1, .int (iI n))]) C dX4_write_134 rfl (by decide) rfl ?_
                    refine c_goto (tgt := 4) C dX4_write_137 (by decide) ?_
                    refine hv4 (xl7.ty ty27) (show ivh7 a0 5 = ivh6 a0 5 from fl7.i ty27 rfl 5) (show ivh6 a0 5 = ivb1 a0 5 from fl6.i ty3 rfl 5) (show rvh6 a0 1 = rvb1 a0 1 from (fl6.r ty3 rfl 1)) (fun ty36 ie31 ie32 re19 => ?_)
                    have ri21 : 0 ≤ ivh7 a0 5 ∧ ivh7 a0 5 ≤ 50 := W9.int ty36 5
                    rw [hr.1] at re19
                    have re20 : rvh7 a0 1 = rvh6 a0 1 := (fl7.r ty27 rfl 1)
                    rw [re19] at re20
                    have re21 : rvh6 a0 2 = rvb1 a0 2 := (fl6.r ty3 rfl 2)
                    rw [hr.2] at re21
                    have re22 : rvh7 a0 2 = rvh6 a0 2 := (fl7.r ty27 rfl 2)
                    rw [re21] at re22
                    refine c_lv (lv2 := [(2, .int (iI 1)), (3, .int (iI (k + 1))), (0, .ref a0), (1, .int (iI n))]) [1, 0, 3, 4] rfl ?_
                    exact ih1  1 (k + 1) _ _ _ _ _ (by omega) X5 W9 F7  (by omega) (by omega) (ie31.trans (ie32.trans hc5)) ⟨re20, re22⟩
            · exact absurd exf1.1 (by decide)
          · refine c_iconst C dX4_write_45 ?_
            refine c_goto (tgt := 50) C dX4_write_46 (by decide) ?_
            refine hv2 (Xb1.ty tsk16) (Phi.le Wb1 skb1) (fun ty37 pl5 => ?_)
            refine d_callV (As := [.int (iI 1)]) (rest := []) C hM (C_rowsOf (a0 := (sk 16)) (g := 1) Wb1 skb1 ty37 ⟨by decide, by decide⟩ ) dX4_write_50 kV_X4_95 rfl ty37 rfl rfl (by decide) ck_4 rfl (Nat.le_of_ble_eq_true rfl) ⟨(Nat.le_of_ble_eq_true rfl), (Nat.le_of_ble_eq_true rfl)⟩ hph pl5 (show 0 + 0 = 0 from rfl) (by decide) (fun rh8 Lh8 clh8 lnh8 ivh8 rvh8 h8 => ?_)
            obtain ⟨f8, rfl, rfl, rfl, rfl, rfl, rfl, rgf8, exf8⟩ := h8
            refine c_st (st2 := [.ref f8]) rfl ?_
            rcases exf8 with exf8 | exf8
            · exact absurd exf8.1 (by decide)
            · obtain ⟨hf8, rfl⟩ := exf8
              refine c_st (st2 := [.ref (sk 25)]) rfl ?_
              refine c_aload_n (j := 2) (x := a0) C dX4_write_53 rfl ?_
              refine c_getr (k := 2) C ck_5 dX4_write_54 w1_231 (by decide) ty3 rfl rfl (by decide) rfl hr.2 ?_
              refine c_st (st2 := [.ref cb0, .ref (sk 25)]) rfl ?_
              refine c_iload_n (j := 1) C dX4_write_57 rfl ?_
              refine c_iald C dX4_write_58 ty4 rfl (by omega) (by omega) (by omega) ?_
              refine c_iconst C dX4_write_59 ?_
              refine c_isub C dX4_write_60 ?_
              refine d_callV (As := [.int (iI ((ivb1 cb0 k.toNat) - 1))]) (rest := []) C hM (C_get_25 (a0 := (sk 25)) (i := (ivb1 cb0 k.toNat) - 1) Wb1 skb1 ty7 (by omega) (by show 0 ≤ ((ivb1 cb0 k.toNat) - 1) ∧ ((ivb1 cb0 k.toNat) - 1) < ivb1 (sk 25) 2; omega)) dX4_write_61 kV_X4_110 rfl ty7 rfl rfl (by decide) ck_0 rfl (Nat.le_of_ble_eq_true rfl) ⟨(Nat.le_of_ble_eq_true rfl), (Nat.le_of_ble_eq_true rfl)⟩ hph pl5 (show 0 + 0 = 0 from rfl) (by decide) (fun rh9 Lh9 clh9 lnh9 ivh9 rvh9 h9 => ?_)
              obtain ⟨f9, rfl, rfl, rfl, rfl, rfl, rfl, rgf9, exf9⟩ := h9
              refine c_st (st2 := [.ref f9]) rfl ?_
              have gf9 : el rvb1 (sk 25) ((ivb1 cb0 k.toNat) - 1).toNat = some f9 := exf9
              refine c_cast C ck_6 dX4_write_64 w5_149 w8_169t rgf9 rfl rfl (by decide) ?_
              refine c_astore (lv2 := [(4, .ref f9), (2, .int (iI cc0)), (3, .int (iI k)), (0, .ref a0), (1, .int (iI n))]) C dX4_write_67 (by decide) rfl ?_
              refine c_aload (j := 0) (x := f9) C dX4_write_69 rfl ?_
              have ri22 : (-2147483648) ≤ ivb1 f9 0 ∧ ivb1 f9 0 ≤ 2147483647 := Wb1.int rgf9 0
              refine c_get (k := 0) C ck_6 dX4_write_71 w3_136 (by decide) rgf9 rfl rfl (by decide) rfl ?_
              refine c_iconst C dX4_write_74 ?_
              refine c_icmp_eq (tgt := 87) C (r32_c (lo := (-2147483648)) (hi := 2147483647) ri22.1 ri22.2 (by decide) (by decide)) ⟨by decide, by decide⟩ dX4_write_75 (by decide) (fun c9 => ?_) (fun c9 => ?_)
              · refine c_aload_n (j := 3) (x := a0) C dX4_write_87 rfl ?_
                obtain ⟨rb7, rq7, trb7⟩ := Wb1.ref ty3 4 rfl rfl rfl
                have erb7 := Wb1.sk trb7 (by decide) rfl
                subst erb7
                refine c_getr (k := 4) C ck_5 dX4_write_88 w1_233 (by decide) ty3 rfl rfl (by decide) rfl rq7 ?_
                refine c_st (st2 := [.ref (sk 11)]) rfl ?_
                refine c_aload (j := 0) (x := f9) C dX4_write_91 rfl ?_
                refine c_get (k := 0) C ck_6 dX4_write_93 w3_136 (by decide) rgf9 rfl rfl (by decide) rfl ?_
                refine c_iconst C dX4_write_96 ?_
                refine c_icmp_ne (tgt := 105) C (r32_c (lo := (-2147483648)) (hi := 2147483647) ri22.1 ri22.2 (by decide) (by decide)) ⟨by decide, by decide⟩ dX4_write_97 (by decide) (fun z => absurd z (by omega)) (fun _ => ?_)
                refine c_bipush (z := 60) C dX4_write_100 (by decide) ?_
                refine c_goto (tgt := 107) C dX4_write_102 (by decide) ?_
                have ty38 := Xb1.ty tsk11
                have ri23 : 0 ≤ ivb1 (sk 11) 2 ∧ ivb1 (sk 11) 2 ≤ 40000 := Wb1.int ty38 2
                refine d_callV (As := [.int (iI 60)]) (rest := []) C hM (C_add_11 (a0 := (sk 11)) (x := 60) Wb1 skb1 ty38 ⟨by decide, by decide⟩ ) dX4_write_107 kV_X4_128 rfl ty38 rfl rfl (by decide) ck_2 rfl (Nat.le_of_ble_eq_true rfl) ⟨(Nat.le_of_ble_eq_true rfl), (Nat.le_of_ble_eq_true rfl)⟩ hph pl5 (show 0 + 0 = 0 from rfl) (by decide) (fun rh10 Lh10 clh10 lnh10 ivh10 rvh10 h10 => ?_)
                obtain ⟨rfl, xl10, fl10, W12, exf10⟩ := h10
                refine hv3 (Fb1.call Xb1 fl10 rfl) (Xb1.trans xl10) (xl10.skl skb1) (fun F8 X6 sk6 => ?_)
                refine c_st (st2 := []) rfl ?_
                refine hv2 (xl10.ty ty38) (show ((ivh10 (sk 11) 2 = ivb1 (sk 11) 2 ∧ ivb1 (sk 11) 2 = 40000) ∨ (ivh10 (sk 11) 2 = ivb1 (sk 11) 2 + 1 ∧ ivb1 (sk 11) 2 < 40000)) from exf10) (fun ty39 gf10 => ?_)
                have ri24 : 0 ≤ ivh10 (sk 11) 2 ∧ ivh10 (sk 11) 2 ≤ 40000 := W12.int ty39 2
                refine c_aload (j := 0) (x := f9) C dX4_write_110 rfl ?_
                refine c_aload_n (j := 3) (x := a0) C dX4_write_112 rfl ?_
                refine hv2 (xl10.ty ty3) (show rvh10 a0 4 = rvb1 a0 4 from (fl10.r ty3 rfl 4)) (fun ty40 re23 => ?_)
                rw [rq7] at re23
                refine c_getr (k := 4) C ck_5 dX4_write_113 w1_233 (by decide) ty40 rfl rfl (by decide) rfl re23 ?_
                refine c_st (st2 := [.ref (sk 11), .ref f9]) rfl ?_
                refine c_iload_n (j := 1) C dX4_write_116 rfl ?_
                refine hv2 (xl10.ty rgf9) (Phi.le W12 sk6) (fun ty41 pl6 => ?_)
                refine d_callV (As := [.ref (sk 11), .int (iI cc0)]) (rest := []) C hM (C_wl_11 (a0 := f9) (a1 := (sk 11)) (g := cc0) W12 sk6 ty41 ty39 (by omega) ) dX4_write_117 kV_X4_131 rfl ty41 rfl rfl (by decide) ck_6 rfl (Nat.le_of_ble_eq_true rfl) ⟨(Nat.le_of_ble_eq_true rfl), (Nat.le_of_ble_eq_true rfl)⟩ hph pl6 (show 0 + 0 = 0 from rfl) (by decide) (fun rh11 Lh11 clh11 lnh11 ivh11 rvh11 h11 => ?_)
                obtain ⟨rfl, xl11, fl11, W13, exf11⟩ := h11
                refine hv8 (F8.call X6 fl11 rfl) (xl10.ty ty37) (xl10.ty ty6) (xl10.ty ty7) (xl10.ty ty5) (xl10.ty ty4) (X6.trans xl11) (xl11.skl sk6) (fun F9 ty42 ty43 ty44 ty45 ty46 X7 sk7 => ?_)
                refine c_st (st2 := []) rfl ?_
                refine c_aload (j := 0) (x := f9) C dX4_write_120 rfl ?_
                refine hv3 (xl11.ty ty41) (show ivh11 f9 0 = ivh10 f9 0 from fl11.i ty41 rfl 0) (show ivh10 f9 0 = ivb1 f9 0 from fl10.i rgf9 rfl 0) (fun ty47 ie37 ie38 => ?_)
                have ri25 : (-2147483648) ≤ ivh11 f9 0 ∧ ivh11 f9 0 ≤ 2147483647 := W13.int ty47 0
                refine c_get (k := 0) C ck_6 dX4_write_122 w3_136 (by decide) ty47 rfl rfl (by decide) rfl ?_
                refine c_if_ne (tgt := 132) C (r32_c (lo := (-2147483648)) (hi := 2147483647) ri25.1 ri25.2 (by decide) (by decide)) dX4_write_125 (by decide) (fun c10 => ?_) (fun c10 => ?_)
                · refine c_iconst C dX4_write_132 ?_
                  refine c_istore_n (lv2 := [(2, .int (iI 0)), (4, .ref f9), (3, .int (iI k)), (0, .ref a0), (1, .int (iI n))]) C dX4_write_133 (by decide) rfl ?_
                  refine c_iinc (z := k) (j := 2) (lv2 := [(3, .int (iI (k + 1))), (2, .int (iI 0)), (4, .ref f9), (0, .ref a0), (1, .int (iI n))]) C dX4_write_134 rfl (by decide) rfl ?_
                  refine c_goto (tgt := 4) C dX4_write_137 (by decide) ?_
                  refine hv4 (xl11.ty ty40) (show ivh11 a0 5 = ivh10 a0 5 from fl11.i ty40 rfl 5) (show ivh10 a0 5 = ivb1 a0 5 from fl10.i ty3 rfl 5) (show rvh10 a0 1 = rvb1 a0 1 from (fl10.r ty3 rfl 1)) (fun ty48 ie39 ie40 re24 => ?_)
                  have ri26 : 0 ≤ ivh11 a0 5 ∧ ivh11 a0 5 ≤ 50 := W13.int ty48 5
                  rw [hr.1] at re24
                  have re25 : rvh11 a0 1 = rvh10 a0 1 := (fl11.r ty40 rfl 1)
                  rw [re24] at re25
                  have re26 : rvh10 a0 2 = rvb1 a0 2 := (fl10.r ty3 rfl 2)
                  rw [hr.2] at re26
                  have re27 : rvh11 a0 2 = rvh10 a0 2 := (fl11.r ty40 rfl 2)
                  rw [re26] at re27
                  refine c_lv (lv2 := [(2, .int (iI 0)), (3, .int (iI (k + 1))), (0, .ref a0), (1, .int (iI n))]) [1, 0, 3, 4] rfl ?_
                  exact ih1  0 (k + 1) _ _ _ _ _ (by omega) X7 W13 F9  (by omega) (by omega) (ie39.trans (ie40.trans hc5)) ⟨re25, re27⟩
                · refine c_iconst C dX4_write_128 ?_
                  refine c_goto (tgt := 133) C dX4_write_129 (by decide) ?_
                  refine c_istore_n (lv2 := [(2, .int (iI 1)), (4, .ref f9), (3, .int (iI k)), (0, .ref a0), (1, .int (iI n))]) C dX4_write_133 (by decide) rfl ?_
                  refine c_iinc (z := k) (j := 2) (lv2 := [(3, .int (iI (k + 1))), (2, .int (iI 1)), (4, .ref f9), (0, .ref a0), (1, .int (iI n))]) C dX4_write_134 rfl (by decide) rfl ?_
                  refine c_goto (tgt := 4) C dX4_write_137 (by decide) ?_
                  refine hv4 (xl11.ty ty40) (show ivh11 a0 5 = ivh10 a0 5 from fl11.i ty40 rfl 5) (show ivh10 a0 5 = ivb1 a0 5 from fl10.i ty3 rfl 5) (show rvh10 a0 1 = rvb1 a0 1 from (fl10.r ty3 rfl 1)) (fun ty49 ie42 ie43 re28 => ?_)
                  have ri27 : 0 ≤ ivh11 a0 5 ∧ ivh11 a0 5 ≤ 50 := W13.int ty49 5
                  rw [hr.1] at re28
                  have re29 : rvh11 a0 1 = rvh10 a0 1 := (fl11.r ty40 rfl 1)
                  rw [re28] at re29
                  have re30 : rvh10 a0 2 = rvb1 a0 2 := (fl10.r ty3 rfl 2)
                  rw [hr.2] at re30
                  have re31 : rvh11 a0 2 = rvh10 a0 2 := (fl11.r ty40 rfl 2)
                  rw [re30] at re31
                  refine c_lv (lv2 := [(2, .int (iI 1)), (3, .int (iI (k + 1))), (0, .ref a0), (1, .int (iI n))]) [1, 0, 3, 4] rfl ?_
                  exact ih1  1 (k + 1) _ _ _ _ _ (by omega) X7 W13 F9  (by omega) (by omega) (ie42.trans (ie43.trans hc5)) ⟨re29, re31⟩
              · refine c_aload (j := 0) (x := f9) C dX4_write_78 rfl ?_
                refine c_get (k := 0) C ck_6 dX4_write_80 w3_136 (by decide) rgf9 rfl rfl (by decide) rfl ?_
                refine c_iconst C dX4_write_83 ?_
                refine c_icmp_ne (tgt := 110) C (r32_c (lo := (-2147483648)) (hi := 2147483647) ri22.1 ri22.2 (by decide) (by decide)) ⟨by decide, by decide⟩ dX4_write_84 (by decide) (fun c11 => ?_) (fun c11 => ?_)
                · refine c_aload (j := 0) (x := f9) C dX4_write_110 rfl ?_
                  refine c_aload_n (j := 3) (x := a0) C dX4_write_112 rfl ?_
                  obtain ⟨rb8, rq8, trb8⟩ := Wb1.ref ty3 4 rfl rfl rfl
                  have erb8 := Wb1.sk trb8 (by decide) rfl
                  subst erb8
                  refine c_getr (k := 4) C ck_5 dX4_write_113 w1_233 (by decide) ty3 rfl rfl (by decide) rfl rq8 ?_
                  refine c_st (st2 := [.ref (sk 11), .ref f9]) rfl ?_
                  refine c_iload_n (j := 1) C dX4_write_116 rfl ?_
                  have ty50 := Xb1.ty tsk11
                  refine d_callV (As := [.ref (sk 11), .int (iI cc0)]) (rest := []) C hM (C_wl_11 (a0 := f9) (a1 := (sk 11)) (g := cc0) Wb1 skb1 rgf9 ty50 (by omega) ) dX4_write_117 kV_X4_131 rfl rgf9 rfl rfl (by decide) ck_6 rfl (Nat.le_of_ble_eq_true rfl) ⟨(Nat.le_of_ble_eq_true rfl), (Nat.le_of_ble_eq_true rfl)⟩ hph pl5 (show 0 + 0 = 0 from rfl) (by decide) (fun rh12 Lh12 clh12 lnh12 ivh12 rvh12 h12 => ?_)
                  obtain ⟨rfl, xl12, fl12, W14, exf12⟩ := h12
                  refine hv3 (Fb1.call Xb1 fl12 rfl) (Xb1.trans xl12) (xl12.skl skb1) (fun F10 X8 sk8 => ?_)
                  refine c_st (st2 := []) rfl ?_
                  refine c_aload (j := 0) (x := f9) C dX4_write_120 rfl ?_
                  refine hv2 (xl12.ty rgf9) (show ivh12 f9 0 = ivb1 f9 0 from fl12.i rgf9 rfl 0) (fun ty51 ie45 => ?_)
                  have ri28 : (-2147483648) ≤ ivh12 f9 0 ∧ ivh12 f9 0 ≤ 2147483647 := W14.int ty51 0
                  refine c_get (k := 0) C ck_6 dX4_write_122 w3_136 (by decide) ty51 rfl rfl (by decide) rfl ?_
                  refine c_if_ne (tgt := 132) C (r32_c (lo := (-2147483648)) (hi := 2147483647) ri28.1 ri28.2 (by decide) (by decide)) dX4_write_125 (by decide) (fun c12 => ?_) (fun c12 => ?_)
                  · refine c_iconst C dX4_write_132 ?_
                    refine c_istore_n (lv2 := [(2, .int (iI 0)), (4, .ref f9), (3, .int (iI k)), (0, .ref a0), (1, .int (iI n))]) C dX4_write_133 (by decide) rfl ?_
                    refine c_iinc (z := k) (j := 2) (lv2 := [(3, .int (iI (k + 1))), (2, .int (iI 0)), (4, .ref f9), (0, .ref a0), (1, .int (iI n))]) C dX4_write_134 rfl (by decide) rfl ?_
                    refine c_goto (tgt := 4) C dX4_write_137 (by decide) ?_
                    refine hv3 (xl12.ty ty3) (show ivh12 a0 5 = ivb1 a0 5 from fl12.i ty3 rfl 5) (show rvh12 a0 1 = rvb1 a0 1 from (fl12.r ty3 rfl 1)) (fun ty52 ie46 re32 => ?_)
                    have ri29 : 0 ≤ ivh12 a0 5 ∧ ivh12 a0 5 ≤ 50 := W14.int ty52 5
                    rw [hr.1] at re32
                    have re33 : rvh12 a0 2 = rvb1 a0 2 := (fl12.r ty3 rfl 2)
                    rw [hr.2] at re33
                    refine c_lv (lv2 := [(2, .int (iI 0)), (3, .int (iI (k + 1))), (0, .ref a0), (1, .int (iI n))]) [1, 0, 3, 4] rfl ?_
                    exact ih1  0 (k + 1) _ _ _ _ _ (by omega) X8 W14 F10  (by omega) (by omega) (ie46.trans hc5) ⟨re32, re33⟩
                  · refine c_iconst C dX4_write_128 ?_
                    refine c_goto (tgt := 133) C dX4_write_129 (by decide) ?_
                    refine c_istore_n (lv2 := [(2, .int (iI 1)), (4, .ref f9), (3, .int (iI k)), (0, .ref a0), (1, .int (iI n))]) C dX4_write_133 (by decide) rfl ?_
                    refine c_iinc (z := k) (j := 2) (lv2 := [(3, .int (iI (k + 1))), (2, .int (iI 1)), (4, .ref f9), (0, .ref a0), (1, .int (iI n))]) C dX4_write_134 rfl (by decide) rfl ?_
                    refine c_goto (tgt := 4) C dX4_write_137 (by decide) ?_
                    refine hv3 (xl12.ty ty3) (show ivh12 a0 5 = ivb1 a0 5 from fl12.i ty3 rfl 5) (show rvh12 a0 1 = rvb1 a0 1 from (fl12.r ty3 rfl 1)) (fun ty53 ie48 re34 => ?_)
                    have ri30 : 0 ≤ ivh12 a0 5 ∧ ivh12 a0 5 ≤ 50 := W14.int ty53 5
                    rw [hr.1] at re34
                    have re35 : rvh12 a0 2 = rvb1 a0 2 := (fl12.r ty3 rfl 2)
                    rw [hr.2] at re35
                    refine c_lv (lv2 := [(2, .int (iI 1)), (3, .int (iI (k + 1))), (0, .ref a0), (1, .int (iI n))]) [1, 0, 3, 4] rfl ?_
                    exact ih1  1 (k + 1) _ _ _ _ _ (by omega) X8 W14 F10  (by omega) (by omega) (ie48.trans hc5) ⟨re34, re35⟩
                · refine c_aload_n (j := 3) (x := a0) C dX4_write_87 rfl ?_
                  obtain ⟨rb9, rq9, trb9⟩ := Wb1.ref ty3 4 rfl rfl rfl
                  have erb9 := Wb1.sk trb9 (by decide) rfl
                  subst erb9
                  refine c_getr (k := 4) C ck_5 dX4_write_88 w1_233 (by decide) ty3 rfl rfl (by decide) rfl rq9 ?_
                  refine c_st (st2 := [.ref (sk 11)]) rfl ?_
                  refine c_aload (j := 0) (x := f9) C dX4_write_91 rfl ?_
                  refine c_get (k := 0) C ck_6 dX4_write_93 w3_136 (by decide) rgf9 rfl rfl (by decide) rfl ?_
                  refine c_iconst C dX4_write_96 ?_
                  refine c_icmp_ne (tgt := 105) C (r32_c (lo := (-2147483648)) (hi := 2147483647) ri22.1 ri22.2 (by decide) (by decide)) ⟨by decide, by decide⟩ dX4_write_97 (by decide) (fun _ => ?_) (fun z => absurd z (by omega))
                  refine c_bipush (z := 62) C dX4_write_105 (by decide) ?_
                  have ty54 := Xb1.ty tsk11
                  have ri31 : 0 ≤ ivb1 (sk 11) 2 ∧ ivb1 (sk 11) 2 ≤ 40000 := Wb1.int ty54 2
                  refine d_callV (As := [.int (iI 62)]) (rest := []) C hM (C_add_11 (a0 := (sk 11)) (x := 62) Wb1 skb1 ty54 ⟨by decide, by decide⟩ ) dX4_write_107 kV_X4_128 rfl ty54 rfl rfl (by decide) ck_2 rfl (Nat.le_of_ble_eq_true rfl) ⟨(Nat.le_of_ble_eq_true rfl), (Nat.le_of_ble_eq_true rfl)⟩ hph pl5 (show 0 + 0 = 0 from rfl) (by decide) (fun rh13 Lh13 clh13 lnh13 ivh13 rvh13 h13 => ?_)
                  obtain ⟨rfl, xl13, fl13, W15, exf13⟩ := h13
                  refine hv3 (Fb1.call Xb1 fl13 rfl) (Xb1.trans xl13) (xl13.skl skb1) (fun F11 X9 sk9 => ?_)
                  refine c_st (st2 := []) rfl ?_
                  refine hv2 (xl13.ty ty54) (show ((ivh13 (sk 11) 2 = ivb1 (sk 11) 2 ∧ ivb1 (sk 11) 2 = 40000) ∨ (ivh13 (sk 11) 2 = ivb1 (sk 11) 2 + 1 ∧ ivb1 (sk 11) 2 < 40000)) from exf13) (fun ty55 gf13 => ?_)
                  have ri32 : 0 ≤ ivh13 (sk 11) 2 ∧ ivh13 (sk 11) 2 ≤ 40000 := W15.int ty55 2
                  refine c_aload (j := 0) (x := f9) C dX4_write_110 rfl ?_
                  refine c_aload_n (j := 3) (x := a0) C dX4_write_112 rfl ?_
                  refine hv2 (xl13.ty ty3) (show rvh13 a0 4 = rvb1 a0 4 from (fl13.r ty3 rfl 4)) (fun ty56 re36 => ?_)
                  rw [rq9] at re36
                  refine c_getr (k := 4) C ck_5 dX4_write_113 w1_233 (by decide) ty56 rfl rfl (by decide) rfl re36 ?_
                  refine c_st (st2 := [.ref (sk 11), .ref f9]) rfl ?_
                  refine c_iload_n (j := 1) C dX4_write_116 rfl ?_
                  refine hv2 (xl13.ty rgf9) (Phi.le W15 sk9) (fun ty57 pl7 => ?_)
                  refine d_callV (As := [.ref (sk 11), .int (iI cc0)]) (rest := []) C hM (C_wl_11 (a0 := f9) (a1 := (sk 11)) (g := cc0) W15 sk9 ty57 ty55 (by omega) ) dX4_write_117 kV_X4_131 rfl ty57 rfl rfl (by decide) ck_6 rfl (Nat.le_of_ble_eq_true rfl) ⟨(Nat.le_of_ble_eq_true rfl), (Nat.le_of_ble_eq_true rfl)⟩ hph pl7 (show 0 + 0 = 0 from rfl) (by decide) (fun rh14 Lh14 clh14 lnh14 ivh14 rvh14 h14 => ?_)
                  obtain ⟨rfl, xl14, fl14, W16, exf14⟩ := h14
                  refine hv8 (F11.call X9 fl14 rfl) (xl13.ty ty37) (xl13.ty ty6) (xl13.ty ty7) (xl13.ty ty5) (xl13.ty ty4) (X9.trans xl14) (xl14.skl sk9) (fun F12 ty58 ty59 ty60 ty61 ty62 X10 sk10 => ?_)
                  refine c_st (st2 := []) rfl ?_
                  refine c_aload (j := 0) (x := f9) C dX4_write_120 rfl ?_
                  refine hv3 (xl14.ty ty57) (show ivh14 f9 0 = ivh13 f9 0 from fl14.i ty57 rfl 0) (show ivh13 f9 0 = ivb1 f9 0 from fl13.i rgf9 rfl 0) (fun ty63 ie52 ie53 => ?_)
                  have ri33 : (-2147483648) ≤ ivh14 f9 0 ∧ ivh14 f9 0 ≤ 2147483647 := W16.int ty63 0
                  refine c_get (k := 0) C ck_6 dX4_write_122 w3_136 (by decide) ty63 rfl rfl (by decide) rfl ?_
                  refine c_if_ne (tgt := 132) C (r32_c (lo := (-2147483648)) (hi := 2147483647) ri33.1 ri33.2 (by decide) (by decide)) dX4_write_125 (by decide) (fun c13 => ?_) (fun c13 => ?_)
                  · refine c_iconst C dX4_write_132 ?_
                    refine c_istore_n (lv2 := [(2, .int (iI 0)), (4, .ref f9), (3, .int (iI k)), (0, .ref a0), (1, .int (iI n))]) C dX4_write_133 (by decide) rfl ?_
                    refine c_iinc (z := k) (j := 2) (lv2 := [(3, .int (iI (k + 1))), (2, .int (iI 0)), (4, .ref f9), (0, .ref a0), (1, .int (iI n))]) C dX4_write_134 rfl (by decide) rfl ?_
                    refine c_goto (tgt := 4) C dX4_write_137 (by decide) ?_
                    refine hv4 (xl14.ty ty56) (show ivh14 a0 5 = ivh13 a0 5 from fl14.i ty56 rfl 5) (show ivh13 a0 5 = ivb1 a0 5 from fl13.i ty3 rfl 5) (show rvh13 a0 1 = rvb1 a0 1 from (fl13.r ty3 rfl 1)) (fun ty64 ie54 ie55 re37 => ?_)
                    have ri34 : 0 ≤ ivh14 a0 5 ∧ ivh14 a0 5 ≤ 50 := W16.int ty64 5
                    rw [hr.1] at re37
                    have re38 : rvh14 a0 1 = rvh13 a0 1 := (fl14.r ty56 rfl 1)
                    rw [re37] at re38
                    have re39 : rvh13 a0 2 = rvb1 a0 2 := (fl13.r ty3 rfl 2)
                    rw [hr.2] at re39
                    have re40 : rvh14 a0 2 = rvh13 a0 2 := (fl14.r ty56 rfl 2)
                    rw [re39] at re40
                    refine c_lv (lv2 := [(2, .int (iI 0)), (3, .int (iI (k + 1))), (0, .ref a0), (1, .int (iI n))]) [1, 0, 3, 4] rfl ?_
                    exact ih1  0 (k + 1) _ _ _ _ _ (by omega) X10 W16 F12  (by omega) (by omega) (ie54.trans (ie55.trans hc5)) ⟨re38, re40⟩
                  · refine c_iconst C dX4_write_128 ?_
                    refine c_goto (tgt := 133) C dX4_write_129 (by decide) ?_
                    refine c_istore_n (lv2 := [(2, .int (iI 1)), (4, .ref f9), (3, .int (iI k)), (0, .ref a0), (1, .int (iI n))]) C dX4_write_133 (by decide) rfl ?_
                    refine c_iinc (z := k) (j := 2) (lv2 := [(3, .int (iI (k + 1))), (2, .int (iI 1)), (4, .ref f9), (0, .ref a0), (1, .int (iI n))]) C dX4_write_134 rfl (by decide) rfl ?_
                    refine c_goto (tgt := 4) C dX4_write_137 (by decide) ?_
                    refine hv4 (xl14.ty ty56) (show ivh14 a0 5 = ivh13 a0 5 from fl14.i ty56 rfl 5) (show ivh13 a0 5 = ivb1 a0 5 from fl13.i ty3 rfl 5) (show rvh13 a0 1 = rvb1 a0 1 from (fl13.r ty3 rfl 1)) (fun ty65 ie57 ie58 re41 => ?_)
                    have ri35 : 0 ≤ ivh14 a0 5 ∧ ivh14 a0 5 ≤ 50 := W16.int ty65 5
                    rw [hr.1] at re41
                    have re42 : rvh14 a0 1 = rvh13 a0 1 := (fl14.r ty56 rfl 1)
                    rw [re41] at re42
                    have re43 : rvh13 a0 2 = rvb1 a0 2 := (fl13.r ty3 rfl 2)
                    rw [hr.2] at re43
                    have re44 : rvh14 a0 2 = rvh13 a0 2 := (fl14.r ty56 rfl 2)
                    rw [re43] at re44
                    refine c_lv (lv2 := [(2, .int (iI 1)), (3, .int (iI (k + 1))), (0, .ref a0), (1, .int (iI n))]) [1, 0, 3, 4] rfl ?_
                    exact ih1  1 (k + 1) _ _ _ _ _ (by omega) X10 W16 F12  (by omega) (by omega) (ie57.trans (ie58.trans hc5)) ⟨re42, re44⟩
        · refine c_aload_n (j := 2) (x := a0) C dX4_write_18 rfl ?_
          obtain ⟨rb10, rq10, trb10⟩ := Wb1.ref ty3 4 rfl rfl rfl
          have erb10 := Wb1.sk trb10 (by decide) rfl
          subst erb10
          refine c_getr (k := 4) C ck_5 dX4_write_19 w1_233 (by decide) ty3 rfl rfl (by decide) rfl rq10 ?_
          refine c_st (st2 := [.ref (sk 11)]) rfl ?_
          refine c_bipush (z := 32) C dX4_write_22 (by decide) ?_
          refine hv2 (Xb1.ty tsk11) (Phi.le Wb1 skb1) (fun ty66 pl8 => ?_)
          have ri36 : 0 ≤ ivb1 (sk 11) 2 ∧ ivb1 (sk 11) 2 ≤ 40000 := Wb1.int ty66 2
          refine d_callV (As := [.int (iI 32)]) (rest := []) C hM (C_add_11 (a0 := (sk 11)) (x := 32) Wb1 skb1 ty66 ⟨by decide, by decide⟩ ) dX4_write_24 kV_X4_128 rfl ty66 rfl rfl (by decide) ck_2 rfl (Nat.le_of_ble_eq_true rfl) ⟨(Nat.le_of_ble_eq_true rfl), (Nat.le_of_ble_eq_true rfl)⟩ hph pl8 (show 0 + 0 = 0 from rfl) (by decide) (fun rh15 Lh15 clh15 lnh15 ivh15 rvh15 h15 => ?_)
          obtain ⟨rfl, xl15, fl15, W17, exf15⟩ := h15
          refine hv7 (Fb1.call Xb1 fl15 rfl) (Xb1.ty tsk16) (Xb1.ty tsk24) (Xb1.ty tsk25) (Xb1.ty tnb0) (Xb1.trans xl15) (xl15.skl skb1) (fun F13 ty67 ty68 ty69 ty70 X11 sk11 => ?_)
          refine c_st (st2 := []) rfl ?_
          refine hv2 (xl15.ty ty66) (show ((ivh15 (sk 11) 2 = ivb1 (sk 11) 2 ∧ ivb1 (sk 11) 2 = 40000) ∨ (ivh15 (sk 11) 2 = ivb1 (sk 11) 2 + 1 ∧ ivb1 (sk 11) 2 < 40000)) from exf15) (fun ty71 gf15 => ?_)
          have ri37 : 0 ≤ ivh15 (sk 11) 2 ∧ ivh15 (sk 11) 2 ≤ 40000 := W17.int ty71 2
          refine c_goto (tgt := 134) C dX4_write_27 (by decide) ?_
          refine c_iinc (z := k) (j := 1) (lv2 := [(3, .int (iI (k + 1))), (2, .int (iI cc0)), (0, .ref a0), (1, .int (iI n))]) C dX4_write_134 rfl (by decide) rfl ?_
          refine c_goto (tgt := 4) C dX4_write_137 (by decide) ?_
          refine hv3 (xl15.ty ty3) (show ivh15 a0 5 = ivb1 a0 5 from fl15.i ty3 rfl 5) (show rvh15 a0 1 = rvb1 a0 1 from (fl15.r ty3 rfl 1)) (fun ty72 ie62 re45 => ?_)
          have ri38 : 0 ≤ ivh15 a0 5 ∧ ivh15 a0 5 ≤ 50 := W17.int ty72 5
          rw [hr.1] at re45
          have re46 : rvh15 a0 2 = rvb1 a0 2 := (fl15.r ty3 rfl 2)
          rw [hr.2] at re46
          refine c_lv (lv2 := [(2, .int (iI cc0)), (3, .int (iI (k + 1))), (0, .ref a0), (1, .int (iI n))]) [1, 0, 2, 3] rfl ?_
          exact ih1  cc0 (k + 1) _ _ _ _ _ (by omega) X11 W17 F13  (by omega) (by omega) (ie62.trans hc5) ⟨re45, re46⟩
  have ri39 : 0 ≤ iv a0 5 ∧ iv a0 5 ≤ 50 := hW.int t_a0 5
  refine c_lv (lv2 := [(2, .int (iI 0)), (3, .int (iI 0)), (0, .ref a0), (1, .int (iI n))]) [1, 0, 2, 3] rfl ?_
  exact Lp1 103 0 0 _ _ _ _ _ (by omega) hX0 hW hF0  (by omega) (by omega) rfl ⟨hnb0, hcb0⟩
set_option maxHeartbeats 4000000 in
set_option maxRecDepth 100000 in
theorem C_walk {l : Launch} {G : GT} {mi : Nat} {sk : Nat → Nat} {L : List Nat} {cl ln : Nat → Nat} {iv : Nat → Nat → Int} {rv : Nat → Nat → Option Nat}  {a0 : Nat} {x : Int} (hW : WT (g0 G) sk L cl ln iv rv) (hS : SKL sk L cl) (t_a0 : ty L cl a0 17) (h_x : -2147483648 ≤ x ∧ x ≤ 2147483647) (hx : x ≤ 50) : Mc l G mi (Phi (g0 G) sk) PHM yX4_walk cX4_walk 6 none 6 [.ref a0, .int (iI x)] L cl ln iv rv 0 (fun v L2 cl2 ln2 iv2 rv2 => v = none ∧ XT L cl ln L2 cl2 ln2 ∧ fT [17, 60, 61, 62, 11, 41] L cl iv rv iv2 rv2 ∧ WT (g0 G) sk L2 cl2 ln2 iv2 rv2 ∧ (True)) := by
  refine Mc.mk (by decide) (Nat.le_of_ble_eq_true rfl) ?_
  intro p e s m args below meth c A C hM
  refine hv7 (Phi.le hW hS) (show ty L cl (sk 11) 11 from ⟨(hS 11 rfl).1, by rw [(hS 11 rfl).2]; rfl⟩) (show ty L cl (sk 16) 16 from ⟨(hS 16 rfl).1, by rw [(hS 16 rfl).2]; rfl⟩) (show ty L cl (sk 24) 24 from ⟨(hS 24 rfl).1, by rw [(hS 24 rfl).2]; rfl⟩) (show ty L cl (sk 25) 25 from ⟨(hS 25 rfl).1, by rw [(hS 25 rfl).2]; rfl⟩) (show XT L cl ln L cl ln from XT.refl) (show fT [17, 60, 61, 62, 11, 41] L cl iv rv iv rv from fT.refl) (fun hph tsk11 tsk16 tsk24 tsk25 hX0 hF0 => ?_)
  obtain ⟨nb0, hnb0, tnb0⟩ := hW.ref t_a0 1 rfl rfl rfl
  obtain ⟨cb0, hcb0, tcb0⟩ := hW.ref t_a0 2 rfl rfl rfl
  refine c_iconst C dX4_walk_0 ?_
  refine c_istore_n (lv2 := [(2, .int (iI 0)), (0, .ref a0), (1, .int (iI x))]) C dX4_walk_1 (by decide) rfl ?_
  refine c_aload_n (j := 1) (x := a0) C dX4_walk_2 rfl ?_
  refine c_getr (k := 1) C ck_5 dX4_walk_3 w1_230 (by decide) t_a0 rfl rfl (by decide) rfl hnb0 ?_
  refine c_st (st2 := [.ref nb0]) rfl ?_
  refine c_iconst C dX4_walk_6 ?_
  refine c_iconst C dX4_walk_7 ?_
  have ll1 : 101 ≤ ln nb0 ∧ ln nb0 ≤ 101 := hW.len tnb0 rfl
  refine c_iast (x := 0) C dX4_walk_8 tnb0 rfl (by omega) (by omega) (by omega) (fun iv1 pq1 => ?_)
  refine hv2 (hW.puti pq1 tnb0 (show (-2147483648) ≤ 0 ∧ 0 ≤ 2147483647 by omega) rfl) (hF0.puti hX0 pq1 tnb0 rfl) (fun W1 F1 => ?_)
  refine c_aload_n (j := 1) (x := a0) C dX4_walk_9 rfl ?_
  refine c_getr (k := 2) C ck_5 dX4_walk_10 w1_231 (by decide) t_a0 rfl rfl (by decide) rfl hcb0 ?_
  refine c_st (st2 := [.ref cb0]) rfl ?_
  refine c_iconst C dX4_walk_13 ?_
  refine c_iconst C dX4_walk_14 ?_
  have ll2 : 101 ≤ ln cb0 ∧ ln cb0 ≤ 101 := W1.len tcb0 rfl
  refine c_iast (x := (-1)) C dX4_walk_15 tcb0 rfl (by omega) (by omega) (by omega) (fun iv2 pq2 => ?_)
  refine hv2 (W1.puti pq2 tcb0 (show (-2147483648) ≤ (-1) ∧ (-1) ≤ 2147483647 by omega) rfl) (F1.puti hX0 pq2 tcb0 rfl) (fun W2 F2 => ?_)
  refine c_iconst C dX4_walk_16 ?_
  refine c_istore_n (lv2 := [(3, .int (iI 0)), (2, .int (iI 0)), (0, .ref a0), (1, .int (iI x))]) C dX4_walk_17 (by decide) rfl ?_
  have Lp1 : ∀ (nn : Nat) (dp tn : Int) (Lb1 : List Nat) (clb1 lnb1 : Nat → Nat) (ivb1 : Nat → Nat → Int) (rvb1 : Nat → Nat → Option Nat) , 1000001 - tn < (nn : Int) → XT L cl ln Lb1 clb1 lnb1 → WT (g0 G) sk Lb1 clb1 lnb1 ivb1 rvb1 → fT [17, 60, 61, 62, 11, 41] L cl iv rv ivb1 rvb1 → (-1 ≤ dp ∧ dp ≤ 100) → (0 ≤ tn ∧ tn ≤ 1000000) → (rvb1 a0 1 = some nb0 ∧ rvb1 a0 2 = some cb0) → (WKI sk ivb1 nb0 cb0 dp) → cw p l e 6 ((PHM) + 0 - ((Phi (g0 G) sk) ln rv)) s m args below meth c G A 6 (MQ below (Qu G A (Qp G (Phi (g0 G) sk) ((Phi (g0 G) sk) ln rv) 0 (fun v L2 cl2 ln2 iv2 rv2 => v = none ∧ XT L cl ln L2 cl2 ln2 ∧ fT [17, 60, 61, 62, 11, 41] L cl iv rv iv2 rv2 ∧ WT (g0 G) sk L2 cl2 ln2 iv2 rv2 ∧ (True)))) args s (((PHM) + 0 - ((Phi (g0 G) sk) ln rv)) / 16) ((PHM) + 0 - ((Phi (g0 G) sk) ln rv)) A) (Phi (g0 G) sk) ((Phi (g0 G) sk) ln rv) Lb1 clb1 lnb1 ivb1 rvb1 0 18 [(2, .int (iI dp)), (3, .int (iI tn)), (0, .ref a0), (1, .int (iI x))] [] := by
    intro nn
    induction nn with
    | zero =>
      intro  dp tn Lb1 clb1 lnb1 ivb1 rvb1 hm Xb1 Wb1 Fb1  hdp ht hr hwi
      have skb1 := Xb1.skl hS
      exact absurd hm (by omega)
    | succ nn ih1 =>
      intro  dp tn Lb1 clb1 lnb1 ivb1 rvb1 hm Xb1 Wb1 Fb1  hdp ht hr hwi
      have skb1 := Xb1.skl hS
      refine c_iload_n (j := 0) C dX4_walk_18 rfl ?_
      refine c_if_lt (tgt := 165) C (r32_c (lo := (-1)) (hi := 100) hdp.1 hdp.2 (by decide) (by decide)) dX4_walk_19 (by decide) (fun c1 => ?_) (fun c1 => ?_)
      · have pl1 := Phi.le Wb1 skb1
        exact c_vret C dX4_walk_165 rfl (by decide) (rom0 hph pl1 (by decide)) ⟨rfl, Xb1, Fb1, Wb1, trivial⟩
      · refine c_iload_n (j := 1) C dX4_walk_22 rfl ?_
        refine c_ldc (z := 1000000) C dX4_walk_23 w5_159 rfl ?_
        refine c_icmp_ge (tgt := 165) C (r32_c (lo := 0) (hi := 1000000) ht.1 ht.2 (by decide) (by decide)) ⟨by decide, by decide⟩ dX4_walk_25 (by decide) (fun c2 => ?_) (fun c2 => ?_)
        · have pl2 := Phi.le Wb1 skb1
          exact c_vret C dX4_walk_165 rfl (by decide) (rom0 hph pl2 (by decide)) ⟨rfl, Xb1, Fb1, Wb1, trivial⟩
        · have ty1 := Xb1.ty tsk24
          refine hv4 (show 0 ≤ ivb1 (sk 24) 2 ∧ ivb1 (sk 24) 2 ≤ 6003 from Wb1.int ty1 2) (show ivb1 (sk 24) 2 = iv (sk 24) 2 from Fb1.i tsk24 rfl 2) (Xb1.ty tsk25) (show ivb1 (sk 25) 2 = iv (sk 25) 2 from Fb1.i tsk25 rfl 2) (fun ri1 ie1 ty2 ie2 => ?_)
          have ri2 : 0 ≤ ivb1 (sk 25) 2 ∧ ivb1 (sk 25) 2 ≤ 6003 := Wb1.int ty2 2
          obtain ⟨wk1, wk2, wk3, wk4, wk5⟩ := hwi dp.toNat (by omega)
          have wk6 : ivb1 cb0 dp.toNat ≤ 0 ∨ ivb1 cb0 dp.toNat ≤ ivb1 (sk 24) 2 ∨ ivb1 cb0 dp.toNat ≤ ivb1 (sk 25) 2 := wk5.elim Or.inl (fun q => Or.inr (q.elim (fun q => Or.inl q.2) (fun q => Or.inr q.2)))
          refine c_aload_n (j := 2) (x := a0) C dX4_walk_28 rfl ?_
          have ty3 := Xb1.ty t_a0
          refine c_getr (k := 1) C ck_5 dX4_walk_29 w1_230 (by decide) ty3 rfl rfl (by decide) rfl hr.1 ?_
          refine c_st (st2 := [.ref nb0]) rfl ?_
          refine c_iload_n (j := 0) C dX4_walk_32 rfl ?_
          have ty4 := Xb1.ty tnb0
          have ll3 : 101 ≤ lnb1 nb0 ∧ lnb1 nb0 ≤ 101 := Wb1.len ty4 rfl
          refine c_iald C dX4_walk_33 ty4 rfl (by omega) (by omega) (by omega) ?_
          have ri3 : (-2147483648) ≤ ivb1 nb0 dp.toNat ∧ ivb1 nb0 dp.toNat ≤ 2147483647 := Wb1.int ty4 dp.toNat
          refine c_aload_n (j := 2) (x := a0) C dX4_walk_34 rfl ?_
          have ri4 : 0 ≤ ivb1 a0 9 ∧ ivb1 a0 9 ≤ 100 := Wb1.int ty3 9
          refine c_get (k := 9) C ck_5 dX4_walk_35 w2_0 (by decide) ty3 rfl rfl (by decide) rfl ?_
          refine c_iconst C dX4_walk_38 ?_
          refine c_imul C dX4_walk_39 ?_
          refine c_icmp_lt (tgt := 47) C (r32_c (lo := (-2147483648)) (hi := 2147483647) ri3.1 ri3.2 (by decide) (by decide)) ⟨by omega, by omega⟩ dX4_walk_40 (by decide) (fun c3 => ?_) (fun c3 => ?_)
          · refine c_iconst C dX4_walk_47 ?_
            refine c_istore (lv2 := [(4, .int (iI 0)), (2, .int (iI dp)), (3, .int (iI tn)), (0, .ref a0), (1, .int (iI x))]) C dX4_walk_48 (by decide) rfl ?_
            refine c_iload (j := 0) C dX4_walk_50 rfl ?_
            refine c_if_eq (tgt := 69) C ⟨by decide, by decide⟩ dX4_walk_52 (by decide) (fun _ => ?_) (fun z => absurd z (by omega))
            refine c_iload (j := 0) C dX4_walk_69 rfl ?_
            refine c_if_eq (tgt := 78) C ⟨by decide, by decide⟩ dX4_walk_71 (by decide) (fun _ => ?_) (fun z => absurd z (by omega))
            refine c_aload_n (j := 3) (x := a0) C dX4_walk_78 rfl ?_
            refine c_aload_n (j := 3) (x := a0) C dX4_walk_79 rfl ?_
            refine c_getr (k := 1) C ck_5 dX4_walk_80 w1_230 (by decide) ty3 rfl rfl (by decide) rfl hr.1 ?_
            refine c_st (st2 := [.ref nb0, .ref a0]) rfl ?_
            refine c_iload_n (j := 1) C dX4_walk_83 rfl ?_
            refine c_iald C dX4_walk_84 ty4 rfl (by omega) (by omega) (by omega) ?_
            refine c_aload_n (j := 3) (x := a0) C dX4_walk_85 rfl ?_
            refine c_getr (k := 2) C ck_5 dX4_walk_86 w1_231 (by decide) ty3 rfl rfl (by decide) rfl hr.2 ?_
            refine c_st (st2 := [.ref cb0, .int (iI (ivb1 nb0 dp.toNat)), .ref a0]) rfl ?_
            refine c_iload_n (j := 1) C dX4_walk_89 rfl ?_
            have ty5 := Xb1.ty tcb0
            have ll4 : 101 ≤ lnb1 cb0 ∧ lnb1 cb0 ≤ 101 := Wb1.len ty5 rfl
            refine c_iald C dX4_walk_90 ty5 rfl (by omega) (by omega) (by omega) ?_
            have ri5 : (-2147483648) ≤ ivb1 cb0 dp.toNat ∧ ivb1 cb0 dp.toNat ≤ 2147483647 := Wb1.int ty5 dp.toNat
            refine c_iconst C dX4_walk_91 ?_
            refine c_iadd C dX4_walk_92 ?_
            have pl3 := Phi.le Wb1 skb1
            refine d_callV (As := [.int (iI (ivb1 nb0 dp.toNat)), .int (iI ((ivb1 cb0 dp.toNat) + 1))]) (rest := []) C hM (C_nextChoice (a0 := a0) (i := ivb1 nb0 dp.toNat) (x := (ivb1 cb0 dp.toNat) + 1) Wb1 skb1 ty3 (by omega) (by omega) (by show 0 ≤ (ivb1 nb0 dp.toNat) ∧ (ivb1 nb0 dp.toNat) ≤ 403 ∧ 0 ≤ ((ivb1 cb0 dp.toNat) + 1); omega)) dX4_walk_93 kV_X4_85 rfl ty3 rfl rfl (by decide) ck_5 rfl (Nat.le_of_ble_eq_true rfl) ⟨(Nat.le_of_ble_eq_true rfl), (Nat.le_of_ble_eq_true rfl)⟩ hph pl3 (show 0 + 0 = 0 from rfl) (by decide) (fun rh1 Lh1 clh1 lnh1 ivh1 rvh1 h1 => ?_)
            obtain ⟨f1, rfl, rfl, rfl, rfl, rfl, rfl, rgf1, exf1⟩ := h1
            refine c_st (st2 := [.int (iI f1)]) rfl ?_
            have gf1 : f1 = -1 ∨ (((ivb1 cb0 dp.toNat) + 1) ≤ f1 ∧ VL sk ivb1 (ivb1 nb0 dp.toNat) f1 ∧ GD sk lnb1 ivb1 rvb1 a0 (ivb1 nb0 dp.toNat) ((ivb1 nb0 dp.toNat) / 4) f1) := exf1
            refine c_istore (lv2 := [(5, .int (iI f1)), (4, .int (iI 0)), (2, .int (iI dp)), (3, .int (iI tn)), (0, .ref a0), (1, .int (iI x))]) C dX4_walk_96 (by decide) rfl ?_
            refine c_iload (j := 1) C dX4_walk_98 rfl ?_
            refine c_if_eq (tgt := 108) C ⟨by decide, by decide⟩ dX4_walk_100 (by decide) (fun _ => ?_) (fun z => absurd z (by omega))
            refine c_iload (j := 0) C dX4_walk_108 rfl ?_
            refine c_if_ge (tgt := 119) C ⟨by omega, by omega⟩ dX4_walk_110 (by decide) (fun c4 => ?_) (fun c4 => ?_)
            · replace gf1 := gf1.resolve_left (fun q => by omega)
              refine c_aload_n (j := 4) (x := a0) C dX4_walk_119 rfl ?_
              refine c_getr (k := 2) C ck_5 dX4_walk_120 w1_231 (by decide) ty3 rfl rfl (by decide) rfl hr.2 ?_
              refine c_st (st2 := [.ref cb0]) rfl ?_
              refine c_iload_n (j := 2) C dX4_walk_123 rfl ?_
              refine c_iload (j := 0) C dX4_walk_124 rfl ?_
              refine c_iast (x := f1) C dX4_walk_126 ty5 rfl (by omega) (by omega) (by omega) (fun iv3 pq3 => ?_)
              refine hv2 (Wb1.puti pq3 ty5 (show (-2147483648) ≤ f1 ∧ f1 ≤ 2147483647 by omega) rfl) (Fb1.puti Xb1 pq3 ty5 rfl) (fun W4 F3 => ?_)
              refine c_aload_n (j := 4) (x := a0) C dX4_walk_127 rfl ?_
              refine c_getr (k := 1) C ck_5 dX4_walk_128 w1_230 (by decide) ty3 rfl rfl (by decide) rfl hr.1 ?_
              refine c_st (st2 := [.ref nb0]) rfl ?_
              refine c_iload_n (j := 2) C dX4_walk_131 rfl ?_
              refine c_iconst C dX4_walk_132 ?_
              refine c_iadd C dX4_walk_133 ?_
              refine c_aload_n (j := 4) (x := a0) C dX4_walk_134 rfl ?_
              refine c_aload_n (j := 4) (x := a0) C dX4_walk_135 rfl ?_
              refine c_getr (k := 1) C ck_5 dX4_walk_136 w1_230 (by decide) ty3 rfl rfl (by decide) rfl hr.1 ?_
              refine c_st (st2 := [.ref nb0, .ref a0, .int (iI (dp + 1)), .ref nb0]) rfl ?_
              refine c_iload_n (j := 2) C dX4_walk_139 rfl ?_
              refine c_iald C dX4_walk_140 ty4 rfl (by omega) (by omega) (by omega) ?_
              refine hv2 (show (-2147483648) ≤ iv3 nb0 dp.toNat ∧ iv3 nb0 dp.toNat ≤ 2147483647 from W4.int ty4 dp.toNat) (show iv3 nb0 dp.toNat = ivb1 nb0 dp.toNat from by rw [pq3]; exact up2_k (ne_ty ty4 ty5 (by decide))) (fun ri6 ie6 => ?_)
              refine c_iload (j := 0) C dX4_walk_141 rfl ?_
              refine hv3 (show iv3 nb0 dp.toNat = ivb1 nb0 dp.toNat from by rw [pq3]; exact up2_k (ne_ty ty4 ty5 (by decide))) (show 0 ≤ iv3 a0 9 ∧ iv3 a0 9 ≤ 100 from W4.int ty3 9) (show iv3 a0 9 = ivb1 a0 9 from by rw [pq3]; exact up2_k (ne_ty ty3 ty5 (by decide))) (fun en ri7 ie7 => ?_)
              have vv := (exf1.resolve_left (fun q => absurd q (by omega))).2
              have vp := vv.1.put skb1 pq3 ty5
              refine d_callV (As := [.int (iI (iv3 nb0 dp.toNat)), .int (iI f1)]) (rest := [.int (iI (dp + 1)), .ref nb0]) C hM (C_nodeBehind (a0 := a0) (i := iv3 nb0 dp.toNat) (x := f1) W4 skb1 ty3 (by omega) (by omega) (by show 0 ≤ (iv3 nb0 dp.toNat) ∧ (iv3 nb0 dp.toNat) ≤ 403; omega) (by rw [en]; exact vp)) dX4_walk_143 kV_X4_92 rfl ty3 rfl rfl (by decide) ck_5 rfl (Nat.le_of_ble_eq_true rfl) ⟨(Nat.le_of_ble_eq_true rfl), (Nat.le_of_ble_eq_true rfl)⟩ hph pl3 (show 0 + 0 = 0 from rfl) (by decide) (fun rh2 Lh2 clh2 lnh2 ivh2 rvh2 h2 => ?_)
              obtain ⟨f2, rfl, rfl, rfl, rfl, rfl, rfl, rgf2, exf2⟩ := h2
              refine c_st (st2 := [.int (iI f2), .int (iI (dp + 1)), .ref nb0]) rfl ?_
              refine hv2 (show (f2 = -1 ∧ ¬ GD sk lnb1 iv3 rvb1 a0 (iv3 nb0 dp.toNat) ((iv3 nb0 dp.toNat) / 4) f1) ∨ (GD sk lnb1 iv3 rvb1 a0 (iv3 nb0 dp.toNat) ((iv3 nb0 dp.toNat) / 4) f1 ∧ 4 * ((iv3 nb0 dp.toNat) / 4) + 4 ≤ f2 ∧ f2 ≤ 4 * iv3 a0 9 + 3) from exf2) (show 4 * ((iv3 nb0 dp.toNat) / 4) + 4 ≤ f2 ∧ f2 ≤ 4 * iv3 a0 9 + 3 from exf2.elim (fun q => absurd (by rw [en]; exact vv.2.put vv.1 Wb1 skb1 ty3 pq3 ty5) q.2) (fun q => q.2)) (fun gf2 nq => ?_)
              refine c_iast (x := f2) C dX4_walk_146 ty4 rfl (by omega) (by omega) (by omega) (fun iv4 pq4 => ?_)
              refine hv2 (W4.puti pq4 ty4 (show (-2147483648) ≤ f2 ∧ f2 ≤ 2147483647 by omega) rfl) (F3.puti Xb1 pq4 ty4 rfl) (fun W6 F4 => ?_)
              refine c_aload_n (j := 4) (x := a0) C dX4_walk_147 rfl ?_
              refine c_getr (k := 2) C ck_5 dX4_walk_148 w1_231 (by decide) ty3 rfl rfl (by decide) rfl hr.2 ?_
              refine c_st (st2 := [.ref cb0]) rfl ?_
              refine c_iload_n (j := 2) C dX4_walk_151 rfl ?_
              refine c_iconst C dX4_walk_152 ?_
              refine c_iadd C dX4_walk_153 ?_
              refine c_iconst C dX4_walk_154 ?_
              refine c_iast (x := (-1)) C dX4_walk_155 ty5 rfl (by omega) (by omega) (by omega) (fun iv5 pq5 => ?_)
              refine hv2 (W6.puti pq5 ty5 (show (-2147483648) ≤ (-1) ∧ (-1) ≤ 2147483647 by omega) rfl) (F4.puti Xb1 pq5 ty5 rfl) (fun W7 F5 => ?_)
              refine c_iinc (z := dp) (j := 2) (lv2 := [(2, .int (iI (dp + 1))), (5, .int (iI f1)), (4, .int (iI 0)), (3, .int (iI tn)), (0, .ref a0), (1, .int (iI x))]) C dX4_walk_156 rfl (by decide) rfl ?_
              refine c_iinc (z := tn) (j := 3) (lv2 := [(3, .int (iI (tn + 1))), (2, .int (iI (dp + 1))), (5, .int (iI f1)), (4, .int (iI 0)), (0, .ref a0), (1, .int (iI x))]) C dX4_walk_159 rfl (by decide) rfl ?_
              refine c_goto (tgt := 18) C dX4_walk_162 (by decide) ?_
              refine c_lv (lv2 := [(2, .int (iI (dp + 1))), (3, .int (iI (tn + 1))), (0, .ref a0), (1, .int (iI x))]) [1, 0, 4, 5] rfl ?_
              exact ih1  (dp + 1) (tn + 1) _ _ _ _ _ (by omega) Xb1 W7 F5  (by omega) (by omega) ⟨hr.1, hr.2⟩ (WKI.next hwi pq3 pq4 pq5 (ne_ty ty4 ty5 (by decide)) (by omega) vv.1 (by omega) (by omega) (ne_ty ty1 ty4 (by decide)) (ne_ty ty1 ty5 (by decide)) (ne_ty ty2 ty4 (by decide)) (ne_ty ty2 ty5 (by decide)))
            · refine c_iinc (z := dp) (j := 2) (lv2 := [(2, .int (iI (dp + (-1)))), (5, .int (iI f1)), (4, .int (iI 0)), (3, .int (iI tn)), (0, .ref a0), (1, .int (iI x))]) C dX4_walk_113 rfl (by decide) rfl ?_
              refine c_goto (tgt := 159) C dX4_walk_116 (by decide) ?_
              refine c_iinc (z := tn) (j := 3) (lv2 := [(3, .int (iI (tn + 1))), (2, .int (iI (dp + (-1)))), (5, .int (iI f1)), (4, .int (iI 0)), (0, .ref a0), (1, .int (iI x))]) C dX4_walk_159 rfl (by decide) rfl ?_
              refine c_goto (tgt := 18) C dX4_walk_162 (by decide) ?_
              refine c_lv (lv2 := [(2, .int (iI (dp + (-1)))), (3, .int (iI (tn + 1))), (0, .ref a0), (1, .int (iI x))]) [1, 0, 4, 5] rfl ?_
              exact ih1  (dp + (-1)) (tn + 1) _ _ _ _ _ (by omega) Xb1 Wb1 Fb1  (by omega) (by omega) ⟨hr.1, hr.2⟩ hwi.back
          · refine c_iconst C dX4_walk_43 ?_
            refine c_goto (tgt := 48) C dX4_walk_44 (by decide) ?_
            refine c_istore (lv2 := [(4, .int (iI 1)), (2, .int (iI dp)), (3, .int (iI tn)), (0, .ref a0), (1, .int (iI x))]) C dX4_walk_48 (by decide) rfl ?_
            refine c_iload (j := 0) C dX4_walk_50 rfl ?_
            refine c_if_eq (tgt := 69) C ⟨by decide, by decide⟩ dX4_walk_52 (by decide) (fun z => absurd z (by omega)) (fun _ => ?_)
            refine c_aload_n (j := 3) (x := a0) C dX4_walk_55 rfl ?_
            have ri8 : 0 ≤ ivb1 a0 5 ∧ ivb1 a0 5 ≤ 50 := Wb1.int ty3 5
            refine c_get (k := 5) C ck_5 dX4_walk_56 w1_234 (by decide) ty3 rfl rfl (by decide) rfl ?_
            refine c_iload_n (j := 4) C dX4_walk_59 rfl ?_
            refine c_icmp_lt (tgt := 69) C (r32_c (lo := 0) (hi := 50) ri8.1 ri8.2 (by decide) (by decide)) ⟨by omega, by omega⟩ dX4_walk_60 (by decide) (fun c5 => ?_) (fun c5 => ?_)
            · refine c_iload (j := 0) C dX4_walk_69 rfl ?_
              refine c_if_eq (tgt := 78) C ⟨by decide, by decide⟩ dX4_walk_71 (by decide) (fun z => absurd z (by omega)) (fun _ => ?_)
              refine c_iconst C dX4_walk_74 ?_
              refine c_goto (tgt := 96) C dX4_walk_75 (by decide) ?_
              refine c_istore (lv2 := [(5, .int (iI (-1))), (4, .int (iI 1)), (2, .int (iI dp)), (3, .int (iI tn)), (0, .ref a0), (1, .int (iI x))]) C dX4_walk_96 (by decide) rfl ?_
              refine c_iload (j := 1) C dX4_walk_98 rfl ?_
              refine c_if_eq (tgt := 108) C ⟨by decide, by decide⟩ dX4_walk_100 (by decide) (fun z => absurd z (by omega)) (fun _ => ?_)
              refine c_aload_n (j := 4) (x := a0) C dX4_walk_103 rfl ?_
              refine c_iload_n (j := 2) C dX4_walk_104 rfl ?_
              refine hv2 (Xb1.ty tcb0) (Phi.le Wb1 skb1) (fun ty6 pl4 => ?_)
              refine d_callV (As := [.int (iI dp)]) (rest := []) C hM (C_rwrite (a0 := a0) (n := dp) Wb1 skb1 ty3 (by omega) (by show 0 ≤ dp ∧ dp ≤ 100; omega) (by show ivb1 a0 5 < 50; omega) (fun nb cb h1 h2 d hd => by rw [hr.1] at h1; cases h1; rw [hr.2] at h2; cases h2; exact ⟨(hwi d (by omega)).2.2.2.1 hd, (hwi d (by omega)).2.2.2.2⟩)) dX4_walk_105 kV_X4_89 rfl ty3 rfl rfl (by decide) ck_5 rfl (Nat.le_of_ble_eq_true rfl) ⟨(Nat.le_of_ble_eq_true rfl), (Nat.le_of_ble_eq_true rfl)⟩ hph pl4 (show 0 + 0 = 0 from rfl) (by decide) (fun rh3 Lh3 clh3 lnh3 ivh3 rvh3 h3 => ?_)
              obtain ⟨rfl, xl3, fl3, W8, exf3⟩ := h3
              refine hv5 (Fb1.call Xb1 fl3 rfl) (Xb1.ty tsk11) (Xb1.ty tsk16) (Xb1.trans xl3) (xl3.skl skb1) (fun F6 ty7 ty8 X1 sk1 => ?_)
              refine c_st (st2 := []) rfl ?_
              refine hv3 (show rvh3 a0 1 = rvb1 a0 1 ∧ rvh3 a0 2 = rvb1 a0 2 from exf3) (exf3.1.trans hr.1) (exf3.2.trans hr.2) (fun gf3 rw1 rw2 => ?_)
              refine c_iload (j := 0) C dX4_walk_108 rfl ?_
              refine c_if_ge (tgt := 119) C ⟨by decide, by decide⟩ dX4_walk_110 (by decide) (fun z => absurd z (by omega)) (fun _ => ?_)
              refine c_iinc (z := dp) (j := 2) (lv2 := [(2, .int (iI (dp + (-1)))), (5, .int (iI (-1))), (4, .int (iI 1)), (3, .int (iI tn)), (0, .ref a0), (1, .int (iI x))]) C dX4_walk_113 rfl (by decide) rfl ?_
              refine c_goto (tgt := 159) C dX4_walk_116 (by decide) ?_
              refine c_iinc (z := tn) (j := 3) (lv2 := [(3, .int (iI (tn + 1))), (2, .int (iI (dp + (-1)))), (5, .int (iI (-1))), (4, .int (iI 1)), (0, .ref a0), (1, .int (iI x))]) C dX4_walk_159 rfl (by decide) rfl ?_
              refine c_goto (tgt := 18) C dX4_walk_162 (by decide) ?_
              refine hv3 (xl3.ty ty4) (xl3.ty ty6) (xl3.ty ty3) (fun ty9 ty10 ty11 => ?_)
              refine c_lv (lv2 := [(2, .int (iI (dp + (-1)))), (3, .int (iI (tn + 1))), (0, .ref a0), (1, .int (iI x))]) [1, 0, 4, 5] rfl ?_
              exact ih1  (dp + (-1)) (tn + 1) _ _ _ _ _ (by omega) X1 W8 F6  (by omega) (by omega) ⟨rw1, rw2⟩ (WKI.back (WKI.fr hwi (fun d => fl3.i ty4 rfl d) (fun d => fl3.i ty6 rfl d) (fl3.i ty1 rfl 2) (fl3.i ty2 rfl 2)))
            · refine c_aload_n (j := 3) (x := a0) C dX4_walk_63 rfl ?_
              refine c_iconst C dX4_walk_64 ?_
              refine c_put (z := 1) (k := 6) C ck_5 dX4_walk_65 w1_236 (by decide) rfl ty3 rfl rfl (by decide) rfl (by decide) (by decide) (fun iv6 pq6 => ?_)
              refine hv2 (Wb1.puti pq6 ty3 ⟨by decide, by decide⟩ rfl) (Fb1.puti Xb1 pq6 ty3 rfl) (fun W9 F7 => ?_)
              have pl5 := Phi.le W9 skb1
              exact c_vret C dX4_walk_68 rfl (by decide) (rom0 hph pl5 (by decide)) ⟨rfl, Xb1, F7, W9, trivial⟩
  refine c_lv (lv2 := [(2, .int (iI 0)), (3, .int (iI 0)), (0, .ref a0), (1, .int (iI x))]) [1, 0, 2, 3] rfl ?_
  exact Lp1 1000003 0 0 _ _ _ _ _ (by omega) hX0 W2 F2  (by omega) (by omega) ⟨hnb0, hcb0⟩ (WKI.init (by rw [pq2, up2_k (ne_ty tnb0 tcb0 (by decide)), pq1]; exact up2_s) (by rw [pq2]; exact up2_s))
set_option maxHeartbeats 4000000 in
set_option maxRecDepth 100000 in
theorem C_collect {l : Launch} {G : GT} {mi : Nat} {sk : Nat → Nat} {L : List Nat} {cl ln : Nat → Nat} {iv : Nat → Nat → Int} {rv : Nat → Nat → Option Nat}  {a0 : Nat} {a1 : Nat} {x : Int} {y : Int} (hW : WT (g0 G) sk L cl ln iv rv) (hS : SKL sk L cl) (t_a0 : ty L cl a0 17) (t_a1 : ty L cl a1 19) (h_x : -2147483648 ≤ x ∧ x ≤ 2147483647) (h_y : -2147483648 ≤ y ∧ y ≤ 2147483647)  : Mc l G mi (Phi (g0 G) sk) PHM yX4_collect cX4_collect 4 none 7 [.ref a0, .ref a1, .int (iI x), .int (iI y)] L cl ln iv rv 0 (fun v L2 cl2 ln2 iv2 rv2 => v = none ∧ XT L cl ln L2 cl2 ln2 ∧ fT [17, 63, 59, 60, 61, 62, 11, 41] L cl iv rv iv2 rv2 ∧ WT (g0 G) sk L2 cl2 ln2 iv2 rv2 ∧ (True)) := by
  refine Mc.mk (by decide) (Nat.le_of_ble_eq_true rfl) ?_
  intro p e s m args below meth c A C hM
  refine hv7 (Phi.le hW hS) (show ty L cl (sk 11) 11 from ⟨(hS 11 rfl).1, by rw [(hS 11 rfl).2]; rfl⟩) (show ty L cl (sk 16) 16 from ⟨(hS 16 rfl).1, by rw [(hS 16 rfl).2]; rfl⟩) (show ty L cl (sk 24) 24 from ⟨(hS 24 rfl).1, by rw [(hS 24 rfl).2]; rfl⟩) (show ty L cl (sk 25) 25 from ⟨(hS 25 rfl).1, by rw [(hS 25 rfl).2]; rfl⟩) (show XT L cl ln L cl ln from XT.refl) (show fT [17, 63, 59, 60, 61, 62, 11, 41] L cl iv rv iv rv from fT.refl) (fun hph tsk11 tsk16 tsk24 tsk25 hX0 hF0 => ?_)
  refine c_aload_n (j := 0) (x := a0) C dX4_collect_0 rfl ?_
  refine c_aload_n (j := 1) (x := a1) C dX4_collect_1 rfl ?_
  have ri1 : 0 ≤ iv a1 1 ∧ iv a1 1 ≤ 200 := hW.int t_a1 1
  refine c_get (k := 1) C ck_3 dX4_collect_2 w4_50 (by decide) t_a1 rfl rfl (by decide) rfl ?_
  refine c_bipush (z := 100) C dX4_collect_5 (by decide) ?_
  obtain ⟨mn1, hmn1, emn1⟩ := mmin_c (x := iv a1 1) (y := 100) (r32_c (lo := 0) (hi := 200) ri1.1 ri1.2 (by decide) (by decide)) ⟨by decide, by decide⟩
  refine c_mmin (w := iI mn1) C dX4_collect_7 w5_127 w2_129 w1_14 w2_130 (by decide) (rom0 hph hph (by decide)) (Nat.le_of_ble_eq_true rfl) emn1 ?_
  refine c_put (z := mn1) (k := 9) C ck_5 dX4_collect_10 w2_0 (by decide) rfl t_a0 rfl rfl (by decide) rfl (by rfl) (by rfl) (fun iv1 pq1 => ?_)
  refine hv2 (hW.puti pq1 t_a0 (show 0 ≤ mn1 ∧ mn1 ≤ 100 by omega) rfl) (hF0.puti hX0 pq1 t_a0 rfl) (fun W1 F1 => ?_)
  refine c_aload_n (j := 1) (x := a1) C dX4_collect_13 rfl ?_
  obtain ⟨rb1, rq1, trb1⟩ := W1.ref t_a1 0 rfl rfl rfl
  have lnrb1 : 200 ≤ ln rb1 ∧ ln rb1 ≤ 200 := W1.len trb1 rfl
  refine c_getr (k := 0) C ck_3 dX4_collect_14 w4_45 (by decide) t_a1 rfl rfl (by decide) rfl rq1 ?_
  refine c_st (st2 := [.ref rb1]) rfl ?_
  refine c_iconst C dX4_collect_17 ?_
  refine c_aload_n (j := 0) (x := a0) C dX4_collect_18 rfl ?_
  obtain ⟨rb2, rq2, trb2⟩ := W1.ref t_a0 8 rfl rfl rfl
  have lnrb2 : 100 ≤ ln rb2 ∧ ln rb2 ≤ 100 := W1.len trb2 rfl
  refine c_getr (k := 8) C ck_5 dX4_collect_19 w1_239 (by decide) t_a0 rfl rfl (by decide) rfl rq2 ?_
  refine c_st (st2 := [.ref rb2, .int (iI 0), .ref rb1]) rfl ?_
  refine c_iconst C dX4_collect_22 ?_
  refine c_aload_n (j := 0) (x := a0) C dX4_collect_23 rfl ?_
  refine hv2 (show 0 ≤ iv1 a0 9 ∧ iv1 a0 9 ≤ 100 from W1.int t_a0 9) (show iv1 a0 9 = mn1 from by rw [pq1]; exact up2_s) (fun ri2 ie1 => ?_)
  refine c_get (k := 9) C ck_5 dX4_collect_24 w2_0 (by decide) t_a0 rfl rfl (by decide) rfl ?_
  refine hv2 (show 200 ≤ ln rb1 ∧ ln rb1 ≤ 200 from W1.len trb1 rfl) (show 100 ≤ ln rb2 ∧ ln rb2 ≤ 100 from W1.len trb2 rfl) (fun ll1 ll2 => ?_)
  refine c_copyi (sp := 0) (dp := 0) (n := iv1 a0 9) C dX4_collect_27 w5_128 w2_133 w2_132 w1_15 trb1 rfl trb2 rfl (by omega) (by omega) (by omega) (by omega) (by omega) (by omega) (by omega) (by decide) (Nat.le_of_ble_eq_true rfl) (fun iv2 pq2 => ?_)
  refine hv2 (W1.copy pq2 trb2 trb1 (fun _ => rfl) (fun _ => rfl) (fun _ => rfl) (fun _ => rfl) rfl) (F1.copy hX0 pq2 trb2 rfl) (fun W2 F2 => ?_)
  refine c_aload_n (j := 0) (x := a0) C dX4_collect_30 rfl ?_
  refine c_iload_n (j := 2) C dX4_collect_31 rfl ?_
  refine c_put (z := x) (k := 10) C ck_5 dX4_collect_32 w2_1 (by decide) rfl t_a0 rfl rfl (by decide) rfl (by rfl) (by rfl) (fun iv3 pq3 => ?_)
  refine hv2 (W2.puti pq3 t_a0 (show (-2147483648) ≤ x ∧ x ≤ 2147483647 by omega) rfl) (F2.puti hX0 pq3 t_a0 rfl) (fun W3 F3 => ?_)
  refine c_aload_n (j := 0) (x := a0) C dX4_collect_35 rfl ?_
  refine c_iconst C dX4_collect_36 ?_
  refine c_put (z := 0) (k := 5) C ck_5 dX4_collect_37 w1_234 (by decide) rfl t_a0 rfl rfl (by decide) rfl (by rfl) (by rfl) (fun iv4 pq4 => ?_)
  refine hv2 (W3.puti pq4 t_a0 ⟨by decide, by decide⟩ rfl) (F3.puti hX0 pq4 t_a0 rfl) (fun W4 F4 => ?_)
  refine c_aload_n (j := 0) (x := a0) C dX4_collect_40 rfl ?_
  refine c_iconst C dX4_collect_41 ?_
  refine c_put (z := 0) (k := 6) C ck_5 dX4_collect_42 w1_236 (by decide) rfl t_a0 rfl rfl (by decide) rfl (by decide) (by decide) (fun iv5 pq5 => ?_)
  refine hv2 (W4.puti pq5 t_a0 ⟨by decide, by decide⟩ rfl) (F4.puti hX0 pq5 t_a0 rfl) (fun W5 F5 => ?_)
  refine c_aload_n (j := 0) (x := a0) C dX4_collect_45 rfl ?_
  obtain ⟨rb3, rq3, trb3⟩ := W5.ref t_a0 4 rfl rfl rfl
  have erb3 := W5.sk trb3 (by decide) rfl
  subst erb3
  refine c_getr (k := 4) C ck_5 dX4_collect_46 w1_233 (by decide) t_a0 rfl rfl (by decide) rfl rq3 ?_
  refine c_st (st2 := [.ref (sk 11)]) rfl ?_
  refine d_callV (As := []) (rest := []) C hM (C_clear_11 (a0 := (sk 11)) W5 hS tsk11  ) dX4_collect_49 kV_X4_76 rfl tsk11 rfl rfl (by decide) ck_2 rfl (Nat.le_of_ble_eq_true rfl) ⟨(Nat.le_of_ble_eq_true rfl), (Nat.le_of_ble_eq_true rfl)⟩ hph hph (show 0 + 0 = 0 from rfl) (by decide) (fun rh1 Lh1 clh1 lnh1 ivh1 rvh1 h1 => ?_)
  obtain ⟨rfl, rfl, rfl, rfl, rfl, fl1, W6, exf1⟩ := h1
  have F6 := F5.call hX0 fl1 rfl
  refine c_st (st2 := []) rfl ?_
  refine hv2 (show 0 ≤ ivh1 (sk 11) 2 ∧ ivh1 (sk 11) 2 ≤ 40000 from W6.int tsk11 2) (show ivh1 (sk 11) 2 = 0 from exf1) (fun ri3 gf1 => ?_)
  refine c_aload_n (j := 0) (x := a0) C dX4_collect_52 rfl ?_
  refine d_callV (As := []) (rest := []) C hM (C_markEnds (a0 := a0) W6 hS t_a0  ) dX4_collect_53 kV_X4_79 rfl t_a0 rfl rfl (by decide) ck_5 rfl (Nat.le_of_ble_eq_true rfl) ⟨(Nat.le_of_ble_eq_true rfl), (Nat.le_of_ble_eq_true rfl)⟩ hph hph (show 0 + 0 = 0 from rfl) (by decide) (fun rh2 Lh2 clh2 lnh2 ivh2 rvh2 h2 => ?_)
  obtain ⟨rfl, rfl, rfl, rfl, rfl, fl2, W7, exf2⟩ := h2
  have F7 := F6.call hX0 fl2 rfl
  refine c_st (st2 := []) rfl ?_
  refine c_aload_n (j := 0) (x := a0) C dX4_collect_56 rfl ?_
  obtain ⟨rb4, rq4, trb4⟩ := W7.ref t_a0 0 rfl rfl rfl
  have lnrb4 : 404 ≤ ln rb4 ∧ ln rb4 ≤ 404 := W7.len trb4 rfl
  refine c_getr (k := 0) C ck_5 dX4_collect_57 w1_229 (by decide) t_a0 rfl rfl (by decide) rfl rq4 ?_
  refine c_st (st2 := [.ref rb4]) rfl ?_
  refine c_iconst C dX4_collect_60 ?_
  have ll3 : 404 ≤ ln rb4 ∧ ln rb4 ≤ 404 := W7.len trb4 rfl
  refine c_zald C dX4_collect_61 trb4 rfl (by omega) (by omega) (by omega) ?_
  have ri4 : 0 ≤ ivh2 rb4 ((0 : Int).toNat) ∧ ivh2 rb4 ((0 : Int).toNat) ≤ 1 := W7.int trb4 ((0 : Int).toNat)
  refine c_if_eq (tgt := 75) C ⟨by omega, by omega⟩ dX4_collect_62 (by decide) (fun c1 => ?_) (fun c1 => ?_)
  · exact c_vret C dX4_collect_75 rfl (by decide) (rom0 hph hph (by decide)) ⟨rfl, hX0, F7, W7, trivial⟩
  · refine c_aload_n (j := 0) (x := a0) C dX4_collect_65 rfl ?_
    refine c_iload_n (j := 3) C dX4_collect_66 rfl ?_
    refine c_bipush (z := 50) C dX4_collect_67 (by decide) ?_
    obtain ⟨mn2, hmn2, emn2⟩ := mmin_c (x := y) (y := 50) ⟨by omega, by omega⟩ ⟨by decide, by decide⟩
    refine c_mmin (w := iI mn2) C dX4_collect_69 w5_127 w2_129 w1_14 w2_130 (by decide) (rom0 hph hph (by decide)) (Nat.le_of_ble_eq_true rfl) emn2 ?_
    refine d_callV (As := [.int (iI mn2)]) (rest := []) C hM (C_walk (a0 := a0) (x := mn2) W7 hS t_a0 (by omega) (by show mn2 ≤ 50; omega)) dX4_collect_72 kV_X4_82 rfl t_a0 rfl rfl (by decide) ck_5 rfl (Nat.le_of_ble_eq_true rfl) ⟨(Nat.le_of_ble_eq_true rfl), (Nat.le_of_ble_eq_true rfl)⟩ hph hph (show 0 + 0 = 0 from rfl) (by decide) (fun rh3 Lh3 clh3 lnh3 ivh3 rvh3 h3 => ?_)
    obtain ⟨rfl, xl3, fl3, W8, exf3⟩ := h3
    refine hv3 (F7.call hX0 fl3 rfl) (hX0.trans xl3) (xl3.skl hS) (fun F8 X1 sk1 => ?_)
    refine c_st (st2 := []) rfl ?_
    have pl1 := Phi.le W8 sk1
    exact c_vret C dX4_collect_75 rfl (by decide) (rom0 hph pl1 (by decide)) ⟨rfl, X1, F8, W8, trivial⟩
end
section
theorem up2_up {a : Nat → Nat → Int} {k i : Nat} {z z2 : Int} : up2 (up2 a k i z) k i z2 = up2 a k i z2 := by
  funext x y
  unfold up2
  by_cases h : x = k
  · by_cases h2 : y = i
    · simp only [h, h2, if_true]
    · simp only [h, h2, if_true, if_false]
  · simp only [h, if_false]
set_option maxHeartbeats 4000000 in
set_option maxRecDepth 100000 in
theorem C_spellNext {l : Launch} {G : GT} {mi : Nat} {sk : Nat → Nat} {L : List Nat} {cl ln : Nat → Nat} {iv : Nat → Nat → Int} {rv : Nat → Nat → Option Nat}  {a0 : Nat} {n : Int} (hW : WT (g0 G) sk L cl ln iv rv) (hS : SKL sk L cl) (t_a0 : ty L cl a0 14) (h_n : -2147483648 ≤ n ∧ n ≤ 2147483647)  : Mc l G mi (Phi (g0 G) sk) PHM yX8_spellNext cX8_spellNext 3 (some .boolean) 3 [.ref a0, .int (iI n)] L cl ln iv rv 0 (fun v L2 cl2 ln2 iv2 rv2 => ∃ f : Int, v = some (.int (iI f)) ∧ L = L2 ∧ cl = cl2 ∧ ln = ln2 ∧ rv = rv2 ∧ fT [14, 58] L cl iv rv iv2 rv2 ∧ WT (g0 G) sk L2 cl2 ln2 iv2 rv2 ∧ (f = 0 ∨ f = 1) ∧ (True)) := by
  refine Mc.mk (by decide) (Nat.le_of_ble_eq_true rfl) ?_
  intro p e s m args below meth c A C hM
  refine hv3 (Phi.le hW hS) (show XT L cl ln L cl ln from XT.refl) (show fT [14, 58] L cl iv rv iv rv from fT.refl) (fun hph hX0 hF0 => ?_)
  refine c_aload_n (j := 0) (x := a0) C dX8_spellNext_0 rfl ?_
  have ri1 : 0 ≤ iv a0 7 ∧ iv a0 7 ≤ 6 := hW.int t_a0 7
  refine c_get (k := 7) C ck_9 dX8_spellNext_1 w1_111 (by decide) t_a0 rfl rfl (by decide) rfl ?_
  refine c_iconst C dX8_spellNext_4 ?_
  refine c_isub C dX8_spellNext_5 ?_
  refine c_istore_n (lv2 := [(2, .int (iI ((iv a0 7) - 1))), (0, .ref a0), (1, .int (iI n))]) C dX8_spellNext_6 (by decide) rfl ?_
  have Lp1 : ∀ (nn : Nat) (k : Int) (ivb1 : Nat → Nat → Int) , k + 2 < (nn : Int) → WT (g0 G) sk L cl ln ivb1 rv → fT [14, 58] L cl iv rv ivb1 rv → (-1 ≤ k ∧ k ≤ 5) → cw p l e 3 ((PHM) + 0 - ((Phi (g0 G) sk) ln rv)) s m args below meth c G A 3 (MQ below (Qu G A (Qp G (Phi (g0 G) sk) ((Phi (g0 G) sk) ln rv) 0 (fun v L2 cl2 ln2 iv2 rv2 => ∃ f : Int, v = some (.int (iI f)) ∧ L = L2 ∧ cl = cl2 ∧ ln = ln2 ∧ rv = rv2 ∧ fT [14, 58] L cl iv rv iv2 rv2 ∧ WT (g0 G) sk L2 cl2 ln2 iv2 rv2 ∧ (f = 0 ∨ f = 1) ∧ (True)))) args s (((PHM) + 0 - ((Phi (g0 G) sk) ln rv)) / 16) ((PHM) + 0 - ((Phi (g0 G) sk) ln rv)) A) (Phi (g0 G) sk) ((Phi (g0 G) sk) ln rv) L cl ln ivb1 rv 0 7 [(2, .int (iI k)), (0, .ref a0), (1, .int (iI n))] [] := by
    intro nn
    induction nn with
    | zero =>
      intro  k ivb1 hm Wb1 Fb1  hk
      exact absurd hm (by omega)
    | succ nn ih1 =>
      intro  k ivb1 hm Wb1 Fb1  hk
      refine c_iload_n (j := 0) C dX8_spellNext_7 rfl ?_
      refine c_if_lt (tgt := 49) C (r32_c (lo := (-1)) (hi := 5) hk.1 hk.2 (by decide) (by decide)) dX8_spellNext_8 (by decide) (fun c1 => ?_) (fun c1 => ?_)
      · refine c_aload_n (j := 1) (x := a0) C dX8_spellNext_49 rfl ?_
        refine c_iload_n (j := 2) C dX8_spellNext_50 rfl ?_
        have ri2 : 0 ≤ ivb1 a0 5 ∧ ivb1 a0 5 ≤ 126 := Wb1.int t_a0 5
        refine d_callV (As := [.int (iI n)]) (rest := []) C hM (C_lengthen (a0 := a0) (n := n) Wb1 hS t_a0 (by omega) ) dX8_spellNext_51 kV_X8_91 rfl t_a0 rfl rfl (by decide) ck_9 rfl (Nat.le_of_ble_eq_true rfl) ⟨(Nat.le_of_ble_eq_true rfl), (Nat.le_of_ble_eq_true rfl)⟩ hph hph (show 0 + 0 = 0 from rfl) (by decide) (fun rh1 Lh1 clh1 lnh1 ivh1 rvh1 h1 => ?_)
        obtain ⟨f1, rfl, rfl, rfl, rfl, rfl, fl1, W1, rgf1, exf1⟩ := h1
        have F1 := Fb1.call hX0 fl1 rfl
        refine c_st (st2 := [.int (iI f1)]) rfl ?_
        refine hv2 (show 0 ≤ ivh1 a0 5 ∧ ivh1 a0 5 ≤ 126 from W1.int t_a0 5) (show ivh1 a0 5 = ivb1 a0 5 from exf1) (fun ri3 gf1 => ?_)
        exact c_zret C dX8_spellNext_54 rfl (by omega) (by decide) (rom0 hph hph (by decide)) ⟨f1, rfl, rfl, rfl, rfl, rfl, F1, W1, (by omega), trivial⟩
      · refine c_aload_n (j := 1) (x := a0) C dX8_spellNext_11 rfl ?_
        obtain ⟨rb1, rq1, trb1⟩ := Wb1.ref t_a0 6 rfl rfl rfl
        have lnrb1 : 6 ≤ ln rb1 ∧ ln rb1 ≤ 6 := Wb1.len trb1 rfl
        refine c_getr (k := 6) C ck_9 dX8_spellNext_12 w1_110 (by decide) t_a0 rfl rfl (by decide) rfl rq1 ?_
        refine c_st (st2 := [.ref rb1]) rfl ?_
        refine c_iload_n (j := 0) C dX8_spellNext_15 rfl ?_
        refine c_dup2 C dX8_spellNext_16 rfl rfl ?_
        have ll1 : 6 ≤ ln rb1 ∧ ln rb1 ≤ 6 := Wb1.len trb1 rfl
        refine c_iald C dX8_spellNext_17 trb1 rfl (by omega) (by omega) (by omega) ?_
        have ri4 : 0 ≤ ivb1 rb1 k.toNat ∧ ivb1 rb1 k.toNat ≤ 125 := Wb1.int trb1 k.toNat
        refine c_iconst C dX8_spellNext_18 ?_
        refine c_iadd C dX8_spellNext_19 ?_
        have ri5 : 0 ≤ ivb1 a0 5 ∧ ivb1 a0 5 ≤ 126 := Wb1.int t_a0 5
        by_cases hsp : (ivb1 rb1 k.toNat) + 1 ≤ 125
        · refine c_iast (x := (ivb1 rb1 k.toNat) + 1) C dX8_spellNext_20 trb1 rfl (by omega) (by omega) (by omega) (fun iv1 pq1 => ?_)
          refine hv2 (Wb1.puti pq1 trb1 (show 0 ≤ ((ivb1 rb1 k.toNat) + 1) ∧ ((ivb1 rb1 k.toNat) + 1) ≤ 125 by omega) rfl) (Fb1.puti hX0 pq1 trb1 rfl) (fun W2 F2 => ?_)
          refine c_aload_n (j := 1) (x := a0) C dX8_spellNext_21 rfl ?_
          refine c_getr (k := 6) C ck_9 dX8_spellNext_22 w1_110 (by decide) t_a0 rfl rfl (by decide) rfl rq1 ?_
          refine c_st (st2 := [.ref rb1]) rfl ?_
          refine c_iload_n (j := 0) C dX8_spellNext_25 rfl ?_
          refine c_iald C dX8_spellNext_26 trb1 rfl (by omega) (by omega) (by omega) ?_
          refine hv2 (show 0 ≤ iv1 rb1 k.toNat ∧ iv1 rb1 k.toNat ≤ 125 from W2.int trb1 k.toNat) (show iv1 rb1 k.toNat = (ivb1 rb1 k.toNat) + 1 from by rw [pq1]; exact up2_s) (fun ri6 ie5 => ?_)
          refine c_aload_n (j := 1) (x := a0) C dX8_spellNext_27 rfl ?_
          refine hv2 (show 0 ≤ iv1 a0 5 ∧ iv1 a0 5 ≤ 126 from W2.int t_a0 5) (show iv1 a0 5 = ivb1 a0 5 from by rw [pq1]; exact up2_k (ne_ty t_a0 trb1 (by decide))) (fun ri7 ie6 => ?_)
          refine c_get (k := 5) C ck_9 dX8_spellNext_28 w1_109 (by decide) t_a0 rfl rfl (by decide) rfl ?_
          refine c_icmp_ge (tgt := 36) C (r32_c (lo := 0) (hi := 125) ri6.1 ri6.2 (by decide) (by decide)) (r32_c (lo := 0) (hi := 126) ri7.1 ri7.2 (by decide) (by decide)) dX8_spellNext_31 (by decide) (fun c2 => ?_) (fun c2 => ?_)
          · refine c_aload_n (j := 1) (x := a0) C dX8_spellNext_36 rfl ?_
            refine c_getr (k := 6) C ck_9 dX8_spellNext_37 w1_110 (by decide) t_a0 rfl rfl (by decide) rfl rq1 ?_
            refine c_st (st2 := [.ref rb1]) rfl ?_
            refine c_iload_n (j := 0) C dX8_spellNext_40 rfl ?_
            refine c_iconst C dX8_spellNext_41 ?_
            refine c_iast (x := 0) C dX8_spellNext_42 trb1 rfl (by omega) (by omega) (by omega) (fun iv2 pq2 => ?_)
            refine hv2 (W2.puti pq2 trb1 (show 0 ≤ 0 ∧ 0 ≤ 125 by omega) rfl) (F2.puti hX0 pq2 trb1 rfl) (fun W3 F3 => ?_)
            refine c_iinc (z := k) (j := 0) (lv2 := [(2, .int (iI (k + (-1)))), (0, .ref a0), (1, .int (iI n))]) C dX8_spellNext_43 rfl (by decide) rfl ?_
            refine c_goto (tgt := 7) C dX8_spellNext_46 (by decide) ?_
            refine c_lv (lv2 := [(2, .int (iI (k + (-1)))), (0, .ref a0), (1, .int (iI n))]) [0, 1, 2] rfl ?_
            exact ih1  (k + (-1)) _ (by omega) W3 F3  (by omega)
          · refine c_iconst C dX8_spellNext_34 ?_
            exact c_zret C dX8_spellNext_35 rfl (Or.inr rfl) (by decide) (rom0 hph hph (by decide)) ⟨1, rfl, rfl, rfl, rfl, rfl, F2, W2, (Or.inr rfl), trivial⟩
        · refine c_iast (x := (ivb1 rb1 k.toNat) + 1) C dX8_spellNext_20 trb1 rfl (by omega) (by omega) (by omega) (fun iv3 pq3 => ?_)
          refine hv2 (show iv3 rb1 k.toNat = (ivb1 rb1 k.toNat) + 1 from by rw [pq3]; exact up2_s) (show iv3 a0 5 = ivb1 a0 5 from by rw [pq3]; exact up2_k (ne_ty t_a0 trb1 (by decide))) (fun sb1 sb2 => ?_)
          refine c_aload_n (j := 1) (x := a0) C dX8_spellNext_21 rfl ?_
          refine c_getr (k := 6) C ck_9 dX8_spellNext_22 w1_110 (by decide) t_a0 rfl rfl (by decide) rfl rq1 ?_
          refine c_st (st2 := [.ref rb1]) rfl ?_
          refine c_iload_n (j := 0) C dX8_spellNext_25 rfl ?_
          refine c_iald C dX8_spellNext_26 trb1 rfl (by omega) (by omega) (by omega) ?_
          refine c_aload_n (j := 1) (x := a0) C dX8_spellNext_27 rfl ?_
          refine c_get (k := 5) C ck_9 dX8_spellNext_28 w1_109 (by decide) t_a0 rfl rfl (by decide) rfl ?_
          refine c_icmp_ge (tgt := 36) C ⟨by omega, by omega⟩ ⟨by omega, by omega⟩ dX8_spellNext_31 (by decide) (fun _ => ?_) (fun z => absurd z (by omega))
          refine c_aload_n (j := 1) (x := a0) C dX8_spellNext_36 rfl ?_
          refine c_getr (k := 6) C ck_9 dX8_spellNext_37 w1_110 (by decide) t_a0 rfl rfl (by decide) rfl rq1 ?_
          refine c_st (st2 := [.ref rb1]) rfl ?_
          refine c_iload_n (j := 0) C dX8_spellNext_40 rfl ?_
          refine c_iconst C dX8_spellNext_41 ?_
          refine c_iast (x := 0) C dX8_spellNext_42 trb1 rfl (by omega) (by omega) (by omega) (fun iv4 pq4 => ?_)
          have sb3 : iv4 = up2 ivb1 rb1 k.toNat 0 := by rw [pq4, pq3]; exact up2_up
          refine hv2 (Wb1.puti sb3 trb1 (show 0 ≤ 0 ∧ 0 ≤ 125 by omega) rfl) (Fb1.puti hX0 sb3 trb1 rfl) (fun W4 F4 => ?_)
          refine c_iinc (z := k) (j := 0) (lv2 := [(2, .int (iI (k + (-1)))), (0, .ref a0), (1, .int (iI n))]) C dX8_spellNext_43 rfl (by decide) rfl ?_
          refine c_goto (tgt := 7) C dX8_spellNext_46 (by decide) ?_
          refine c_lv (lv2 := [(2, .int (iI (k + (-1)))), (0, .ref a0), (1, .int (iI n))]) [0, 1, 2] rfl ?_
          exact ih1  (k + (-1)) _ (by omega) W4 F4  (by omega)
  refine c_lv (lv2 := [(2, .int (iI ((iv a0 7) - 1))), (0, .ref a0), (1, .int (iI n))]) [0, 1, 2] rfl ?_
  exact Lp1 10 ((iv a0 7) - 1) _ (by omega) hW hF0  (by omega)
end
section
set_option maxHeartbeats 4000000 in
set_option maxRecDepth 100000 in
theorem C_unreadable {l : Launch} {G : GT} {mi : Nat} {sk : Nat → Nat} {L : List Nat} {cl ln : Nat → Nat} {iv : Nat → Nat → Int} {rv : Nat → Nat → Option Nat}  {a0 : Nat} {i : Int} {n : Int} {lim : Int} (hW : WT (g0 G) sk L cl ln iv rv) (hS : SKL sk L cl) (t_a0 : ty L cl a0 1) (h_i : -2147483648 ≤ i ∧ i ≤ 2147483647) (h_n : -2147483648 ≤ n ∧ n ≤ 2147483647) (h_lim : -2147483648 ≤ lim ∧ lim ≤ 2147483647) (hmr : MRK sk cl iv rv) : Mc l G mi (Phi (g0 G) sk) PHM yX11_unreadable cX11_unreadable 7 (some .int) 10 [.ref a0, .int (iI i), .int (iI n), .int (iI lim)] L cl ln iv rv 0 (fun v L2 cl2 ln2 iv2 rv2 => ∃ f : Int, v = some (.int (iI f)) ∧ XT L cl ln L2 cl2 ln2 ∧ fT [1, 4, 34, 14, 56, 57, 58, 15, 50, 51, 52, 53, 54, 55, 8, 38, 9, 39, 16, 10, 40, 24, 1002, 25, 1003, 6, 36, 7, 37] L cl iv rv iv2 rv2 ∧ WT (g0 G) sk L2 cl2 ln2 iv2 rv2 ∧ (-2147483648 ≤ f ∧ f ≤ 2147483647) ∧ (True) ∧ iv2 a0 11 = iv a0 11 ∧ iv2 a0 12 = iv a0 12 ∧ iv2 a0 13 = iv a0 13 ∧ iv2 a0 14 = iv a0 14 ∧ iv2 a0 15 = iv a0 15 ∧ iv2 a0 16 = iv a0 16 ∧ rv2 a0 9 = rv a0 9 ∧ rv2 a0 10 = rv a0 10) := by
  refine Mc.mk (by decide) (Nat.le_of_ble_eq_true rfl) ?_
  intro p e s m args below meth c A C hM
  refine hv21 (Phi.le hW hS) (show ty L cl (sk 2) 2 from ⟨(hS 2 rfl).1, by rw [(hS 2 rfl).2]; rfl⟩) (show ty L cl (sk 3) 3 from ⟨(hS 3 rfl).1, by rw [(hS 3 rfl).2]; rfl⟩) (show ty L cl (sk 4) 4 from ⟨(hS 4 rfl).1, by rw [(hS 4 rfl).2]; rfl⟩) (show ty L cl (sk 5) 5 from ⟨(hS 5 rfl).1, by rw [(hS 5 rfl).2]; rfl⟩) (show ty L cl (sk 6) 6 from ⟨(hS 6 rfl).1, by rw [(hS 6 rfl).2]; rfl⟩) (show ty L cl (sk 7) 7 from ⟨(hS 7 rfl).1, by rw [(hS 7 rfl).2]; rfl⟩) (show ty L cl (sk 8) 8 from ⟨(hS 8 rfl).1, by rw [(hS 8 rfl).2]; rfl⟩) (show ty L cl (sk 9) 9 from ⟨(hS 9 rfl).1, by rw [(hS 9 rfl).2]; rfl⟩) (show ty L cl (sk 10) 10 from ⟨(hS 10 rfl).1, by rw [(hS 10 rfl).2]; rfl⟩) (show ty L cl (sk 13) 13 from ⟨(hS 13 rfl).1, by rw [(hS 13 rfl).2]; rfl⟩) (show ty L cl (sk 14) 14 from ⟨(hS 14 rfl).1, by rw [(hS 14 rfl).2]; rfl⟩) (show ty L cl (sk 15) 15 from ⟨(hS 15 rfl).1, by rw [(hS 15 rfl).2]; rfl⟩) (show ty L cl (sk 16) 16 from ⟨(hS 16 rfl).1, by rw [(hS 16 rfl).2]; rfl⟩) (show ty L cl (sk 17) 17 from ⟨(hS 17 rfl).1, by rw [(hS 17 rfl).2]; rfl⟩) (show ty L cl (sk 22) 22 from ⟨(hS 22 rfl).1, by rw [(hS 22 rfl).2]; rfl⟩) (show ty L cl (sk 23) 23 from ⟨(hS 23 rfl).1, by rw [(hS 23 rfl).2]; rfl⟩) (show ty L cl (sk 24) 24 from ⟨(hS 24 rfl).1, by rw [(hS 24 rfl).2]; rfl⟩) (show ty L cl (sk 25) 25 from ⟨(hS 25 rfl).1, by rw [(hS 25 rfl).2]; rfl⟩) (show XT L cl ln L cl ln from XT.refl) (show fT [1, 4, 34, 14, 56, 57, 58, 15, 50, 51, 52, 53, 54, 55, 8, 38, 9, 39, 16, 10, 40, 24, 1002, 25, 1003, 6, 36, 7, 37] L cl iv rv iv rv from fT.refl) (fun hph tsk2 tsk3 tsk4 tsk5 tsk6 tsk7 tsk8 tsk9 tsk10 tsk13 tsk14 tsk15 tsk16 tsk17 tsk22 tsk23 tsk24 tsk25 hX0 hF0 => ?_)
  refine c_iload_n (j := 2) C dX11_unreadable_0 rfl ?_
  refine c_iconst C dX11_unreadable_1 ?_
  refine c_icmp_lt (tgt := 23) C ⟨by omega, by omega⟩ ⟨by decide, by decide⟩ dX11_unreadable_2 (by decide) (fun c1 => ?_) (fun c1 => ?_)
  · refine c_aload_n (j := 0) (x := a0) C dX11_unreadable_23 rfl ?_
    refine c_bipush (z := 6) C dX11_unreadable_24 (by decide) ?_
    refine d_callV (As := [.int (iI 6)]) (rest := []) C hM (C_refuse (a0 := a0) (x := 6) hW hS t_a0 ⟨by decide, by decide⟩ ) dX11_unreadable_26 kV_X11_102 rfl t_a0 rfl rfl (by decide) ck_12 rfl (Nat.le_of_ble_eq_true rfl) ⟨(Nat.le_of_ble_eq_true rfl), (Nat.le_of_ble_eq_true rfl)⟩ hph hph (show 0 + 0 = 0 from rfl) (by decide) (fun rh1 Lh1 clh1 lnh1 ivh1 rvh1 h1 => ?_)
    obtain ⟨f1, rfl, rfl, rfl, rfl, rfl, fl1, W1, rgf1, exf1, kp11f1, kp12f1, kp13f1, kp14f1, kp15f1, kp16f1⟩ := h1
    refine hv8 (show 1 ≤ iv a0 11 ∧ iv a0 11 ≤ 100 from hW.int t_a0 11) (show 1 ≤ iv a0 12 ∧ iv a0 12 ≤ 50 from hW.int t_a0 12) (show (-2147483648) ≤ iv a0 13 ∧ iv a0 13 ≤ 2147483647 from hW.int t_a0 13) (show (-2147483648) ≤ iv a0 14 ∧ iv a0 14 ≤ 2147483647 from hW.int t_a0 14) (show (-2147483648) ≤ iv a0 15 ∧ iv a0 15 ≤ 2147483647 from hW.int t_a0 15) (show (-2147483648) ≤ iv a0 16 ∧ iv a0 16 ≤ 2147483647 from hW.int t_a0 16) (hF0.call hX0 fl1 rfl) (MRK.call hmr hW hS XT.refl fl1 rfl rfl) (fun ri1 ri2 ri3 ri4 ri5 ri6 F1 mr1 => ?_)
    refine c_st (st2 := [.int (iI f1)]) rfl ?_
    refine hv13 (show ivh1 a0 11 = iv a0 11 from kp11f1) (show ivh1 a0 12 = iv a0 12 from kp12f1) (show ivh1 a0 13 = iv a0 13 from kp13f1) (show ivh1 a0 14 = iv a0 14 from kp14f1) (show ivh1 a0 15 = iv a0 15 from kp15f1) (show ivh1 a0 16 = iv a0 16 from kp16f1) (show f1 = -1 from exf1) (show 1 ≤ ivh1 a0 11 ∧ ivh1 a0 11 ≤ 100 from W1.int t_a0 11) (show 1 ≤ ivh1 a0 12 ∧ ivh1 a0 12 ≤ 50 from W1.int t_a0 12) (show (-2147483648) ≤ ivh1 a0 13 ∧ ivh1 a0 13 ≤ 2147483647 from W1.int t_a0 13) (show (-2147483648) ≤ ivh1 a0 14 ∧ ivh1 a0 14 ≤ 2147483647 from W1.int t_a0 14) (show (-2147483648) ≤ ivh1 a0 15 ∧ ivh1 a0 15 ≤ 2147483647 from W1.int t_a0 15) (show (-2147483648) ≤ ivh1 a0 16 ∧ ivh1 a0 16 ≤ 2147483647 from W1.int t_a0 16) (fun gk11f1 gk12f1 gk13f1 gk14f1 gk15f1 gk16f1 gf1 ri7 ri8 ri9 ri10 ri11 ri12 => ?_)
    exact c_iret C dX11_unreadable_29 rfl (by decide) (rom0 hph hph (by decide)) ⟨f1, rfl, hX0, F1, W1, ⟨by omega, by omega⟩, trivial, gk11f1, gk12f1, gk13f1, gk14f1, gk15f1, gk16f1, rfl, rfl⟩
  · refine c_iload_n (j := 2) C dX11_unreadable_5 rfl ?_
    refine c_bipush (z := 6) C dX11_unreadable_6 (by decide) ?_
    refine c_icmp_gt (tgt := 23) C ⟨by omega, by omega⟩ ⟨by decide, by decide⟩ dX11_unreadable_8 (by decide) (fun c2 => ?_) (fun c2 => ?_)
    · refine c_aload_n (j := 0) (x := a0) C dX11_unreadable_23 rfl ?_
      refine c_bipush (z := 6) C dX11_unreadable_24 (by decide) ?_
      refine d_callV (As := [.int (iI 6)]) (rest := []) C hM (C_refuse (a0 := a0) (x := 6) hW hS t_a0 ⟨by decide, by decide⟩ ) dX11_unreadable_26 kV_X11_102 rfl t_a0 rfl rfl (by decide) ck_12 rfl (Nat.le_of_ble_eq_true rfl) ⟨(Nat.le_of_ble_eq_true rfl), (Nat.le_of_ble_eq_true rfl)⟩ hph hph (show 0 + 0 = 0 from rfl) (by decide) (fun rh2 Lh2 clh2 lnh2 ivh2 rvh2 h2 => ?_)
      obtain ⟨f2, rfl, rfl, rfl, rfl, rfl, fl2, W2, rgf2, exf2, kp11f2, kp12f2, kp13f2, kp14f2, kp15f2, kp16f2⟩ := h2
      refine hv8 (show 1 ≤ iv a0 11 ∧ iv a0 11 ≤ 100 from hW.int t_a0 11) (show 1 ≤ iv a0 12 ∧ iv a0 12 ≤ 50 from hW.int t_a0 12) (show (-2147483648) ≤ iv a0 13 ∧ iv a0 13 ≤ 2147483647 from hW.int t_a0 13) (show (-2147483648) ≤ iv a0 14 ∧ iv a0 14 ≤ 2147483647 from hW.int t_a0 14) (show (-2147483648) ≤ iv a0 15 ∧ iv a0 15 ≤ 2147483647 from hW.int t_a0 15) (show (-2147483648) ≤ iv a0 16 ∧ iv a0 16 ≤ 2147483647 from hW.int t_a0 16) (hF0.call hX0 fl2 rfl) (MRK.call hmr hW hS XT.refl fl2 rfl rfl) (fun ri13 ri14 ri15 ri16 ri17 ri18 F2 mr2 => ?_)
      refine c_st (st2 := [.int (iI f2)]) rfl ?_
      refine hv13 (show ivh2 a0 11 = iv a0 11 from kp11f2) (show ivh2 a0 12 = iv a0 12 from kp12f2) (show ivh2 a0 13 = iv a0 13 from kp13f2) (show ivh2 a0 14 = iv a0 14 from kp14f2) (show ivh2 a0 15 = iv a0 15 from kp15f2) (show ivh2 a0 16 = iv a0 16 from kp16f2) (show f2 = -1 from exf2) (show 1 ≤ ivh2 a0 11 ∧ ivh2 a0 11 ≤ 100 from W2.int t_a0 11) (show 1 ≤ ivh2 a0 12 ∧ ivh2 a0 12 ≤ 50 from W2.int t_a0 12) (show (-2147483648) ≤ ivh2 a0 13 ∧ ivh2 a0 13 ≤ 2147483647 from W2.int t_a0 13) (show (-2147483648) ≤ ivh2 a0 14 ∧ ivh2 a0 14 ≤ 2147483647 from W2.int t_a0 14) (show (-2147483648) ≤ ivh2 a0 15 ∧ ivh2 a0 15 ≤ 2147483647 from W2.int t_a0 15) (show (-2147483648) ≤ ivh2 a0 16 ∧ ivh2 a0 16 ≤ 2147483647 from W2.int t_a0 16) (fun gk11f2 gk12f2 gk13f2 gk14f2 gk15f2 gk16f2 gf2 ri19 ri20 ri21 ri22 ri23 ri24 => ?_)
      exact c_iret C dX11_unreadable_29 rfl (by decide) (rom0 hph hph (by decide)) ⟨f2, rfl, hX0, F2, W2, ⟨by omega, by omega⟩, trivial, gk11f2, gk12f2, gk13f2, gk14f2, gk15f2, gk16f2, rfl, rfl⟩
    · refine c_iload_n (j := 3) C dX11_unreadable_11 rfl ?_
      refine c_iconst C dX11_unreadable_12 ?_
      refine c_icmp_lt (tgt := 23) C ⟨by omega, by omega⟩ ⟨by decide, by decide⟩ dX11_unreadable_13 (by decide) (fun c3 => ?_) (fun c3 => ?_)
      · refine c_aload_n (j := 0) (x := a0) C dX11_unreadable_23 rfl ?_
        refine c_bipush (z := 6) C dX11_unreadable_24 (by decide) ?_
        refine d_callV (As := [.int (iI 6)]) (rest := []) C hM (C_refuse (a0 := a0) (x := 6) hW hS t_a0 ⟨by decide, by decide⟩ ) dX11_unreadable_26 kV_X11_102 rfl t_a0 rfl rfl (by decide) ck_12 rfl (Nat.le_of_ble_eq_true rfl) ⟨(Nat.le_of_ble_eq_true rfl), (Nat.le_of_ble_eq_true rfl)⟩ hph hph (show 0 + 0 = 0 from rfl) (by decide) (fun rh3 Lh3 clh3 lnh3 ivh3 rvh3 h3 => ?_)
        obtain ⟨f3, rfl, rfl, rfl, rfl, rfl, fl3, W3, rgf3, exf3, kp11f3, kp12f3, kp13f3, kp14f3, kp15f3, kp16f3⟩ := h3
        refine hv8 (show 1 ≤ iv a0 11 ∧ iv a0 11 ≤ 100 from hW.int t_a0 11) (show 1 ≤ iv a0 12 ∧ iv a0 12 ≤ 50 from hW.int t_a0 12) (show (-2147483648) ≤ iv a0 13 ∧ iv a0 13 ≤ 2147483647 from hW.int t_a0 13) (show (-2147483648) ≤ iv a0 14 ∧ iv a0 14 ≤ 2147483647 from hW.int t_a0 14) (show (-2147483648) ≤ iv a0 15 ∧ iv a0 15 ≤ 2147483647 from hW.int t_a0 15) (show (-2147483648) ≤ iv a0 16 ∧ iv a0 16 ≤ 2147483647 from hW.int t_a0 16) (hF0.call hX0 fl3 rfl) (MRK.call hmr hW hS XT.refl fl3 rfl rfl) (fun ri25 ri26 ri27 ri28 ri29 ri30 F3 mr3 => ?_)
        refine c_st (st2 := [.int (iI f3)]) rfl ?_
        refine hv13 (show ivh3 a0 11 = iv a0 11 from kp11f3) (show ivh3 a0 12 = iv a0 12 from kp12f3) (show ivh3 a0 13 = iv a0 13 from kp13f3) (show ivh3 a0 14 = iv a0 14 from kp14f3) (show ivh3 a0 15 = iv a0 15 from kp15f3) (show ivh3 a0 16 = iv a0 16 from kp16f3) (show f3 = -1 from exf3) (show 1 ≤ ivh3 a0 11 ∧ ivh3 a0 11 ≤ 100 from W3.int t_a0 11) (show 1 ≤ ivh3 a0 12 ∧ ivh3 a0 12 ≤ 50 from W3.int t_a0 12) (show (-2147483648) ≤ ivh3 a0 13 ∧ ivh3 a0 13 ≤ 2147483647 from W3.int t_a0 13) (show (-2147483648) ≤ ivh3 a0 14 ∧ ivh3 a0 14 ≤ 2147483647 from W3.int t_a0 14) (show (-2147483648) ≤ ivh3 a0 15 ∧ ivh3 a0 15 ≤ 2147483647 from W3.int t_a0 15) (show (-2147483648) ≤ ivh3 a0 16 ∧ ivh3 a0 16 ≤ 2147483647 from W3.int t_a0 16) (fun gk11f3 gk12f3 gk13f3 gk14f3 gk15f3 gk16f3 gf3 ri31 ri32 ri33 ri34 ri35 ri36 => ?_)
        exact c_iret C dX11_unreadable_29 rfl (by decide) (rom0 hph hph (by decide)) ⟨f3, rfl, hX0, F3, W3, ⟨by omega, by omega⟩, trivial, gk11f3, gk12f3, gk13f3, gk14f3, gk15f3, gk16f3, rfl, rfl⟩
      · refine c_iload_n (j := 3) C dX11_unreadable_16 rfl ?_
        refine c_sipush (z := 5000) C dX11_unreadable_17 (by decide) ?_
        refine c_icmp_le (tgt := 30) C ⟨by omega, by omega⟩ ⟨by decide, by decide⟩ dX11_unreadable_20 (by decide) (fun c4 => ?_) (fun c4 => ?_)
        · refine c_aload_n (j := 0) (x := a0) C dX11_unreadable_30 rfl ?_
          obtain ⟨rb1, rq1, trb1⟩ := hW.ref t_a0 4 rfl rfl rfl
          have erb1 := hW.sk trb1 (by decide) rfl
          subst erb1
          refine c_getr (k := 4) C ck_12 dX11_unreadable_31 w2_48 (by decide) t_a0 rfl rfl (by decide) rfl rq1 ?_
          refine c_st (st2 := [.ref (sk 13)]) rfl ?_
          refine c_iload_n (j := 1) C dX11_unreadable_34 rfl ?_
          refine d_callV (As := [.int (iI i)]) (rest := []) C hM (C_whole (a0 := (sk 13)) (i := i) hW hS tsk13 (by omega) hmr) dX11_unreadable_35 kV_X11_231 rfl tsk13 rfl rfl (by decide) ck_11 rfl (Nat.le_of_ble_eq_true rfl) ⟨(Nat.le_of_ble_eq_true rfl), (Nat.le_of_ble_eq_true rfl)⟩ hph hph (show 0 + 0 = 0 from rfl) (by decide) (fun rh4 Lh4 clh4 lnh4 ivh4 rvh4 h4 => ?_)
          obtain ⟨f4, rfl, rfl, rfl, rfl, rfl, rfl, rgf4, exf4⟩ := h4
          refine c_st (st2 := [(va_rf f4)]) rfl ?_
          refine c_astorer (r := f4) (lv2 := [(4, (va_rf f4)), (0, .ref a0), (1, .int (iI i)), (2, .int (iI n)), (3, .int (iI lim))]) C dX11_unreadable_38 (by decide) rfl ?_
          refine c_aloadr (j := 0) (r := f4) C dX11_unreadable_40 rfl ?_
          refine c_ifnonnull (r := f4) (tgt := 51) C dX11_unreadable_42 (by decide) (fun ob1 oq1 => ?_) (fun oq1 => ?_)
          · subst oq1
            have tob1 := rgf4 ob1 rfl
            refine c_lv (lv2 := [(4, .ref ob1), (0, .ref a0), (1, .int (iI i)), (2, .int (iI n)), (3, .int (iI lim))]) [0, 1, 2, 3, 4] rfl ?_
            refine c_st (st2 := []) rfl ?_
            refine c_aload_n (j := 1) (x := a0) C dX11_unreadable_51 rfl ?_
            obtain ⟨rb2, rq2, trb2⟩ := hW.ref t_a0 7 rfl rfl rfl
            have erb2 := hW.sk trb2 (by decide) rfl
            subst erb2
            refine c_getr (k := 7) C ck_12 dX11_unreadable_52 w2_51 (by decide) t_a0 rfl rfl (by decide) rfl rq2 ?_
            refine c_st (st2 := [.ref (sk 16)]) rfl ?_
            refine c_aload (j := 0) (x := ob1) C dX11_unreadable_55 rfl ?_
            refine d_callV (As := [.ref ob1]) (rest := []) C hM (C_gather (a0 := (sk 16)) (a1 := ob1) hW hS tsk16 tob1  ) dX11_unreadable_57 kV_X11_331 rfl tsk16 rfl rfl (by decide) ck_4 rfl (Nat.le_of_ble_eq_true rfl) ⟨(Nat.le_of_ble_eq_true rfl), (Nat.le_of_ble_eq_true rfl)⟩ hph hph (show 0 + 0 = 0 from rfl) (by decide) (fun rh5 Lh5 clh5 lnh5 ivh5 rvh5 h5 => ?_)
            obtain ⟨rfl, xl5, fl5, W5, exf5⟩ := h5
            refine hv4 (hF0.call hX0 fl5 rfl) (MRK.call hmr hW hS xl5 fl5 rfl rfl) (hX0.trans xl5) (xl5.skl hS) (fun F4 mr4 X1 sk1 => ?_)
            refine c_st (st2 := []) rfl ?_
            refine c_aload_n (j := 1) (x := a0) C dX11_unreadable_60 rfl ?_
            have ty1 := xl5.ty t_a0
            obtain ⟨rb3, rq3, trb3⟩ := W5.ref ty1 5 rfl rfl rfl
            have erb3 := W5.sk trb3 (by decide) rfl
            subst erb3
            refine c_getr (k := 5) C ck_12 dX11_unreadable_61 w2_49 (by decide) ty1 rfl rfl (by decide) rfl rq3 ?_
            refine c_st (st2 := [.ref (sk 14)]) rfl ?_
            refine c_aload_n (j := 1) (x := a0) C dX11_unreadable_64 rfl ?_
            have re1 : rvh5 a0 7 = rv a0 7 := (fl5.r t_a0 rfl 7)
            rw [rq2] at re1
            refine c_getr (k := 7) C ck_12 dX11_unreadable_65 w2_51 (by decide) ty1 rfl rfl (by decide) rfl re1 ?_
            refine c_st (st2 := [.ref (sk 16), .ref (sk 14)]) rfl ?_
            refine c_aload (j := 0) (x := ob1) C dX11_unreadable_68 rfl ?_
            refine hv2 (xl5.ty tob1) (show ivh5 ob1 0 = iv ob1 0 from fl5.i tob1 rfl 0) (fun ty2 ie19 => ?_)
            have ri37 : (-2147483648) ≤ ivh5 ob1 0 ∧ ivh5 ob1 0 ≤ 2147483647 := W5.int ty2 0
            refine c_get (k := 0) C ck_10 dX11_unreadable_70 w2_176 (by decide) ty2 rfl rfl (by decide) rfl ?_
            refine c_iconst C dX11_unreadable_73 ?_
            refine c_icmp_ne (tgt := 81) C (r32_c (lo := (-2147483648)) (hi := 2147483647) ri37.1 ri37.2 (by decide) (by decide)) ⟨by decide, by decide⟩ dX11_unreadable_74 (by decide) (fun c5 => ?_) (fun c5 => ?_)
            · refine c_iconst C dX11_unreadable_81 ?_
              refine hv4 (xl5.ty tsk14) (xl5.ty tsk16) (show ivh5 (sk 14) 7 = iv (sk 14) 7 from fl5.i tsk14 rfl 7) (Phi.le W5 sk1) (fun ty3 ty4 ie20 pl1 => ?_)
              have ri38 : 0 ≤ ivh5 (sk 14) 7 ∧ ivh5 (sk 14) 7 ≤ 6 := W5.int ty3 7
              refine d_callV (As := [.ref (sk 16), .int (iI 0)]) (rest := []) C hM (C_gatherAlphabet (a0 := (sk 14)) (a1 := (sk 16)) (g := 0) W5 sk1 ty3 ty4 ⟨by decide, by decide⟩ ) dX11_unreadable_82 kV_X11_385 rfl ty3 rfl rfl (by decide) ck_9 rfl (Nat.le_of_ble_eq_true rfl) ⟨(Nat.le_of_ble_eq_true rfl), (Nat.le_of_ble_eq_true rfl)⟩ hph pl1 (show 0 + 0 = 0 from rfl) (by decide) (fun rh6 Lh6 clh6 lnh6 ivh6 rvh6 h6 => ?_)
              obtain ⟨rfl, rfl, rfl, rfl, rfl, fl6, W6, exf6⟩ := h6
              refine hv2 (F4.call X1 fl6 rfl) (MRK.call mr4 W5 sk1 XT.refl fl6 rfl rfl) (fun F5 mr5 => ?_)
              refine c_st (st2 := []) rfl ?_
              refine hv2 (show 0 ≤ ivh6 (sk 14) 7 ∧ ivh6 (sk 14) 7 ≤ 6 from W6.int ty3 7) (show ivh6 (sk 14) 7 = ivh5 (sk 14) 7 from exf6) (fun ri39 gf6 => ?_)
              refine c_aload_n (j := 1) (x := a0) C dX11_unreadable_85 rfl ?_
              refine c_getr (k := 5) C ck_12 dX11_unreadable_86 w2_49 (by decide) ty1 rfl rfl (by decide) rfl rq3 ?_
              refine c_st (st2 := [.ref (sk 14)]) rfl ?_
              refine c_iload_n (j := 3) C dX11_unreadable_89 rfl ?_
              refine d_callV (As := [.int (iI n)]) (rest := []) C hM (C_startSpelling (a0 := (sk 14)) (n := n) W6 sk1 ty3 (by omega) ) dX11_unreadable_90 kV_X11_389 rfl ty3 rfl rfl (by decide) ck_9 rfl (Nat.le_of_ble_eq_true rfl) ⟨(Nat.le_of_ble_eq_true rfl), (Nat.le_of_ble_eq_true rfl)⟩ hph pl1 (show 0 + 0 = 0 from rfl) (by decide) (fun rh7 Lh7 clh7 lnh7 ivh7 rvh7 h7 => ?_)
              obtain ⟨f7, rfl, rfl, rfl, rfl, rfl, fl7, W7, rgf7, exf7⟩ := h7
              refine hv2 (F5.call X1 fl7 rfl) (MRK.call mr5 W6 sk1 XT.refl fl7 rfl rfl) (fun F6 mr6 => ?_)
              refine c_st (st2 := [.int (iI f7)]) rfl ?_
              refine c_istore (lv2 := [(5, .int (iI f7)), (4, .ref ob1), (0, .ref a0), (1, .int (iI i)), (2, .int (iI n)), (3, .int (iI lim))]) C dX11_unreadable_93 (by decide) rfl ?_
              refine c_iconst C dX11_unreadable_95 ?_
              refine c_istore (lv2 := [(6, .int (iI 0)), (5, .int (iI f7)), (4, .ref ob1), (0, .ref a0), (1, .int (iI i)), (2, .int (iI n)), (3, .int (iI lim))]) C dX11_unreadable_96 (by decide) rfl ?_
              have Lp1 : ∀ (nn : Nat) (ok k : Int) (Lb1 : List Nat) (clb1 lnb1 : Nat → Nat) (ivb1 : Nat → Nat → Int) (rvb1 : Nat → Nat → Option Nat) , 5002 - k < (nn : Int) → XT L cl ln Lb1 clb1 lnb1 → WT (g0 G) sk Lb1 clb1 lnb1 ivb1 rvb1 → fT [1, 4, 34, 14, 56, 57, 58, 15, 50, 51, 52, 53, 54, 55, 8, 38, 9, 39, 16, 10, 40, 24, 1002, 25, 1003, 6, 36, 7, 37] L cl iv rv ivb1 rvb1 → (ok = 0 ∨ ok = 1) → (0 ≤ k ∧ k ≤ 5001) → (ivb1 a0 11 = iv a0 11) → (ivb1 a0 12 = iv a0 12) → (ivb1 a0 13 = iv a0 13) → (ivb1 a0 14 = iv a0 14) → (ivb1 a0 15 = iv a0 15) → (ivb1 a0 16 = iv a0 16) → (rvb1 a0 9 = rv a0 9) → (rvb1 a0 10 = rv a0 10) → cw p l e 10 ((PHM) + 0 - ((Phi (g0 G) sk) ln rv)) s m args below meth c G A 7 (MQ below (Qu G A (Qp G (Phi (g0 G) sk) ((Phi (g0 G) sk) ln rv) 0 (fun v L2 cl2 ln2 iv2 rv2 => ∃ f : Int, v = some (.int (iI f)) ∧ XT L cl ln L2 cl2 ln2 ∧ fT [1, 4, 34, 14, 56, 57, 58, 15, 50, 51, 52, 53, 54, 55, 8, 38, 9, 39, 16, 10, 40, 24, 1002, 25, 1003, 6, 36, 7, 37] L cl iv rv iv2 rv2 ∧ WT (g0 G) sk L2 cl2 ln2 iv2 rv2 ∧ (-2147483648 ≤ f ∧ f ≤ 2147483647) ∧ (True) ∧ iv2 a0 11 = iv a0 11 ∧ iv2 a0 12 = iv a0 12 ∧ iv2 a0 13 = iv a0 13 ∧ iv2 a0 14 = iv a0 14 ∧ iv2 a0 15 = iv a0 15 ∧ iv2 a0 16 = iv a0 16 ∧ rv2 a0 9 = rv a0 9 ∧ rv2 a0 10 = rv a0 10))) args s (((PHM) + 0 - ((Phi (g0 G) sk) ln rv)) / 16) ((PHM) + 0 - ((Phi (g0 G) sk) ln rv)) A) (Phi (g0 G) sk) ((Phi (g0 G) sk) ln rv) Lb1 clb1 lnb1 ivb1 rvb1 0 98 [(5, .int (iI ok)), (6, .int (iI k)), (4, .ref ob1), (0, .ref a0), (1, .int (iI i)), (2, .int (iI n)), (3, .int (iI lim))] [] := by
                intro nn
                induction nn with
                | zero =>
                  intro  ok k Lb1 clb1 lnb1 ivb1 rvb1 hm Xb1 Wb1 Fb1  hok hk hkp11 hkp12 hkp13 hkp14 hkp15 hkp16 hkr9 hkr10
                  have skb1 := Xb1.skl hS
                  exact absurd hm (by omega)
                | succ nn ih1 =>
                  intro  ok k Lb1 clb1 lnb1 ivb1 rvb1 hm Xb1 Wb1 Fb1  hok hk hkp11 hkp12 hkp13 hkp14 hkp15 hkp16 hkr9 hkr10
                  refine hv2 (Xb1.skl hS) (MRK.call hmr hW hS Xb1 Fb1 rfl rfl) (fun skb1 mrb1 => ?_)
                  refine c_iload (j := 0) C dX11_unreadable_98 rfl ?_
                  refine c_if_eq (tgt := 200) C (r32_01 hok) dX11_unreadable_100 (by decide) (fun c6 => ?_) (fun c6 => ?_)
                  · clear hok
                    refine c_aload_n (j := 3) (x := a0) C dX11_unreadable_200 rfl ?_
                    refine c_iconst C dX11_unreadable_201 ?_
                    refine hv2 (Xb1.ty t_a0) (Phi.le Wb1 skb1) (fun ty5 pl2 => ?_)
                    refine d_callV (As := [.int (iI 0)]) (rest := []) C hM (C_done (a0 := a0) (x := 0) Wb1 skb1 ty5 ⟨by decide, by decide⟩ ) dX11_unreadable_202 kV_X11_109 rfl ty5 rfl rfl (by decide) ck_12 rfl (Nat.le_of_ble_eq_true rfl) ⟨(Nat.le_of_ble_eq_true rfl), (Nat.le_of_ble_eq_true rfl)⟩ hph pl2 (show 0 + 0 = 0 from rfl) (by decide) (fun rh8 Lh8 clh8 lnh8 ivh8 rvh8 h8 => ?_)
                    obtain ⟨f8, rfl, rfl, rfl, rfl, rfl, fl8, W8, rgf8, exf8, kp11f8, kp12f8, kp13f8, kp14f8, kp15f8, kp16f8⟩ := h8
                    refine hv8 (show 1 ≤ ivb1 a0 11 ∧ ivb1 a0 11 ≤ 100 from Wb1.int ty5 11) (show 1 ≤ ivb1 a0 12 ∧ ivb1 a0 12 ≤ 50 from Wb1.int ty5 12) (show (-2147483648) ≤ ivb1 a0 13 ∧ ivb1 a0 13 ≤ 2147483647 from Wb1.int ty5 13) (show (-2147483648) ≤ ivb1 a0 14 ∧ ivb1 a0 14 ≤ 2147483647 from Wb1.int ty5 14) (show (-2147483648) ≤ ivb1 a0 15 ∧ ivb1 a0 15 ≤ 2147483647 from Wb1.int ty5 15) (show (-2147483648) ≤ ivb1 a0 16 ∧ ivb1 a0 16 ≤ 2147483647 from Wb1.int ty5 16) (Fb1.call Xb1 fl8 rfl) (MRK.call mrb1 Wb1 skb1 XT.refl fl8 rfl rfl) (fun ri40 ri41 ri42 ri43 ri44 ri45 F7 mr7 => ?_)
                    refine c_st (st2 := [.int (iI f8)]) rfl ?_
                    refine hv13 (show ivh8 a0 11 = ivb1 a0 11 from kp11f8) (show ivh8 a0 12 = ivb1 a0 12 from kp12f8) (show ivh8 a0 13 = ivb1 a0 13 from kp13f8) (show ivh8 a0 14 = ivb1 a0 14 from kp14f8) (show ivh8 a0 15 = ivb1 a0 15 from kp15f8) (show ivh8 a0 16 = ivb1 a0 16 from kp16f8) (show f8 = (0 : Int) from exf8) (show 1 ≤ ivh8 a0 11 ∧ ivh8 a0 11 ≤ 100 from W8.int ty5 11) (show 1 ≤ ivh8 a0 12 ∧ ivh8 a0 12 ≤ 50 from W8.int ty5 12) (show (-2147483648) ≤ ivh8 a0 13 ∧ ivh8 a0 13 ≤ 2147483647 from W8.int ty5 13) (show (-2147483648) ≤ ivh8 a0 14 ∧ ivh8 a0 14 ≤ 2147483647 from W8.int ty5 14) (show (-2147483648) ≤ ivh8 a0 15 ∧ ivh8 a0 15 ≤ 2147483647 from W8.int ty5 15) (show (-2147483648) ≤ ivh8 a0 16 ∧ ivh8 a0 16 ≤ 2147483647 from W8.int ty5 16) (fun gk11f8 gk12f8 gk13f8 gk14f8 gk15f8 gk16f8 gf8 ri46 ri47 ri48 ri49 ri50 ri51 => ?_)
                    exact c_iret C dX11_unreadable_205 rfl (by decide) (rom0 hph pl2 (by decide)) ⟨f8, rfl, Xb1, F7, W8, ⟨by omega, by omega⟩, trivial, (gk11f8.trans hkp11), (gk12f8.trans hkp12), (gk13f8.trans hkp13), (gk14f8.trans hkp14), (gk15f8.trans hkp15), (gk16f8.trans hkp16), (show rvb1 a0 9 = rv a0 9 from hkr9), (show rvb1 a0 10 = rv a0 10 from hkr10)⟩
                  · replace hok := (hok.resolve_left c6)
                    refine c_iload (j := 1) C dX11_unreadable_103 rfl ?_
                    refine c_sipush (z := 5000) C dX11_unreadable_105 (by decide) ?_
                    refine c_icmp_gt (tgt := 200) C (r32_c (lo := 0) (hi := 5001) hk.1 hk.2 (by decide) (by decide)) ⟨by decide, by decide⟩ dX11_unreadable_108 (by decide) (fun c7 => ?_) (fun c7 => ?_)
                    · refine c_aload_n (j := 3) (x := a0) C dX11_unreadable_200 rfl ?_
                      refine c_iconst C dX11_unreadable_201 ?_
                      refine hv2 (Xb1.ty t_a0) (Phi.le Wb1 skb1) (fun ty6 pl3 => ?_)
                      refine d_callV (As := [.int (iI 0)]) (rest := []) C hM (C_done (a0 := a0) (x := 0) Wb1 skb1 ty6 ⟨by decide, by decide⟩ ) dX11_unreadable_202 kV_X11_109 rfl ty6 rfl rfl (by decide) ck_12 rfl (Nat.le_of_ble_eq_true rfl) ⟨(Nat.le_of_ble_eq_true rfl), (Nat.le_of_ble_eq_true rfl)⟩ hph pl3 (show 0 + 0 = 0 from rfl) (by decide) (fun rh9 Lh9 clh9 lnh9 ivh9 rvh9 h9 => ?_)
                      obtain ⟨f9, rfl, rfl, rfl, rfl, rfl, fl9, W9, rgf9, exf9, kp11f9, kp12f9, kp13f9, kp14f9, kp15f9, kp16f9⟩ := h9
                      refine hv8 (show 1 ≤ ivb1 a0 11 ∧ ivb1 a0 11 ≤ 100 from Wb1.int ty6 11) (show 1 ≤ ivb1 a0 12 ∧ ivb1 a0 12 ≤ 50 from Wb1.int ty6 12) (show (-2147483648) ≤ ivb1 a0 13 ∧ ivb1 a0 13 ≤ 2147483647 from Wb1.int ty6 13) (show (-2147483648) ≤ ivb1 a0 14 ∧ ivb1 a0 14 ≤ 2147483647 from Wb1.int ty6 14) (show (-2147483648) ≤ ivb1 a0 15 ∧ ivb1 a0 15 ≤ 2147483647 from Wb1.int ty6 15) (show (-2147483648) ≤ ivb1 a0 16 ∧ ivb1 a0 16 ≤ 2147483647 from Wb1.int ty6 16) (Fb1.call Xb1 fl9 rfl) (MRK.call mrb1 Wb1 skb1 XT.refl fl9 rfl rfl) (fun ri52 ri53 ri54 ri55 ri56 ri57 F8 mr8 => ?_)
                      refine c_st (st2 := [.int (iI f9)]) rfl ?_
                      refine hv13 (show ivh9 a0 11 = ivb1 a0 11 from kp11f9) (show ivh9 a0 12 = ivb1 a0 12 from kp12f9) (show ivh9 a0 13 = ivb1 a0 13 from kp13f9) (show ivh9 a0 14 = ivb1 a0 14 from kp14f9) (show ivh9 a0 15 = ivb1 a0 15 from kp15f9) (show ivh9 a0 16 = ivb1 a0 16 from kp16f9) (show f9 = (0 : Int) from exf9) (show 1 ≤ ivh9 a0 11 ∧ ivh9 a0 11 ≤ 100 from W9.int ty6 11) (show 1 ≤ ivh9 a0 12 ∧ ivh9 a0 12 ≤ 50 from W9.int ty6 12) (show (-2147483648) ≤ ivh9 a0 13 ∧ ivh9 a0 13 ≤ 2147483647 from W9.int ty6 13) (show (-2147483648) ≤ ivh9 a0 14 ∧ ivh9 a0 14 ≤ 2147483647 from W9.int ty6 14) (show (-2147483648) ≤ ivh9 a0 15 ∧ ivh9 a0 15 ≤ 2147483647 from W9.int ty6 15) (show (-2147483648) ≤ ivh9 a0 16 ∧ ivh9 a0 16 ≤ 2147483647 from W9.int ty6 16) (fun gk11f9 gk12f9 gk13f9 gk14f9 gk15f9 gk16f9 gf9 ri58 ri59 ri60 ri61 ri62 ri63 => ?_)
                      exact c_iret C dX11_unreadable_205 rfl (by decide) (rom0 hph pl3 (by decide)) ⟨f9, rfl, Xb1, F8, W9, ⟨by omega, by omega⟩, trivial, (gk11f9.trans hkp11), (gk12f9.trans hkp12), (gk13f9.trans hkp13), (gk14f9.trans hkp14), (gk15f9.trans hkp15), (gk16f9.trans hkp16), (show rvb1 a0 9 = rv a0 9 from hkr9), (show rvb1 a0 10 = rv a0 10 from hkr10)⟩
                    · refine c_iload (j := 1) C dX11_unreadable_111 rfl ?_
                      refine c_iload_n (j := 6) C dX11_unreadable_113 rfl ?_
                      refine c_icmp_lt (tgt := 124) C (r32_c (lo := 0) (hi := 5001) hk.1 hk.2 (by decide) (by decide)) ⟨by omega, by omega⟩ dX11_unreadable_114 (by decide) (fun c8 => ?_) (fun c8 => ?_)
                      · refine c_aload_n (j := 3) (x := a0) C dX11_unreadable_124 rfl ?_
                        have ty7 := Xb1.ty t_a0
                        obtain ⟨rb4, rq4, trb4⟩ := Wb1.ref ty7 5 rfl rfl rfl
                        have erb4 := Wb1.sk trb4 (by decide) rfl
                        subst erb4
                        refine c_getr (k := 5) C ck_12 dX11_unreadable_125 w2_49 (by decide) ty7 rfl rfl (by decide) rfl rq4 ?_
                        refine c_st (st2 := [.ref (sk 14)]) rfl ?_
                        refine c_aload_n (j := 3) (x := a0) C dX11_unreadable_128 rfl ?_
                        obtain ⟨rb5, rq5, trb5⟩ := Wb1.ref ty7 6 rfl rfl rfl
                        have erb5 := Wb1.sk trb5 (by decide) rfl
                        subst erb5
                        refine c_getr (k := 6) C ck_12 dX11_unreadable_129 w2_50 (by decide) ty7 rfl rfl (by decide) rfl rq5 ?_
                        refine c_st (st2 := [.ref (sk 15), .ref (sk 14)]) rfl ?_
                        refine hv3 (Xb1.ty tsk14) (Xb1.ty tsk15) (Phi.le Wb1 skb1) (fun ty8 ty9 pl4 => ?_)
                        refine d_callV (As := [.ref (sk 15)]) (rest := []) C hM (C_spell (a0 := (sk 14)) (a1 := (sk 15)) Wb1 skb1 ty8 ty9  ) dX11_unreadable_132 kV_X11_392 rfl ty8 rfl rfl (by decide) ck_9 rfl (Nat.le_of_ble_eq_true rfl) ⟨(Nat.le_of_ble_eq_true rfl), (Nat.le_of_ble_eq_true rfl)⟩ hph pl4 (show 0 + 0 = 0 from rfl) (by decide) (fun rh10 Lh10 clh10 lnh10 ivh10 rvh10 h10 => ?_)
                        obtain ⟨rfl, rfl, rfl, rfl, rfl, fl10, W10, exf10⟩ := h10
                        refine hv2 (Fb1.call Xb1 fl10 rfl) (MRK.call mrb1 Wb1 skb1 XT.refl fl10 rfl rfl) (fun F9 mr9 => ?_)
                        refine c_st (st2 := []) rfl ?_
                        refine c_aload_n (j := 3) (x := a0) C dX11_unreadable_135 rfl ?_
                        refine c_getr (k := 6) C ck_12 dX11_unreadable_136 w2_50 (by decide) ty7 rfl rfl (by decide) rfl rq5 ?_
                        refine c_st (st2 := [.ref (sk 15)]) rfl ?_
                        refine c_aload (j := 2) (x := ob1) C dX11_unreadable_139 rfl ?_
                        refine hv2 (Xb1.ty tob1) (show 0 ≤ ivh10 (sk 15) 4 ∧ ivh10 (sk 15) 4 ≤ 500 from W10.int ty9 4) (fun ty10 ri64 => ?_)
                        refine d_callV (As := [.ref ob1]) (rest := []) C hM (C_setBy (a0 := (sk 15)) (a1 := ob1) W10 skb1 ty9 ty10  ) dX11_unreadable_141 kV_X11_253 rfl ty9 rfl rfl (by decide) ck_7 rfl (Nat.le_of_ble_eq_true rfl) ⟨(Nat.le_of_ble_eq_true rfl), (Nat.le_of_ble_eq_true rfl)⟩ hph pl4 (show 0 + 0 = 0 from rfl) (by decide) (fun rh11 Lh11 clh11 lnh11 ivh11 rvh11 h11 => ?_)
                        obtain ⟨f11, rfl, rfl, rfl, rfl, rfl, fl11, W11, rgf11, exf11⟩ := h11
                        refine hv2 (F9.call Xb1 fl11 rfl) (MRK.call mr9 W10 skb1 XT.refl fl11 rfl rfl) (fun F10 mr10 => ?_)
                        refine c_st (st2 := [.int (iI f11)]) rfl ?_
                        refine hv3 (show 0 ≤ ivh11 (sk 15) 4 ∧ ivh11 (sk 15) 4 ≤ 500 from W11.int ty9 4) (show 0 ≤ ivh11 (sk 15) 7 ∧ ivh11 (sk 15) 7 ≤ 100000 from W11.int ty9 7) (show (f11 = 0 ∨ f11 = 6 ∨ f11 = 7) ∧ ivh11 (sk 15) 4 = ivh10 (sk 15) 4 ∧ (f11 = 0 → ivh11 (sk 15) 7 ≤ 200) from exf11) (fun ri65 ri66 gf11 => ?_)
                        refine c_if_ne (tgt := 184) C (r32_067 gf11.1) dX11_unreadable_144 (by decide) (fun c9 => ?_) (fun c9 => ?_)
                        · replace gf11 := (And.intro (gf11.1.resolve_left c9) (And.intro gf11.2.1 trivial))
                          refine c_aload_n (j := 3) (x := a0) C dX11_unreadable_184 rfl ?_
                          refine c_getr (k := 5) C ck_12 dX11_unreadable_185 w2_49 (by decide) ty7 rfl rfl (by decide) rfl rq4 ?_
                          refine c_st (st2 := [.ref (sk 14)]) rfl ?_
                          refine c_iload_n (j := 5) C dX11_unreadable_188 rfl ?_
                          refine d_callV (As := [.int (iI n)]) (rest := []) C hM (C_spellNext (a0 := (sk 14)) (n := n) W11 skb1 ty8 (by omega) ) dX11_unreadable_189 kV_X11_403 rfl ty8 rfl rfl (by decide) ck_9 rfl (Nat.le_of_ble_eq_true rfl) ⟨(Nat.le_of_ble_eq_true rfl), (Nat.le_of_ble_eq_true rfl)⟩ hph pl4 (show 0 + 0 = 0 from rfl) (by decide) (fun rh12 Lh12 clh12 lnh12 ivh12 rvh12 h12 => ?_)
                          obtain ⟨f12, rfl, rfl, rfl, rfl, rfl, fl12, W12, rgf12, exf12⟩ := h12
                          refine hv2 (F10.call Xb1 fl12 rfl) (MRK.call mr10 W11 skb1 XT.refl fl12 rfl rfl) (fun F11 mr11 => ?_)
                          refine c_st (st2 := [.int (iI f12)]) rfl ?_
                          refine c_istore (lv2 := [(5, .int (iI f12)), (6, .int (iI k)), (4, .ref ob1), (0, .ref a0), (1, .int (iI i)), (2, .int (iI n)), (3, .int (iI lim))]) C dX11_unreadable_192 (by decide) rfl ?_
                          refine c_iinc (z := k) (j := 1) (lv2 := [(6, .int (iI (k + 1))), (5, .int (iI f12)), (4, .ref ob1), (0, .ref a0), (1, .int (iI i)), (2, .int (iI n)), (3, .int (iI lim))]) C dX11_unreadable_194 rfl (by decide) rfl ?_
                          refine c_goto (tgt := 98) C dX11_unreadable_197 (by decide) ?_
                          refine hv24 (show 1 ≤ ivh12 a0 11 ∧ ivh12 a0 11 ≤ 100 from W12.int ty7 11) (show ivh12 a0 11 = ivh11 a0 11 from fl12.i ty7 rfl 11) (show ivh11 a0 11 = ivh10 a0 11 from fl11.i ty7 rfl 11) (show ivh10 a0 11 = ivb1 a0 11 from fl10.i ty7 rfl 11) (show 1 ≤ ivh12 a0 12 ∧ ivh12 a0 12 ≤ 50 from W12.int ty7 12) (show ivh12 a0 12 = ivh11 a0 12 from fl12.i ty7 rfl 12) (show ivh11 a0 12 = ivh10 a0 12 from fl11.i ty7 rfl 12) (show ivh10 a0 12 = ivb1 a0 12 from fl10.i ty7 rfl 12) (show (-2147483648) ≤ ivh12 a0 13 ∧ ivh12 a0 13 ≤ 2147483647 from W12.int ty7 13) (show ivh12 a0 13 = ivh11 a0 13 from fl12.i ty7 rfl 13) (show ivh11 a0 13 = ivh10 a0 13 from fl11.i ty7 rfl 13) (show ivh10 a0 13 = ivb1 a0 13 from fl10.i ty7 rfl 13) (show (-2147483648) ≤ ivh12 a0 14 ∧ ivh12 a0 14 ≤ 2147483647 from W12.int ty7 14) (show ivh12 a0 14 = ivh11 a0 14 from fl12.i ty7 rfl 14) (show ivh11 a0 14 = ivh10 a0 14 from fl11.i ty7 rfl 14) (show ivh10 a0 14 = ivb1 a0 14 from fl10.i ty7 rfl 14) (show (-2147483648) ≤ ivh12 a0 15 ∧ ivh12 a0 15 ≤ 2147483647 from W12.int ty7 15) (show ivh12 a0 15 = ivh11 a0 15 from fl12.i ty7 rfl 15) (show ivh11 a0 15 = ivh10 a0 15 from fl11.i ty7 rfl 15) (show ivh10 a0 15 = ivb1 a0 15 from fl10.i ty7 rfl 15) (show (-2147483648) ≤ ivh12 a0 16 ∧ ivh12 a0 16 ≤ 2147483647 from W12.int ty7 16) (show ivh12 a0 16 = ivh11 a0 16 from fl12.i ty7 rfl 16) (show ivh11 a0 16 = ivh10 a0 16 from fl11.i ty7 rfl 16) (show ivh10 a0 16 = ivb1 a0 16 from fl10.i ty7 rfl 16) (fun ri67 ie49 ie50 ie51 ri68 ie53 ie54 ie55 ri69 ie57 ie58 ie59 ri70 ie61 ie62 ie63 ri71 ie65 ie66 ie67 ri72 ie69 ie70 ie71 => ?_)
                          refine c_lv (lv2 := [(5, .int (iI f12)), (6, .int (iI (k + 1))), (4, .ref ob1), (0, .ref a0), (1, .int (iI i)), (2, .int (iI n)), (3, .int (iI lim))]) [1, 0, 2, 3, 4, 5, 6] rfl ?_
                          exact ih1  f12 (k + 1) _ _ _ _ _ (by omega) Xb1 W12 F11  (by omega) (by omega) (ie49.trans (ie50.trans (ie51.trans hkp11))) (ie53.trans (ie54.trans (ie55.trans hkp12))) (ie57.trans (ie58.trans (ie59.trans hkp13))) (ie61.trans (ie62.trans (ie63.trans hkp14))) (ie65.trans (ie66.trans (ie67.trans hkp15))) (ie69.trans (ie70.trans (ie71.trans hkp16))) (show rvb1 a0 9 = rv a0 9 from hkr9) (show rvb1 a0 10 = rv a0 10 from hkr10)
                        · replace gf11 := (And.intro c9 (And.intro gf11.2.1 (gf11.2.2 c9)))
                          refine c_aload_n (j := 3) (x := a0) C dX11_unreadable_147 rfl ?_
                          refine d_callV (As := []) (rest := []) C hM (C_isReadBack (a0 := a0) W11 skb1 ty7  (by show ivh11 (sk 15) 7 ≤ 200; omega)) dX11_unreadable_148 kV_X11_396 rfl ty7 rfl rfl (by decide) ck_12 rfl (Nat.le_of_ble_eq_true rfl) ⟨(Nat.le_of_ble_eq_true rfl), (Nat.le_of_ble_eq_true rfl)⟩ hph pl4 (show 0 + 0 = 0 from rfl) (by decide) (fun rh13 Lh13 clh13 lnh13 ivh13 rvh13 h13 => ?_)
                          obtain ⟨f13, rfl, xl13, fl13, W13, rgf13, exf13⟩ := h13
                          refine hv20 (F10.call Xb1 fl13 rfl) (MRK.call mr10 W11 skb1 xl13 fl13 rfl rfl) (Xb1.ty tsk2) (Xb1.ty tsk3) (Xb1.ty tsk4) (Xb1.ty tsk5) (Xb1.ty tsk6) (Xb1.ty tsk7) (Xb1.ty tsk8) (Xb1.ty tsk9) (Xb1.ty tsk10) (Xb1.ty tsk13) (Xb1.ty tsk16) (Xb1.ty tsk17) (Xb1.ty tsk22) (Xb1.ty tsk23) (Xb1.ty tsk24) (Xb1.ty tsk25) (Xb1.trans xl13) (xl13.skl skb1) (fun F12 mr12 ty11 ty12 ty13 ty14 ty15 ty16 ty17 ty18 ty19 ty20 ty21 ty22 ty23 ty24 ty25 ty26 X2 sk2 => ?_)
                          refine c_st (st2 := [.int (iI f13)]) rfl ?_
                          refine c_if_ne (tgt := 184) C ⟨by omega, by omega⟩ dX11_unreadable_151 (by decide) (fun c10 => ?_) (fun c10 => ?_)
                          · refine c_aload_n (j := 3) (x := a0) C dX11_unreadable_184 rfl ?_
                            refine hv2 (xl13.ty ty7) (show rvh13 a0 5 = rvb1 a0 5 from (fl13.r ty7 rfl 5)) (fun ty27 re2 => ?_)
                            rw [rq4] at re2
                            refine c_getr (k := 5) C ck_12 dX11_unreadable_185 w2_49 (by decide) ty27 rfl rfl (by decide) rfl re2 ?_
                            refine c_st (st2 := [.ref (sk 14)]) rfl ?_
                            refine c_iload_n (j := 5) C dX11_unreadable_188 rfl ?_
                            refine hv2 (xl13.ty ty8) (Phi.le W13 sk2) (fun ty28 pl5 => ?_)
                            refine d_callV (As := [.int (iI n)]) (rest := []) C hM (C_spellNext (a0 := (sk 14)) (n := n) W13 sk2 ty28 (by omega) ) dX11_unreadable_189 kV_X11_403 rfl ty28 rfl rfl (by decide) ck_9 rfl (Nat.le_of_ble_eq_true rfl) ⟨(Nat.le_of_ble_eq_true rfl), (Nat.le_of_ble_eq_true rfl)⟩ hph pl5 (show 0 + 0 = 0 from rfl) (by decide) (fun rh14 Lh14 clh14 lnh14 ivh14 rvh14 h14 => ?_)
                            obtain ⟨f14, rfl, rfl, rfl, rfl, rfl, fl14, W14, rgf14, exf14⟩ := h14
                            refine hv2 (F12.call X2 fl14 rfl) (MRK.call mr12 W13 sk2 XT.refl fl14 rfl rfl) (fun F13 mr13 => ?_)
                            refine c_st (st2 := [.int (iI f14)]) rfl ?_
                            refine c_istore (lv2 := [(5, .int (iI f14)), (6, .int (iI k)), (4, .ref ob1), (0, .ref a0), (1, .int (iI i)), (2, .int (iI n)), (3, .int (iI lim))]) C dX11_unreadable_192 (by decide) rfl ?_
                            refine c_iinc (z := k) (j := 1) (lv2 := [(6, .int (iI (k + 1))), (5, .int (iI f14)), (4, .ref ob1), (0, .ref a0), (1, .int (iI i)), (2, .int (iI n)), (3, .int (iI lim))]) C dX11_unreadable_194 rfl (by decide) rfl ?_
                            refine c_goto (tgt := 98) C dX11_unreadable_197 (by decide) ?_
                            refine hv30 (show 1 ≤ ivh14 a0 11 ∧ ivh14 a0 11 ≤ 100 from W14.int ty27 11) (show ivh14 a0 11 = ivh13 a0 11 from fl14.i ty27 rfl 11) (show ivh13 a0 11 = ivh11 a0 11 from fl13.i ty7 rfl 11) (show ivh11 a0 11 = ivh10 a0 11 from fl11.i ty7 rfl 11) (show ivh10 a0 11 = ivb1 a0 11 from fl10.i ty7 rfl 11) (show 1 ≤ ivh14 a0 12 ∧ ivh14 a0 12 ≤ 50 from W14.int ty27 12) (show ivh14 a0 12 = ivh13 a0 12 from fl14.i ty27 rfl 12) (show ivh13 a0 12 = ivh11 a0 12 from fl13.i ty7 rfl 12) (show ivh11 a0 12 = ivh10 a0 12 from fl11.i ty7 rfl 12) (show ivh10 a0 12 = ivb1 a0 12 from fl10.i ty7 rfl 12) (show (-2147483648) ≤ ivh14 a0 13 ∧ ivh14 a0 13 ≤ 2147483647 from W14.int ty27 13) (show ivh14 a0 13 = ivh13 a0 13 from fl14.i ty27 rfl 13) (show ivh13 a0 13 = ivh11 a0 13 from fl13.i ty7 rfl 13) (show ivh11 a0 13 = ivh10 a0 13 from fl11.i ty7 rfl 13) (show ivh10 a0 13 = ivb1 a0 13 from fl10.i ty7 rfl 13) (show (-2147483648) ≤ ivh14 a0 14 ∧ ivh14 a0 14 ≤ 2147483647 from W14.int ty27 14) (show ivh14 a0 14 = ivh13 a0 14 from fl14.i ty27 rfl 14) (show ivh13 a0 14 = ivh11 a0 14 from fl13.i ty7 rfl 14) (show ivh11 a0 14 = ivh10 a0 14 from fl11.i ty7 rfl 14) (show ivh10 a0 14 = ivb1 a0 14 from fl10.i ty7 rfl 14) (show (-2147483648) ≤ ivh14 a0 15 ∧ ivh14 a0 15 ≤ 2147483647 from W14.int ty27 15) (show ivh14 a0 15 = ivh13 a0 15 from fl14.i ty27 rfl 15) (show ivh13 a0 15 = ivh11 a0 15 from fl13.i ty7 rfl 15) (show ivh11 a0 15 = ivh10 a0 15 from fl11.i ty7 rfl 15) (show ivh10 a0 15 = ivb1 a0 15 from fl10.i ty7 rfl 15) (show (-2147483648) ≤ ivh14 a0 16 ∧ ivh14 a0 16 ≤ 2147483647 from W14.int ty27 16) (show ivh14 a0 16 = ivh13 a0 16 from fl14.i ty27 rfl 16) (show ivh13 a0 16 = ivh11 a0 16 from fl13.i ty7 rfl 16) (show ivh11 a0 16 = ivh10 a0 16 from fl11.i ty7 rfl 16) (show ivh10 a0 16 = ivb1 a0 16 from fl10.i ty7 rfl 16) (fun ri73 ie73 ie74 ie75 ie76 ri74 ie78 ie79 ie80 ie81 ri75 ie83 ie84 ie85 ie86 ri76 ie88 ie89 ie90 ie91 ri77 ie93 ie94 ie95 ie96 ri78 ie98 ie99 ie100 ie101 => ?_)
                            refine c_lv (lv2 := [(5, .int (iI f14)), (6, .int (iI (k + 1))), (4, .ref ob1), (0, .ref a0), (1, .int (iI i)), (2, .int (iI n)), (3, .int (iI lim))]) [1, 0, 2, 3, 4, 5, 6] rfl ?_
                            exact ih1  f14 (k + 1) _ _ _ _ _ (by omega) X2 W14 F13  (by omega) (by omega) (ie73.trans (ie74.trans (ie75.trans (ie76.trans hkp11)))) (ie78.trans (ie79.trans (ie80.trans (ie81.trans hkp12)))) (ie83.trans (ie84.trans (ie85.trans (ie86.trans hkp13)))) (ie88.trans (ie89.trans (ie90.trans (ie91.trans hkp14)))) (ie93.trans (ie94.trans (ie95.trans (ie96.trans hkp15)))) (ie98.trans (ie99.trans (ie100.trans (ie101.trans hkp16)))) (Eq.trans (show rvh13 a0 9 = rvb1 a0 9 from (fl13.r ty7 rfl 9)) (show rvb1 a0 9 = rv a0 9 from hkr9)) (Eq.trans (show rvh13 a0 10 = rvb1 a0 10 from (fl13.r ty7 rfl 10)) (show rvb1 a0 10 = rv a0 10 from hkr10))
                          · refine c_aload_n (j := 3) (x := a0) C dX11_unreadable_154 rfl ?_
                            have ty29 := xl13.ty ty7
                            obtain ⟨rb6, rq6, trb6⟩ := W13.ref ty29 2 rfl rfl rfl
                            have erb6 := W13.sk trb6 (by decide) rfl
                            subst erb6
                            refine c_getr (k := 2) C ck_12 dX11_unreadable_155 w2_46 (by decide) ty29 rfl rfl (by decide) rfl rq6 ?_
                            refine c_st (st2 := [.ref (sk 4)]) rfl ?_
                            refine hv2 (xl13.ty ty13) (Phi.le W13 sk2) (fun ty30 pl6 => ?_)
                            refine d_callV (As := []) (rest := []) C hM (C_clear_4 (a0 := (sk 4)) W13 sk2 ty30  ) dX11_unreadable_158 kV_X11_164 rfl ty30 rfl rfl (by decide) ck_2 rfl (Nat.le_of_ble_eq_true rfl) ⟨(Nat.le_of_ble_eq_true rfl), (Nat.le_of_ble_eq_true rfl)⟩ hph pl6 (show 0 + 0 = 0 from rfl) (by decide) (fun rh15 Lh15 clh15 lnh15 ivh15 rvh15 h15 => ?_)
                            obtain ⟨rfl, rfl, rfl, rfl, rfl, fl15, W15, exf15⟩ := h15
                            refine hv2 (F12.call X2 fl15 rfl) (MRK.call mr12 W13 sk2 XT.refl fl15 rfl rfl) (fun F14 mr14 => ?_)
                            refine c_st (st2 := []) rfl ?_
                            refine hv2 (show 0 ≤ ivh15 (sk 4) 2 ∧ ivh15 (sk 4) 2 ≤ 4000 from W15.int ty30 2) (show ivh15 (sk 4) 2 = 0 from exf15) (fun ri79 gf15 => ?_)
                            refine c_aload_n (j := 3) (x := a0) C dX11_unreadable_161 rfl ?_
                            have re3 : rvh13 a0 6 = rvb1 a0 6 := (fl13.r ty7 rfl 6)
                            rw [rq5] at re3
                            refine c_getr (k := 6) C ck_12 dX11_unreadable_162 w2_50 (by decide) ty29 rfl rfl (by decide) rfl re3 ?_
                            refine c_st (st2 := [.ref (sk 15)]) rfl ?_
                            refine c_aload_n (j := 3) (x := a0) C dX11_unreadable_165 rfl ?_
                            refine c_getr (k := 2) C ck_12 dX11_unreadable_166 w2_46 (by decide) ty29 rfl rfl (by decide) rfl rq6 ?_
                            refine c_st (st2 := [.ref (sk 4), .ref (sk 15)]) rfl ?_
                            have ty31 := xl13.ty ty9
                            refine d_callV (As := [.ref (sk 4)]) (rest := []) C hM (C_wwl (a0 := (sk 15)) (a1 := (sk 4)) W15 sk2 ty31 ty30  ) dX11_unreadable_169 kV_X11_399 rfl ty31 rfl rfl (by decide) ck_7 rfl (Nat.le_of_ble_eq_true rfl) ⟨(Nat.le_of_ble_eq_true rfl), (Nat.le_of_ble_eq_true rfl)⟩ hph pl6 (show 0 + 0 = 0 from rfl) (by decide) (fun rh16 Lh16 clh16 lnh16 ivh16 rvh16 h16 => ?_)
                            obtain ⟨rfl, xl16, fl16, W16, exf16⟩ := h16
                            refine hv21 (F14.call X2 fl16 rfl) (MRK.call mr14 W15 sk2 xl16 fl16 rfl rfl) (xl13.ty ty11) (xl13.ty ty12) (xl13.ty ty14) (xl13.ty ty15) (xl13.ty ty16) (xl13.ty ty17) (xl13.ty ty18) (xl13.ty ty19) (xl13.ty ty20) (xl13.ty ty8) (xl13.ty ty21) (xl13.ty ty22) (xl13.ty ty23) (xl13.ty ty24) (xl13.ty ty25) (xl13.ty ty26) (xl13.ty ty10) (X2.trans xl16) (xl16.skl sk2) (fun F15 mr15 ty32 ty33 ty34 ty35 ty36 ty37 ty38 ty39 ty40 ty41 ty42 ty43 ty44 ty45 ty46 ty47 ty48 X3 sk3 => ?_)
                            refine c_st (st2 := []) rfl ?_
                            refine c_aload_n (j := 3) (x := a0) C dX11_unreadable_172 rfl ?_
                            refine c_aload_n (j := 3) (x := a0) C dX11_unreadable_173 rfl ?_
                            refine hv2 (xl16.ty ty29) (show rvh16 a0 6 = rvh13 a0 6 from (fl16.r ty29 rfl 6)) (fun ty49 re4 => ?_)
                            rw [re3] at re4
                            refine c_getr (k := 6) C ck_12 dX11_unreadable_174 w2_50 (by decide) ty49 rfl rfl (by decide) rfl re4 ?_
                            refine c_st (st2 := [.ref (sk 15), .ref a0]) rfl ?_
                            refine hv4 (xl16.ty ty31) (show ivh16 (sk 15) 4 = ivh15 (sk 15) 4 from fl16.i ty31 rfl 4) (show ivh15 (sk 15) 4 = ivh13 (sk 15) 4 from fl15.i ty31 rfl 4) (show ivh13 (sk 15) 4 = ivh11 (sk 15) 4 from fl13.i ty9 rfl 4) (fun ty50 ie104 ie105 ie106 => ?_)
                            have ri80 : 0 ≤ ivh16 (sk 15) 4 ∧ ivh16 (sk 15) 4 ≤ 500 := W16.int ty50 4
                            refine c_get (k := 4) C ck_7 dX11_unreadable_177 w1_142 (by decide) ty50 rfl rfl (by decide) rfl ?_
                            have pl7 := Phi.le W16 sk3
                            refine d_callV (As := [.int (iI (ivh16 (sk 15) 4))]) (rest := []) C hM (C_done (a0 := a0) (x := ivh16 (sk 15) 4) W16 sk3 ty49 (by omega) ) dX11_unreadable_180 kV_X11_109 rfl ty49 rfl rfl (by decide) ck_12 rfl (Nat.le_of_ble_eq_true rfl) ⟨(Nat.le_of_ble_eq_true rfl), (Nat.le_of_ble_eq_true rfl)⟩ hph pl7 (show 0 + 0 = 0 from rfl) (by decide) (fun rh17 Lh17 clh17 lnh17 ivh17 rvh17 h17 => ?_)
                            obtain ⟨f17, rfl, rfl, rfl, rfl, rfl, fl17, W17, rgf17, exf17, kp11f17, kp12f17, kp13f17, kp14f17, kp15f17, kp16f17⟩ := h17
                            refine hv38 (show 1 ≤ ivh16 a0 11 ∧ ivh16 a0 11 ≤ 100 from W16.int ty49 11) (show ivh16 a0 11 = ivh15 a0 11 from fl16.i ty29 rfl 11) (show ivh15 a0 11 = ivh13 a0 11 from fl15.i ty29 rfl 11) (show ivh13 a0 11 = ivh11 a0 11 from fl13.i ty7 rfl 11) (show ivh11 a0 11 = ivh10 a0 11 from fl11.i ty7 rfl 11) (show ivh10 a0 11 = ivb1 a0 11 from fl10.i ty7 rfl 11) (show 1 ≤ ivh16 a0 12 ∧ ivh16 a0 12 ≤ 50 from W16.int ty49 12) (show ivh16 a0 12 = ivh15 a0 12 from fl16.i ty29 rfl 12) (show ivh15 a0 12 = ivh13 a0 12 from fl15.i ty29 rfl 12) (show ivh13 a0 12 = ivh11 a0 12 from fl13.i ty7 rfl 12) (show ivh11 a0 12 = ivh10 a0 12 from fl11.i ty7 rfl 12) (show ivh10 a0 12 = ivb1 a0 12 from fl10.i ty7 rfl 12) (show (-2147483648) ≤ ivh16 a0 13 ∧ ivh16 a0 13 ≤ 2147483647 from W16.int ty49 13) (show ivh16 a0 13 = ivh15 a0 13 from fl16.i ty29 rfl 13) (show ivh15 a0 13 = ivh13 a0 13 from fl15.i ty29 rfl 13) (show ivh13 a0 13 = ivh11 a0 13 from fl13.i ty7 rfl 13) (show ivh11 a0 13 = ivh10 a0 13 from fl11.i ty7 rfl 13) (show ivh10 a0 13 = ivb1 a0 13 from fl10.i ty7 rfl 13) (show (-2147483648) ≤ ivh16 a0 14 ∧ ivh16 a0 14 ≤ 2147483647 from W16.int ty49 14) (show ivh16 a0 14 = ivh15 a0 14 from fl16.i ty29 rfl 14) (show ivh15 a0 14 = ivh13 a0 14 from fl15.i ty29 rfl 14) (show ivh13 a0 14 = ivh11 a0 14 from fl13.i ty7 rfl 14) (show ivh11 a0 14 = ivh10 a0 14 from fl11.i ty7 rfl 14) (show ivh10 a0 14 = ivb1 a0 14 from fl10.i ty7 rfl 14) (show (-2147483648) ≤ ivh16 a0 15 ∧ ivh16 a0 15 ≤ 2147483647 from W16.int ty49 15) (show ivh16 a0 15 = ivh15 a0 15 from fl16.i ty29 rfl 15) (show ivh15 a0 15 = ivh13 a0 15 from fl15.i ty29 rfl 15) (show ivh13 a0 15 = ivh11 a0 15 from fl13.i ty7 rfl 15) (show ivh11 a0 15 = ivh10 a0 15 from fl11.i ty7 rfl 15) (show ivh10 a0 15 = ivb1 a0 15 from fl10.i ty7 rfl 15) (show (-2147483648) ≤ ivh16 a0 16 ∧ ivh16 a0 16 ≤ 2147483647 from W16.int ty49 16) (show ivh16 a0 16 = ivh15 a0 16 from fl16.i ty29 rfl 16) (show ivh15 a0 16 = ivh13 a0 16 from fl15.i ty29 rfl 16) (show ivh13 a0 16 = ivh11 a0 16 from fl13.i ty7 rfl 16) (show ivh11 a0 16 = ivh10 a0 16 from fl11.i ty7 rfl 16) (show ivh10 a0 16 = ivb1 a0 16 from fl10.i ty7 rfl 16) (F15.call X3 fl17 rfl) (MRK.call mr15 W16 sk3 XT.refl fl17 rfl rfl) (fun ri81 ie107 ie108 ie109 ie110 ie111 ri82 ie113 ie114 ie115 ie116 ie117 ri83 ie119 ie120 ie121 ie122 ie123 ri84 ie125 ie126 ie127 ie128 ie129 ri85 ie131 ie132 ie133 ie134 ie135 ri86 ie137 ie138 ie139 ie140 ie141 F16 mr16 => ?_)
                            refine c_st (st2 := [.int (iI f17)]) rfl ?_
                            refine hv13 (show ivh17 a0 11 = ivh16 a0 11 from kp11f17) (show ivh17 a0 12 = ivh16 a0 12 from kp12f17) (show ivh17 a0 13 = ivh16 a0 13 from kp13f17) (show ivh17 a0 14 = ivh16 a0 14 from kp14f17) (show ivh17 a0 15 = ivh16 a0 15 from kp15f17) (show ivh17 a0 16 = ivh16 a0 16 from kp16f17) (show f17 = (ivh16 (sk 15) 4) from exf17) (show 1 ≤ ivh17 a0 11 ∧ ivh17 a0 11 ≤ 100 from W17.int ty49 11) (show 1 ≤ ivh17 a0 12 ∧ ivh17 a0 12 ≤ 50 from W17.int ty49 12) (show (-2147483648) ≤ ivh17 a0 13 ∧ ivh17 a0 13 ≤ 2147483647 from W17.int ty49 13) (show (-2147483648) ≤ ivh17 a0 14 ∧ ivh17 a0 14 ≤ 2147483647 from W17.int ty49 14) (show (-2147483648) ≤ ivh17 a0 15 ∧ ivh17 a0 15 ≤ 2147483647 from W17.int ty49 15) (show (-2147483648) ≤ ivh17 a0 16 ∧ ivh17 a0 16 ≤ 2147483647 from W17.int ty49 16) (fun gk11f17 gk12f17 gk13f17 gk14f17 gk15f17 gk16f17 gf17 ri87 ri88 ri89 ri90 ri91 ri92 => ?_)
                            exact c_iret C dX11_unreadable_183 rfl (by decide) (rom0 hph pl7 (by decide)) ⟨f17, rfl, X3, F16, W17, ⟨by omega, by omega⟩, trivial, (gk11f17.trans (ie107.trans (ie108.trans (ie109.trans (ie110.trans (ie111.trans hkp11)))))), (gk12f17.trans (ie113.trans (ie114.trans (ie115.trans (ie116.trans (ie117.trans hkp12)))))), (gk13f17.trans (ie119.trans (ie120.trans (ie121.trans (ie122.trans (ie123.trans hkp13)))))), (gk14f17.trans (ie125.trans (ie126.trans (ie127.trans (ie128.trans (ie129.trans hkp14)))))), (gk15f17.trans (ie131.trans (ie132.trans (ie133.trans (ie134.trans (ie135.trans hkp15)))))), (gk16f17.trans (ie137.trans (ie138.trans (ie139.trans (ie140.trans (ie141.trans hkp16)))))), (Eq.trans (show rvh16 a0 9 = rvh13 a0 9 from (fl16.r ty29 rfl 9)) (Eq.trans (show rvh13 a0 9 = rvb1 a0 9 from (fl13.r ty7 rfl 9)) (show rvb1 a0 9 = rv a0 9 from hkr9))), (Eq.trans (show rvh16 a0 10 = rvh13 a0 10 from (fl16.r ty29 rfl 10)) (Eq.trans (show rvh13 a0 10 = rvb1 a0 10 from (fl13.r ty7 rfl 10)) (show rvb1 a0 10 = rv a0 10 from hkr10)))⟩
                      · refine c_aload_n (j := 3) (x := a0) C dX11_unreadable_117 rfl ?_
                        refine c_bipush (z := 8) C dX11_unreadable_118 (by decide) ?_
                        refine hv2 (Xb1.ty t_a0) (Phi.le Wb1 skb1) (fun ty51 pl8 => ?_)
                        refine d_callV (As := [.int (iI 8)]) (rest := []) C hM (C_refuse (a0 := a0) (x := 8) Wb1 skb1 ty51 ⟨by decide, by decide⟩ ) dX11_unreadable_120 kV_X11_102 rfl ty51 rfl rfl (by decide) ck_12 rfl (Nat.le_of_ble_eq_true rfl) ⟨(Nat.le_of_ble_eq_true rfl), (Nat.le_of_ble_eq_true rfl)⟩ hph pl8 (show 0 + 0 = 0 from rfl) (by decide) (fun rh18 Lh18 clh18 lnh18 ivh18 rvh18 h18 => ?_)
                        obtain ⟨f18, rfl, rfl, rfl, rfl, rfl, fl18, W18, rgf18, exf18, kp11f18, kp12f18, kp13f18, kp14f18, kp15f18, kp16f18⟩ := h18
                        refine hv8 (show 1 ≤ ivb1 a0 11 ∧ ivb1 a0 11 ≤ 100 from Wb1.int ty51 11) (show 1 ≤ ivb1 a0 12 ∧ ivb1 a0 12 ≤ 50 from Wb1.int ty51 12) (show (-2147483648) ≤ ivb1 a0 13 ∧ ivb1 a0 13 ≤ 2147483647 from Wb1.int ty51 13) (show (-2147483648) ≤ ivb1 a0 14 ∧ ivb1 a0 14 ≤ 2147483647 from Wb1.int ty51 14) (show (-2147483648) ≤ ivb1 a0 15 ∧ ivb1 a0 15 ≤ 2147483647 from Wb1.int ty51 15) (show (-2147483648) ≤ ivb1 a0 16 ∧ ivb1 a0 16 ≤ 2147483647 from Wb1.int ty51 16) (Fb1.call Xb1 fl18 rfl) (MRK.call mrb1 Wb1 skb1 XT.refl fl18 rfl rfl) (fun ri93 ri94 ri95 ri96 ri97 ri98 F17 mr17 => ?_)
                        refine c_st (st2 := [.int (iI f18)]) rfl ?_
                        refine hv13 (show ivh18 a0 11 = ivb1 a0 11 from kp11f18) (show ivh18 a0 12 = ivb1 a0 12 from kp12f18) (show ivh18 a0 13 = ivb1 a0 13 from kp13f18) (show ivh18 a0 14 = ivb1 a0 14 from kp14f18) (show ivh18 a0 15 = ivb1 a0 15 from kp15f18) (show ivh18 a0 16 = ivb1 a0 16 from kp16f18) (show f18 = -1 from exf18) (show 1 ≤ ivh18 a0 11 ∧ ivh18 a0 11 ≤ 100 from W18.int ty51 11) (show 1 ≤ ivh18 a0 12 ∧ ivh18 a0 12 ≤ 50 from W18.int ty51 12) (show (-2147483648) ≤ ivh18 a0 13 ∧ ivh18 a0 13 ≤ 2147483647 from W18.int ty51 13) (show (-2147483648) ≤ ivh18 a0 14 ∧ ivh18 a0 14 ≤ 2147483647 from W18.int ty51 14) (show (-2147483648) ≤ ivh18 a0 15 ∧ ivh18 a0 15 ≤ 2147483647 from W18.int ty51 15) (show (-2147483648) ≤ ivh18 a0 16 ∧ ivh18 a0 16 ≤ 2147483647 from W18.int ty51 16) (fun gk11f18 gk12f18 gk13f18 gk14f18 gk15f18 gk16f18 gf18 ri99 ri100 ri101 ri102 ri103 ri104 => ?_)
                        exact c_iret C dX11_unreadable_123 rfl (by decide) (rom0 hph pl8 (by decide)) ⟨f18, rfl, Xb1, F17, W18, ⟨by omega, by omega⟩, trivial, (gk11f18.trans hkp11), (gk12f18.trans hkp12), (gk13f18.trans hkp13), (gk14f18.trans hkp14), (gk15f18.trans hkp15), (gk16f18.trans hkp16), (show rvb1 a0 9 = rv a0 9 from hkr9), (show rvb1 a0 10 = rv a0 10 from hkr10)⟩
              refine hv24 (show 1 ≤ ivh7 a0 11 ∧ ivh7 a0 11 ≤ 100 from W7.int ty1 11) (show ivh7 a0 11 = ivh6 a0 11 from fl7.i ty1 rfl 11) (show ivh6 a0 11 = ivh5 a0 11 from fl6.i ty1 rfl 11) (show ivh5 a0 11 = iv a0 11 from fl5.i t_a0 rfl 11) (show 1 ≤ ivh7 a0 12 ∧ ivh7 a0 12 ≤ 50 from W7.int ty1 12) (show ivh7 a0 12 = ivh6 a0 12 from fl7.i ty1 rfl 12) (show ivh6 a0 12 = ivh5 a0 12 from fl6.i ty1 rfl 12) (show ivh5 a0 12 = iv a0 12 from fl5.i t_a0 rfl 12) (show (-2147483648) ≤ ivh7 a0 13 ∧ ivh7 a0 13 ≤ 2147483647 from W7.int ty1 13) (show ivh7 a0 13 = ivh6 a0 13 from fl7.i ty1 rfl 13) (show ivh6 a0 13 = ivh5 a0 13 from fl6.i ty1 rfl 13) (show ivh5 a0 13 = iv a0 13 from fl5.i t_a0 rfl 13) (show (-2147483648) ≤ ivh7 a0 14 ∧ ivh7 a0 14 ≤ 2147483647 from W7.int ty1 14) (show ivh7 a0 14 = ivh6 a0 14 from fl7.i ty1 rfl 14) (show ivh6 a0 14 = ivh5 a0 14 from fl6.i ty1 rfl 14) (show ivh5 a0 14 = iv a0 14 from fl5.i t_a0 rfl 14) (show (-2147483648) ≤ ivh7 a0 15 ∧ ivh7 a0 15 ≤ 2147483647 from W7.int ty1 15) (show ivh7 a0 15 = ivh6 a0 15 from fl7.i ty1 rfl 15) (show ivh6 a0 15 = ivh5 a0 15 from fl6.i ty1 rfl 15) (show ivh5 a0 15 = iv a0 15 from fl5.i t_a0 rfl 15) (show (-2147483648) ≤ ivh7 a0 16 ∧ ivh7 a0 16 ≤ 2147483647 from W7.int ty1 16) (show ivh7 a0 16 = ivh6 a0 16 from fl7.i ty1 rfl 16) (show ivh6 a0 16 = ivh5 a0 16 from fl6.i ty1 rfl 16) (show ivh5 a0 16 = iv a0 16 from fl5.i t_a0 rfl 16) (fun ri105 ie161 ie162 ie163 ri106 ie164 ie165 ie166 ri107 ie167 ie168 ie169 ri108 ie170 ie171 ie172 ri109 ie173 ie174 ie175 ri110 ie176 ie177 ie178 => ?_)
              refine c_lv (lv2 := [(5, .int (iI f7)), (6, .int (iI 0)), (4, .ref ob1), (0, .ref a0), (1, .int (iI i)), (2, .int (iI n)), (3, .int (iI lim))]) [1, 0, 2, 3, 4, 5, 6] rfl ?_
              exact Lp1 5004 f7 0 _ _ _ _ _ (by omega) X1 W7 F6  (by omega) (by omega) (ie161.trans (ie162.trans ie163)) (ie164.trans (ie165.trans ie166)) (ie167.trans (ie168.trans ie169)) (ie170.trans (ie171.trans ie172)) (ie173.trans (ie174.trans ie175)) (ie176.trans (ie177.trans ie178)) (show rvh5 a0 9 = rv a0 9 from (fl5.r t_a0 rfl 9)) (show rvh5 a0 10 = rv a0 10 from (fl5.r t_a0 rfl 10))
            · refine c_iconst C dX11_unreadable_77 ?_
              refine c_goto (tgt := 82) C dX11_unreadable_78 (by decide) ?_
              refine hv4 (xl5.ty tsk14) (xl5.ty tsk16) (show ivh5 (sk 14) 7 = iv (sk 14) 7 from fl5.i tsk14 rfl 7) (Phi.le W5 sk1) (fun ty52 ty53 ie179 pl9 => ?_)
              have ri111 : 0 ≤ ivh5 (sk 14) 7 ∧ ivh5 (sk 14) 7 ≤ 6 := W5.int ty52 7
              refine d_callV (As := [.ref (sk 16), .int (iI 1)]) (rest := []) C hM (C_gatherAlphabet (a0 := (sk 14)) (a1 := (sk 16)) (g := 1) W5 sk1 ty52 ty53 ⟨by decide, by decide⟩ ) dX11_unreadable_82 kV_X11_385 rfl ty52 rfl rfl (by decide) ck_9 rfl (Nat.le_of_ble_eq_true rfl) ⟨(Nat.le_of_ble_eq_true rfl), (Nat.le_of_ble_eq_true rfl)⟩ hph pl9 (show 0 + 0 = 0 from rfl) (by decide) (fun rh19 Lh19 clh19 lnh19 ivh19 rvh19 h19 => ?_)
              obtain ⟨rfl, rfl, rfl, rfl, rfl, fl19, W19, exf19⟩ := h19
              refine hv2 (F4.call X1 fl19 rfl) (MRK.call mr4 W5 sk1 XT.refl fl19 rfl rfl) (fun F18 mr18 => ?_)
              refine c_st (st2 := []) rfl ?_
              refine hv2 (show 0 ≤ ivh19 (sk 14) 7 ∧ ivh19 (sk 14) 7 ≤ 6 from W19.int ty52 7) (show ivh19 (sk 14) 7 = ivh5 (sk 14) 7 from exf19) (fun ri112 gf19 => ?_)
              refine c_aload_n (j := 1) (x := a0) C dX11_unreadable_85 rfl ?_
              refine c_getr (k := 5) C ck_12 dX11_unreadable_86 w2_49 (by decide) ty1 rfl rfl (by decide) rfl rq3 ?_
              refine c_st (st2 := [.ref (sk 14)]) rfl ?_
              refine c_iload_n (j := 3) C dX11_unreadable_89 rfl ?_
              refine d_callV (As := [.int (iI n)]) (rest := []) C hM (C_startSpelling (a0 := (sk 14)) (n := n) W19 sk1 ty52 (by omega) ) dX11_unreadable_90 kV_X11_389 rfl ty52 rfl rfl (by decide) ck_9 rfl (Nat.le_of_ble_eq_true rfl) ⟨(Nat.le_of_ble_eq_true rfl), (Nat.le_of_ble_eq_true rfl)⟩ hph pl9 (show 0 + 0 = 0 from rfl) (by decide) (fun rh20 Lh20 clh20 lnh20 ivh20 rvh20 h20 => ?_)
              obtain ⟨f20, rfl, rfl, rfl, rfl, rfl, fl20, W20, rgf20, exf20⟩ := h20
              refine hv2 (F18.call X1 fl20 rfl) (MRK.call mr18 W19 sk1 XT.refl fl20 rfl rfl) (fun F19 mr19 => ?_)
              refine c_st (st2 := [.int (iI f20)]) rfl ?_
              refine c_istore (lv2 := [(5, .int (iI f20)), (4, .ref ob1), (0, .ref a0), (1, .int (iI i)), (2, .int (iI n)), (3, .int (iI lim))]) C dX11_unreadable_93 (by decide) rfl ?_
              refine c_iconst C dX11_unreadable_95 ?_
              refine c_istore (lv2 := [(6, .int (iI 0)), (5, .int (iI f20)), (4, .ref ob1), (0, .ref a0), (1, .int (iI i)), (2, .int (iI n)), (3, .int (iI lim))]) C dX11_unreadable_96 (by decide) rfl ?_
              have Lp2 : ∀ (nn : Nat) (ok k : Int) (Lb2 : List Nat) (clb2 lnb2 : Nat → Nat) (ivb2 : Nat → Nat → Int) (rvb2 : Nat → Nat → Option Nat) , 5002 - k < (nn : Int) → XT L cl ln Lb2 clb2 lnb2 → WT (g0 G) sk Lb2 clb2 lnb2 ivb2 rvb2 → fT [1, 4, 34, 14, 56, 57, 58, 15, 50, 51, 52, 53, 54, 55, 8, 38, 9, 39, 16, 10, 40, 24, 1002, 25, 1003, 6, 36, 7, 37] L cl iv rv ivb2 rvb2 → (ok = 0 ∨ ok = 1) → (0 ≤ k ∧ k ≤ 5001) → (ivb2 a0 11 = iv a0 11) → (ivb2 a0 12 = iv a0 12) → (ivb2 a0 13 = iv a0 13) → (ivb2 a0 14 = iv a0 14) → (ivb2 a0 15 = iv a0 15) → (ivb2 a0 16 = iv a0 16) → (rvb2 a0 9 = rv a0 9) → (rvb2 a0 10 = rv a0 10) → cw p l e 10 ((PHM) + 0 - ((Phi (g0 G) sk) ln rv)) s m args below meth c G A 7 (MQ below (Qu G A (Qp G (Phi (g0 G) sk) ((Phi (g0 G) sk) ln rv) 0 (fun v L2 cl2 ln2 iv2 rv2 => ∃ f : Int, v = some (.int (iI f)) ∧ XT L cl ln L2 cl2 ln2 ∧ fT [1, 4, 34, 14, 56, 57, 58, 15, 50, 51, 52, 53, 54, 55, 8, 38, 9, 39, 16, 10, 40, 24, 1002, 25, 1003, 6, 36, 7, 37] L cl iv rv iv2 rv2 ∧ WT (g0 G) sk L2 cl2 ln2 iv2 rv2 ∧ (-2147483648 ≤ f ∧ f ≤ 2147483647) ∧ (True) ∧ iv2 a0 11 = iv a0 11 ∧ iv2 a0 12 = iv a0 12 ∧ iv2 a0 13 = iv a0 13 ∧ iv2 a0 14 = iv a0 14 ∧ iv2 a0 15 = iv a0 15 ∧ iv2 a0 16 = iv a0 16 ∧ rv2 a0 9 = rv a0 9 ∧ rv2 a0 10 = rv a0 10))) args s (((PHM) + 0 - ((Phi (g0 G) sk) ln rv)) / 16) ((PHM) + 0 - ((Phi (g0 G) sk) ln rv)) A) (Phi (g0 G) sk) ((Phi (g0 G) sk) ln rv) Lb2 clb2 lnb2 ivb2 rvb2 0 98 [(5, .int (iI ok)), (6, .int (iI k)), (4, .ref ob1), (0, .ref a0), (1, .int (iI i)), (2, .int (iI n)), (3, .int (iI lim))] [] := by
                intro nn
                induction nn with
                | zero =>
                  intro  ok k Lb2 clb2 lnb2 ivb2 rvb2 hm Xb2 Wb2 Fb2  hok hk hkp11 hkp12 hkp13 hkp14 hkp15 hkp16 hkr9 hkr10
                  have skb2 := Xb2.skl hS
                  exact absurd hm (by omega)
                | succ nn ih2 =>
                  intro  ok k Lb2 clb2 lnb2 ivb2 rvb2 hm Xb2 Wb2 Fb2  hok hk hkp11 hkp12 hkp13 hkp14 hkp15 hkp16 hkr9 hkr10
                  refine hv2 (Xb2.skl hS) (MRK.call hmr hW hS Xb2 Fb2 rfl rfl) (fun skb2 mrb2 => ?_)
                  refine c_iload (j := 0) C dX11_unreadable_98 rfl ?_
                  refine c_if_eq (tgt := 200) C (r32_01 hok) dX11_unreadable_100 (by decide) (fun c11 => ?_) (fun c11 => ?_)
                  · clear hok
                    refine c_aload_n (j := 3) (x := a0) C dX11_unreadable_200 rfl ?_
                    refine c_iconst C dX11_unreadable_201 ?_
                    refine hv2 (Xb2.ty t_a0) (Phi.le Wb2 skb2) (fun ty54 pl10 => ?_)
                    refine d_callV (As := [.int (iI 0)]) (rest := []) C hM (C_done (a0 := a0) (x := 0) Wb2 skb2 ty54 ⟨by decide, by decide⟩ ) dX11_unreadable_202 kV_X11_109 rfl ty54 rfl rfl (by decide) ck_12 rfl (Nat.le_of_ble_eq_true rfl) ⟨(Nat.le_of_ble_eq_true rfl), (Nat.le_of_ble_eq_true rfl)⟩ hph pl10 (show 0 + 0 = 0 from rfl) (by decide) (fun rh21 Lh21 clh21 lnh21 ivh21 rvh21 h21 => ?_)
                    obtain ⟨f21, rfl, rfl, rfl, rfl, rfl, fl21, W21, rgf21, exf21, kp11f21, kp12f21, kp13f21, kp14f21, kp15f21, kp16f21⟩ := h21
                    refine hv8 (show 1 ≤ ivb2 a0 11 ∧ ivb2 a0 11 ≤ 100 from Wb2.int ty54 11) (show 1 ≤ ivb2 a0 12 ∧ ivb2 a0 12 ≤ 50 from Wb2.int ty54 12) (show (-2147483648) ≤ ivb2 a0 13 ∧ ivb2 a0 13 ≤ 2147483647 from Wb2.int ty54 13) (show (-2147483648) ≤ ivb2 a0 14 ∧ ivb2 a0 14 ≤ 2147483647 from Wb2.int ty54 14) (show (-2147483648) ≤ ivb2 a0 15 ∧ ivb2 a0 15 ≤ 2147483647 from Wb2.int ty54 15) (show (-2147483648) ≤ ivb2 a0 16 ∧ ivb2 a0 16 ≤ 2147483647 from Wb2.int ty54 16) (Fb2.call Xb2 fl21 rfl) (MRK.call mrb2 Wb2 skb2 XT.refl fl21 rfl rfl) (fun ri113 ri114 ri115 ri116 ri117 ri118 F20 mr20 => ?_)
                    refine c_st (st2 := [.int (iI f21)]) rfl ?_
                    refine hv13 (show ivh21 a0 11 = ivb2 a0 11 from kp11f21) (show ivh21 a0 12 = ivb2 a0 12 from kp12f21) (show ivh21 a0 13 = ivb2 a0 13 from kp13f21) (show ivh21 a0 14 = ivb2 a0 14 from kp14f21) (show ivh21 a0 15 = ivb2 a0 15 from kp15f21) (show ivh21 a0 16 = ivb2 a0 16 from kp16f21) (show f21 = (0 : Int) from exf21) (show 1 ≤ ivh21 a0 11 ∧ ivh21 a0 11 ≤ 100 from W21.int ty54 11) (show 1 ≤ ivh21 a0 12 ∧ ivh21 a0 12 ≤ 50 from W21.int ty54 12) (show (-2147483648) ≤ ivh21 a0 13 ∧ ivh21 a0 13 ≤ 2147483647 from W21.int ty54 13) (show (-2147483648) ≤ ivh21 a0 14 ∧ ivh21 a0 14 ≤ 2147483647 from W21.int ty54 14) (show (-2147483648) ≤ ivh21 a0 15 ∧ ivh21 a0 15 ≤ 2147483647 from W21.int ty54 15) (show (-2147483648) ≤ ivh21 a0 16 ∧ ivh21 a0 16 ≤ 2147483647 from W21.int ty54 16) (fun gk11f21 gk12f21 gk13f21 gk14f21 gk15f21 gk16f21 gf21 ri119 ri120 ri121 ri122 ri123 ri124 => ?_)
                    exact c_iret C dX11_unreadable_205 rfl (by decide) (rom0 hph pl10 (by decide)) ⟨f21, rfl, Xb2, F20, W21, ⟨by omega, by omega⟩, trivial, (gk11f21.trans hkp11), (gk12f21.trans hkp12), (gk13f21.trans hkp13), (gk14f21.trans hkp14), (gk15f21.trans hkp15), (gk16f21.trans hkp16), (show rvb2 a0 9 = rv a0 9 from hkr9), (show rvb2 a0 10 = rv a0 10 from hkr10)⟩
                  · replace hok := (hok.resolve_left c11)
                    refine c_iload (j := 1) C dX11_unreadable_103 rfl ?_
                    refine c_sipush (z := 5000) C dX11_unreadable_105 (by decide) ?_
                    refine c_icmp_gt (tgt := 200) C (r32_c (lo := 0) (hi := 5001) hk.1 hk.2 (by decide) (by decide)) ⟨by decide, by decide⟩ dX11_unreadable_108 (by decide) (fun c12 => ?_) (fun c12 => ?_)
                    · refine c_aload_n (j := 3) (x := a0) C dX11_unreadable_200 rfl ?_
                      refine c_iconst C dX11_unreadable_201 ?_
                      refine hv2 (Xb2.ty t_a0) (Phi.le Wb2 skb2) (fun ty55 pl11 => ?_)
                      refine d_callV (As := [.int (iI 0)]) (rest := []) C hM (C_done (a0 := a0) (x := 0) Wb2 skb2 ty55 ⟨by decide, by decide⟩ ) dX11_unreadable_202 kV_X11_109 rfl ty55 rfl rfl (by decide) ck_12 rfl (Nat.le_of_ble_eq_true rfl) ⟨(Nat.le_of_ble_eq_true rfl), (Nat.le_of_ble_eq_true rfl)⟩ hph pl11 (show 0 + 0 = 0 from rfl) (by decide) (fun rh22 Lh22 clh22 lnh22 ivh22 rvh22 h22 => ?_)
                      obtain ⟨f22, rfl, rfl, rfl, rfl, rfl, fl22, W22, rgf22, exf22, kp11f22, kp12f22, kp13f22, kp14f22, kp15f22, kp16f22⟩ := h22
                      refine hv8 (show 1 ≤ ivb2 a0 11 ∧ ivb2 a0 11 ≤ 100 from Wb2.int ty55 11) (show 1 ≤ ivb2 a0 12 ∧ ivb2 a0 12 ≤ 50 from Wb2.int ty55 12) (show (-2147483648) ≤ ivb2 a0 13 ∧ ivb2 a0 13 ≤ 2147483647 from Wb2.int ty55 13) (show (-2147483648) ≤ ivb2 a0 14 ∧ ivb2 a0 14 ≤ 2147483647 from Wb2.int ty55 14) (show (-2147483648) ≤ ivb2 a0 15 ∧ ivb2 a0 15 ≤ 2147483647 from Wb2.int ty55 15) (show (-2147483648) ≤ ivb2 a0 16 ∧ ivb2 a0 16 ≤ 2147483647 from Wb2.int ty55 16) (Fb2.call Xb2 fl22 rfl) (MRK.call mrb2 Wb2 skb2 XT.refl fl22 rfl rfl) (fun ri125 ri126 ri127 ri128 ri129 ri130 F21 mr21 => ?_)
                      refine c_st (st2 := [.int (iI f22)]) rfl ?_
                      refine hv13 (show ivh22 a0 11 = ivb2 a0 11 from kp11f22) (show ivh22 a0 12 = ivb2 a0 12 from kp12f22) (show ivh22 a0 13 = ivb2 a0 13 from kp13f22) (show ivh22 a0 14 = ivb2 a0 14 from kp14f22) (show ivh22 a0 15 = ivb2 a0 15 from kp15f22) (show ivh22 a0 16 = ivb2 a0 16 from kp16f22) (show f22 = (0 : Int) from exf22) (show 1 ≤ ivh22 a0 11 ∧ ivh22 a0 11 ≤ 100 from W22.int ty55 11) (show 1 ≤ ivh22 a0 12 ∧ ivh22 a0 12 ≤ 50 from W22.int ty55 12) (show (-2147483648) ≤ ivh22 a0 13 ∧ ivh22 a0 13 ≤ 2147483647 from W22.int ty55 13) (show (-2147483648) ≤ ivh22 a0 14 ∧ ivh22 a0 14 ≤ 2147483647 from W22.int ty55 14) (show (-2147483648) ≤ ivh22 a0 15 ∧ ivh22 a0 15 ≤ 2147483647 from W22.int ty55 15) (show (-2147483648) ≤ ivh22 a0 16 ∧ ivh22 a0 16 ≤ 2147483647 from W22.int ty55 16) (fun gk11f22 gk12f22 gk13f22 gk14f22 gk15f22 gk16f22 gf22 ri131 ri132 ri133 ri134 ri135 ri136 => ?_)
                      exact c_iret C dX11_unreadable_205 rfl (by decide) (rom0 hph pl11 (by decide)) ⟨f22, rfl, Xb2, F21, W22, ⟨by omega, by omega⟩, trivial, (gk11f22.trans hkp11), (gk12f22.trans hkp12), (gk13f22.trans hkp13), (gk14f22.trans hkp14), (gk15f22.trans hkp15), (gk16f22.trans hkp16), (show rvb2 a0 9 = rv a0 9 from hkr9), (show rvb2 a0 10 = rv a0 10 from hkr10)⟩
                    · refine c_iload (j := 1) C dX11_unreadable_111 rfl ?_
                      refine c_iload_n (j := 6) C dX11_unreadable_113 rfl ?_
                      refine c_icmp_lt (tgt := 124) C (r32_c (lo := 0) (hi := 5001) hk.1 hk.2 (by decide) (by decide)) ⟨by omega, by omega⟩ dX11_unreadable_114 (by decide) (fun c13 => ?_) (fun c13 => ?_)
                      · refine c_aload_n (j := 3) (x := a0) C dX11_unreadable_124 rfl ?_
                        have ty56 := Xb2.ty t_a0
                        obtain ⟨rb7, rq7, trb7⟩ := Wb2.ref ty56 5 rfl rfl rfl
                        have erb7 := Wb2.sk trb7 (by decide) rfl
                        subst erb7
                        refine c_getr (k := 5) C ck_12 dX11_unreadable_125 w2_49 (by decide) ty56 rfl rfl (by decide) rfl rq7 ?_
                        refine c_st (st2 := [.ref (sk 14)]) rfl ?_
                        refine c_aload_n (j := 3) (x := a0) C dX11_unreadable_128 rfl ?_
                        obtain ⟨rb8, rq8, trb8⟩ := Wb2.ref ty56 6 rfl rfl rfl
                        have erb8 := Wb2.sk trb8 (by decide) rfl
                        subst erb8
                        refine c_getr (k := 6) C ck_12 dX11_unreadable_129 w2_50 (by decide) ty56 rfl rfl (by decide) rfl rq8 ?_
                        refine c_st (st2 := [.ref (sk 15), .ref (sk 14)]) rfl ?_
                        refine hv3 (Xb2.ty tsk14) (Xb2.ty tsk15) (Phi.le Wb2 skb2) (fun ty57 ty58 pl12 => ?_)
                        refine d_callV (As := [.ref (sk 15)]) (rest := []) C hM (C_spell (a0 := (sk 14)) (a1 := (sk 15)) Wb2 skb2 ty57 ty58  ) dX11_unreadable_132 kV_X11_392 rfl ty57 rfl rfl (by decide) ck_9 rfl (Nat.le_of_ble_eq_true rfl) ⟨(Nat.le_of_ble_eq_true rfl), (Nat.le_of_ble_eq_true rfl)⟩ hph pl12 (show 0 + 0 = 0 from rfl) (by decide) (fun rh23 Lh23 clh23 lnh23 ivh23 rvh23 h23 => ?_)
                        obtain ⟨rfl, rfl, rfl, rfl, rfl, fl23, W23, exf23⟩ := h23
                        refine hv2 (Fb2.call Xb2 fl23 rfl) (MRK.call mrb2 Wb2 skb2 XT.refl fl23 rfl rfl) (fun F22 mr22 => ?_)
                        refine c_st (st2 := []) rfl ?_
                        refine c_aload_n (j := 3) (x := a0) C dX11_unreadable_135 rfl ?_
                        refine c_getr (k := 6) C ck_12 dX11_unreadable_136 w2_50 (by decide) ty56 rfl rfl (by decide) rfl rq8 ?_
                        refine c_st (st2 := [.ref (sk 15)]) rfl ?_
                        refine c_aload (j := 2) (x := ob1) C dX11_unreadable_139 rfl ?_
                        refine hv2 (Xb2.ty tob1) (show 0 ≤ ivh23 (sk 15) 4 ∧ ivh23 (sk 15) 4 ≤ 500 from W23.int ty58 4) (fun ty59 ri137 => ?_)
                        refine d_callV (As := [.ref ob1]) (rest := []) C hM (C_setBy (a0 := (sk 15)) (a1 := ob1) W23 skb2 ty58 ty59  ) dX11_unreadable_141 kV_X11_253 rfl ty58 rfl rfl (by decide) ck_7 rfl (Nat.le_of_ble_eq_true rfl) ⟨(Nat.le_of_ble_eq_true rfl), (Nat.le_of_ble_eq_true rfl)⟩ hph pl12 (show 0 + 0 = 0 from rfl) (by decide) (fun rh24 Lh24 clh24 lnh24 ivh24 rvh24 h24 => ?_)
                        obtain ⟨f24, rfl, rfl, rfl, rfl, rfl, fl24, W24, rgf24, exf24⟩ := h24
                        refine hv2 (F22.call Xb2 fl24 rfl) (MRK.call mr22 W23 skb2 XT.refl fl24 rfl rfl) (fun F23 mr23 => ?_)
                        refine c_st (st2 := [.int (iI f24)]) rfl ?_
                        refine hv3 (show 0 ≤ ivh24 (sk 15) 4 ∧ ivh24 (sk 15) 4 ≤ 500 from W24.int ty58 4) (show 0 ≤ ivh24 (sk 15) 7 ∧ ivh24 (sk 15) 7 ≤ 100000 from W24.int ty58 7) (show (f24 = 0 ∨ f24 = 6 ∨ f24 = 7) ∧ ivh24 (sk 15) 4 = ivh23 (sk 15) 4 ∧ (f24 = 0 → ivh24 (sk 15) 7 ≤ 200) from exf24) (fun ri138 ri139 gf24 => ?_)
                        refine c_if_ne (tgt := 184) C (r32_067 gf24.1) dX11_unreadable_144 (by decide) (fun c14 => ?_) (fun c14 => ?_)
                        · replace gf24 := (And.intro (gf24.1.resolve_left c14) (And.intro gf24.2.1 trivial))
                          refine c_aload_n (j := 3) (x := a0) C dX11_unreadable_184 rfl ?_
                          refine c_getr (k := 5) C ck_12 dX11_unreadable_185 w2_49 (by decide) ty56 rfl rfl (by decide) rfl rq7 ?_
                          refine c_st (st2 := [.ref (sk 14)]) rfl ?_
                          refine c_iload_n (j := 5) C dX11_unreadable_188 rfl ?_
                          refine d_callV (As := [.int (iI n)]) (rest := []) C hM (C_spellNext (a0 := (sk 14)) (n := n) W24 skb2 ty57 (by omega) ) dX11_unreadable_189 kV_X11_403 rfl ty57 rfl rfl (by decide) ck_9 rfl (Nat.le_of_ble_eq_true rfl) ⟨(Nat.le_of_ble_eq_true rfl), (Nat.le_of_ble_eq_true rfl)⟩ hph pl12 (show 0 + 0 = 0 from rfl) (by decide) (fun rh25 Lh25 clh25 lnh25 ivh25 rvh25 h25 => ?_)
                          obtain ⟨f25, rfl, rfl, rfl, rfl, rfl, fl25, W25, rgf25, exf25⟩ := h25
                          refine hv2 (F23.call Xb2 fl25 rfl) (MRK.call mr23 W24 skb2 XT.refl fl25 rfl rfl) (fun F24 mr24 => ?_)
                          refine c_st (st2 := [.int (iI f25)]) rfl ?_
                          refine c_istore (lv2 := [(5, .int (iI f25)), (6, .int (iI k)), (4, .ref ob1), (0, .ref a0), (1, .int (iI i)), (2, .int (iI n)), (3, .int (iI lim))]) C dX11_unreadable_192 (by decide) rfl ?_
                          refine c_iinc (z := k) (j := 1) (lv2 := [(6, .int (iI (k + 1))), (5, .int (iI f25)), (4, .ref ob1), (0, .ref a0), (1, .int (iI i)), (2, .int (iI n)), (3, .int (iI lim))]) C dX11_unreadable_194 rfl (by decide) rfl ?_
                          refine c_goto (tgt := 98) C dX11_unreadable_197 (by decide) ?_
                          refine hv24 (show 1 ≤ ivh25 a0 11 ∧ ivh25 a0 11 ≤ 100 from W25.int ty56 11) (show ivh25 a0 11 = ivh24 a0 11 from fl25.i ty56 rfl 11) (show ivh24 a0 11 = ivh23 a0 11 from fl24.i ty56 rfl 11) (show ivh23 a0 11 = ivb2 a0 11 from fl23.i ty56 rfl 11) (show 1 ≤ ivh25 a0 12 ∧ ivh25 a0 12 ≤ 50 from W25.int ty56 12) (show ivh25 a0 12 = ivh24 a0 12 from fl25.i ty56 rfl 12) (show ivh24 a0 12 = ivh23 a0 12 from fl24.i ty56 rfl 12) (show ivh23 a0 12 = ivb2 a0 12 from fl23.i ty56 rfl 12) (show (-2147483648) ≤ ivh25 a0 13 ∧ ivh25 a0 13 ≤ 2147483647 from W25.int ty56 13) (show ivh25 a0 13 = ivh24 a0 13 from fl25.i ty56 rfl 13) (show ivh24 a0 13 = ivh23 a0 13 from fl24.i ty56 rfl 13) (show ivh23 a0 13 = ivb2 a0 13 from fl23.i ty56 rfl 13) (show (-2147483648) ≤ ivh25 a0 14 ∧ ivh25 a0 14 ≤ 2147483647 from W25.int ty56 14) (show ivh25 a0 14 = ivh24 a0 14 from fl25.i ty56 rfl 14) (show ivh24 a0 14 = ivh23 a0 14 from fl24.i ty56 rfl 14) (show ivh23 a0 14 = ivb2 a0 14 from fl23.i ty56 rfl 14) (show (-2147483648) ≤ ivh25 a0 15 ∧ ivh25 a0 15 ≤ 2147483647 from W25.int ty56 15) (show ivh25 a0 15 = ivh24 a0 15 from fl25.i ty56 rfl 15) (show ivh24 a0 15 = ivh23 a0 15 from fl24.i ty56 rfl 15) (show ivh23 a0 15 = ivb2 a0 15 from fl23.i ty56 rfl 15) (show (-2147483648) ≤ ivh25 a0 16 ∧ ivh25 a0 16 ≤ 2147483647 from W25.int ty56 16) (show ivh25 a0 16 = ivh24 a0 16 from fl25.i ty56 rfl 16) (show ivh24 a0 16 = ivh23 a0 16 from fl24.i ty56 rfl 16) (show ivh23 a0 16 = ivb2 a0 16 from fl23.i ty56 rfl 16) (fun ri140 ie208 ie209 ie210 ri141 ie212 ie213 ie214 ri142 ie216 ie217 ie218 ri143 ie220 ie221 ie222 ri144 ie224 ie225 ie226 ri145 ie228 ie229 ie230 => ?_)
                          refine c_lv (lv2 := [(5, .int (iI f25)), (6, .int (iI (k + 1))), (4, .ref ob1), (0, .ref a0), (1, .int (iI i)), (2, .int (iI n)), (3, .int (iI lim))]) [1, 0, 2, 3, 4, 5, 6] rfl ?_
                          exact ih2  f25 (k + 1) _ _ _ _ _ (by omega) Xb2 W25 F24  (by omega) (by omega) (ie208.trans (ie209.trans (ie210.trans hkp11))) (ie212.trans (ie213.trans (ie214.trans hkp12))) (ie216.trans (ie217.trans (ie218.trans hkp13))) (ie220.trans (ie221.trans (ie222.trans hkp14))) (ie224.trans (ie225.trans (ie226.trans hkp15))) (ie228.trans (ie229.trans (ie230.trans hkp16))) (show rvb2 a0 9 = rv a0 9 from hkr9) (show rvb2 a0 10 = rv a0 10 from hkr10)
                        · replace gf24 := (And.intro c14 (And.intro gf24.2.1 (gf24.2.2 c14)))
                          refine c_aload_n (j := 3) (x := a0) C dX11_unreadable_147 rfl ?_
                          refine d_callV (As := []) (rest := []) C hM (C_isReadBack (a0 := a0) W24 skb2 ty56  (by show ivh24 (sk 15) 7 ≤ 200; omega)) dX11_unreadable_148 kV_X11_396 rfl ty56 rfl rfl (by decide) ck_12 rfl (Nat.le_of_ble_eq_true rfl) ⟨(Nat.le_of_ble_eq_true rfl), (Nat.le_of_ble_eq_true rfl)⟩ hph pl12 (show 0 + 0 = 0 from rfl) (by decide) (fun rh26 Lh26 clh26 lnh26 ivh26 rvh26 h26 => ?_)
                          obtain ⟨f26, rfl, xl26, fl26, W26, rgf26, exf26⟩ := h26
                          refine hv20 (F23.call Xb2 fl26 rfl) (MRK.call mr23 W24 skb2 xl26 fl26 rfl rfl) (Xb2.ty tsk2) (Xb2.ty tsk3) (Xb2.ty tsk4) (Xb2.ty tsk5) (Xb2.ty tsk6) (Xb2.ty tsk7) (Xb2.ty tsk8) (Xb2.ty tsk9) (Xb2.ty tsk10) (Xb2.ty tsk13) (Xb2.ty tsk16) (Xb2.ty tsk17) (Xb2.ty tsk22) (Xb2.ty tsk23) (Xb2.ty tsk24) (Xb2.ty tsk25) (Xb2.trans xl26) (xl26.skl skb2) (fun F25 mr25 ty60 ty61 ty62 ty63 ty64 ty65 ty66 ty67 ty68 ty69 ty70 ty71 ty72 ty73 ty74 ty75 X4 sk4 => ?_)
                          refine c_st (st2 := [.int (iI f26)]) rfl ?_
                          refine c_if_ne (tgt := 184) C ⟨by omega, by omega⟩ dX11_unreadable_151 (by decide) (fun c15 => ?_) (fun c15 => ?_)
                          · refine c_aload_n (j := 3) (x := a0) C dX11_unreadable_184 rfl ?_
                            refine hv2 (xl26.ty ty56) (show rvh26 a0 5 = rvb2 a0 5 from (fl26.r ty56 rfl 5)) (fun ty76 re5 => ?_)
                            rw [rq7] at re5
                            refine c_getr (k := 5) C ck_12 dX11_unreadable_185 w2_49 (by decide) ty76 rfl rfl (by decide) rfl re5 ?_
                            refine c_st (st2 := [.ref (sk 14)]) rfl ?_
                            refine c_iload_n (j := 5) C dX11_unreadable_188 rfl ?_
                            refine hv2 (xl26.ty ty57) (Phi.le W26 sk4) (fun ty77 pl13 => ?_)
                            refine d_callV (As := [.int (iI n)]) (rest := []) C hM (C_spellNext (a0 := (sk 14)) (n := n) W26 sk4 ty77 (by omega) ) dX11_unreadable_189 kV_X11_403 rfl ty77 rfl rfl (by decide) ck_9 rfl (Nat.le_of_ble_eq_true rfl) ⟨(Nat.le_of_ble_eq_true rfl), (Nat.le_of_ble_eq_true rfl)⟩ hph pl13 (show 0 + 0 = 0 from rfl) (by decide) (fun rh27 Lh27 clh27 lnh27 ivh27 rvh27 h27 => ?_)
                            obtain ⟨f27, rfl, rfl, rfl, rfl, rfl, fl27, W27, rgf27, exf27⟩ := h27
                            refine hv2 (F25.call X4 fl27 rfl) (MRK.call mr25 W26 sk4 XT.refl fl27 rfl rfl) (fun F26 mr26 => ?_)
                            refine c_st (st2 := [.int (iI f27)]) rfl ?_
                            refine c_istore (lv2 := [(5, .int (iI f27)), (6, .int (iI k)), (4, .ref ob1), (0, .ref a0), (1, .int (iI i)), (2, .int (iI n)), (3, .int (iI lim))]) C dX11_unreadable_192 (by decide) rfl ?_
                            refine c_iinc (z := k) (j := 1) (lv2 := [(6, .int (iI (k + 1))), (5, .int (iI f27)), (4, .ref ob1), (0, .ref a0), (1, .int (iI i)), (2, .int (iI n)), (3, .int (iI lim))]) C dX11_unreadable_194 rfl (by decide) rfl ?_
                            refine c_goto (tgt := 98) C dX11_unreadable_197 (by decide) ?_
                            refine hv30 (show 1 ≤ ivh27 a0 11 ∧ ivh27 a0 11 ≤ 100 from W27.int ty76 11) (show ivh27 a0 11 = ivh26 a0 11 from fl27.i ty76 rfl 11) (show ivh26 a0 11 = ivh24 a0 11 from fl26.i ty56 rfl 11) (show ivh24 a0 11 = ivh23 a0 11 from fl24.i ty56 rfl 11) (show ivh23 a0 11 = ivb2 a0 11 from fl23.i ty56 rfl 11) (show 1 ≤ ivh27 a0 12 ∧ ivh27 a0 12 ≤ 50 from W27.int ty76 12) (show ivh27 a0 12 = ivh26 a0 12 from fl27.i ty76 rfl 12) (show ivh26 a0 12 = ivh24 a0 12 from fl26.i ty56 rfl 12) (show ivh24 a0 12 = ivh23 a0 12 from fl24.i ty56 rfl 12) (show ivh23 a0 12 = ivb2 a0 12 from fl23.i ty56 rfl 12) (show (-2147483648) ≤ ivh27 a0 13 ∧ ivh27 a0 13 ≤ 2147483647 from W27.int ty76 13) (show ivh27 a0 13 = ivh26 a0 13 from fl27.i ty76 rfl 13) (show ivh26 a0 13 = ivh24 a0 13 from fl26.i ty56 rfl 13) (show ivh24 a0 13 = ivh23 a0 13 from fl24.i ty56 rfl 13) (show ivh23 a0 13 = ivb2 a0 13 from fl23.i ty56 rfl 13) (show (-2147483648) ≤ ivh27 a0 14 ∧ ivh27 a0 14 ≤ 2147483647 from W27.int ty76 14) (show ivh27 a0 14 = ivh26 a0 14 from fl27.i ty76 rfl 14) (show ivh26 a0 14 = ivh24 a0 14 from fl26.i ty56 rfl 14) (show ivh24 a0 14 = ivh23 a0 14 from fl24.i ty56 rfl 14) (show ivh23 a0 14 = ivb2 a0 14 from fl23.i ty56 rfl 14) (show (-2147483648) ≤ ivh27 a0 15 ∧ ivh27 a0 15 ≤ 2147483647 from W27.int ty76 15) (show ivh27 a0 15 = ivh26 a0 15 from fl27.i ty76 rfl 15) (show ivh26 a0 15 = ivh24 a0 15 from fl26.i ty56 rfl 15) (show ivh24 a0 15 = ivh23 a0 15 from fl24.i ty56 rfl 15) (show ivh23 a0 15 = ivb2 a0 15 from fl23.i ty56 rfl 15) (show (-2147483648) ≤ ivh27 a0 16 ∧ ivh27 a0 16 ≤ 2147483647 from W27.int ty76 16) (show ivh27 a0 16 = ivh26 a0 16 from fl27.i ty76 rfl 16) (show ivh26 a0 16 = ivh24 a0 16 from fl26.i ty56 rfl 16) (show ivh24 a0 16 = ivh23 a0 16 from fl24.i ty56 rfl 16) (show ivh23 a0 16 = ivb2 a0 16 from fl23.i ty56 rfl 16) (fun ri146 ie232 ie233 ie234 ie235 ri147 ie237 ie238 ie239 ie240 ri148 ie242 ie243 ie244 ie245 ri149 ie247 ie248 ie249 ie250 ri150 ie252 ie253 ie254 ie255 ri151 ie257 ie258 ie259 ie260 => ?_)
                            refine c_lv (lv2 := [(5, .int (iI f27)), (6, .int (iI (k + 1))), (4, .ref ob1), (0, .ref a0), (1, .int (iI i)), (2, .int (iI n)), (3, .int (iI lim))]) [1, 0, 2, 3, 4, 5, 6] rfl ?_
                            exact ih2  f27 (k + 1) _ _ _ _ _ (by omega) X4 W27 F26  (by omega) (by omega) (ie232.trans (ie233.trans (ie234.trans (ie235.trans hkp11)))) (ie237.trans (ie238.trans (ie239.trans (ie240.trans hkp12)))) (ie242.trans (ie243.trans (ie244.trans (ie245.trans hkp13)))) (ie247.trans (ie248.trans (ie249.trans (ie250.trans hkp14)))) (ie252.trans (ie253.trans (ie254.trans (ie255.trans hkp15)))) (ie257.trans (ie258.trans (ie259.trans (ie260.trans hkp16)))) (Eq.trans (show rvh26 a0 9 = rvb2 a0 9 from (fl26.r ty56 rfl 9)) (show rvb2 a0 9 = rv a0 9 from hkr9)) (Eq.trans (show rvh26 a0 10 = rvb2 a0 10 from (fl26.r ty56 rfl 10)) (show rvb2 a0 10 = rv a0 10 from hkr10))
                          · refine c_aload_n (j := 3) (x := a0) C dX11_unreadable_154 rfl ?_
                            have ty78 := xl26.ty ty56
                            obtain ⟨rb9, rq9, trb9⟩ := W26.ref ty78 2 rfl rfl rfl
                            have erb9 := W26.sk trb9 (by decide) rfl
                            subst erb9
                            refine c_getr (k := 2) C ck_12 dX11_unreadable_155 w2_46 (by decide) ty78 rfl rfl (by decide) rfl rq9 ?_
                            refine c_st (st2 := [.ref (sk 4)]) rfl ?_
                            refine hv2 (xl26.ty ty62) (Phi.le W26 sk4) (fun ty79 pl14 => ?_)
                            refine d_callV (As := []) (rest := []) C hM (C_clear_4 (a0 := (sk 4)) W26 sk4 ty79  ) dX11_unreadable_158 kV_X11_164 rfl ty79 rfl rfl (by decide) ck_2 rfl (Nat.le_of_ble_eq_true rfl) ⟨(Nat.le_of_ble_eq_true rfl), (Nat.le_of_ble_eq_true rfl)⟩ hph pl14 (show 0 + 0 = 0 from rfl) (by decide) (fun rh28 Lh28 clh28 lnh28 ivh28 rvh28 h28 => ?_)
                            obtain ⟨rfl, rfl, rfl, rfl, rfl, fl28, W28, exf28⟩ := h28
                            refine hv2 (F25.call X4 fl28 rfl) (MRK.call mr25 W26 sk4 XT.refl fl28 rfl rfl) (fun F27 mr27 => ?_)
                            refine c_st (st2 := []) rfl ?_
                            refine hv2 (show 0 ≤ ivh28 (sk 4) 2 ∧ ivh28 (sk 4) 2 ≤ 4000 from W28.int ty79 2) (show ivh28 (sk 4) 2 = 0 from exf28) (fun ri152 gf28 => ?_)
                            refine c_aload_n (j := 3) (x := a0) C dX11_unreadable_161 rfl ?_
                            have re6 : rvh26 a0 6 = rvb2 a0 6 := (fl26.r ty56 rfl 6)
                            rw [rq8] at re6
                            refine c_getr (k := 6) C ck_12 dX11_unreadable_162 w2_50 (by decide) ty78 rfl rfl (by decide) rfl re6 ?_
                            refine c_st (st2 := [.ref (sk 15)]) rfl ?_
                            refine c_aload_n (j := 3) (x := a0) C dX11_unreadable_165 rfl ?_
                            refine c_getr (k := 2) C ck_12 dX11_unreadable_166 w2_46 (by decide) ty78 rfl rfl (by decide) rfl rq9 ?_
                            refine c_st (st2 := [.ref (sk 4), .ref (sk 15)]) rfl ?_
                            have ty80 := xl26.ty ty58
                            refine d_callV (As := [.ref (sk 4)]) (rest := []) C hM (C_wwl (a0 := (sk 15)) (a1 := (sk 4)) W28 sk4 ty80 ty79  ) dX11_unreadable_169 kV_X11_399 rfl ty80 rfl rfl (by decide) ck_7 rfl (Nat.le_of_ble_eq_true rfl) ⟨(Nat.le_of_ble_eq_true rfl), (Nat.le_of_ble_eq_true rfl)⟩ hph pl14 (show 0 + 0 = 0 from rfl) (by decide) (fun rh29 Lh29 clh29 lnh29 ivh29 rvh29 h29 => ?_)
                            obtain ⟨rfl, xl29, fl29, W29, exf29⟩ := h29
                            refine hv21 (F27.call X4 fl29 rfl) (MRK.call mr27 W28 sk4 xl29 fl29 rfl rfl) (xl26.ty ty60) (xl26.ty ty61) (xl26.ty ty63) (xl26.ty ty64) (xl26.ty ty65) (xl26.ty ty66) (xl26.ty ty67) (xl26.ty ty68) (xl26.ty ty69) (xl26.ty ty57) (xl26.ty ty70) (xl26.ty ty71) (xl26.ty ty72) (xl26.ty ty73) (xl26.ty ty74) (xl26.ty ty75) (xl26.ty ty59) (X4.trans xl29) (xl29.skl sk4) (fun F28 mr28 ty81 ty82 ty83 ty84 ty85 ty86 ty87 ty88 ty89 ty90 ty91 ty92 ty93 ty94 ty95 ty96 ty97 X5 sk5 => ?_)
                            refine c_st (st2 := []) rfl ?_
                            refine c_aload_n (j := 3) (x := a0) C dX11_unreadable_172 rfl ?_
                            refine c_aload_n (j := 3) (x := a0) C dX11_unreadable_173 rfl ?_
                            refine hv2 (xl29.ty ty78) (show rvh29 a0 6 = rvh26 a0 6 from (fl29.r ty78 rfl 6)) (fun ty98 re7 => ?_)
                            rw [re6] at re7
                            refine c_getr (k := 6) C ck_12 dX11_unreadable_174 w2_50 (by decide) ty98 rfl rfl (by decide) rfl re7 ?_
                            refine c_st (st2 := [.ref (sk 15), .ref a0]) rfl ?_
                            refine hv4 (xl29.ty ty80) (show ivh29 (sk 15) 4 = ivh28 (sk 15) 4 from fl29.i ty80 rfl 4) (show ivh28 (sk 15) 4 = ivh26 (sk 15) 4 from fl28.i ty80 rfl 4) (show ivh26 (sk 15) 4 = ivh24 (sk 15) 4 from fl26.i ty58 rfl 4) (fun ty99 ie263 ie264 ie265 => ?_)
                            have ri153 : 0 ≤ ivh29 (sk 15) 4 ∧ ivh29 (sk 15) 4 ≤ 500 := W29.int ty99 4
                            refine c_get (k := 4) C ck_7 dX11_unreadable_177 w1_142 (by decide) ty99 rfl rfl (by decide) rfl ?_
                            have pl15 := Phi.le W29 sk5
                            refine d_callV (As := [.int (iI (ivh29 (sk 15) 4))]) (rest := []) C hM (C_done (a0 := a0) (x := ivh29 (sk 15) 4) W29 sk5 ty98 (by omega) ) dX11_unreadable_180 kV_X11_109 rfl ty98 rfl rfl (by decide) ck_12 rfl (Nat.le_of_ble_eq_true rfl) ⟨(Nat.le_of_ble_eq_true rfl), (Nat.le_of_ble_eq_true rfl)⟩ hph pl15 (show 0 + 0 = 0 from rfl) (by decide) (fun rh30 Lh30 clh30 lnh30 ivh30 rvh30 h30 => ?_)
                            obtain ⟨f30, rfl, rfl, rfl, rfl, rfl, fl30, W30, rgf30, exf30, kp11f30, kp12f30, kp13f30, kp14f30, kp15f30, kp16f30⟩ := h30
                            refine hv38 (show 1 ≤ ivh29 a0 11 ∧ ivh29 a0 11 ≤ 100 from W29.int ty98 11) (show ivh29 a0 11 = ivh28 a0 11 from fl29.i ty78 rfl 11) (show ivh28 a0 11 = ivh26 a0 11 from fl28.i ty78 rfl 11) (show ivh26 a0 11 = ivh24 a0 11 from fl26.i ty56 rfl 11) (show ivh24 a0 11 = ivh23 a0 11 from fl24.i ty56 rfl 11) (show ivh23 a0 11 = ivb2 a0 11 from fl23.i ty56 rfl 11) (show 1 ≤ ivh29 a0 12 ∧ ivh29 a0 12 ≤ 50 from W29.int ty98 12) (show ivh29 a0 12 = ivh28 a0 12 from fl29.i ty78 rfl 12) (show ivh28 a0 12 = ivh26 a0 12 from fl28.i ty78 rfl 12) (show ivh26 a0 12 = ivh24 a0 12 from fl26.i ty56 rfl 12) (show ivh24 a0 12 = ivh23 a0 12 from fl24.i ty56 rfl 12) (show ivh23 a0 12 = ivb2 a0 12 from fl23.i ty56 rfl 12) (show (-2147483648) ≤ ivh29 a0 13 ∧ ivh29 a0 13 ≤ 2147483647 from W29.int ty98 13) (show ivh29 a0 13 = ivh28 a0 13 from fl29.i ty78 rfl 13) (show ivh28 a0 13 = ivh26 a0 13 from fl28.i ty78 rfl 13) (show ivh26 a0 13 = ivh24 a0 13 from fl26.i ty56 rfl 13) (show ivh24 a0 13 = ivh23 a0 13 from fl24.i ty56 rfl 13) (show ivh23 a0 13 = ivb2 a0 13 from fl23.i ty56 rfl 13) (show (-2147483648) ≤ ivh29 a0 14 ∧ ivh29 a0 14 ≤ 2147483647 from W29.int ty98 14) (show ivh29 a0 14 = ivh28 a0 14 from fl29.i ty78 rfl 14) (show ivh28 a0 14 = ivh26 a0 14 from fl28.i ty78 rfl 14) (show ivh26 a0 14 = ivh24 a0 14 from fl26.i ty56 rfl 14) (show ivh24 a0 14 = ivh23 a0 14 from fl24.i ty56 rfl 14) (show ivh23 a0 14 = ivb2 a0 14 from fl23.i ty56 rfl 14) (show (-2147483648) ≤ ivh29 a0 15 ∧ ivh29 a0 15 ≤ 2147483647 from W29.int ty98 15) (show ivh29 a0 15 = ivh28 a0 15 from fl29.i ty78 rfl 15) (show ivh28 a0 15 = ivh26 a0 15 from fl28.i ty78 rfl 15) (show ivh26 a0 15 = ivh24 a0 15 from fl26.i ty56 rfl 15) (show ivh24 a0 15 = ivh23 a0 15 from fl24.i ty56 rfl 15) (show ivh23 a0 15 = ivb2 a0 15 from fl23.i ty56 rfl 15) (show (-2147483648) ≤ ivh29 a0 16 ∧ ivh29 a0 16 ≤ 2147483647 from W29.int ty98 16) (show ivh29 a0 16 = ivh28 a0 16 from fl29.i ty78 rfl 16) (show ivh28 a0 16 = ivh26 a0 16 from fl28.i ty78 rfl 16) (show ivh26 a0 16 = ivh24 a0 16 from fl26.i ty56 rfl 16) (show ivh24 a0 16 = ivh23 a0 16 from fl24.i ty56 rfl 16) (show ivh23 a0 16 = ivb2 a0 16 from fl23.i ty56 rfl 16) (F28.call X5 fl30 rfl) (MRK.call mr28 W29 sk5 XT.refl fl30 rfl rfl) (fun ri154 ie266 ie267 ie268 ie269 ie270 ri155 ie272 ie273 ie274 ie275 ie276 ri156 ie278 ie279 ie280 ie281 ie282 ri157 ie284 ie285 ie286 ie287 ie288 ri158 ie290 ie291 ie292 ie293 ie294 ri159 ie296 ie297 ie298 ie299 ie300 F29 mr29 => ?_)
                            refine c_st (st2 := [.int (iI f30)]) rfl ?_
                            refine hv13 (show ivh30 a0 11 = ivh29 a0 11 from kp11f30) (show ivh30 a0 12 = ivh29 a0 12 from kp12f30) (show ivh30 a0 13 = ivh29 a0 13 from kp13f30) (show ivh30 a0 14 = ivh29 a0 14 from kp14f30) (show ivh30 a0 15 = ivh29 a0 15 from kp15f30) (show ivh30 a0 16 = ivh29 a0 16 from kp16f30) (show f30 = (ivh29 (sk 15) 4) from exf30) (show 1 ≤ ivh30 a0 11 ∧ ivh30 a0 11 ≤ 100 from W30.int ty98 11) (show 1 ≤ ivh30 a0 12 ∧ ivh30 a0 12 ≤ 50 from W30.int ty98 12) (show (-2147483648) ≤ ivh30 a0 13 ∧ ivh30 a0 13 ≤ 2147483647 from W30.int ty98 13) (show (-2147483648) ≤ ivh30 a0 14 ∧ ivh30 a0 14 ≤ 2147483647 from W30.int ty98 14) (show (-2147483648) ≤ ivh30 a0 15 ∧ ivh30 a0 15 ≤ 2147483647 from W30.int ty98 15) (show (-2147483648) ≤ ivh30 a0 16 ∧ ivh30 a0 16 ≤ 2147483647 from W30.int ty98 16) (fun gk11f30 gk12f30 gk13f30 gk14f30 gk15f30 gk16f30 gf30 ri160 ri161 ri162 ri163 ri164 ri165 => ?_)
                            exact c_iret C dX11_unreadable_183 rfl (by decide) (rom0 hph pl15 (by decide)) ⟨f30, rfl, X5, F29, W30, ⟨by omega, by omega⟩, trivial, (gk11f30.trans (ie266.trans (ie267.trans (ie268.trans (ie269.trans (ie270.trans hkp11)))))), (gk12f30.trans (ie272.trans (ie273.trans (ie274.trans (ie275.trans (ie276.trans hkp12)))))), (gk13f30.trans (ie278.trans (ie279.trans (ie280.trans (ie281.trans (ie282.trans hkp13)))))), (gk14f30.trans (ie284.trans (ie285.trans (ie286.trans (ie287.trans (ie288.trans hkp14)))))), (gk15f30.trans (ie290.trans (ie291.trans (ie292.trans (ie293.trans (ie294.trans hkp15)))))), (gk16f30.trans (ie296.trans (ie297.trans (ie298.trans (ie299.trans (ie300.trans hkp16)))))), (Eq.trans (show rvh29 a0 9 = rvh26 a0 9 from (fl29.r ty78 rfl 9)) (Eq.trans (show rvh26 a0 9 = rvb2 a0 9 from (fl26.r ty56 rfl 9)) (show rvb2 a0 9 = rv a0 9 from hkr9))), (Eq.trans (show rvh29 a0 10 = rvh26 a0 10 from (fl29.r ty78 rfl 10)) (Eq.trans (show rvh26 a0 10 = rvb2 a0 10 from (fl26.r ty56 rfl 10)) (show rvb2 a0 10 = rv a0 10 from hkr10)))⟩
                      · refine c_aload_n (j := 3) (x := a0) C dX11_unreadable_117 rfl ?_
                        refine c_bipush (z := 8) C dX11_unreadable_118 (by decide) ?_
                        refine hv2 (Xb2.ty t_a0) (Phi.le Wb2 skb2) (fun ty100 pl16 => ?_)
                        refine d_callV (As := [.int (iI 8)]) (rest := []) C hM (C_refuse (a0 := a0) (x := 8) Wb2 skb2 ty100 ⟨by decide, by decide⟩ ) dX11_unreadable_120 kV_X11_102 rfl ty100 rfl rfl (by decide) ck_12 rfl (Nat.le_of_ble_eq_true rfl) ⟨(Nat.le_of_ble_eq_true rfl), (Nat.le_of_ble_eq_true rfl)⟩ hph pl16 (show 0 + 0 = 0 from rfl) (by decide) (fun rh31 Lh31 clh31 lnh31 ivh31 rvh31 h31 => ?_)
                        obtain ⟨f31, rfl, rfl, rfl, rfl, rfl, fl31, W31, rgf31, exf31, kp11f31, kp12f31, kp13f31, kp14f31, kp15f31, kp16f31⟩ := h31
                        refine hv8 (show 1 ≤ ivb2 a0 11 ∧ ivb2 a0 11 ≤ 100 from Wb2.int ty100 11) (show 1 ≤ ivb2 a0 12 ∧ ivb2 a0 12 ≤ 50 from Wb2.int ty100 12) (show (-2147483648) ≤ ivb2 a0 13 ∧ ivb2 a0 13 ≤ 2147483647 from Wb2.int ty100 13) (show (-2147483648) ≤ ivb2 a0 14 ∧ ivb2 a0 14 ≤ 2147483647 from Wb2.int ty100 14) (show (-2147483648) ≤ ivb2 a0 15 ∧ ivb2 a0 15 ≤ 2147483647 from Wb2.int ty100 15) (show (-2147483648) ≤ ivb2 a0 16 ∧ ivb2 a0 16 ≤ 2147483647 from Wb2.int ty100 16) (Fb2.call Xb2 fl31 rfl) (MRK.call mrb2 Wb2 skb2 XT.refl fl31 rfl rfl) (fun ri166 ri167 ri168 ri169 ri170 ri171 F30 mr30 => ?_)
                        refine c_st (st2 := [.int (iI f31)]) rfl ?_
                        refine hv13 (show ivh31 a0 11 = ivb2 a0 11 from kp11f31) (show ivh31 a0 12 = ivb2 a0 12 from kp12f31) (show ivh31 a0 13 = ivb2 a0 13 from kp13f31) (show ivh31 a0 14 = ivb2 a0 14 from kp14f31) (show ivh31 a0 15 = ivb2 a0 15 from kp15f31) (show ivh31 a0 16 = ivb2 a0 16 from kp16f31) (show f31 = -1 from exf31) (show 1 ≤ ivh31 a0 11 ∧ ivh31 a0 11 ≤ 100 from W31.int ty100 11) (show 1 ≤ ivh31 a0 12 ∧ ivh31 a0 12 ≤ 50 from W31.int ty100 12) (show (-2147483648) ≤ ivh31 a0 13 ∧ ivh31 a0 13 ≤ 2147483647 from W31.int ty100 13) (show (-2147483648) ≤ ivh31 a0 14 ∧ ivh31 a0 14 ≤ 2147483647 from W31.int ty100 14) (show (-2147483648) ≤ ivh31 a0 15 ∧ ivh31 a0 15 ≤ 2147483647 from W31.int ty100 15) (show (-2147483648) ≤ ivh31 a0 16 ∧ ivh31 a0 16 ≤ 2147483647 from W31.int ty100 16) (fun gk11f31 gk12f31 gk13f31 gk14f31 gk15f31 gk16f31 gf31 ri172 ri173 ri174 ri175 ri176 ri177 => ?_)
                        exact c_iret C dX11_unreadable_123 rfl (by decide) (rom0 hph pl16 (by decide)) ⟨f31, rfl, Xb2, F30, W31, ⟨by omega, by omega⟩, trivial, (gk11f31.trans hkp11), (gk12f31.trans hkp12), (gk13f31.trans hkp13), (gk14f31.trans hkp14), (gk15f31.trans hkp15), (gk16f31.trans hkp16), (show rvb2 a0 9 = rv a0 9 from hkr9), (show rvb2 a0 10 = rv a0 10 from hkr10)⟩
              refine hv24 (show 1 ≤ ivh20 a0 11 ∧ ivh20 a0 11 ≤ 100 from W20.int ty1 11) (show ivh20 a0 11 = ivh19 a0 11 from fl20.i ty1 rfl 11) (show ivh19 a0 11 = ivh5 a0 11 from fl19.i ty1 rfl 11) (show ivh5 a0 11 = iv a0 11 from fl5.i t_a0 rfl 11) (show 1 ≤ ivh20 a0 12 ∧ ivh20 a0 12 ≤ 50 from W20.int ty1 12) (show ivh20 a0 12 = ivh19 a0 12 from fl20.i ty1 rfl 12) (show ivh19 a0 12 = ivh5 a0 12 from fl19.i ty1 rfl 12) (show ivh5 a0 12 = iv a0 12 from fl5.i t_a0 rfl 12) (show (-2147483648) ≤ ivh20 a0 13 ∧ ivh20 a0 13 ≤ 2147483647 from W20.int ty1 13) (show ivh20 a0 13 = ivh19 a0 13 from fl20.i ty1 rfl 13) (show ivh19 a0 13 = ivh5 a0 13 from fl19.i ty1 rfl 13) (show ivh5 a0 13 = iv a0 13 from fl5.i t_a0 rfl 13) (show (-2147483648) ≤ ivh20 a0 14 ∧ ivh20 a0 14 ≤ 2147483647 from W20.int ty1 14) (show ivh20 a0 14 = ivh19 a0 14 from fl20.i ty1 rfl 14) (show ivh19 a0 14 = ivh5 a0 14 from fl19.i ty1 rfl 14) (show ivh5 a0 14 = iv a0 14 from fl5.i t_a0 rfl 14) (show (-2147483648) ≤ ivh20 a0 15 ∧ ivh20 a0 15 ≤ 2147483647 from W20.int ty1 15) (show ivh20 a0 15 = ivh19 a0 15 from fl20.i ty1 rfl 15) (show ivh19 a0 15 = ivh5 a0 15 from fl19.i ty1 rfl 15) (show ivh5 a0 15 = iv a0 15 from fl5.i t_a0 rfl 15) (show (-2147483648) ≤ ivh20 a0 16 ∧ ivh20 a0 16 ≤ 2147483647 from W20.int ty1 16) (show ivh20 a0 16 = ivh19 a0 16 from fl20.i ty1 rfl 16) (show ivh19 a0 16 = ivh5 a0 16 from fl19.i ty1 rfl 16) (show ivh5 a0 16 = iv a0 16 from fl5.i t_a0 rfl 16) (fun ri178 ie320 ie321 ie322 ri179 ie323 ie324 ie325 ri180 ie326 ie327 ie328 ri181 ie329 ie330 ie331 ri182 ie332 ie333 ie334 ri183 ie335 ie336 ie337 => ?_)
              refine c_lv (lv2 := [(5, .int (iI f20)), (6, .int (iI 0)), (4, .ref ob1), (0, .ref a0), (1, .int (iI i)), (2, .int (iI n)), (3, .int (iI lim))]) [1, 0, 2, 3, 4, 5, 6] rfl ?_
              exact Lp2 5004 f20 0 _ _ _ _ _ (by omega) X1 W20 F19  (by omega) (by omega) (ie320.trans (ie321.trans ie322)) (ie323.trans (ie324.trans ie325)) (ie326.trans (ie327.trans ie328)) (ie329.trans (ie330.trans ie331)) (ie332.trans (ie333.trans ie334)) (ie335.trans (ie336.trans ie337)) (show rvh5 a0 9 = rv a0 9 from (fl5.r t_a0 rfl 9)) (show rvh5 a0 10 = rv a0 10 from (fl5.r t_a0 rfl 10))
          · subst oq1
            refine c_lv (lv2 := [(4, .null), (0, .ref a0), (1, .int (iI i)), (2, .int (iI n)), (3, .int (iI lim))]) [0, 1, 2, 3, 4] rfl ?_
            refine c_st (st2 := []) rfl ?_
            refine c_aload_n (j := 1) (x := a0) C dX11_unreadable_45 rfl ?_
            refine c_iconst C dX11_unreadable_46 ?_
            refine d_callV (As := [.int (iI 3)]) (rest := []) C hM (C_refuse (a0 := a0) (x := 3) hW hS t_a0 ⟨by decide, by decide⟩ ) dX11_unreadable_47 kV_X11_102 rfl t_a0 rfl rfl (by decide) ck_12 rfl (Nat.le_of_ble_eq_true rfl) ⟨(Nat.le_of_ble_eq_true rfl), (Nat.le_of_ble_eq_true rfl)⟩ hph hph (show 0 + 0 = 0 from rfl) (by decide) (fun rh32 Lh32 clh32 lnh32 ivh32 rvh32 h32 => ?_)
            obtain ⟨f32, rfl, rfl, rfl, rfl, rfl, fl32, W32, rgf32, exf32, kp11f32, kp12f32, kp13f32, kp14f32, kp15f32, kp16f32⟩ := h32
            refine hv8 (show 1 ≤ iv a0 11 ∧ iv a0 11 ≤ 100 from hW.int t_a0 11) (show 1 ≤ iv a0 12 ∧ iv a0 12 ≤ 50 from hW.int t_a0 12) (show (-2147483648) ≤ iv a0 13 ∧ iv a0 13 ≤ 2147483647 from hW.int t_a0 13) (show (-2147483648) ≤ iv a0 14 ∧ iv a0 14 ≤ 2147483647 from hW.int t_a0 14) (show (-2147483648) ≤ iv a0 15 ∧ iv a0 15 ≤ 2147483647 from hW.int t_a0 15) (show (-2147483648) ≤ iv a0 16 ∧ iv a0 16 ≤ 2147483647 from hW.int t_a0 16) (hF0.call hX0 fl32 rfl) (MRK.call hmr hW hS XT.refl fl32 rfl rfl) (fun ri184 ri185 ri186 ri187 ri188 ri189 F31 mr31 => ?_)
            refine c_st (st2 := [.int (iI f32)]) rfl ?_
            refine hv13 (show ivh32 a0 11 = iv a0 11 from kp11f32) (show ivh32 a0 12 = iv a0 12 from kp12f32) (show ivh32 a0 13 = iv a0 13 from kp13f32) (show ivh32 a0 14 = iv a0 14 from kp14f32) (show ivh32 a0 15 = iv a0 15 from kp15f32) (show ivh32 a0 16 = iv a0 16 from kp16f32) (show f32 = -1 from exf32) (show 1 ≤ ivh32 a0 11 ∧ ivh32 a0 11 ≤ 100 from W32.int t_a0 11) (show 1 ≤ ivh32 a0 12 ∧ ivh32 a0 12 ≤ 50 from W32.int t_a0 12) (show (-2147483648) ≤ ivh32 a0 13 ∧ ivh32 a0 13 ≤ 2147483647 from W32.int t_a0 13) (show (-2147483648) ≤ ivh32 a0 14 ∧ ivh32 a0 14 ≤ 2147483647 from W32.int t_a0 14) (show (-2147483648) ≤ ivh32 a0 15 ∧ ivh32 a0 15 ≤ 2147483647 from W32.int t_a0 15) (show (-2147483648) ≤ ivh32 a0 16 ∧ ivh32 a0 16 ≤ 2147483647 from W32.int t_a0 16) (fun gk11f32 gk12f32 gk13f32 gk14f32 gk15f32 gk16f32 gf32 ri190 ri191 ri192 ri193 ri194 ri195 => ?_)
            exact c_iret C dX11_unreadable_50 rfl (by decide) (rom0 hph hph (by decide)) ⟨f32, rfl, hX0, F31, W32, ⟨by omega, by omega⟩, trivial, gk11f32, gk12f32, gk13f32, gk14f32, gk15f32, gk16f32, rfl, rfl⟩
        · refine c_aload_n (j := 0) (x := a0) C dX11_unreadable_23 rfl ?_
          refine c_bipush (z := 6) C dX11_unreadable_24 (by decide) ?_
          refine d_callV (As := [.int (iI 6)]) (rest := []) C hM (C_refuse (a0 := a0) (x := 6) hW hS t_a0 ⟨by decide, by decide⟩ ) dX11_unreadable_26 kV_X11_102 rfl t_a0 rfl rfl (by decide) ck_12 rfl (Nat.le_of_ble_eq_true rfl) ⟨(Nat.le_of_ble_eq_true rfl), (Nat.le_of_ble_eq_true rfl)⟩ hph hph (show 0 + 0 = 0 from rfl) (by decide) (fun rh33 Lh33 clh33 lnh33 ivh33 rvh33 h33 => ?_)
          obtain ⟨f33, rfl, rfl, rfl, rfl, rfl, fl33, W33, rgf33, exf33, kp11f33, kp12f33, kp13f33, kp14f33, kp15f33, kp16f33⟩ := h33
          refine hv8 (show 1 ≤ iv a0 11 ∧ iv a0 11 ≤ 100 from hW.int t_a0 11) (show 1 ≤ iv a0 12 ∧ iv a0 12 ≤ 50 from hW.int t_a0 12) (show (-2147483648) ≤ iv a0 13 ∧ iv a0 13 ≤ 2147483647 from hW.int t_a0 13) (show (-2147483648) ≤ iv a0 14 ∧ iv a0 14 ≤ 2147483647 from hW.int t_a0 14) (show (-2147483648) ≤ iv a0 15 ∧ iv a0 15 ≤ 2147483647 from hW.int t_a0 15) (show (-2147483648) ≤ iv a0 16 ∧ iv a0 16 ≤ 2147483647 from hW.int t_a0 16) (hF0.call hX0 fl33 rfl) (MRK.call hmr hW hS XT.refl fl33 rfl rfl) (fun ri196 ri197 ri198 ri199 ri200 ri201 F32 mr32 => ?_)
          refine c_st (st2 := [.int (iI f33)]) rfl ?_
          refine hv13 (show ivh33 a0 11 = iv a0 11 from kp11f33) (show ivh33 a0 12 = iv a0 12 from kp12f33) (show ivh33 a0 13 = iv a0 13 from kp13f33) (show ivh33 a0 14 = iv a0 14 from kp14f33) (show ivh33 a0 15 = iv a0 15 from kp15f33) (show ivh33 a0 16 = iv a0 16 from kp16f33) (show f33 = -1 from exf33) (show 1 ≤ ivh33 a0 11 ∧ ivh33 a0 11 ≤ 100 from W33.int t_a0 11) (show 1 ≤ ivh33 a0 12 ∧ ivh33 a0 12 ≤ 50 from W33.int t_a0 12) (show (-2147483648) ≤ ivh33 a0 13 ∧ ivh33 a0 13 ≤ 2147483647 from W33.int t_a0 13) (show (-2147483648) ≤ ivh33 a0 14 ∧ ivh33 a0 14 ≤ 2147483647 from W33.int t_a0 14) (show (-2147483648) ≤ ivh33 a0 15 ∧ ivh33 a0 15 ≤ 2147483647 from W33.int t_a0 15) (show (-2147483648) ≤ ivh33 a0 16 ∧ ivh33 a0 16 ≤ 2147483647 from W33.int t_a0 16) (fun gk11f33 gk12f33 gk13f33 gk14f33 gk15f33 gk16f33 gf33 ri202 ri203 ri204 ri205 ri206 ri207 => ?_)
          exact c_iret C dX11_unreadable_29 rfl (by decide) (rom0 hph hph (by decide)) ⟨f33, rfl, hX0, F32, W33, ⟨by omega, by omega⟩, trivial, gk11f33, gk12f33, gk13f33, gk14f33, gk15f33, gk16f33, rfl, rfl⟩
set_option maxHeartbeats 4000000 in
set_option maxRecDepth 100000 in
theorem C_readings {l : Launch} {G : GT} {mi : Nat} {sk : Nat → Nat} {L : List Nat} {cl ln : Nat → Nat} {iv : Nat → Nat → Int} {rv : Nat → Nat → Option Nat}  {a0 : Nat} {i : Int} {j : Int} {n : Int} (hW : WT (g0 G) sk L cl ln iv rv) (hS : SKL sk L cl) (t_a0 : ty L cl a0 1) (h_i : -2147483648 ≤ i ∧ i ≤ 2147483647) (h_j : -2147483648 ≤ j ∧ j ≤ 2147483647) (h_n : -2147483648 ≤ n ∧ n ≤ 2147483647) (hmr : MRK sk cl iv rv) : Mc l G mi (Phi (g0 G) sk) PHM yX11_readings cX11_readings 6 (some .int) 10 [.ref a0, .int (iI i), .int (iI j), .int (iI n)] L cl ln iv rv 0 (fun v L2 cl2 ln2 iv2 rv2 => ∃ f : Int, v = some (.int (iI f)) ∧ XT L cl ln L2 cl2 ln2 ∧ fT [1, 24, 1002, 25, 1003, 6, 36, 7, 37, 17, 63, 59, 60, 61, 62, 11, 41] L cl iv rv iv2 rv2 ∧ WT (g0 G) sk L2 cl2 ln2 iv2 rv2 ∧ (-2147483648 ≤ f ∧ f ≤ 2147483647) ∧ (True) ∧ iv2 a0 11 = iv a0 11 ∧ iv2 a0 12 = iv a0 12 ∧ iv2 a0 13 = iv a0 13 ∧ iv2 a0 14 = iv a0 14 ∧ iv2 a0 15 = iv a0 15 ∧ iv2 a0 16 = iv a0 16 ∧ rv2 a0 9 = rv a0 9 ∧ rv2 a0 10 = rv a0 10) := by
  refine Mc.mk (by decide) (Nat.le_of_ble_eq_true rfl) ?_
  intro p e s m args below meth c A C hM
  refine hv21 (Phi.le hW hS) (show ty L cl (sk 2) 2 from ⟨(hS 2 rfl).1, by rw [(hS 2 rfl).2]; rfl⟩) (show ty L cl (sk 3) 3 from ⟨(hS 3 rfl).1, by rw [(hS 3 rfl).2]; rfl⟩) (show ty L cl (sk 4) 4 from ⟨(hS 4 rfl).1, by rw [(hS 4 rfl).2]; rfl⟩) (show ty L cl (sk 5) 5 from ⟨(hS 5 rfl).1, by rw [(hS 5 rfl).2]; rfl⟩) (show ty L cl (sk 6) 6 from ⟨(hS 6 rfl).1, by rw [(hS 6 rfl).2]; rfl⟩) (show ty L cl (sk 7) 7 from ⟨(hS 7 rfl).1, by rw [(hS 7 rfl).2]; rfl⟩) (show ty L cl (sk 8) 8 from ⟨(hS 8 rfl).1, by rw [(hS 8 rfl).2]; rfl⟩) (show ty L cl (sk 9) 9 from ⟨(hS 9 rfl).1, by rw [(hS 9 rfl).2]; rfl⟩) (show ty L cl (sk 10) 10 from ⟨(hS 10 rfl).1, by rw [(hS 10 rfl).2]; rfl⟩) (show ty L cl (sk 13) 13 from ⟨(hS 13 rfl).1, by rw [(hS 13 rfl).2]; rfl⟩) (show ty L cl (sk 14) 14 from ⟨(hS 14 rfl).1, by rw [(hS 14 rfl).2]; rfl⟩) (show ty L cl (sk 15) 15 from ⟨(hS 15 rfl).1, by rw [(hS 15 rfl).2]; rfl⟩) (show ty L cl (sk 16) 16 from ⟨(hS 16 rfl).1, by rw [(hS 16 rfl).2]; rfl⟩) (show ty L cl (sk 17) 17 from ⟨(hS 17 rfl).1, by rw [(hS 17 rfl).2]; rfl⟩) (show ty L cl (sk 22) 22 from ⟨(hS 22 rfl).1, by rw [(hS 22 rfl).2]; rfl⟩) (show ty L cl (sk 23) 23 from ⟨(hS 23 rfl).1, by rw [(hS 23 rfl).2]; rfl⟩) (show ty L cl (sk 24) 24 from ⟨(hS 24 rfl).1, by rw [(hS 24 rfl).2]; rfl⟩) (show ty L cl (sk 25) 25 from ⟨(hS 25 rfl).1, by rw [(hS 25 rfl).2]; rfl⟩) (show XT L cl ln L cl ln from XT.refl) (show fT [1, 24, 1002, 25, 1003, 6, 36, 7, 37, 17, 63, 59, 60, 61, 62, 11, 41] L cl iv rv iv rv from fT.refl) (fun hph tsk2 tsk3 tsk4 tsk5 tsk6 tsk7 tsk8 tsk9 tsk10 tsk13 tsk14 tsk15 tsk16 tsk17 tsk22 tsk23 tsk24 tsk25 hX0 hF0 => ?_)
  refine c_iload_n (j := 3) C dX11_readings_0 rfl ?_
  refine c_iconst C dX11_readings_1 ?_
  refine c_icmp_lt (tgt := 11) C ⟨by omega, by omega⟩ ⟨by decide, by decide⟩ dX11_readings_2 (by decide) (fun c1 => ?_) (fun c1 => ?_)
  · refine c_aload_n (j := 0) (x := a0) C dX11_readings_11 rfl ?_
    refine c_bipush (z := 6) C dX11_readings_12 (by decide) ?_
    refine d_callV (As := [.int (iI 6)]) (rest := []) C hM (C_refuse (a0 := a0) (x := 6) hW hS t_a0 ⟨by decide, by decide⟩ ) dX11_readings_14 kV_X11_102 rfl t_a0 rfl rfl (by decide) ck_12 rfl (Nat.le_of_ble_eq_true rfl) ⟨(Nat.le_of_ble_eq_true rfl), (Nat.le_of_ble_eq_true rfl)⟩ hph hph (show 0 + 0 = 0 from rfl) (by decide) (fun rh1 Lh1 clh1 lnh1 ivh1 rvh1 h1 => ?_)
    obtain ⟨f1, rfl, rfl, rfl, rfl, rfl, fl1, W1, rgf1, exf1, kp11f1, kp12f1, kp13f1, kp14f1, kp15f1, kp16f1⟩ := h1
    refine hv8 (show 1 ≤ iv a0 11 ∧ iv a0 11 ≤ 100 from hW.int t_a0 11) (show 1 ≤ iv a0 12 ∧ iv a0 12 ≤ 50 from hW.int t_a0 12) (show (-2147483648) ≤ iv a0 13 ∧ iv a0 13 ≤ 2147483647 from hW.int t_a0 13) (show (-2147483648) ≤ iv a0 14 ∧ iv a0 14 ≤ 2147483647 from hW.int t_a0 14) (show (-2147483648) ≤ iv a0 15 ∧ iv a0 15 ≤ 2147483647 from hW.int t_a0 15) (show (-2147483648) ≤ iv a0 16 ∧ iv a0 16 ≤ 2147483647 from hW.int t_a0 16) (hF0.call hX0 fl1 rfl) (MRK.call hmr hW hS XT.refl fl1 rfl rfl) (fun ri1 ri2 ri3 ri4 ri5 ri6 F1 mr1 => ?_)
    refine c_st (st2 := [.int (iI f1)]) rfl ?_
    refine hv13 (show ivh1 a0 11 = iv a0 11 from kp11f1) (show ivh1 a0 12 = iv a0 12 from kp12f1) (show ivh1 a0 13 = iv a0 13 from kp13f1) (show ivh1 a0 14 = iv a0 14 from kp14f1) (show ivh1 a0 15 = iv a0 15 from kp15f1) (show ivh1 a0 16 = iv a0 16 from kp16f1) (show f1 = -1 from exf1) (show 1 ≤ ivh1 a0 11 ∧ ivh1 a0 11 ≤ 100 from W1.int t_a0 11) (show 1 ≤ ivh1 a0 12 ∧ ivh1 a0 12 ≤ 50 from W1.int t_a0 12) (show (-2147483648) ≤ ivh1 a0 13 ∧ ivh1 a0 13 ≤ 2147483647 from W1.int t_a0 13) (show (-2147483648) ≤ ivh1 a0 14 ∧ ivh1 a0 14 ≤ 2147483647 from W1.int t_a0 14) (show (-2147483648) ≤ ivh1 a0 15 ∧ ivh1 a0 15 ≤ 2147483647 from W1.int t_a0 15) (show (-2147483648) ≤ ivh1 a0 16 ∧ ivh1 a0 16 ≤ 2147483647 from W1.int t_a0 16) (fun gk11f1 gk12f1 gk13f1 gk14f1 gk15f1 gk16f1 gf1 ri7 ri8 ri9 ri10 ri11 ri12 => ?_)
    exact c_iret C dX11_readings_17 rfl (by decide) (rom0 hph hph (by decide)) ⟨f1, rfl, hX0, F1, W1, ⟨by omega, by omega⟩, trivial, gk11f1, gk12f1, gk13f1, gk14f1, gk15f1, gk16f1, rfl, rfl⟩
  · refine c_iload_n (j := 3) C dX11_readings_5 rfl ?_
    refine c_bipush (z := 50) C dX11_readings_6 (by decide) ?_
    refine c_icmp_le (tgt := 18) C ⟨by omega, by omega⟩ ⟨by decide, by decide⟩ dX11_readings_8 (by decide) (fun c2 => ?_) (fun c2 => ?_)
    · refine c_aload_n (j := 0) (x := a0) C dX11_readings_18 rfl ?_
      obtain ⟨rb1, rq1, trb1⟩ := hW.ref t_a0 4 rfl rfl rfl
      have erb1 := hW.sk trb1 (by decide) rfl
      subst erb1
      refine c_getr (k := 4) C ck_12 dX11_readings_19 w2_48 (by decide) t_a0 rfl rfl (by decide) rfl rq1 ?_
      refine c_st (st2 := [.ref (sk 13)]) rfl ?_
      refine c_iload_n (j := 1) C dX11_readings_22 rfl ?_
      refine d_callV (As := [.int (iI i)]) (rest := []) C hM (C_whole (a0 := (sk 13)) (i := i) hW hS tsk13 (by omega) hmr) dX11_readings_23 kV_X11_231 rfl tsk13 rfl rfl (by decide) ck_11 rfl (Nat.le_of_ble_eq_true rfl) ⟨(Nat.le_of_ble_eq_true rfl), (Nat.le_of_ble_eq_true rfl)⟩ hph hph (show 0 + 0 = 0 from rfl) (by decide) (fun rh2 Lh2 clh2 lnh2 ivh2 rvh2 h2 => ?_)
      obtain ⟨f2, rfl, rfl, rfl, rfl, rfl, rfl, rgf2, exf2⟩ := h2
      refine c_st (st2 := [(va_rf f2)]) rfl ?_
      refine c_astorer (r := f2) (lv2 := [(4, (va_rf f2)), (0, .ref a0), (1, .int (iI i)), (2, .int (iI j)), (3, .int (iI n))]) C dX11_readings_26 (by decide) rfl ?_
      refine c_aloadr (j := 0) (r := f2) C dX11_readings_28 rfl ?_
      refine c_ifnonnull (r := f2) (tgt := 39) C dX11_readings_30 (by decide) (fun ob1 oq1 => ?_) (fun oq1 => ?_)
      · subst oq1
        have tob1 := rgf2 ob1 rfl
        refine c_lv (lv2 := [(4, .ref ob1), (0, .ref a0), (1, .int (iI i)), (2, .int (iI j)), (3, .int (iI n))]) [0, 1, 2, 3, 4] rfl ?_
        refine c_st (st2 := []) rfl ?_
        refine c_aload_n (j := 1) (x := a0) C dX11_readings_39 rfl ?_
        obtain ⟨rb2, rq2, trb2⟩ := hW.ref t_a0 9 rfl rfl rfl
        refine c_getr (k := 9) C ck_12 dX11_readings_40 w2_53 (by decide) t_a0 rfl rfl (by decide) rfl rq2 ?_
        refine c_st (st2 := [.ref rb2]) rfl ?_
        refine c_iload_n (j := 3) C dX11_readings_43 rfl ?_
        have ri13 : 0 ≤ iv rb2 1 ∧ iv rb2 1 ≤ 200 := hW.int trb2 1
        refine d_callV (As := [.int (iI j)]) (rest := []) C hM (C_present (a0 := rb2) (i := j) hW hS trb2 (by omega) ) dX11_readings_44 kV_X11_288 rfl trb2 rfl rfl (by decide) ck_8 rfl (Nat.le_of_ble_eq_true rfl) ⟨(Nat.le_of_ble_eq_true rfl), (Nat.le_of_ble_eq_true rfl)⟩ hph hph (show 0 + 0 = 0 from rfl) (by decide) (fun rh3 Lh3 clh3 lnh3 ivh3 rvh3 h3 => ?_)
        obtain ⟨f3, rfl, rfl, rfl, rfl, rfl, rfl, rgf3, exf3⟩ := h3
        refine c_st (st2 := [(va_rf f3)]) rfl ?_
        have gf3 : f3 = none ∨ (0 ≤ j ∧ j < iv rb2 1) := exf3
        refine c_astorer (r := f3) (lv2 := [(5, (va_rf f3)), (4, .ref ob1), (0, .ref a0), (1, .int (iI i)), (2, .int (iI j)), (3, .int (iI n))]) C dX11_readings_47 (by decide) rfl ?_
        refine c_aloadr (j := 0) (r := f3) C dX11_readings_49 rfl ?_
        refine c_ifnonnull (r := f3) (tgt := 67) C dX11_readings_51 (by decide) (fun ob2 oq2 => ?_) (fun oq2 => ?_)
        · subst oq2
          have tob2 := rgf3 ob2 rfl
          refine c_lv (lv2 := [(5, .ref ob2), (4, .ref ob1), (0, .ref a0), (1, .int (iI i)), (2, .int (iI j)), (3, .int (iI n))]) [0, 1, 2, 3, 4, 5] rfl ?_
          refine c_st (st2 := []) rfl ?_
          refine c_aload (j := 0) (x := ob2) C dX11_readings_67 rfl ?_
          have ri14 : 0 ≤ iv ob2 1 ∧ iv ob2 1 ≤ 200 := hW.int tob2 1
          refine c_get (k := 1) C ck_3 dX11_readings_69 w4_53 (by decide) tob2 rfl rfl (by decide) rfl ?_
          refine c_bipush (z := 100) C dX11_readings_72 (by decide) ?_
          refine c_icmp_le (tgt := 84) C (r32_c (lo := 0) (hi := 200) ri14.1 ri14.2 (by decide) (by decide)) ⟨by decide, by decide⟩ dX11_readings_74 (by decide) (fun c3 => ?_) (fun c3 => ?_)
          · refine c_aload_n (j := 2) (x := a0) C dX11_readings_84 rfl ?_
            obtain ⟨rb3, rq3, trb3⟩ := hW.ref t_a0 7 rfl rfl rfl
            have erb3 := hW.sk trb3 (by decide) rfl
            subst erb3
            refine c_getr (k := 7) C ck_12 dX11_readings_85 w2_51 (by decide) t_a0 rfl rfl (by decide) rfl rq3 ?_
            refine c_st (st2 := [.ref (sk 16)]) rfl ?_
            refine c_aload (j := 1) (x := ob1) C dX11_readings_88 rfl ?_
            refine d_callV (As := [.ref ob1]) (rest := []) C hM (C_gather (a0 := (sk 16)) (a1 := ob1) hW hS tsk16 tob1  ) dX11_readings_90 kV_X11_331 rfl tsk16 rfl rfl (by decide) ck_4 rfl (Nat.le_of_ble_eq_true rfl) ⟨(Nat.le_of_ble_eq_true rfl), (Nat.le_of_ble_eq_true rfl)⟩ hph hph (show 0 + 0 = 0 from rfl) (by decide) (fun rh4 Lh4 clh4 lnh4 ivh4 rvh4 h4 => ?_)
            obtain ⟨rfl, xl4, fl4, W4, exf4⟩ := h4
            refine hv4 (hF0.call hX0 fl4 rfl) (MRK.call hmr hW hS xl4 fl4 rfl rfl) (hX0.trans xl4) (xl4.skl hS) (fun F2 mr2 X1 sk1 => ?_)
            refine c_st (st2 := []) rfl ?_
            refine c_aload_n (j := 2) (x := a0) C dX11_readings_93 rfl ?_
            have ty1 := xl4.ty t_a0
            obtain ⟨rb4, rq4, trb4⟩ := W4.ref ty1 8 rfl rfl rfl
            have erb4 := W4.sk trb4 (by decide) rfl
            subst erb4
            refine c_getr (k := 8) C ck_12 dX11_readings_94 w2_52 (by decide) ty1 rfl rfl (by decide) rfl rq4 ?_
            refine c_st (st2 := [.ref (sk 17)]) rfl ?_
            refine c_aload (j := 0) (x := ob2) C dX11_readings_97 rfl ?_
            refine c_sipush (z := 255) C dX11_readings_99 (by decide) ?_
            refine c_aload_n (j := 2) (x := a0) C dX11_readings_102 rfl ?_
            refine hv2 (show (-2147483648) ≤ ivh4 a0 14 ∧ ivh4 a0 14 ≤ 2147483647 from W4.int ty1 14) (show ivh4 a0 14 = iv a0 14 from fl4.i t_a0 rfl 14) (fun ri15 ie7 => ?_)
            refine c_get (k := 14) C ck_12 dX11_readings_103 w2_58 (by decide) ty1 rfl rfl (by decide) rfl ?_
            refine c_iconst C dX11_readings_106 ?_
            obtain ⟨zz1, hzz1, ezz1⟩ := iI_of (iI (ivh4 a0 14) ^^^ iI (-1))
            refine c_ixor (w := iI zz1) C dX11_readings_107 ezz1 ?_
            obtain ⟨zz2, hzz2, ezz2⟩ := iI_of (iI 255 &&& iI zz1)
            refine c_iand (w := iI zz2) C dX11_readings_108 ezz2 ?_
            refine c_iload_n (j := 5) C dX11_readings_109 rfl ?_
            refine hv3 (xl4.ty tsk17) (xl4.ty tob2) (Phi.le W4 sk1) (fun ty2 ty3 pl1 => ?_)
            refine d_callV (As := [.ref ob2, .int (iI zz2), .int (iI n)]) (rest := []) C hM (C_collect (a0 := (sk 17)) (a1 := ob2) (x := zz2) (y := n) W4 sk1 ty2 ty3 (by omega) (by omega) ) dX11_readings_110 kV_X11_356 rfl ty2 rfl rfl (by decide) ck_5 rfl (Nat.le_of_ble_eq_true rfl) ⟨(Nat.le_of_ble_eq_true rfl), (Nat.le_of_ble_eq_true rfl)⟩ hph pl1 (show 0 + 0 = 0 from rfl) (by decide) (fun rh5 Lh5 clh5 lnh5 ivh5 rvh5 h5 => ?_)
            obtain ⟨rfl, xl5, fl5, W5, exf5⟩ := h5
            refine hv23 (F2.call X1 fl5 rfl) (MRK.call mr2 W4 sk1 xl5 fl5 rfl rfl) (xl4.ty tsk2) (xl4.ty tsk3) (xl4.ty tsk4) (xl4.ty tsk5) (xl4.ty tsk6) (xl4.ty tsk7) (xl4.ty tsk8) (xl4.ty tsk9) (xl4.ty tsk10) (xl4.ty tsk13) (xl4.ty tsk14) (xl4.ty tsk15) (xl4.ty tsk16) (xl4.ty tsk22) (xl4.ty tsk23) (xl4.ty tsk24) (xl4.ty tsk25) (xl4.ty tob1) (xl4.ty trb2) (X1.trans xl5) (xl5.skl sk1) (fun F3 mr3 ty4 ty5 ty6 ty7 ty8 ty9 ty10 ty11 ty12 ty13 ty14 ty15 ty16 ty17 ty18 ty19 ty20 ty21 ty22 X2 sk2 => ?_)
            refine c_st (st2 := []) rfl ?_
            refine c_aload_n (j := 2) (x := a0) C dX11_readings_113 rfl ?_
            refine c_aload_n (j := 2) (x := a0) C dX11_readings_114 rfl ?_
            refine hv2 (xl5.ty ty1) (show rvh5 a0 8 = rvh4 a0 8 from (fl5.r ty1 rfl 8)) (fun ty23 re1 => ?_)
            rw [rq4] at re1
            refine c_getr (k := 8) C ck_12 dX11_readings_115 w2_52 (by decide) ty23 rfl rfl (by decide) rfl re1 ?_
            refine c_st (st2 := [.ref (sk 17), .ref a0]) rfl ?_
            have ty24 := xl5.ty ty2
            have ri16 : 0 ≤ ivh5 (sk 17) 5 ∧ ivh5 (sk 17) 5 ≤ 50 := W5.int ty24 5
            refine c_get (k := 5) C ck_5 dX11_readings_118 w1_235 (by decide) ty24 rfl rfl (by decide) rfl ?_
            have pl2 := Phi.le W5 sk2
            refine d_callV (As := [.int (iI (ivh5 (sk 17) 5))]) (rest := []) C hM (C_done (a0 := a0) (x := ivh5 (sk 17) 5) W5 sk2 ty23 (by omega) ) dX11_readings_121 kV_X11_109 rfl ty23 rfl rfl (by decide) ck_12 rfl (Nat.le_of_ble_eq_true rfl) ⟨(Nat.le_of_ble_eq_true rfl), (Nat.le_of_ble_eq_true rfl)⟩ hph pl2 (show 0 + 0 = 0 from rfl) (by decide) (fun rh6 Lh6 clh6 lnh6 ivh6 rvh6 h6 => ?_)
            obtain ⟨f6, rfl, rfl, rfl, rfl, rfl, fl6, W6, rgf6, exf6, kp11f6, kp12f6, kp13f6, kp14f6, kp15f6, kp16f6⟩ := h6
            refine hv19 (show 1 ≤ ivh5 a0 11 ∧ ivh5 a0 11 ≤ 100 from W5.int ty23 11) (show ivh5 a0 11 = ivh4 a0 11 from fl5.i ty1 rfl 11) (show ivh4 a0 11 = iv a0 11 from fl4.i t_a0 rfl 11) (show 1 ≤ ivh5 a0 12 ∧ ivh5 a0 12 ≤ 50 from W5.int ty23 12) (show ivh5 a0 12 = ivh4 a0 12 from fl5.i ty1 rfl 12) (show ivh4 a0 12 = iv a0 12 from fl4.i t_a0 rfl 12) (show (-2147483648) ≤ ivh5 a0 13 ∧ ivh5 a0 13 ≤ 2147483647 from W5.int ty23 13) (show ivh5 a0 13 = ivh4 a0 13 from fl5.i ty1 rfl 13) (show ivh4 a0 13 = iv a0 13 from fl4.i t_a0 rfl 13) (show (-2147483648) ≤ ivh5 a0 14 ∧ ivh5 a0 14 ≤ 2147483647 from W5.int ty23 14) (show ivh5 a0 14 = ivh4 a0 14 from fl5.i ty1 rfl 14) (show (-2147483648) ≤ ivh5 a0 15 ∧ ivh5 a0 15 ≤ 2147483647 from W5.int ty23 15) (show ivh5 a0 15 = ivh4 a0 15 from fl5.i ty1 rfl 15) (show ivh4 a0 15 = iv a0 15 from fl4.i t_a0 rfl 15) (show (-2147483648) ≤ ivh5 a0 16 ∧ ivh5 a0 16 ≤ 2147483647 from W5.int ty23 16) (show ivh5 a0 16 = ivh4 a0 16 from fl5.i ty1 rfl 16) (show ivh4 a0 16 = iv a0 16 from fl4.i t_a0 rfl 16) (F3.call X2 fl6 rfl) (MRK.call mr3 W5 sk2 XT.refl fl6 rfl rfl) (fun ri17 ie9 ie10 ri18 ie11 ie12 ri19 ie13 ie14 ri20 ie15 ri21 ie16 ie17 ri22 ie18 ie19 F4 mr4 => ?_)
            refine c_st (st2 := [.int (iI f6)]) rfl ?_
            refine hv13 (show ivh6 a0 11 = ivh5 a0 11 from kp11f6) (show ivh6 a0 12 = ivh5 a0 12 from kp12f6) (show ivh6 a0 13 = ivh5 a0 13 from kp13f6) (show ivh6 a0 14 = ivh5 a0 14 from kp14f6) (show ivh6 a0 15 = ivh5 a0 15 from kp15f6) (show ivh6 a0 16 = ivh5 a0 16 from kp16f6) (show f6 = (ivh5 (sk 17) 5) from exf6) (show 1 ≤ ivh6 a0 11 ∧ ivh6 a0 11 ≤ 100 from W6.int ty23 11) (show 1 ≤ ivh6 a0 12 ∧ ivh6 a0 12 ≤ 50 from W6.int ty23 12) (show (-2147483648) ≤ ivh6 a0 13 ∧ ivh6 a0 13 ≤ 2147483647 from W6.int ty23 13) (show (-2147483648) ≤ ivh6 a0 14 ∧ ivh6 a0 14 ≤ 2147483647 from W6.int ty23 14) (show (-2147483648) ≤ ivh6 a0 15 ∧ ivh6 a0 15 ≤ 2147483647 from W6.int ty23 15) (show (-2147483648) ≤ ivh6 a0 16 ∧ ivh6 a0 16 ≤ 2147483647 from W6.int ty23 16) (fun gk11f6 gk12f6 gk13f6 gk14f6 gk15f6 gk16f6 gf6 ri23 ri24 ri25 ri26 ri27 ri28 => ?_)
            exact c_iret C dX11_readings_124 rfl (by decide) (rom0 hph pl2 (by decide)) ⟨f6, rfl, X2, F4, W6, ⟨by omega, by omega⟩, trivial, (gk11f6.trans (ie9.trans ie10)), (gk12f6.trans (ie11.trans ie12)), (gk13f6.trans (ie13.trans ie14)), (gk14f6.trans (ie15.trans ie7)), (gk15f6.trans (ie16.trans ie17)), (gk16f6.trans (ie18.trans ie19)), (Eq.trans (show rvh5 a0 9 = rvh4 a0 9 from (fl5.r ty1 rfl 9)) (show rvh4 a0 9 = rv a0 9 from (fl4.r t_a0 rfl 9))), (Eq.trans (show rvh5 a0 10 = rvh4 a0 10 from (fl5.r ty1 rfl 10)) (show rvh4 a0 10 = rv a0 10 from (fl4.r t_a0 rfl 10)))⟩
          · refine c_aload_n (j := 2) (x := a0) C dX11_readings_77 rfl ?_
            refine c_bipush (z := 6) C dX11_readings_78 (by decide) ?_
            refine d_callV (As := [.int (iI 6)]) (rest := []) C hM (C_refuse (a0 := a0) (x := 6) hW hS t_a0 ⟨by decide, by decide⟩ ) dX11_readings_80 kV_X11_102 rfl t_a0 rfl rfl (by decide) ck_12 rfl (Nat.le_of_ble_eq_true rfl) ⟨(Nat.le_of_ble_eq_true rfl), (Nat.le_of_ble_eq_true rfl)⟩ hph hph (show 0 + 0 = 0 from rfl) (by decide) (fun rh7 Lh7 clh7 lnh7 ivh7 rvh7 h7 => ?_)
            obtain ⟨f7, rfl, rfl, rfl, rfl, rfl, fl7, W7, rgf7, exf7, kp11f7, kp12f7, kp13f7, kp14f7, kp15f7, kp16f7⟩ := h7
            refine hv8 (show 1 ≤ iv a0 11 ∧ iv a0 11 ≤ 100 from hW.int t_a0 11) (show 1 ≤ iv a0 12 ∧ iv a0 12 ≤ 50 from hW.int t_a0 12) (show (-2147483648) ≤ iv a0 13 ∧ iv a0 13 ≤ 2147483647 from hW.int t_a0 13) (show (-2147483648) ≤ iv a0 14 ∧ iv a0 14 ≤ 2147483647 from hW.int t_a0 14) (show (-2147483648) ≤ iv a0 15 ∧ iv a0 15 ≤ 2147483647 from hW.int t_a0 15) (show (-2147483648) ≤ iv a0 16 ∧ iv a0 16 ≤ 2147483647 from hW.int t_a0 16) (hF0.call hX0 fl7 rfl) (MRK.call hmr hW hS XT.refl fl7 rfl rfl) (fun ri29 ri30 ri31 ri32 ri33 ri34 F5 mr5 => ?_)
            refine c_st (st2 := [.int (iI f7)]) rfl ?_
            refine hv13 (show ivh7 a0 11 = iv a0 11 from kp11f7) (show ivh7 a0 12 = iv a0 12 from kp12f7) (show ivh7 a0 13 = iv a0 13 from kp13f7) (show ivh7 a0 14 = iv a0 14 from kp14f7) (show ivh7 a0 15 = iv a0 15 from kp15f7) (show ivh7 a0 16 = iv a0 16 from kp16f7) (show f7 = -1 from exf7) (show 1 ≤ ivh7 a0 11 ∧ ivh7 a0 11 ≤ 100 from W7.int t_a0 11) (show 1 ≤ ivh7 a0 12 ∧ ivh7 a0 12 ≤ 50 from W7.int t_a0 12) (show (-2147483648) ≤ ivh7 a0 13 ∧ ivh7 a0 13 ≤ 2147483647 from W7.int t_a0 13) (show (-2147483648) ≤ ivh7 a0 14 ∧ ivh7 a0 14 ≤ 2147483647 from W7.int t_a0 14) (show (-2147483648) ≤ ivh7 a0 15 ∧ ivh7 a0 15 ≤ 2147483647 from W7.int t_a0 15) (show (-2147483648) ≤ ivh7 a0 16 ∧ ivh7 a0 16 ≤ 2147483647 from W7.int t_a0 16) (fun gk11f7 gk12f7 gk13f7 gk14f7 gk15f7 gk16f7 gf7 ri35 ri36 ri37 ri38 ri39 ri40 => ?_)
            exact c_iret C dX11_readings_83 rfl (by decide) (rom0 hph hph (by decide)) ⟨f7, rfl, hX0, F5, W7, ⟨by omega, by omega⟩, trivial, gk11f7, gk12f7, gk13f7, gk14f7, gk15f7, gk16f7, rfl, rfl⟩
        · subst oq2
          refine c_lv (lv2 := [(5, .null), (4, .ref ob1), (0, .ref a0), (1, .int (iI i)), (2, .int (iI j)), (3, .int (iI n))]) [0, 1, 2, 3, 4, 5] rfl ?_
          refine c_st (st2 := []) rfl ?_
          refine c_aload_n (j := 2) (x := a0) C dX11_readings_54 rfl ?_
          refine c_aload_n (j := 2) (x := a0) C dX11_readings_55 rfl ?_
          refine c_getr (k := 9) C ck_12 dX11_readings_56 w2_53 (by decide) t_a0 rfl rfl (by decide) rfl rq2 ?_
          refine c_st (st2 := [.ref rb2, .ref a0]) rfl ?_
          refine c_iload_n (j := 4) C dX11_readings_59 rfl ?_
          refine d_callV (As := [.int (iI j)]) (rest := [.ref a0]) C hM (C_whyNone (a0 := rb2) (i := j) hW hS trb2 (by omega) ) dX11_readings_60 kV_X11_292 rfl trb2 rfl rfl (by decide) ck_8 rfl (Nat.le_of_ble_eq_true rfl) ⟨(Nat.le_of_ble_eq_true rfl), (Nat.le_of_ble_eq_true rfl)⟩ hph hph (show 0 + 0 = 0 from rfl) (by decide) (fun rh8 Lh8 clh8 lnh8 ivh8 rvh8 h8 => ?_)
          obtain ⟨f8, rfl, rfl, rfl, rfl, rfl, rfl, rgf8, exf8⟩ := h8
          refine c_st (st2 := [.int (iI f8), .ref a0]) rfl ?_
          have gf8 : f8 = 1 ∨ f8 = 2 := exf8
          refine d_callV (As := [.int (iI f8)]) (rest := []) C hM (C_refuse (a0 := a0) (x := f8) hW hS t_a0 (by omega) ) dX11_readings_63 kV_X11_102 rfl t_a0 rfl rfl (by decide) ck_12 rfl (Nat.le_of_ble_eq_true rfl) ⟨(Nat.le_of_ble_eq_true rfl), (Nat.le_of_ble_eq_true rfl)⟩ hph hph (show 0 + 0 = 0 from rfl) (by decide) (fun rh9 Lh9 clh9 lnh9 ivh9 rvh9 h9 => ?_)
          obtain ⟨f9, rfl, rfl, rfl, rfl, rfl, fl9, W9, rgf9, exf9, kp11f9, kp12f9, kp13f9, kp14f9, kp15f9, kp16f9⟩ := h9
          refine hv8 (show 1 ≤ iv a0 11 ∧ iv a0 11 ≤ 100 from hW.int t_a0 11) (show 1 ≤ iv a0 12 ∧ iv a0 12 ≤ 50 from hW.int t_a0 12) (show (-2147483648) ≤ iv a0 13 ∧ iv a0 13 ≤ 2147483647 from hW.int t_a0 13) (show (-2147483648) ≤ iv a0 14 ∧ iv a0 14 ≤ 2147483647 from hW.int t_a0 14) (show (-2147483648) ≤ iv a0 15 ∧ iv a0 15 ≤ 2147483647 from hW.int t_a0 15) (show (-2147483648) ≤ iv a0 16 ∧ iv a0 16 ≤ 2147483647 from hW.int t_a0 16) (hF0.call hX0 fl9 rfl) (MRK.call hmr hW hS XT.refl fl9 rfl rfl) (fun ri41 ri42 ri43 ri44 ri45 ri46 F6 mr6 => ?_)
          refine c_st (st2 := [.int (iI f9)]) rfl ?_
          refine hv13 (show ivh9 a0 11 = iv a0 11 from kp11f9) (show ivh9 a0 12 = iv a0 12 from kp12f9) (show ivh9 a0 13 = iv a0 13 from kp13f9) (show ivh9 a0 14 = iv a0 14 from kp14f9) (show ivh9 a0 15 = iv a0 15 from kp15f9) (show ivh9 a0 16 = iv a0 16 from kp16f9) (show f9 = -1 from exf9) (show 1 ≤ ivh9 a0 11 ∧ ivh9 a0 11 ≤ 100 from W9.int t_a0 11) (show 1 ≤ ivh9 a0 12 ∧ ivh9 a0 12 ≤ 50 from W9.int t_a0 12) (show (-2147483648) ≤ ivh9 a0 13 ∧ ivh9 a0 13 ≤ 2147483647 from W9.int t_a0 13) (show (-2147483648) ≤ ivh9 a0 14 ∧ ivh9 a0 14 ≤ 2147483647 from W9.int t_a0 14) (show (-2147483648) ≤ ivh9 a0 15 ∧ ivh9 a0 15 ≤ 2147483647 from W9.int t_a0 15) (show (-2147483648) ≤ ivh9 a0 16 ∧ ivh9 a0 16 ≤ 2147483647 from W9.int t_a0 16) (fun gk11f9 gk12f9 gk13f9 gk14f9 gk15f9 gk16f9 gf9 ri47 ri48 ri49 ri50 ri51 ri52 => ?_)
          exact c_iret C dX11_readings_66 rfl (by decide) (rom0 hph hph (by decide)) ⟨f9, rfl, hX0, F6, W9, ⟨by omega, by omega⟩, trivial, gk11f9, gk12f9, gk13f9, gk14f9, gk15f9, gk16f9, rfl, rfl⟩
      · subst oq1
        refine c_lv (lv2 := [(4, .null), (0, .ref a0), (1, .int (iI i)), (2, .int (iI j)), (3, .int (iI n))]) [0, 1, 2, 3, 4] rfl ?_
        refine c_st (st2 := []) rfl ?_
        refine c_aload_n (j := 1) (x := a0) C dX11_readings_33 rfl ?_
        refine c_iconst C dX11_readings_34 ?_
        refine d_callV (As := [.int (iI 3)]) (rest := []) C hM (C_refuse (a0 := a0) (x := 3) hW hS t_a0 ⟨by decide, by decide⟩ ) dX11_readings_35 kV_X11_102 rfl t_a0 rfl rfl (by decide) ck_12 rfl (Nat.le_of_ble_eq_true rfl) ⟨(Nat.le_of_ble_eq_true rfl), (Nat.le_of_ble_eq_true rfl)⟩ hph hph (show 0 + 0 = 0 from rfl) (by decide) (fun rh10 Lh10 clh10 lnh10 ivh10 rvh10 h10 => ?_)
        obtain ⟨f10, rfl, rfl, rfl, rfl, rfl, fl10, W10, rgf10, exf10, kp11f10, kp12f10, kp13f10, kp14f10, kp15f10, kp16f10⟩ := h10
        refine hv8 (show 1 ≤ iv a0 11 ∧ iv a0 11 ≤ 100 from hW.int t_a0 11) (show 1 ≤ iv a0 12 ∧ iv a0 12 ≤ 50 from hW.int t_a0 12) (show (-2147483648) ≤ iv a0 13 ∧ iv a0 13 ≤ 2147483647 from hW.int t_a0 13) (show (-2147483648) ≤ iv a0 14 ∧ iv a0 14 ≤ 2147483647 from hW.int t_a0 14) (show (-2147483648) ≤ iv a0 15 ∧ iv a0 15 ≤ 2147483647 from hW.int t_a0 15) (show (-2147483648) ≤ iv a0 16 ∧ iv a0 16 ≤ 2147483647 from hW.int t_a0 16) (hF0.call hX0 fl10 rfl) (MRK.call hmr hW hS XT.refl fl10 rfl rfl) (fun ri53 ri54 ri55 ri56 ri57 ri58 F7 mr7 => ?_)
        refine c_st (st2 := [.int (iI f10)]) rfl ?_
        refine hv13 (show ivh10 a0 11 = iv a0 11 from kp11f10) (show ivh10 a0 12 = iv a0 12 from kp12f10) (show ivh10 a0 13 = iv a0 13 from kp13f10) (show ivh10 a0 14 = iv a0 14 from kp14f10) (show ivh10 a0 15 = iv a0 15 from kp15f10) (show ivh10 a0 16 = iv a0 16 from kp16f10) (show f10 = -1 from exf10) (show 1 ≤ ivh10 a0 11 ∧ ivh10 a0 11 ≤ 100 from W10.int t_a0 11) (show 1 ≤ ivh10 a0 12 ∧ ivh10 a0 12 ≤ 50 from W10.int t_a0 12) (show (-2147483648) ≤ ivh10 a0 13 ∧ ivh10 a0 13 ≤ 2147483647 from W10.int t_a0 13) (show (-2147483648) ≤ ivh10 a0 14 ∧ ivh10 a0 14 ≤ 2147483647 from W10.int t_a0 14) (show (-2147483648) ≤ ivh10 a0 15 ∧ ivh10 a0 15 ≤ 2147483647 from W10.int t_a0 15) (show (-2147483648) ≤ ivh10 a0 16 ∧ ivh10 a0 16 ≤ 2147483647 from W10.int t_a0 16) (fun gk11f10 gk12f10 gk13f10 gk14f10 gk15f10 gk16f10 gf10 ri59 ri60 ri61 ri62 ri63 ri64 => ?_)
        exact c_iret C dX11_readings_38 rfl (by decide) (rom0 hph hph (by decide)) ⟨f10, rfl, hX0, F7, W10, ⟨by omega, by omega⟩, trivial, gk11f10, gk12f10, gk13f10, gk14f10, gk15f10, gk16f10, rfl, rfl⟩
    · refine c_aload_n (j := 0) (x := a0) C dX11_readings_11 rfl ?_
      refine c_bipush (z := 6) C dX11_readings_12 (by decide) ?_
      refine d_callV (As := [.int (iI 6)]) (rest := []) C hM (C_refuse (a0 := a0) (x := 6) hW hS t_a0 ⟨by decide, by decide⟩ ) dX11_readings_14 kV_X11_102 rfl t_a0 rfl rfl (by decide) ck_12 rfl (Nat.le_of_ble_eq_true rfl) ⟨(Nat.le_of_ble_eq_true rfl), (Nat.le_of_ble_eq_true rfl)⟩ hph hph (show 0 + 0 = 0 from rfl) (by decide) (fun rh11 Lh11 clh11 lnh11 ivh11 rvh11 h11 => ?_)
      obtain ⟨f11, rfl, rfl, rfl, rfl, rfl, fl11, W11, rgf11, exf11, kp11f11, kp12f11, kp13f11, kp14f11, kp15f11, kp16f11⟩ := h11
      refine hv8 (show 1 ≤ iv a0 11 ∧ iv a0 11 ≤ 100 from hW.int t_a0 11) (show 1 ≤ iv a0 12 ∧ iv a0 12 ≤ 50 from hW.int t_a0 12) (show (-2147483648) ≤ iv a0 13 ∧ iv a0 13 ≤ 2147483647 from hW.int t_a0 13) (show (-2147483648) ≤ iv a0 14 ∧ iv a0 14 ≤ 2147483647 from hW.int t_a0 14) (show (-2147483648) ≤ iv a0 15 ∧ iv a0 15 ≤ 2147483647 from hW.int t_a0 15) (show (-2147483648) ≤ iv a0 16 ∧ iv a0 16 ≤ 2147483647 from hW.int t_a0 16) (hF0.call hX0 fl11 rfl) (MRK.call hmr hW hS XT.refl fl11 rfl rfl) (fun ri65 ri66 ri67 ri68 ri69 ri70 F8 mr8 => ?_)
      refine c_st (st2 := [.int (iI f11)]) rfl ?_
      refine hv13 (show ivh11 a0 11 = iv a0 11 from kp11f11) (show ivh11 a0 12 = iv a0 12 from kp12f11) (show ivh11 a0 13 = iv a0 13 from kp13f11) (show ivh11 a0 14 = iv a0 14 from kp14f11) (show ivh11 a0 15 = iv a0 15 from kp15f11) (show ivh11 a0 16 = iv a0 16 from kp16f11) (show f11 = -1 from exf11) (show 1 ≤ ivh11 a0 11 ∧ ivh11 a0 11 ≤ 100 from W11.int t_a0 11) (show 1 ≤ ivh11 a0 12 ∧ ivh11 a0 12 ≤ 50 from W11.int t_a0 12) (show (-2147483648) ≤ ivh11 a0 13 ∧ ivh11 a0 13 ≤ 2147483647 from W11.int t_a0 13) (show (-2147483648) ≤ ivh11 a0 14 ∧ ivh11 a0 14 ≤ 2147483647 from W11.int t_a0 14) (show (-2147483648) ≤ ivh11 a0 15 ∧ ivh11 a0 15 ≤ 2147483647 from W11.int t_a0 15) (show (-2147483648) ≤ ivh11 a0 16 ∧ ivh11 a0 16 ≤ 2147483647 from W11.int t_a0 16) (fun gk11f11 gk12f11 gk13f11 gk14f11 gk15f11 gk16f11 gf11 ri71 ri72 ri73 ri74 ri75 ri76 => ?_)
      exact c_iret C dX11_readings_17 rfl (by decide) (rom0 hph hph (by decide)) ⟨f11, rfl, hX0, F8, W11, ⟨by omega, by omega⟩, trivial, gk11f11, gk12f11, gk13f11, gk14f11, gk15f11, gk16f11, rfl, rfl⟩
set_option maxHeartbeats 4000000 in
set_option maxRecDepth 100000 in
theorem C_reading {l : Launch} {G : GT} {mi : Nat} {sk : Nat → Nat} {L : List Nat} {cl ln : Nat → Nat} {iv : Nat → Nat → Int} {rv : Nat → Nat → Option Nat}  {a0 : Nat} {i : Int} {j : Int} (hW : WT (g0 G) sk L cl ln iv rv) (hS : SKL sk L cl) (t_a0 : ty L cl a0 1) (h_i : -2147483648 ≤ i ∧ i ≤ 2147483647) (h_j : -2147483648 ≤ j ∧ j ≤ 2147483647)  : Mc l G mi (Phi (g0 G) sk) PHM yX11_reading cX11_reading 4 (some .int) 2 [.ref a0, .int (iI i), .int (iI j)] L cl ln iv rv 0 (fun v L2 cl2 ln2 iv2 rv2 => ∃ f : Int, v = some (.int (iI f)) ∧ L = L2 ∧ cl = cl2 ∧ ln = ln2 ∧ rv = rv2 ∧ fT [1] L cl iv rv iv2 rv2 ∧ WT (g0 G) sk L2 cl2 ln2 iv2 rv2 ∧ (-2147483648 ≤ f ∧ f ≤ 2147483647) ∧ (True) ∧ iv2 a0 11 = iv a0 11 ∧ iv2 a0 12 = iv a0 12 ∧ iv2 a0 13 = iv a0 13 ∧ iv2 a0 14 = iv a0 14 ∧ iv2 a0 15 = iv a0 15 ∧ iv2 a0 16 = iv a0 16) := by
  refine Mc.mk (by decide) (Nat.le_of_ble_eq_true rfl) ?_
  intro p e s m args below meth c A C hM
  refine hv21 (Phi.le hW hS) (show ty L cl (sk 2) 2 from ⟨(hS 2 rfl).1, by rw [(hS 2 rfl).2]; rfl⟩) (show ty L cl (sk 3) 3 from ⟨(hS 3 rfl).1, by rw [(hS 3 rfl).2]; rfl⟩) (show ty L cl (sk 4) 4 from ⟨(hS 4 rfl).1, by rw [(hS 4 rfl).2]; rfl⟩) (show ty L cl (sk 5) 5 from ⟨(hS 5 rfl).1, by rw [(hS 5 rfl).2]; rfl⟩) (show ty L cl (sk 6) 6 from ⟨(hS 6 rfl).1, by rw [(hS 6 rfl).2]; rfl⟩) (show ty L cl (sk 7) 7 from ⟨(hS 7 rfl).1, by rw [(hS 7 rfl).2]; rfl⟩) (show ty L cl (sk 8) 8 from ⟨(hS 8 rfl).1, by rw [(hS 8 rfl).2]; rfl⟩) (show ty L cl (sk 9) 9 from ⟨(hS 9 rfl).1, by rw [(hS 9 rfl).2]; rfl⟩) (show ty L cl (sk 10) 10 from ⟨(hS 10 rfl).1, by rw [(hS 10 rfl).2]; rfl⟩) (show ty L cl (sk 13) 13 from ⟨(hS 13 rfl).1, by rw [(hS 13 rfl).2]; rfl⟩) (show ty L cl (sk 14) 14 from ⟨(hS 14 rfl).1, by rw [(hS 14 rfl).2]; rfl⟩) (show ty L cl (sk 15) 15 from ⟨(hS 15 rfl).1, by rw [(hS 15 rfl).2]; rfl⟩) (show ty L cl (sk 16) 16 from ⟨(hS 16 rfl).1, by rw [(hS 16 rfl).2]; rfl⟩) (show ty L cl (sk 17) 17 from ⟨(hS 17 rfl).1, by rw [(hS 17 rfl).2]; rfl⟩) (show ty L cl (sk 22) 22 from ⟨(hS 22 rfl).1, by rw [(hS 22 rfl).2]; rfl⟩) (show ty L cl (sk 23) 23 from ⟨(hS 23 rfl).1, by rw [(hS 23 rfl).2]; rfl⟩) (show ty L cl (sk 24) 24 from ⟨(hS 24 rfl).1, by rw [(hS 24 rfl).2]; rfl⟩) (show ty L cl (sk 25) 25 from ⟨(hS 25 rfl).1, by rw [(hS 25 rfl).2]; rfl⟩) (show XT L cl ln L cl ln from XT.refl) (show fT [1] L cl iv rv iv rv from fT.refl) (fun hph tsk2 tsk3 tsk4 tsk5 tsk6 tsk7 tsk8 tsk9 tsk10 tsk13 tsk14 tsk15 tsk16 tsk17 tsk22 tsk23 tsk24 tsk25 hX0 hF0 => ?_)
  refine c_aload_n (j := 0) (x := a0) C dX11_reading_0 rfl ?_
  obtain ⟨rb1, rq1, trb1⟩ := hW.ref t_a0 8 rfl rfl rfl
  have erb1 := hW.sk trb1 (by decide) rfl
  subst erb1
  refine c_getr (k := 8) C ck_12 dX11_reading_1 w2_52 (by decide) t_a0 rfl rfl (by decide) rfl rq1 ?_
  refine c_st (st2 := [.ref (sk 17)]) rfl ?_
  refine c_iload_n (j := 1) C dX11_reading_4 rfl ?_
  refine c_iload_n (j := 2) C dX11_reading_5 rfl ?_
  refine d_callV (As := [.int (iI i), .int (iI j)]) (rest := []) C hM (C_byteOf (a0 := (sk 17)) (i := i) (j := j) hW hS tsk17 (by omega) (by omega) ) dX11_reading_6 kV_X11_364 rfl tsk17 rfl rfl (by decide) ck_5 rfl (Nat.le_of_ble_eq_true rfl) ⟨(Nat.le_of_ble_eq_true rfl), (Nat.le_of_ble_eq_true rfl)⟩ hph hph (show 0 + 0 = 0 from rfl) (by decide) (fun rh1 Lh1 clh1 lnh1 ivh1 rvh1 h1 => ?_)
  obtain ⟨f1, rfl, rfl, rfl, rfl, rfl, rfl, rgf1, exf1⟩ := h1
  refine c_st (st2 := [.int (iI f1)]) rfl ?_
  refine c_istore_n (lv2 := [(3, .int (iI f1)), (0, .ref a0), (1, .int (iI i)), (2, .int (iI j))]) C dX11_reading_9 (by decide) rfl ?_
  refine c_iload_n (j := 0) C dX11_reading_10 rfl ?_
  refine c_if_ge (tgt := 22) C ⟨by omega, by omega⟩ dX11_reading_11 (by decide) (fun c1 => ?_) (fun c1 => ?_)
  · refine c_aload_n (j := 1) (x := a0) C dX11_reading_22 rfl ?_
    refine c_iload_n (j := 0) C dX11_reading_23 rfl ?_
    refine d_callV (As := [.int (iI f1)]) (rest := []) C hM (C_done (a0 := a0) (x := f1) hW hS t_a0 (by omega) ) dX11_reading_24 kV_X11_109 rfl t_a0 rfl rfl (by decide) ck_12 rfl (Nat.le_of_ble_eq_true rfl) ⟨(Nat.le_of_ble_eq_true rfl), (Nat.le_of_ble_eq_true rfl)⟩ hph hph (show 0 + 0 = 0 from rfl) (by decide) (fun rh2 Lh2 clh2 lnh2 ivh2 rvh2 h2 => ?_)
    obtain ⟨f2, rfl, rfl, rfl, rfl, rfl, fl2, W2, rgf2, exf2, kp11f2, kp12f2, kp13f2, kp14f2, kp15f2, kp16f2⟩ := h2
    refine hv7 (show 1 ≤ iv a0 11 ∧ iv a0 11 ≤ 100 from hW.int t_a0 11) (show 1 ≤ iv a0 12 ∧ iv a0 12 ≤ 50 from hW.int t_a0 12) (show (-2147483648) ≤ iv a0 13 ∧ iv a0 13 ≤ 2147483647 from hW.int t_a0 13) (show (-2147483648) ≤ iv a0 14 ∧ iv a0 14 ≤ 2147483647 from hW.int t_a0 14) (show (-2147483648) ≤ iv a0 15 ∧ iv a0 15 ≤ 2147483647 from hW.int t_a0 15) (show (-2147483648) ≤ iv a0 16 ∧ iv a0 16 ≤ 2147483647 from hW.int t_a0 16) (hF0.call hX0 fl2 rfl) (fun ri1 ri2 ri3 ri4 ri5 ri6 F1 => ?_)
    refine c_st (st2 := [.int (iI f2)]) rfl ?_
    refine hv13 (show ivh2 a0 11 = iv a0 11 from kp11f2) (show ivh2 a0 12 = iv a0 12 from kp12f2) (show ivh2 a0 13 = iv a0 13 from kp13f2) (show ivh2 a0 14 = iv a0 14 from kp14f2) (show ivh2 a0 15 = iv a0 15 from kp15f2) (show ivh2 a0 16 = iv a0 16 from kp16f2) (show f2 = f1 from exf2) (show 1 ≤ ivh2 a0 11 ∧ ivh2 a0 11 ≤ 100 from W2.int t_a0 11) (show 1 ≤ ivh2 a0 12 ∧ ivh2 a0 12 ≤ 50 from W2.int t_a0 12) (show (-2147483648) ≤ ivh2 a0 13 ∧ ivh2 a0 13 ≤ 2147483647 from W2.int t_a0 13) (show (-2147483648) ≤ ivh2 a0 14 ∧ ivh2 a0 14 ≤ 2147483647 from W2.int t_a0 14) (show (-2147483648) ≤ ivh2 a0 15 ∧ ivh2 a0 15 ≤ 2147483647 from W2.int t_a0 15) (show (-2147483648) ≤ ivh2 a0 16 ∧ ivh2 a0 16 ≤ 2147483647 from W2.int t_a0 16) (fun gk11f2 gk12f2 gk13f2 gk14f2 gk15f2 gk16f2 gf2 ri7 ri8 ri9 ri10 ri11 ri12 => ?_)
    exact c_iret C dX11_reading_27 rfl (by decide) (rom0 hph hph (by decide)) ⟨f2, rfl, rfl, rfl, rfl, rfl, F1, W2, ⟨by omega, by omega⟩, trivial, gk11f2, gk12f2, gk13f2, gk14f2, gk15f2, gk16f2⟩
  · refine c_aload_n (j := 1) (x := a0) C dX11_reading_14 rfl ?_
    refine c_iconst C dX11_reading_15 ?_
    refine d_callV (As := [.int (iI 2)]) (rest := []) C hM (C_refuse (a0 := a0) (x := 2) hW hS t_a0 ⟨by decide, by decide⟩ ) dX11_reading_16 kV_X11_102 rfl t_a0 rfl rfl (by decide) ck_12 rfl (Nat.le_of_ble_eq_true rfl) ⟨(Nat.le_of_ble_eq_true rfl), (Nat.le_of_ble_eq_true rfl)⟩ hph hph (show 0 + 0 = 0 from rfl) (by decide) (fun rh3 Lh3 clh3 lnh3 ivh3 rvh3 h3 => ?_)
    obtain ⟨f3, rfl, rfl, rfl, rfl, rfl, fl3, W3, rgf3, exf3, kp11f3, kp12f3, kp13f3, kp14f3, kp15f3, kp16f3⟩ := h3
    refine hv7 (show 1 ≤ iv a0 11 ∧ iv a0 11 ≤ 100 from hW.int t_a0 11) (show 1 ≤ iv a0 12 ∧ iv a0 12 ≤ 50 from hW.int t_a0 12) (show (-2147483648) ≤ iv a0 13 ∧ iv a0 13 ≤ 2147483647 from hW.int t_a0 13) (show (-2147483648) ≤ iv a0 14 ∧ iv a0 14 ≤ 2147483647 from hW.int t_a0 14) (show (-2147483648) ≤ iv a0 15 ∧ iv a0 15 ≤ 2147483647 from hW.int t_a0 15) (show (-2147483648) ≤ iv a0 16 ∧ iv a0 16 ≤ 2147483647 from hW.int t_a0 16) (hF0.call hX0 fl3 rfl) (fun ri13 ri14 ri15 ri16 ri17 ri18 F2 => ?_)
    refine c_st (st2 := [.int (iI f3)]) rfl ?_
    refine hv7 (show ivh3 a0 11 = iv a0 11 from kp11f3) (show ivh3 a0 12 = iv a0 12 from kp12f3) (show ivh3 a0 13 = iv a0 13 from kp13f3) (show ivh3 a0 14 = iv a0 14 from kp14f3) (show ivh3 a0 15 = iv a0 15 from kp15f3) (show ivh3 a0 16 = iv a0 16 from kp16f3) (show f3 = -1 from exf3) (fun gk11f3 gk12f3 gk13f3 gk14f3 gk15f3 gk16f3 gf3 => ?_)
    refine c_goto (tgt := 27) C dX11_reading_19 (by decide) ?_
    refine hv6 (show 1 ≤ ivh3 a0 11 ∧ ivh3 a0 11 ≤ 100 from W3.int t_a0 11) (show 1 ≤ ivh3 a0 12 ∧ ivh3 a0 12 ≤ 50 from W3.int t_a0 12) (show (-2147483648) ≤ ivh3 a0 13 ∧ ivh3 a0 13 ≤ 2147483647 from W3.int t_a0 13) (show (-2147483648) ≤ ivh3 a0 14 ∧ ivh3 a0 14 ≤ 2147483647 from W3.int t_a0 14) (show (-2147483648) ≤ ivh3 a0 15 ∧ ivh3 a0 15 ≤ 2147483647 from W3.int t_a0 15) (show (-2147483648) ≤ ivh3 a0 16 ∧ ivh3 a0 16 ≤ 2147483647 from W3.int t_a0 16) (fun ri19 ri20 ri21 ri22 ri23 ri24 => ?_)
    exact c_iret C dX11_reading_27 rfl (by decide) (rom0 hph hph (by decide)) ⟨f3, rfl, rfl, rfl, rfl, rfl, F2, W3, ⟨by omega, by omega⟩, trivial, gk11f3, gk12f3, gk13f3, gk14f3, gk15f3, gk16f3⟩
end
section
def NW (cs : List Nat) (L L2 : List Nat) (cl2 : Nat → Nat) : Prop := ∀ a ∈ L2, a ∈ L ∨ cs.contains (cl2 a) = true
section NWS
variable {g : Nat} {sk : Nat → Nat} {L L2 L3 : List Nat} {cl ln cl2 ln2 cl3 ln3 : Nat → Nat} {iv : Nat → Nat → Int} {rv : Nat → Nat → Option Nat} {q t : Nat} {cs cs2 : List Nat}
theorem NW.refl : NW [] L L cl := fun _ h => Or.inl h
theorem mem_c {x : Nat} (h : cs.contains x = true) : (t :: cs).contains x = true := by rw [List.contains_cons, h, Bool.or_true]
theorem NW.new (h : NW cs L L2 cl2) (hX : XT L2 cl2 ln2 (L2 ++ [q]) cl3 ln3) (hc : cl3 = va_up cl2 q t) : NW (t :: cs) L (L2 ++ [q]) cl3 := by
  intro a ha
  rcases List.mem_append.mp ha with h1 | h1
  · rcases h a h1 with w | w
    · exact Or.inl w
    · exact Or.inr (by rw [(hX a h1).2.1]; exact mem_c w)
  · rw [List.mem_singleton] at h1
    subst h1
    exact Or.inr (by rw [hc, va_up_self, List.contains_cons, beq_self_eq_true, Bool.true_or])
theorem NW.rt (h : NW cs L L2 cl2) (hc : cl3 = va_up cl2 q t) : NW (t :: cs) L L2 cl3 := by
  intro a ha
  by_cases e : a = q
  · subst e; exact Or.inr (by rw [hc, va_up_self, List.contains_cons, beq_self_eq_true, Bool.true_or])
  · rcases h a ha with w | w
    · exact Or.inl w
    · exact Or.inr (by rw [hc, va_up_ne _ _ e]; exact mem_c w)
theorem NW.call (h : NW cs L L2 cl2) (hX : XT L2 cl2 ln2 L3 cl3 ln3) (h2 : NW cs2 L2 L3 cl3) : NW (cs2 ++ cs) L L3 cl3 := by
  intro a ha
  rcases h2 a ha with w | w
  · rcases h a w with v | v
    · exact Or.inl v
    · exact Or.inr (by rw [(hX a w).2.1]; exact List.contains_iff_mem.mpr (List.mem_append_right _ (List.contains_iff_mem.mp v)))
  · exact Or.inr (List.contains_iff_mem.mpr (List.mem_append_left _ (List.contains_iff_mem.mp w)))
theorem NW.sub (h : NW cs L L2 cl2) (hs : cs.all (fun t => cs2.contains t) = true) : NW cs2 L L2 cl2 := by
  intro a ha
  rcases h a ha with w | w
  · exact Or.inl w
  · exact Or.inr (List.all_eq_true.mp hs _ (List.contains_iff_mem.mp w))
theorem NW.no (h : NW cs L L2 cl2) (hX : XT L cl ln L2 cl2 ln2) (h0 : ∀ a ∈ L, cl a ≠ t) (hc : cs.contains t = false) : ∀ a ∈ L2, cl2 a ≠ t := by
  intro a ha e
  rcases h a ha with w | w
  · exact h0 a w ((hX a w).2.1.symm.trans e)
  · rw [e, hc] at w; cases w
theorem NW.nos {P : Nat → Bool} {B : List Nat} (h : NW cs L L2 cl2) (hX : XT L cl ln L2 cl2 ln2) (h0 : ∀ t, P t = true → ∀ a ∈ L, cl a ≠ t) (hc : B.all (fun t => P t && !cs.contains t) = true) : ∀ t, B.contains t = true → ∀ a ∈ L2, cl2 a ≠ t := by
  intro t ht
  have q := List.all_eq_true.mp hc t (List.contains_iff_mem.mp ht)
  simp only [Bool.and_eq_true, Bool.not_eq_true'] at q
  exact NW.no h hX (h0 t q.1) q.2
theorem WT.retagU (h : WT g sk L cl ln iv rv) (hq : q ∈ L) (hraw : raw (bt (cl q)) = true) (hcl : cl2 = va_up cl q t) (hb : ∀ k, ilo (bt t) k ≤ iv q k ∧ iv q k ≤ ihi (bt t) k) (hr : ∀ k, rok L cl2 g q k (rv q k)) (ha : arr (bt t) = true → llo (bt t) ≤ ln q ∧ ln q ≤ lhi (bt t)) (hs : szd (bt t) = true → ∀ b, rv q 1 = some b → (b = g ∧ iv q 2 = 0) ∨ (b ∈ L ∧ iv q 2 ≤ ((ln b : Nat) : Int))) (hl : lst (bt t) = true → ∀ b, rv q 1 = some b → ∀ i : Nat, (i : Int) < iv q 2 → rv b i ≠ none) (hno : ∀ a ∈ L, cl a ≠ t) : WT g (va_up sk t q) L cl2 ln iv rv := by
  subst hcl
  have ho : ∀ w, w ≠ q → va_up cl q t w = cl w := fun w hw => va_up_ne _ _ hw
  obtain ⟨h1, h2, h3, h4, h5, h6, h7⟩ := id h
  have tg0 : ∀ T k, raw (tgt T k) = false := by
    intro T k
    unfold tgt raw
    split <;> (try split) <;> rfl
  refine ⟨fun w hw j => ?_, fun w hw j => ?_, fun w hw => ?_, fun w hw => ?_, fun w hw => ?_, fun w hw => ?_, h7⟩
  · by_cases e : w = q
    · subst e; rw [va_up_self]; exact hb j
    · rw [ho w e]; exact h1 w hw j
  · by_cases e : w = q
    · subst e; exact hr j
    · intro hrw
      rw [ho w e] at hrw ⊢
      obtain ⟨g1, g2⟩ := h2 w hw j hrw
      refine ⟨g1, fun b hb => ?_⟩
      rcases g2 b hb with c1 | c1
      · have hbq : b ≠ q := fun e2 => by rw [← e2, c1.2.1, tg0] at hraw; cases hraw
        refine Or.inl ⟨c1.1, by rw [ho b hbq]; exact c1.2.1, ?_, ?_⟩
        · rw [ho w e, ho b hbq]; exact c1.2.2.1
        · rw [ho w e, ho b hbq]; exact c1.2.2.2
      · exact Or.inr c1
  · by_cases e : w = q
    · subst e; rw [va_up_self]; exact ha
    · rw [ho w e]; exact h3 w hw
  · by_cases e : w = q
    · subst e; rw [va_up_self]; exact hs
    · rw [ho w e]; exact h4 w hw
  · by_cases e : w = q
    · subst e; rw [va_up_self]; exact hl
    · rw [ho w e]; exact h5 w hw
  · by_cases e : w = q
    · subst e; rw [va_up_self]; intro _; exact (va_up_self _ _ _).symm
    · rw [ho w e]; intro z; rw [va_up_ne _ _ (hno w hw)]; exact h6 w hw z
end NWS
end
section
set_option maxHeartbeats 4000000 in
set_option maxRecDepth 100000 in
theorem Y_acoll {l : Launch} {G : GT} {mi : Nat} {sk : Nat → Nat} {L : List Nat} {cl ln : Nat → Nat} {iv : Nat → Nat → Int} {rv : Nat → Nat → Option Nat}  {a0 : Nat} (hW : WT (g0 G) sk L cl ln iv rv) (t_a0 : ty L cl a0 200)  : Mc l G mi zPf 0 yJxa1e45_init_da8c8 cJxa1e45_init_da8c8 1 none 1 [.ref a0] L cl ln iv rv 0 (fun v L2 cl2 ln2 iv2 rv2 => v = none ∧ L = L2 ∧ cl = cl2 ∧ ln = ln2 ∧ iv = iv2 ∧ rv = rv2 ∧ (True)) := by
  refine Mc.mk (by decide) (Nat.le_of_ble_eq_true rfl) ?_
  intro p e s m args below meth c A C hM
  refine hv4 ((show zPf ln rv ≤ 0 from Nat.le_refl 0)) (show NW [] L L cl from NW.refl) (show XT L cl ln L cl ln from XT.refl) (show fT [] L cl iv rv iv rv from fT.refl) (fun hph nw0 hX0 hF0 => ?_)
  refine c_aload_n (j := 0) (x := a0) C dJxa1e45_init_da8c8_0 rfl ?_
  refine c_objInit C dJxa1e45_init_da8c8_1 w1_75 w1_30 w1_31 (by decide) (Nat.le_of_ble_eq_true rfl) ?_
  exact c_vret C dJxa1e45_init_da8c8_4 rfl (by decide) (rom0 hph hph (by decide)) ⟨rfl, rfl, rfl, rfl, rfl, rfl, trivial⟩
set_option maxHeartbeats 4000000 in
set_option maxRecDepth 100000 in
theorem Y_alist {l : Launch} {G : GT} {mi : Nat} {sk : Nat → Nat} {L : List Nat} {cl ln : Nat → Nat} {iv : Nat → Nat → Int} {rv : Nat → Nat → Option Nat}  {a0 : Nat} (hW : WT (g0 G) sk L cl ln iv rv) (t_a0 : ty L cl a0 200)  : Mc l G mi zPf 0 yJxc12de_init_da8c8 cJxc12de_init_da8c8 1 none 2 [.ref a0] L cl ln iv rv 0 (fun v L2 cl2 ln2 iv2 rv2 => v = none ∧ L = L2 ∧ cl = cl2 ∧ ln = ln2 ∧ rv = rv2 ∧ fT [200] L cl iv rv iv2 rv2 ∧ WT (g0 G) sk L2 cl2 ln2 iv2 rv2 ∧ (iv2 a0 2 = iv a0 2)) := by
  refine Mc.mk (by decide) (Nat.le_of_ble_eq_true rfl) ?_
  intro p e s m args below meth c A C hM
  refine hv4 ((show zPf ln rv ≤ 0 from Nat.le_refl 0)) (show NW [] L L cl from NW.refl) (show XT L cl ln L cl ln from XT.refl) (show fT [200] L cl iv rv iv rv from fT.refl) (fun hph nw0 hX0 hF0 => ?_)
  refine c_aload_n (j := 0) (x := a0) C dJxc12de_init_da8c8_0 rfl ?_
  refine c_callI (As := []) (rest := []) C hM (Y_acoll (a0 := a0) hW  t_a0  ) dJxc12de_init_da8c8_1 kI_Jxc12de_1 rfl rfl (Nat.le_of_ble_eq_true rfl) ⟨(Nat.le_of_ble_eq_true rfl), (Nat.le_of_ble_eq_true rfl)⟩ (rz0 hph (by decide)) (fun rh1 Lh1 clh1 lnh1 ivh1 rvh1 h1 => ⟨0, zk0, ?_⟩)
  obtain ⟨rfl, rfl, rfl, rfl, rfl, rfl, exf1⟩ := h1
  refine c_st (st2 := []) rfl ?_
  refine c_aload_n (j := 0) (x := a0) C dJxc12de_init_da8c8_4 rfl ?_
  refine c_iconst C dJxc12de_init_da8c8_5 ?_
  refine c_put (z := 0) (k := 0) C ck_0 dJxc12de_init_da8c8_6 w1_80 (by decide) rfl t_a0 rfl rfl (by decide) rfl (by rfl) (by rfl) (fun iv1 pq1 => ?_)
  refine hv3 (hW.puti pq1 t_a0 ⟨by decide, by decide⟩ rfl) (hF0.puti hX0 pq1 t_a0 rfl) (show iv1 a0 2 = iv a0 2 from by rw [pq1]; exact up2_j (by decide)) (fun W2 F1 ie1 => ?_)
  have ri1 : (-2147483648) ≤ iv1 a0 2 ∧ iv1 a0 2 ≤ 2147483647 := W2.int t_a0 2
  exact c_vret C dJxc12de_init_da8c8_9 rfl (by decide) (rom0 hph hph (by decide)) ⟨rfl, rfl, rfl, rfl, rfl, F1, W2, (by omega)⟩
set_option maxHeartbeats 4000000 in
set_option maxRecDepth 100000 in
theorem Y_list {l : Launch} {G : GT} {mi : Nat} {sk : Nat → Nat} {L : List Nat} {cl ln : Nat → Nat} {iv : Nat → Nat → Int} {rv : Nat → Nat → Option Nat}  {a0 : Nat} (hW : WT (g0 G) sk L cl ln iv rv) (t_a0 : ty L cl a0 200)  : Mc l G mi zPf 0 yJx4a65c_init_da8c8 cJx4a65c_init_da8c8 1 none 3 [.ref a0] L cl ln iv rv 0 (fun v L2 cl2 ln2 iv2 rv2 => v = none ∧ L = L2 ∧ cl = cl2 ∧ ln = ln2 ∧ fT [200] L cl iv rv iv2 rv2 ∧ WT (g0 G) sk L2 cl2 ln2 iv2 rv2 ∧ (rv2 a0 1 = some (g0 G) ∧ iv2 a0 2 = iv a0 2 ∧ (∀ k, ([1] : List Nat).contains k = false → rv2 a0 k = rv a0 k))) := by
  refine Mc.mk (by decide) (Nat.le_of_ble_eq_true rfl) ?_
  intro p e s m args below meth c A C hM
  refine hv4 ((show zPf ln rv ≤ 0 from Nat.le_refl 0)) (show NW [] L L cl from NW.refl) (show XT L cl ln L cl ln from XT.refl) (show fT [200] L cl iv rv iv rv from fT.refl) (fun hph nw0 hX0 hF0 => ?_)
  refine c_aload_n (j := 0) (x := a0) C dJx4a65c_init_da8c8_0 rfl ?_
  have ri1 : (-2147483648) ≤ iv a0 2 ∧ iv a0 2 ≤ 2147483647 := hW.int t_a0 2
  refine c_callI (As := []) (rest := []) C hM (Y_alist (a0 := a0) hW  t_a0  ) dJx4a65c_init_da8c8_1 kI_Jx4a65c_1 rfl rfl (Nat.le_of_ble_eq_true rfl) ⟨(Nat.le_of_ble_eq_true rfl), (Nat.le_of_ble_eq_true rfl)⟩ (rz0 hph (by decide)) (fun rh1 Lh1 clh1 lnh1 ivh1 rvh1 h1 => ⟨0, zk0, ?_⟩)
  obtain ⟨rfl, rfl, rfl, rfl, rfl, fl1, W1, exf1⟩ := h1
  have F1 := hF0.call hX0 fl1 rfl
  refine c_st (st2 := []) rfl ?_
  refine hv2 (show (-2147483648) ≤ ivh1 a0 2 ∧ ivh1 a0 2 ≤ 2147483647 from W1.int t_a0 2) (show ivh1 a0 2 = iv a0 2 from exf1) (fun ri2 gf1 => ?_)
  refine c_aload_n (j := 0) (x := a0) C dJx4a65c_init_da8c8_4 rfl ?_
  refine c_gets C dJx4a65c_init_da8c8_5 w1_76 ?_
  refine c_putr (x := (some (g0 G))) (k := 1) C ck_0 dJx4a65c_init_da8c8_8 w1_78 (by decide) rfl t_a0 rfl rfl (by decide) rfl (by rfl) (by rfl) (fun rv1 pq1 => ⟨0, (zp2 (Nat.le_refl _)), ?_⟩)
  refine hv4 (W1.putr pq1 t_a0 (fun qr => by rw [t_a0.2] at qr; cases qr) rfl (by decide)) (F1.putr hX0 pq1 t_a0 rfl) (show rv1 a0 1 = (some (g0 G)) from by rw [pq1]; exact upr_s) (show ∀ k, ([1] : List Nat).contains k = false → rv1 a0 k = rv a0 k from fun k hk => (show rv1 a0 k = rv a0 k from (by rw [pq1]; exact upr_j (fun e => by subst e; exact absurd hk (by decide))))) (fun W2 F2 rp1 rn1 => ?_)
  exact c_vret C dJx4a65c_init_da8c8_11 rfl (by decide) (rom0 hph (Nat.le_refl 0) (by decide)) ⟨rfl, rfl, rfl, rfl, F2, W2, ⟨rp1, (by omega), rn1⟩⟩
set_option maxHeartbeats 4000000 in
set_option maxRecDepth 100000 in
theorem Y_ints_2 {l : Launch} {G : GT} {mi : Nat} {sk : Nat → Nat} {L : List Nat} {cl ln : Nat → Nat} {iv : Nat → Nat → Int} {rv : Nat → Nat → Option Nat}  {a0 : Nat} {i : Int} (hW : WT (g0 G) sk L cl ln iv rv) (t_a0 : ty L cl a0 202) (h_i : -2147483648 ≤ i ∧ i ≤ 2147483647)  : Mc l G mi zPf 0 yX1_init cX1_init 2 none 1 [.ref a0, .int (iI i)] L cl ln iv rv 32 (fun v L2 cl2 ln2 iv2 rv2 => v = none ∧ XT L cl ln L2 cl2 ln2 ∧ fT [202] L cl iv rv iv2 rv2 ∧ WT (g0 G) sk L2 cl2 ln2 iv2 rv2 ∧ (∃ b, (∀ k, ([1] : List Nat).contains k = false → rv2 a0 k = rv a0 k) ∧ rv2 a0 1 = some b ∧ ty L2 cl2 b 32 ∧ ln2 b = 16 ∧ iv2 a0 0 = i ∧ iv2 a0 2 = 0) ∧ NW [32] L L2 cl2) := by
  refine Mc.mk (by decide) (Nat.le_of_ble_eq_true rfl) ?_
  intro p e s m args below meth c A C hM
  refine hv4 ((show zPf ln rv ≤ 0 from Nat.le_refl 0)) (show NW [] L L cl from NW.refl) (show XT L cl ln L cl ln from XT.refl) (show fT [202] L cl iv rv iv rv from fT.refl) (fun hph nw0 hX0 hF0 => ?_)
  refine c_aload_n (j := 0) (x := a0) C dX1_init_0 rfl ?_
  refine c_objInit C dX1_init_1 w1_37 w1_30 w1_31 (by decide) (Nat.le_of_ble_eq_true rfl) ?_
  refine c_aload_n (j := 0) (x := a0) C dX1_init_4 rfl ?_
  refine c_iconst C dX1_init_5 ?_
  refine c_put (z := 0) (k := 2) C ck_2 dX1_init_6 w1_43 (by decide) rfl t_a0 rfl rfl (by decide) rfl (by rfl) (by rfl) (fun iv1 pq1 => ?_)
  refine hv2 (hW.puti pq1 t_a0 ⟨by decide, by decide⟩ rfl) (hF0.puti hX0 pq1 t_a0 rfl) (fun W1 F1 => ?_)
  refine c_aload_n (j := 0) (x := a0) C dX1_init_9 rfl ?_
  refine c_iload_n (j := 1) C dX1_init_10 rfl ?_
  refine c_putF (z := i) (k := 0) C ck_2 dX1_init_11 w1_38 (by decide) rfl rfl rfl t_a0 rfl rfl (by decide) rfl (by rfl) (by rfl) (fun iv2 pq2 => ?_)
  refine hv2 (W1.puti pq2 t_a0 (show (-2147483648) ≤ i ∧ i ≤ 2147483647 by omega) rfl) (F1.puti hX0 pq2 t_a0 rfl) (fun W2 F2 => ?_)
  refine c_aload_n (j := 0) (x := a0) C dX1_init_14 rfl ?_
  refine c_bipush (z := 16) C dX1_init_15 (by decide) ?_
  refine c_newaI (z := 16) (N := 16) C 32 dX1_init_17 w1_57 rfl (by omega) (by omega) (rom2 hph hph (by decide)) (fun qn1 cln1 lnn1 ivn1 rvn1 hqn1 hcn1 hln1 hin1 hrn1 => ⟨32, (z_in (by omega)), ?_⟩)
  refine c_g0 C (fun hg1 => ?_)
  refine hv5 (show ∀ b, b ≠ qn1 → lnn1 b = ln b from (fun b hb => by rw [hln1]; exact va_up_ne _ _ hb)) (show lnn1 qn1 = 16 from by rw [hln1]; exact va_up_self _ _ _) (F2.new hX0 hqn1 hin1 hrn1) (show ty (L ++ [qn1]) cln1 qn1 32 from ty_new hcn1) (show qn1 ∉ L from fun h => hqn1 ((hX0 qn1 h).1)) (fun hxn1 lqn1 F3 tqn1 h0qn1 => ?_)
  refine hv2 (W2.new (ln2 := lnn1) hqn1 (hg1 qn1 (List.mem_append_right _ List.mem_cons_self)) hcn1 hxn1 hin1 hrn1 (fun _ => ⟨(show (-2147483648 : Int) ≤ 0 by decide), (show (0 : Int) ≤ 2147483647 by decide)⟩) (Or.inr (fun _ => rfl)) (fun _ => by show 16 ≤ lnn1 qn1 ∧ lnn1 qn1 ≤ 6000; omega) rfl rfl) (XT.new hqn1 hcn1 hxn1) (fun W3 xl1 => ?_)
  refine hv3 (hX0.trans xl1) (nw0.new xl1 hcn1) (xl1.ty t_a0) (fun X1 nw1 ty1 => ?_)
  refine c_putr (x := (some qn1)) (k := 1) C ck_2 dX1_init_19 w1_39 (by decide) rfl ty1 rfl rfl (by decide) rfl (by rfl) (by rfl) (fun rv1 pq3 => ⟨32, (zp2 (Nat.le_refl _)), ?_⟩)
  refine hv9 (W3.putr pq3 ty1 (fun qr => by rw [ty1.2] at qr; cases qr) rfl (by decide)) (F3.putr X1 pq3 ty1 rfl) (show rv1 a0 1 = (some qn1) from by rw [pq3]; exact upr_s) (show ∀ k, ([1] : List Nat).contains k = false → rv1 a0 k = rv a0 k from fun k hk => (Eq.trans (show rv1 a0 k = rvn1 a0 k from (by rw [pq3]; exact upr_j (fun e => by subst e; exact absurd hk (by decide)))) (show rvn1 a0 k = rv a0 k from (by rw [hrn1]; exact congrFun (up0_a (ne_in t_a0.1 hqn1)) _)))) (show ivn1 a0 0 = iv2 a0 0 from by rw [hin1]; exact congrFun (up0_a (ne_in t_a0.1 hqn1)) _) (show iv2 a0 0 = i from by rw [pq2]; exact up2_s) (show ivn1 a0 2 = iv2 a0 2 from by rw [hin1]; exact congrFun (up0_a (ne_in t_a0.1 hqn1)) _) (show iv2 a0 2 = iv1 a0 2 from by rw [pq2]; exact up2_j (by decide)) (show iv1 a0 2 = 0 from by rw [pq1]; exact up2_s) (fun W4 F4 rp1 rn1 ie1 ie2 ie3 ie4 ie5 => ?_)
  refine hv2 (show (-2147483648) ≤ ivn1 a0 0 ∧ ivn1 a0 0 ≤ 2147483647 from W4.int ty1 0) (show (-2147483648) ≤ ivn1 a0 2 ∧ ivn1 a0 2 ≤ 2147483647 from W4.int ty1 2) (fun ri1 ri2 => ?_)
  exact c_vret C dX1_init_22 rfl (by decide) (rom0 hph (Nat.le_refl 0) (by decide)) ⟨rfl, X1, F4, W4, ⟨qn1, rn1, rp1, tqn1, (by omega), (by omega), (by omega)⟩, nw1.sub (by decide)⟩
set_option maxHeartbeats 4000000 in
set_option maxRecDepth 100000 in
theorem Y_ints_3 {l : Launch} {G : GT} {mi : Nat} {sk : Nat → Nat} {L : List Nat} {cl ln : Nat → Nat} {iv : Nat → Nat → Int} {rv : Nat → Nat → Option Nat}  {a0 : Nat} {i : Int} (hW : WT (g0 G) sk L cl ln iv rv) (t_a0 : ty L cl a0 202) (h_i : -2147483648 ≤ i ∧ i ≤ 2147483647)  : Mc l G mi zPf 0 yX1_init cX1_init 2 none 1 [.ref a0, .int (iI i)] L cl ln iv rv 32 (fun v L2 cl2 ln2 iv2 rv2 => v = none ∧ XT L cl ln L2 cl2 ln2 ∧ fT [202] L cl iv rv iv2 rv2 ∧ WT (g0 G) sk L2 cl2 ln2 iv2 rv2 ∧ (∃ b, (∀ k, ([1] : List Nat).contains k = false → rv2 a0 k = rv a0 k) ∧ rv2 a0 1 = some b ∧ ty L2 cl2 b 33 ∧ ln2 b = 16 ∧ iv2 a0 0 = i ∧ iv2 a0 2 = 0) ∧ NW [33] L L2 cl2) := by
  refine Mc.mk (by decide) (Nat.le_of_ble_eq_true rfl) ?_
  intro p e s m args below meth c A C hM
  refine hv4 ((show zPf ln rv ≤ 0 from Nat.le_refl 0)) (show NW [] L L cl from NW.refl) (show XT L cl ln L cl ln from XT.refl) (show fT [202] L cl iv rv iv rv from fT.refl) (fun hph nw0 hX0 hF0 => ?_)
  refine c_aload_n (j := 0) (x := a0) C dX1_init_0 rfl ?_
  refine c_objInit C dX1_init_1 w1_37 w1_30 w1_31 (by decide) (Nat.le_of_ble_eq_true rfl) ?_
  refine c_aload_n (j := 0) (x := a0) C dX1_init_4 rfl ?_
  refine c_iconst C dX1_init_5 ?_
  refine c_put (z := 0) (k := 2) C ck_2 dX1_init_6 w1_43 (by decide) rfl t_a0 rfl rfl (by decide) rfl (by rfl) (by rfl) (fun iv1 pq1 => ?_)
  refine hv2 (hW.puti pq1 t_a0 ⟨by decide, by decide⟩ rfl) (hF0.puti hX0 pq1 t_a0 rfl) (fun W1 F1 => ?_)
  refine c_aload_n (j := 0) (x := a0) C dX1_init_9 rfl ?_
  refine c_iload_n (j := 1) C dX1_init_10 rfl ?_
  refine c_putF (z := i) (k := 0) C ck_2 dX1_init_11 w1_38 (by decide) rfl rfl rfl t_a0 rfl rfl (by decide) rfl (by rfl) (by rfl) (fun iv2 pq2 => ?_)
  refine hv2 (W1.puti pq2 t_a0 (show (-2147483648) ≤ i ∧ i ≤ 2147483647 by omega) rfl) (F1.puti hX0 pq2 t_a0 rfl) (fun W2 F2 => ?_)
  refine c_aload_n (j := 0) (x := a0) C dX1_init_14 rfl ?_
  refine c_bipush (z := 16) C dX1_init_15 (by decide) ?_
  refine c_newaI (z := 16) (N := 16) C 33 dX1_init_17 w1_57 rfl (by omega) (by omega) (rom2 hph hph (by decide)) (fun qn1 cln1 lnn1 ivn1 rvn1 hqn1 hcn1 hln1 hin1 hrn1 => ⟨32, (z_in (by omega)), ?_⟩)
  refine c_g0 C (fun hg1 => ?_)
  refine hv5 (show ∀ b, b ≠ qn1 → lnn1 b = ln b from (fun b hb => by rw [hln1]; exact va_up_ne _ _ hb)) (show lnn1 qn1 = 16 from by rw [hln1]; exact va_up_self _ _ _) (F2.new hX0 hqn1 hin1 hrn1) (show ty (L ++ [qn1]) cln1 qn1 33 from ty_new hcn1) (show qn1 ∉ L from fun h => hqn1 ((hX0 qn1 h).1)) (fun hxn1 lqn1 F3 tqn1 h0qn1 => ?_)
  refine hv2 (W2.new (ln2 := lnn1) hqn1 (hg1 qn1 (List.mem_append_right _ List.mem_cons_self)) hcn1 hxn1 hin1 hrn1 (fun _ => ⟨(show (-2147483648 : Int) ≤ 0 by decide), (show (0 : Int) ≤ 2147483647 by decide)⟩) (Or.inr (fun _ => rfl)) (fun _ => by show 16 ≤ lnn1 qn1 ∧ lnn1 qn1 ≤ 1000; omega) rfl rfl) (XT.new hqn1 hcn1 hxn1) (fun W3 xl1 => ?_)
  refine hv3 (hX0.trans xl1) (nw0.new xl1 hcn1) (xl1.ty t_a0) (fun X1 nw1 ty1 => ?_)
  refine c_putr (x := (some qn1)) (k := 1) C ck_2 dX1_init_19 w1_39 (by decide) rfl ty1 rfl rfl (by decide) rfl (by rfl) (by rfl) (fun rv1 pq3 => ⟨32, (zp2 (Nat.le_refl _)), ?_⟩)
  refine hv9 (W3.putr pq3 ty1 (fun qr => by rw [ty1.2] at qr; cases qr) rfl (by decide)) (F3.putr X1 pq3 ty1 rfl) (show rv1 a0 1 = (some qn1) from by rw [pq3]; exact upr_s) (show ∀ k, ([1] : List Nat).contains k = false → rv1 a0 k = rv a0 k from fun k hk => (Eq.trans (show rv1 a0 k = rvn1 a0 k from (by rw [pq3]; exact upr_j (fun e => by subst e; exact absurd hk (by decide)))) (show rvn1 a0 k = rv a0 k from (by rw [hrn1]; exact congrFun (up0_a (ne_in t_a0.1 hqn1)) _)))) (show ivn1 a0 0 = iv2 a0 0 from by rw [hin1]; exact congrFun (up0_a (ne_in t_a0.1 hqn1)) _) (show iv2 a0 0 = i from by rw [pq2]; exact up2_s) (show ivn1 a0 2 = iv2 a0 2 from by rw [hin1]; exact congrFun (up0_a (ne_in t_a0.1 hqn1)) _) (show iv2 a0 2 = iv1 a0 2 from by rw [pq2]; exact up2_j (by decide)) (show iv1 a0 2 = 0 from by rw [pq1]; exact up2_s) (fun W4 F4 rp1 rn1 ie1 ie2 ie3 ie4 ie5 => ?_)
  refine hv2 (show (-2147483648) ≤ ivn1 a0 0 ∧ ivn1 a0 0 ≤ 2147483647 from W4.int ty1 0) (show (-2147483648) ≤ ivn1 a0 2 ∧ ivn1 a0 2 ≤ 2147483647 from W4.int ty1 2) (fun ri1 ri2 => ?_)
  exact c_vret C dX1_init_22 rfl (by decide) (rom0 hph (Nat.le_refl 0) (by decide)) ⟨rfl, X1, F4, W4, ⟨qn1, rn1, rp1, tqn1, (by omega), (by omega), (by omega)⟩, nw1.sub (by decide)⟩
set_option maxHeartbeats 4000000 in
set_option maxRecDepth 100000 in
theorem Y_ints_4 {l : Launch} {G : GT} {mi : Nat} {sk : Nat → Nat} {L : List Nat} {cl ln : Nat → Nat} {iv : Nat → Nat → Int} {rv : Nat → Nat → Option Nat}  {a0 : Nat} {i : Int} (hW : WT (g0 G) sk L cl ln iv rv) (t_a0 : ty L cl a0 202) (h_i : -2147483648 ≤ i ∧ i ≤ 2147483647)  : Mc l G mi zPf 0 yX1_init cX1_init 2 none 1 [.ref a0, .int (iI i)] L cl ln iv rv 32 (fun v L2 cl2 ln2 iv2 rv2 => v = none ∧ XT L cl ln L2 cl2 ln2 ∧ fT [202] L cl iv rv iv2 rv2 ∧ WT (g0 G) sk L2 cl2 ln2 iv2 rv2 ∧ (∃ b, (∀ k, ([1] : List Nat).contains k = false → rv2 a0 k = rv a0 k) ∧ rv2 a0 1 = some b ∧ ty L2 cl2 b 34 ∧ ln2 b = 16 ∧ iv2 a0 0 = i ∧ iv2 a0 2 = 0) ∧ NW [34] L L2 cl2) := by
  refine Mc.mk (by decide) (Nat.le_of_ble_eq_true rfl) ?_
  intro p e s m args below meth c A C hM
  refine hv4 ((show zPf ln rv ≤ 0 from Nat.le_refl 0)) (show NW [] L L cl from NW.refl) (show XT L cl ln L cl ln from XT.refl) (show fT [202] L cl iv rv iv rv from fT.refl) (fun hph nw0 hX0 hF0 => ?_)
  refine c_aload_n (j := 0) (x := a0) C dX1_init_0 rfl ?_
  refine c_objInit C dX1_init_1 w1_37 w1_30 w1_31 (by decide) (Nat.le_of_ble_eq_true rfl) ?_
  refine c_aload_n (j := 0) (x := a0) C dX1_init_4 rfl ?_
  refine c_iconst C dX1_init_5 ?_
  refine c_put (z := 0) (k := 2) C ck_2 dX1_init_6 w1_43 (by decide) rfl t_a0 rfl rfl (by decide) rfl (by rfl) (by rfl) (fun iv1 pq1 => ?_)
  refine hv2 (hW.puti pq1 t_a0 ⟨by decide, by decide⟩ rfl) (hF0.puti hX0 pq1 t_a0 rfl) (fun W1 F1 => ?_)
  refine c_aload_n (j := 0) (x := a0) C dX1_init_9 rfl ?_
  refine c_iload_n (j := 1) C dX1_init_10 rfl ?_
  refine c_putF (z := i) (k := 0) C ck_2 dX1_init_11 w1_38 (by decide) rfl rfl rfl t_a0 rfl rfl (by decide) rfl (by rfl) (by rfl) (fun iv2 pq2 => ?_)
  refine hv2 (W1.puti pq2 t_a0 (show (-2147483648) ≤ i ∧ i ≤ 2147483647 by omega) rfl) (F1.puti hX0 pq2 t_a0 rfl) (fun W2 F2 => ?_)
  refine c_aload_n (j := 0) (x := a0) C dX1_init_14 rfl ?_
  refine c_bipush (z := 16) C dX1_init_15 (by decide) ?_
  refine c_newaI (z := 16) (N := 16) C 34 dX1_init_17 w1_57 rfl (by omega) (by omega) (rom2 hph hph (by decide)) (fun qn1 cln1 lnn1 ivn1 rvn1 hqn1 hcn1 hln1 hin1 hrn1 => ⟨32, (z_in (by omega)), ?_⟩)
  refine c_g0 C (fun hg1 => ?_)
  refine hv5 (show ∀ b, b ≠ qn1 → lnn1 b = ln b from (fun b hb => by rw [hln1]; exact va_up_ne _ _ hb)) (show lnn1 qn1 = 16 from by rw [hln1]; exact va_up_self _ _ _) (F2.new hX0 hqn1 hin1 hrn1) (show ty (L ++ [qn1]) cln1 qn1 34 from ty_new hcn1) (show qn1 ∉ L from fun h => hqn1 ((hX0 qn1 h).1)) (fun hxn1 lqn1 F3 tqn1 h0qn1 => ?_)
  refine hv2 (W2.new (ln2 := lnn1) hqn1 (hg1 qn1 (List.mem_append_right _ List.mem_cons_self)) hcn1 hxn1 hin1 hrn1 (fun _ => ⟨(show (-2147483648 : Int) ≤ 0 by decide), (show (0 : Int) ≤ 2147483647 by decide)⟩) (Or.inr (fun _ => rfl)) (fun _ => by show 16 ≤ lnn1 qn1 ∧ lnn1 qn1 ≤ 8000; omega) rfl rfl) (XT.new hqn1 hcn1 hxn1) (fun W3 xl1 => ?_)
  refine hv3 (hX0.trans xl1) (nw0.new xl1 hcn1) (xl1.ty t_a0) (fun X1 nw1 ty1 => ?_)
  refine c_putr (x := (some qn1)) (k := 1) C ck_2 dX1_init_19 w1_39 (by decide) rfl ty1 rfl rfl (by decide) rfl (by rfl) (by rfl) (fun rv1 pq3 => ⟨32, (zp2 (Nat.le_refl _)), ?_⟩)
  refine hv9 (W3.putr pq3 ty1 (fun qr => by rw [ty1.2] at qr; cases qr) rfl (by decide)) (F3.putr X1 pq3 ty1 rfl) (show rv1 a0 1 = (some qn1) from by rw [pq3]; exact upr_s) (show ∀ k, ([1] : List Nat).contains k = false → rv1 a0 k = rv a0 k from fun k hk => (Eq.trans (show rv1 a0 k = rvn1 a0 k from (by rw [pq3]; exact upr_j (fun e => by subst e; exact absurd hk (by decide)))) (show rvn1 a0 k = rv a0 k from (by rw [hrn1]; exact congrFun (up0_a (ne_in t_a0.1 hqn1)) _)))) (show ivn1 a0 0 = iv2 a0 0 from by rw [hin1]; exact congrFun (up0_a (ne_in t_a0.1 hqn1)) _) (show iv2 a0 0 = i from by rw [pq2]; exact up2_s) (show ivn1 a0 2 = iv2 a0 2 from by rw [hin1]; exact congrFun (up0_a (ne_in t_a0.1 hqn1)) _) (show iv2 a0 2 = iv1 a0 2 from by rw [pq2]; exact up2_j (by decide)) (show iv1 a0 2 = 0 from by rw [pq1]; exact up2_s) (fun W4 F4 rp1 rn1 ie1 ie2 ie3 ie4 ie5 => ?_)
  refine hv2 (show (-2147483648) ≤ ivn1 a0 0 ∧ ivn1 a0 0 ≤ 2147483647 from W4.int ty1 0) (show (-2147483648) ≤ ivn1 a0 2 ∧ ivn1 a0 2 ≤ 2147483647 from W4.int ty1 2) (fun ri1 ri2 => ?_)
  exact c_vret C dX1_init_22 rfl (by decide) (rom0 hph (Nat.le_refl 0) (by decide)) ⟨rfl, X1, F4, W4, ⟨qn1, rn1, rp1, tqn1, (by omega), (by omega), (by omega)⟩, nw1.sub (by decide)⟩
set_option maxHeartbeats 4000000 in
set_option maxRecDepth 100000 in
theorem Y_ints_5 {l : Launch} {G : GT} {mi : Nat} {sk : Nat → Nat} {L : List Nat} {cl ln : Nat → Nat} {iv : Nat → Nat → Int} {rv : Nat → Nat → Option Nat}  {a0 : Nat} {i : Int} (hW : WT (g0 G) sk L cl ln iv rv) (t_a0 : ty L cl a0 202) (h_i : -2147483648 ≤ i ∧ i ≤ 2147483647)  : Mc l G mi zPf 0 yX1_init cX1_init 2 none 1 [.ref a0, .int (iI i)] L cl ln iv rv 32 (fun v L2 cl2 ln2 iv2 rv2 => v = none ∧ XT L cl ln L2 cl2 ln2 ∧ fT [202] L cl iv rv iv2 rv2 ∧ WT (g0 G) sk L2 cl2 ln2 iv2 rv2 ∧ (∃ b, (∀ k, ([1] : List Nat).contains k = false → rv2 a0 k = rv a0 k) ∧ rv2 a0 1 = some b ∧ ty L2 cl2 b 35 ∧ ln2 b = 16 ∧ iv2 a0 0 = i ∧ iv2 a0 2 = 0) ∧ NW [35] L L2 cl2) := by
  refine Mc.mk (by decide) (Nat.le_of_ble_eq_true rfl) ?_
  intro p e s m args below meth c A C hM
  refine hv4 ((show zPf ln rv ≤ 0 from Nat.le_refl 0)) (show NW [] L L cl from NW.refl) (show XT L cl ln L cl ln from XT.refl) (show fT [202] L cl iv rv iv rv from fT.refl) (fun hph nw0 hX0 hF0 => ?_)
  refine c_aload_n (j := 0) (x := a0) C dX1_init_0 rfl ?_
  refine c_objInit C dX1_init_1 w1_37 w1_30 w1_31 (by decide) (Nat.le_of_ble_eq_true rfl) ?_
  refine c_aload_n (j := 0) (x := a0) C dX1_init_4 rfl ?_
  refine c_iconst C dX1_init_5 ?_
  refine c_put (z := 0) (k := 2) C ck_2 dX1_init_6 w1_43 (by decide) rfl t_a0 rfl rfl (by decide) rfl (by rfl) (by rfl) (fun iv1 pq1 => ?_)
  refine hv2 (hW.puti pq1 t_a0 ⟨by decide, by decide⟩ rfl) (hF0.puti hX0 pq1 t_a0 rfl) (fun W1 F1 => ?_)
  refine c_aload_n (j := 0) (x := a0) C dX1_init_9 rfl ?_
  refine c_iload_n (j := 1) C dX1_init_10 rfl ?_
  refine c_putF (z := i) (k := 0) C ck_2 dX1_init_11 w1_38 (by decide) rfl rfl rfl t_a0 rfl rfl (by decide) rfl (by rfl) (by rfl) (fun iv2 pq2 => ?_)
  refine hv2 (W1.puti pq2 t_a0 (show (-2147483648) ≤ i ∧ i ≤ 2147483647 by omega) rfl) (F1.puti hX0 pq2 t_a0 rfl) (fun W2 F2 => ?_)
  refine c_aload_n (j := 0) (x := a0) C dX1_init_14 rfl ?_
  refine c_bipush (z := 16) C dX1_init_15 (by decide) ?_
  refine c_newaI (z := 16) (N := 16) C 35 dX1_init_17 w1_57 rfl (by omega) (by omega) (rom2 hph hph (by decide)) (fun qn1 cln1 lnn1 ivn1 rvn1 hqn1 hcn1 hln1 hin1 hrn1 => ⟨32, (z_in (by omega)), ?_⟩)
  refine c_g0 C (fun hg1 => ?_)
  refine hv5 (show ∀ b, b ≠ qn1 → lnn1 b = ln b from (fun b hb => by rw [hln1]; exact va_up_ne _ _ hb)) (show lnn1 qn1 = 16 from by rw [hln1]; exact va_up_self _ _ _) (F2.new hX0 hqn1 hin1 hrn1) (show ty (L ++ [qn1]) cln1 qn1 35 from ty_new hcn1) (show qn1 ∉ L from fun h => hqn1 ((hX0 qn1 h).1)) (fun hxn1 lqn1 F3 tqn1 h0qn1 => ?_)
  refine hv2 (W2.new (ln2 := lnn1) hqn1 (hg1 qn1 (List.mem_append_right _ List.mem_cons_self)) hcn1 hxn1 hin1 hrn1 (fun _ => ⟨(show (-2147483648 : Int) ≤ 0 by decide), (show (0 : Int) ≤ 2147483647 by decide)⟩) (Or.inr (fun _ => rfl)) (fun _ => by show 16 ≤ lnn1 qn1 ∧ lnn1 qn1 ≤ 400; omega) rfl rfl) (XT.new hqn1 hcn1 hxn1) (fun W3 xl1 => ?_)
  refine hv3 (hX0.trans xl1) (nw0.new xl1 hcn1) (xl1.ty t_a0) (fun X1 nw1 ty1 => ?_)
  refine c_putr (x := (some qn1)) (k := 1) C ck_2 dX1_init_19 w1_39 (by decide) rfl ty1 rfl rfl (by decide) rfl (by rfl) (by rfl) (fun rv1 pq3 => ⟨32, (zp2 (Nat.le_refl _)), ?_⟩)
  refine hv9 (W3.putr pq3 ty1 (fun qr => by rw [ty1.2] at qr; cases qr) rfl (by decide)) (F3.putr X1 pq3 ty1 rfl) (show rv1 a0 1 = (some qn1) from by rw [pq3]; exact upr_s) (show ∀ k, ([1] : List Nat).contains k = false → rv1 a0 k = rv a0 k from fun k hk => (Eq.trans (show rv1 a0 k = rvn1 a0 k from (by rw [pq3]; exact upr_j (fun e => by subst e; exact absurd hk (by decide)))) (show rvn1 a0 k = rv a0 k from (by rw [hrn1]; exact congrFun (up0_a (ne_in t_a0.1 hqn1)) _)))) (show ivn1 a0 0 = iv2 a0 0 from by rw [hin1]; exact congrFun (up0_a (ne_in t_a0.1 hqn1)) _) (show iv2 a0 0 = i from by rw [pq2]; exact up2_s) (show ivn1 a0 2 = iv2 a0 2 from by rw [hin1]; exact congrFun (up0_a (ne_in t_a0.1 hqn1)) _) (show iv2 a0 2 = iv1 a0 2 from by rw [pq2]; exact up2_j (by decide)) (show iv1 a0 2 = 0 from by rw [pq1]; exact up2_s) (fun W4 F4 rp1 rn1 ie1 ie2 ie3 ie4 ie5 => ?_)
  refine hv2 (show (-2147483648) ≤ ivn1 a0 0 ∧ ivn1 a0 0 ≤ 2147483647 from W4.int ty1 0) (show (-2147483648) ≤ ivn1 a0 2 ∧ ivn1 a0 2 ≤ 2147483647 from W4.int ty1 2) (fun ri1 ri2 => ?_)
  exact c_vret C dX1_init_22 rfl (by decide) (rom0 hph (Nat.le_refl 0) (by decide)) ⟨rfl, X1, F4, W4, ⟨qn1, rn1, rp1, tqn1, (by omega), (by omega), (by omega)⟩, nw1.sub (by decide)⟩
set_option maxHeartbeats 4000000 in
set_option maxRecDepth 100000 in
theorem Y_ints_6 {l : Launch} {G : GT} {mi : Nat} {sk : Nat → Nat} {L : List Nat} {cl ln : Nat → Nat} {iv : Nat → Nat → Int} {rv : Nat → Nat → Option Nat}  {a0 : Nat} {i : Int} (hW : WT (g0 G) sk L cl ln iv rv) (t_a0 : ty L cl a0 202) (h_i : -2147483648 ≤ i ∧ i ≤ 2147483647)  : Mc l G mi zPf 0 yX1_init cX1_init 2 none 1 [.ref a0, .int (iI i)] L cl ln iv rv 32 (fun v L2 cl2 ln2 iv2 rv2 => v = none ∧ XT L cl ln L2 cl2 ln2 ∧ fT [202] L cl iv rv iv2 rv2 ∧ WT (g0 G) sk L2 cl2 ln2 iv2 rv2 ∧ (∃ b, (∀ k, ([1] : List Nat).contains k = false → rv2 a0 k = rv a0 k) ∧ rv2 a0 1 = some b ∧ ty L2 cl2 b 36 ∧ ln2 b = 16 ∧ iv2 a0 0 = i ∧ iv2 a0 2 = 0) ∧ NW [36] L L2 cl2) := by
  refine Mc.mk (by decide) (Nat.le_of_ble_eq_true rfl) ?_
  intro p e s m args below meth c A C hM
  refine hv4 ((show zPf ln rv ≤ 0 from Nat.le_refl 0)) (show NW [] L L cl from NW.refl) (show XT L cl ln L cl ln from XT.refl) (show fT [202] L cl iv rv iv rv from fT.refl) (fun hph nw0 hX0 hF0 => ?_)
  refine c_aload_n (j := 0) (x := a0) C dX1_init_0 rfl ?_
  refine c_objInit C dX1_init_1 w1_37 w1_30 w1_31 (by decide) (Nat.le_of_ble_eq_true rfl) ?_
  refine c_aload_n (j := 0) (x := a0) C dX1_init_4 rfl ?_
  refine c_iconst C dX1_init_5 ?_
  refine c_put (z := 0) (k := 2) C ck_2 dX1_init_6 w1_43 (by decide) rfl t_a0 rfl rfl (by decide) rfl (by rfl) (by rfl) (fun iv1 pq1 => ?_)
  refine hv2 (hW.puti pq1 t_a0 ⟨by decide, by decide⟩ rfl) (hF0.puti hX0 pq1 t_a0 rfl) (fun W1 F1 => ?_)
  refine c_aload_n (j := 0) (x := a0) C dX1_init_9 rfl ?_
  refine c_iload_n (j := 1) C dX1_init_10 rfl ?_
  refine c_putF (z := i) (k := 0) C ck_2 dX1_init_11 w1_38 (by decide) rfl rfl rfl t_a0 rfl rfl (by decide) rfl (by rfl) (by rfl) (fun iv2 pq2 => ?_)
  refine hv2 (W1.puti pq2 t_a0 (show (-2147483648) ≤ i ∧ i ≤ 2147483647 by omega) rfl) (F1.puti hX0 pq2 t_a0 rfl) (fun W2 F2 => ?_)
  refine c_aload_n (j := 0) (x := a0) C dX1_init_14 rfl ?_
  refine c_bipush (z := 16) C dX1_init_15 (by decide) ?_
  refine c_newaI (z := 16) (N := 16) C 36 dX1_init_17 w1_57 rfl (by omega) (by omega) (rom2 hph hph (by decide)) (fun qn1 cln1 lnn1 ivn1 rvn1 hqn1 hcn1 hln1 hin1 hrn1 => ⟨32, (z_in (by omega)), ?_⟩)
  refine c_g0 C (fun hg1 => ?_)
  refine hv5 (show ∀ b, b ≠ qn1 → lnn1 b = ln b from (fun b hb => by rw [hln1]; exact va_up_ne _ _ hb)) (show lnn1 qn1 = 16 from by rw [hln1]; exact va_up_self _ _ _) (F2.new hX0 hqn1 hin1 hrn1) (show ty (L ++ [qn1]) cln1 qn1 36 from ty_new hcn1) (show qn1 ∉ L from fun h => hqn1 ((hX0 qn1 h).1)) (fun hxn1 lqn1 F3 tqn1 h0qn1 => ?_)
  refine hv2 (W2.new (ln2 := lnn1) hqn1 (hg1 qn1 (List.mem_append_right _ List.mem_cons_self)) hcn1 hxn1 hin1 hrn1 (fun _ => ⟨(show (-2147483648 : Int) ≤ 0 by decide), (show (0 : Int) ≤ 2147483647 by decide)⟩) (Or.inr (fun _ => rfl)) (fun _ => by show 16 ≤ lnn1 qn1 ∧ lnn1 qn1 ≤ 12006; omega) rfl rfl) (XT.new hqn1 hcn1 hxn1) (fun W3 xl1 => ?_)
  refine hv3 (hX0.trans xl1) (nw0.new xl1 hcn1) (xl1.ty t_a0) (fun X1 nw1 ty1 => ?_)
  refine c_putr (x := (some qn1)) (k := 1) C ck_2 dX1_init_19 w1_39 (by decide) rfl ty1 rfl rfl (by decide) rfl (by rfl) (by rfl) (fun rv1 pq3 => ⟨32, (zp2 (Nat.le_refl _)), ?_⟩)
  refine hv9 (W3.putr pq3 ty1 (fun qr => by rw [ty1.2] at qr; cases qr) rfl (by decide)) (F3.putr X1 pq3 ty1 rfl) (show rv1 a0 1 = (some qn1) from by rw [pq3]; exact upr_s) (show ∀ k, ([1] : List Nat).contains k = false → rv1 a0 k = rv a0 k from fun k hk => (Eq.trans (show rv1 a0 k = rvn1 a0 k from (by rw [pq3]; exact upr_j (fun e => by subst e; exact absurd hk (by decide)))) (show rvn1 a0 k = rv a0 k from (by rw [hrn1]; exact congrFun (up0_a (ne_in t_a0.1 hqn1)) _)))) (show ivn1 a0 0 = iv2 a0 0 from by rw [hin1]; exact congrFun (up0_a (ne_in t_a0.1 hqn1)) _) (show iv2 a0 0 = i from by rw [pq2]; exact up2_s) (show ivn1 a0 2 = iv2 a0 2 from by rw [hin1]; exact congrFun (up0_a (ne_in t_a0.1 hqn1)) _) (show iv2 a0 2 = iv1 a0 2 from by rw [pq2]; exact up2_j (by decide)) (show iv1 a0 2 = 0 from by rw [pq1]; exact up2_s) (fun W4 F4 rp1 rn1 ie1 ie2 ie3 ie4 ie5 => ?_)
  refine hv2 (show (-2147483648) ≤ ivn1 a0 0 ∧ ivn1 a0 0 ≤ 2147483647 from W4.int ty1 0) (show (-2147483648) ≤ ivn1 a0 2 ∧ ivn1 a0 2 ≤ 2147483647 from W4.int ty1 2) (fun ri1 ri2 => ?_)
  exact c_vret C dX1_init_22 rfl (by decide) (rom0 hph (Nat.le_refl 0) (by decide)) ⟨rfl, X1, F4, W4, ⟨qn1, rn1, rp1, tqn1, (by omega), (by omega), (by omega)⟩, nw1.sub (by decide)⟩
set_option maxHeartbeats 4000000 in
set_option maxRecDepth 100000 in
theorem Y_ints_7 {l : Launch} {G : GT} {mi : Nat} {sk : Nat → Nat} {L : List Nat} {cl ln : Nat → Nat} {iv : Nat → Nat → Int} {rv : Nat → Nat → Option Nat}  {a0 : Nat} {i : Int} (hW : WT (g0 G) sk L cl ln iv rv) (t_a0 : ty L cl a0 202) (h_i : -2147483648 ≤ i ∧ i ≤ 2147483647)  : Mc l G mi zPf 0 yX1_init cX1_init 2 none 1 [.ref a0, .int (iI i)] L cl ln iv rv 32 (fun v L2 cl2 ln2 iv2 rv2 => v = none ∧ XT L cl ln L2 cl2 ln2 ∧ fT [202] L cl iv rv iv2 rv2 ∧ WT (g0 G) sk L2 cl2 ln2 iv2 rv2 ∧ (∃ b, (∀ k, ([1] : List Nat).contains k = false → rv2 a0 k = rv a0 k) ∧ rv2 a0 1 = some b ∧ ty L2 cl2 b 37 ∧ ln2 b = 16 ∧ iv2 a0 0 = i ∧ iv2 a0 2 = 0) ∧ NW [37] L L2 cl2) := by
  refine Mc.mk (by decide) (Nat.le_of_ble_eq_true rfl) ?_
  intro p e s m args below meth c A C hM
  refine hv4 ((show zPf ln rv ≤ 0 from Nat.le_refl 0)) (show NW [] L L cl from NW.refl) (show XT L cl ln L cl ln from XT.refl) (show fT [202] L cl iv rv iv rv from fT.refl) (fun hph nw0 hX0 hF0 => ?_)
  refine c_aload_n (j := 0) (x := a0) C dX1_init_0 rfl ?_
  refine c_objInit C dX1_init_1 w1_37 w1_30 w1_31 (by decide) (Nat.le_of_ble_eq_true rfl) ?_
  refine c_aload_n (j := 0) (x := a0) C dX1_init_4 rfl ?_
  refine c_iconst C dX1_init_5 ?_
  refine c_put (z := 0) (k := 2) C ck_2 dX1_init_6 w1_43 (by decide) rfl t_a0 rfl rfl (by decide) rfl (by rfl) (by rfl) (fun iv1 pq1 => ?_)
  refine hv2 (hW.puti pq1 t_a0 ⟨by decide, by decide⟩ rfl) (hF0.puti hX0 pq1 t_a0 rfl) (fun W1 F1 => ?_)
  refine c_aload_n (j := 0) (x := a0) C dX1_init_9 rfl ?_
  refine c_iload_n (j := 1) C dX1_init_10 rfl ?_
  refine c_putF (z := i) (k := 0) C ck_2 dX1_init_11 w1_38 (by decide) rfl rfl rfl t_a0 rfl rfl (by decide) rfl (by rfl) (by rfl) (fun iv2 pq2 => ?_)
  refine hv2 (W1.puti pq2 t_a0 (show (-2147483648) ≤ i ∧ i ≤ 2147483647 by omega) rfl) (F1.puti hX0 pq2 t_a0 rfl) (fun W2 F2 => ?_)
  refine c_aload_n (j := 0) (x := a0) C dX1_init_14 rfl ?_
  refine c_bipush (z := 16) C dX1_init_15 (by decide) ?_
  refine c_newaI (z := 16) (N := 16) C 37 dX1_init_17 w1_57 rfl (by omega) (by omega) (rom2 hph hph (by decide)) (fun qn1 cln1 lnn1 ivn1 rvn1 hqn1 hcn1 hln1 hin1 hrn1 => ⟨32, (z_in (by omega)), ?_⟩)
  refine c_g0 C (fun hg1 => ?_)
  refine hv5 (show ∀ b, b ≠ qn1 → lnn1 b = ln b from (fun b hb => by rw [hln1]; exact va_up_ne _ _ hb)) (show lnn1 qn1 = 16 from by rw [hln1]; exact va_up_self _ _ _) (F2.new hX0 hqn1 hin1 hrn1) (show ty (L ++ [qn1]) cln1 qn1 37 from ty_new hcn1) (show qn1 ∉ L from fun h => hqn1 ((hX0 qn1 h).1)) (fun hxn1 lqn1 F3 tqn1 h0qn1 => ?_)
  refine hv2 (W2.new (ln2 := lnn1) hqn1 (hg1 qn1 (List.mem_append_right _ List.mem_cons_self)) hcn1 hxn1 hin1 hrn1 (fun _ => ⟨(show (-2147483648 : Int) ≤ 0 by decide), (show (0 : Int) ≤ 2147483647 by decide)⟩) (Or.inr (fun _ => rfl)) (fun _ => by show 16 ≤ lnn1 qn1 ∧ lnn1 qn1 ≤ 12006; omega) rfl rfl) (XT.new hqn1 hcn1 hxn1) (fun W3 xl1 => ?_)
  refine hv3 (hX0.trans xl1) (nw0.new xl1 hcn1) (xl1.ty t_a0) (fun X1 nw1 ty1 => ?_)
  refine c_putr (x := (some qn1)) (k := 1) C ck_2 dX1_init_19 w1_39 (by decide) rfl ty1 rfl rfl (by decide) rfl (by rfl) (by rfl) (fun rv1 pq3 => ⟨32, (zp2 (Nat.le_refl _)), ?_⟩)
  refine hv9 (W3.putr pq3 ty1 (fun qr => by rw [ty1.2] at qr; cases qr) rfl (by decide)) (F3.putr X1 pq3 ty1 rfl) (show rv1 a0 1 = (some qn1) from by rw [pq3]; exact upr_s) (show ∀ k, ([1] : List Nat).contains k = false → rv1 a0 k = rv a0 k from fun k hk => (Eq.trans (show rv1 a0 k = rvn1 a0 k from (by rw [pq3]; exact upr_j (fun e => by subst e; exact absurd hk (by decide)))) (show rvn1 a0 k = rv a0 k from (by rw [hrn1]; exact congrFun (up0_a (ne_in t_a0.1 hqn1)) _)))) (show ivn1 a0 0 = iv2 a0 0 from by rw [hin1]; exact congrFun (up0_a (ne_in t_a0.1 hqn1)) _) (show iv2 a0 0 = i from by rw [pq2]; exact up2_s) (show ivn1 a0 2 = iv2 a0 2 from by rw [hin1]; exact congrFun (up0_a (ne_in t_a0.1 hqn1)) _) (show iv2 a0 2 = iv1 a0 2 from by rw [pq2]; exact up2_j (by decide)) (show iv1 a0 2 = 0 from by rw [pq1]; exact up2_s) (fun W4 F4 rp1 rn1 ie1 ie2 ie3 ie4 ie5 => ?_)
  refine hv2 (show (-2147483648) ≤ ivn1 a0 0 ∧ ivn1 a0 0 ≤ 2147483647 from W4.int ty1 0) (show (-2147483648) ≤ ivn1 a0 2 ∧ ivn1 a0 2 ≤ 2147483647 from W4.int ty1 2) (fun ri1 ri2 => ?_)
  exact c_vret C dX1_init_22 rfl (by decide) (rom0 hph (Nat.le_refl 0) (by decide)) ⟨rfl, X1, F4, W4, ⟨qn1, rn1, rp1, tqn1, (by omega), (by omega), (by omega)⟩, nw1.sub (by decide)⟩
set_option maxHeartbeats 4000000 in
set_option maxRecDepth 100000 in
theorem Y_ints_8 {l : Launch} {G : GT} {mi : Nat} {sk : Nat → Nat} {L : List Nat} {cl ln : Nat → Nat} {iv : Nat → Nat → Int} {rv : Nat → Nat → Option Nat}  {a0 : Nat} {i : Int} (hW : WT (g0 G) sk L cl ln iv rv) (t_a0 : ty L cl a0 202) (h_i : -2147483648 ≤ i ∧ i ≤ 2147483647)  : Mc l G mi zPf 0 yX1_init cX1_init 2 none 1 [.ref a0, .int (iI i)] L cl ln iv rv 32 (fun v L2 cl2 ln2 iv2 rv2 => v = none ∧ XT L cl ln L2 cl2 ln2 ∧ fT [202] L cl iv rv iv2 rv2 ∧ WT (g0 G) sk L2 cl2 ln2 iv2 rv2 ∧ (∃ b, (∀ k, ([1] : List Nat).contains k = false → rv2 a0 k = rv a0 k) ∧ rv2 a0 1 = some b ∧ ty L2 cl2 b 38 ∧ ln2 b = 16 ∧ iv2 a0 0 = i ∧ iv2 a0 2 = 0) ∧ NW [38] L L2 cl2) := by
  refine Mc.mk (by decide) (Nat.le_of_ble_eq_true rfl) ?_
  intro p e s m args below meth c A C hM
  refine hv4 ((show zPf ln rv ≤ 0 from Nat.le_refl 0)) (show NW [] L L cl from NW.refl) (show XT L cl ln L cl ln from XT.refl) (show fT [202] L cl iv rv iv rv from fT.refl) (fun hph nw0 hX0 hF0 => ?_)
  refine c_aload_n (j := 0) (x := a0) C dX1_init_0 rfl ?_
  refine c_objInit C dX1_init_1 w1_37 w1_30 w1_31 (by decide) (Nat.le_of_ble_eq_true rfl) ?_
  refine c_aload_n (j := 0) (x := a0) C dX1_init_4 rfl ?_
  refine c_iconst C dX1_init_5 ?_
  refine c_put (z := 0) (k := 2) C ck_2 dX1_init_6 w1_43 (by decide) rfl t_a0 rfl rfl (by decide) rfl (by rfl) (by rfl) (fun iv1 pq1 => ?_)
  refine hv2 (hW.puti pq1 t_a0 ⟨by decide, by decide⟩ rfl) (hF0.puti hX0 pq1 t_a0 rfl) (fun W1 F1 => ?_)
  refine c_aload_n (j := 0) (x := a0) C dX1_init_9 rfl ?_
  refine c_iload_n (j := 1) C dX1_init_10 rfl ?_
  refine c_putF (z := i) (k := 0) C ck_2 dX1_init_11 w1_38 (by decide) rfl rfl rfl t_a0 rfl rfl (by decide) rfl (by rfl) (by rfl) (fun iv2 pq2 => ?_)
  refine hv2 (W1.puti pq2 t_a0 (show (-2147483648) ≤ i ∧ i ≤ 2147483647 by omega) rfl) (F1.puti hX0 pq2 t_a0 rfl) (fun W2 F2 => ?_)
  refine c_aload_n (j := 0) (x := a0) C dX1_init_14 rfl ?_
  refine c_bipush (z := 16) C dX1_init_15 (by decide) ?_
  refine c_newaI (z := 16) (N := 16) C 38 dX1_init_17 w1_57 rfl (by omega) (by omega) (rom2 hph hph (by decide)) (fun qn1 cln1 lnn1 ivn1 rvn1 hqn1 hcn1 hln1 hin1 hrn1 => ⟨32, (z_in (by omega)), ?_⟩)
  refine c_g0 C (fun hg1 => ?_)
  refine hv5 (show ∀ b, b ≠ qn1 → lnn1 b = ln b from (fun b hb => by rw [hln1]; exact va_up_ne _ _ hb)) (show lnn1 qn1 = 16 from by rw [hln1]; exact va_up_self _ _ _) (F2.new hX0 hqn1 hin1 hrn1) (show ty (L ++ [qn1]) cln1 qn1 38 from ty_new hcn1) (show qn1 ∉ L from fun h => hqn1 ((hX0 qn1 h).1)) (fun hxn1 lqn1 F3 tqn1 h0qn1 => ?_)
  refine hv2 (W2.new (ln2 := lnn1) hqn1 (hg1 qn1 (List.mem_append_right _ List.mem_cons_self)) hcn1 hxn1 hin1 hrn1 (fun _ => ⟨(show (-2147483648 : Int) ≤ 0 by decide), (show (0 : Int) ≤ 2147483647 by decide)⟩) (Or.inr (fun _ => rfl)) (fun _ => by show 16 ≤ lnn1 qn1 ∧ lnn1 qn1 ≤ 80400; omega) rfl rfl) (XT.new hqn1 hcn1 hxn1) (fun W3 xl1 => ?_)
  refine hv3 (hX0.trans xl1) (nw0.new xl1 hcn1) (xl1.ty t_a0) (fun X1 nw1 ty1 => ?_)
  refine c_putr (x := (some qn1)) (k := 1) C ck_2 dX1_init_19 w1_39 (by decide) rfl ty1 rfl rfl (by decide) rfl (by rfl) (by rfl) (fun rv1 pq3 => ⟨32, (zp2 (Nat.le_refl _)), ?_⟩)
  refine hv9 (W3.putr pq3 ty1 (fun qr => by rw [ty1.2] at qr; cases qr) rfl (by decide)) (F3.putr X1 pq3 ty1 rfl) (show rv1 a0 1 = (some qn1) from by rw [pq3]; exact upr_s) (show ∀ k, ([1] : List Nat).contains k = false → rv1 a0 k = rv a0 k from fun k hk => (Eq.trans (show rv1 a0 k = rvn1 a0 k from (by rw [pq3]; exact upr_j (fun e => by subst e; exact absurd hk (by decide)))) (show rvn1 a0 k = rv a0 k from (by rw [hrn1]; exact congrFun (up0_a (ne_in t_a0.1 hqn1)) _)))) (show ivn1 a0 0 = iv2 a0 0 from by rw [hin1]; exact congrFun (up0_a (ne_in t_a0.1 hqn1)) _) (show iv2 a0 0 = i from by rw [pq2]; exact up2_s) (show ivn1 a0 2 = iv2 a0 2 from by rw [hin1]; exact congrFun (up0_a (ne_in t_a0.1 hqn1)) _) (show iv2 a0 2 = iv1 a0 2 from by rw [pq2]; exact up2_j (by decide)) (show iv1 a0 2 = 0 from by rw [pq1]; exact up2_s) (fun W4 F4 rp1 rn1 ie1 ie2 ie3 ie4 ie5 => ?_)
  refine hv2 (show (-2147483648) ≤ ivn1 a0 0 ∧ ivn1 a0 0 ≤ 2147483647 from W4.int ty1 0) (show (-2147483648) ≤ ivn1 a0 2 ∧ ivn1 a0 2 ≤ 2147483647 from W4.int ty1 2) (fun ri1 ri2 => ?_)
  exact c_vret C dX1_init_22 rfl (by decide) (rom0 hph (Nat.le_refl 0) (by decide)) ⟨rfl, X1, F4, W4, ⟨qn1, rn1, rp1, tqn1, (by omega), (by omega), (by omega)⟩, nw1.sub (by decide)⟩
set_option maxHeartbeats 4000000 in
set_option maxRecDepth 100000 in
theorem Y_ints_9 {l : Launch} {G : GT} {mi : Nat} {sk : Nat → Nat} {L : List Nat} {cl ln : Nat → Nat} {iv : Nat → Nat → Int} {rv : Nat → Nat → Option Nat}  {a0 : Nat} {i : Int} (hW : WT (g0 G) sk L cl ln iv rv) (t_a0 : ty L cl a0 202) (h_i : -2147483648 ≤ i ∧ i ≤ 2147483647)  : Mc l G mi zPf 0 yX1_init cX1_init 2 none 1 [.ref a0, .int (iI i)] L cl ln iv rv 32 (fun v L2 cl2 ln2 iv2 rv2 => v = none ∧ XT L cl ln L2 cl2 ln2 ∧ fT [202] L cl iv rv iv2 rv2 ∧ WT (g0 G) sk L2 cl2 ln2 iv2 rv2 ∧ (∃ b, (∀ k, ([1] : List Nat).contains k = false → rv2 a0 k = rv a0 k) ∧ rv2 a0 1 = some b ∧ ty L2 cl2 b 39 ∧ ln2 b = 16 ∧ iv2 a0 0 = i ∧ iv2 a0 2 = 0) ∧ NW [39] L L2 cl2) := by
  refine Mc.mk (by decide) (Nat.le_of_ble_eq_true rfl) ?_
  intro p e s m args below meth c A C hM
  refine hv4 ((show zPf ln rv ≤ 0 from Nat.le_refl 0)) (show NW [] L L cl from NW.refl) (show XT L cl ln L cl ln from XT.refl) (show fT [202] L cl iv rv iv rv from fT.refl) (fun hph nw0 hX0 hF0 => ?_)
  refine c_aload_n (j := 0) (x := a0) C dX1_init_0 rfl ?_
  refine c_objInit C dX1_init_1 w1_37 w1_30 w1_31 (by decide) (Nat.le_of_ble_eq_true rfl) ?_
  refine c_aload_n (j := 0) (x := a0) C dX1_init_4 rfl ?_
  refine c_iconst C dX1_init_5 ?_
  refine c_put (z := 0) (k := 2) C ck_2 dX1_init_6 w1_43 (by decide) rfl t_a0 rfl rfl (by decide) rfl (by rfl) (by rfl) (fun iv1 pq1 => ?_)
  refine hv2 (hW.puti pq1 t_a0 ⟨by decide, by decide⟩ rfl) (hF0.puti hX0 pq1 t_a0 rfl) (fun W1 F1 => ?_)
  refine c_aload_n (j := 0) (x := a0) C dX1_init_9 rfl ?_
  refine c_iload_n (j := 1) C dX1_init_10 rfl ?_
  refine c_putF (z := i) (k := 0) C ck_2 dX1_init_11 w1_38 (by decide) rfl rfl rfl t_a0 rfl rfl (by decide) rfl (by rfl) (by rfl) (fun iv2 pq2 => ?_)
  refine hv2 (W1.puti pq2 t_a0 (show (-2147483648) ≤ i ∧ i ≤ 2147483647 by omega) rfl) (F1.puti hX0 pq2 t_a0 rfl) (fun W2 F2 => ?_)
  refine c_aload_n (j := 0) (x := a0) C dX1_init_14 rfl ?_
  refine c_bipush (z := 16) C dX1_init_15 (by decide) ?_
  refine c_newaI (z := 16) (N := 16) C 39 dX1_init_17 w1_57 rfl (by omega) (by omega) (rom2 hph hph (by decide)) (fun qn1 cln1 lnn1 ivn1 rvn1 hqn1 hcn1 hln1 hin1 hrn1 => ⟨32, (z_in (by omega)), ?_⟩)
  refine c_g0 C (fun hg1 => ?_)
  refine hv5 (show ∀ b, b ≠ qn1 → lnn1 b = ln b from (fun b hb => by rw [hln1]; exact va_up_ne _ _ hb)) (show lnn1 qn1 = 16 from by rw [hln1]; exact va_up_self _ _ _) (F2.new hX0 hqn1 hin1 hrn1) (show ty (L ++ [qn1]) cln1 qn1 39 from ty_new hcn1) (show qn1 ∉ L from fun h => hqn1 ((hX0 qn1 h).1)) (fun hxn1 lqn1 F3 tqn1 h0qn1 => ?_)
  refine hv2 (W2.new (ln2 := lnn1) hqn1 (hg1 qn1 (List.mem_append_right _ List.mem_cons_self)) hcn1 hxn1 hin1 hrn1 (fun _ => ⟨(show (-2147483648 : Int) ≤ 0 by decide), (show (0 : Int) ≤ 2147483647 by decide)⟩) (Or.inr (fun _ => rfl)) (fun _ => by show 16 ≤ lnn1 qn1 ∧ lnn1 qn1 ≤ 80400; omega) rfl rfl) (XT.new hqn1 hcn1 hxn1) (fun W3 xl1 => ?_)
  refine hv3 (hX0.trans xl1) (nw0.new xl1 hcn1) (xl1.ty t_a0) (fun X1 nw1 ty1 => ?_)
  refine c_putr (x := (some qn1)) (k := 1) C ck_2 dX1_init_19 w1_39 (by decide) rfl ty1 rfl rfl (by decide) rfl (by rfl) (by rfl) (fun rv1 pq3 => ⟨32, (zp2 (Nat.le_refl _)), ?_⟩)
  refine hv9 (W3.putr pq3 ty1 (fun qr => by rw [ty1.2] at qr; cases qr) rfl (by decide)) (F3.putr X1 pq3 ty1 rfl) (show rv1 a0 1 = (some qn1) from by rw [pq3]; exact upr_s) (show ∀ k, ([1] : List Nat).contains k = false → rv1 a0 k = rv a0 k from fun k hk => (Eq.trans (show rv1 a0 k = rvn1 a0 k from (by rw [pq3]; exact upr_j (fun e => by subst e; exact absurd hk (by decide)))) (show rvn1 a0 k = rv a0 k from (by rw [hrn1]; exact congrFun (up0_a (ne_in t_a0.1 hqn1)) _)))) (show ivn1 a0 0 = iv2 a0 0 from by rw [hin1]; exact congrFun (up0_a (ne_in t_a0.1 hqn1)) _) (show iv2 a0 0 = i from by rw [pq2]; exact up2_s) (show ivn1 a0 2 = iv2 a0 2 from by rw [hin1]; exact congrFun (up0_a (ne_in t_a0.1 hqn1)) _) (show iv2 a0 2 = iv1 a0 2 from by rw [pq2]; exact up2_j (by decide)) (show iv1 a0 2 = 0 from by rw [pq1]; exact up2_s) (fun W4 F4 rp1 rn1 ie1 ie2 ie3 ie4 ie5 => ?_)
  refine hv2 (show (-2147483648) ≤ ivn1 a0 0 ∧ ivn1 a0 0 ≤ 2147483647 from W4.int ty1 0) (show (-2147483648) ≤ ivn1 a0 2 ∧ ivn1 a0 2 ≤ 2147483647 from W4.int ty1 2) (fun ri1 ri2 => ?_)
  exact c_vret C dX1_init_22 rfl (by decide) (rom0 hph (Nat.le_refl 0) (by decide)) ⟨rfl, X1, F4, W4, ⟨qn1, rn1, rp1, tqn1, (by omega), (by omega), (by omega)⟩, nw1.sub (by decide)⟩
set_option maxHeartbeats 4000000 in
set_option maxRecDepth 100000 in
theorem Y_ints_10 {l : Launch} {G : GT} {mi : Nat} {sk : Nat → Nat} {L : List Nat} {cl ln : Nat → Nat} {iv : Nat → Nat → Int} {rv : Nat → Nat → Option Nat}  {a0 : Nat} {i : Int} (hW : WT (g0 G) sk L cl ln iv rv) (t_a0 : ty L cl a0 202) (h_i : -2147483648 ≤ i ∧ i ≤ 2147483647)  : Mc l G mi zPf 0 yX1_init cX1_init 2 none 1 [.ref a0, .int (iI i)] L cl ln iv rv 32 (fun v L2 cl2 ln2 iv2 rv2 => v = none ∧ XT L cl ln L2 cl2 ln2 ∧ fT [202] L cl iv rv iv2 rv2 ∧ WT (g0 G) sk L2 cl2 ln2 iv2 rv2 ∧ (∃ b, (∀ k, ([1] : List Nat).contains k = false → rv2 a0 k = rv a0 k) ∧ rv2 a0 1 = some b ∧ ty L2 cl2 b 40 ∧ ln2 b = 16 ∧ iv2 a0 0 = i ∧ iv2 a0 2 = 0) ∧ NW [40] L L2 cl2) := by
  refine Mc.mk (by decide) (Nat.le_of_ble_eq_true rfl) ?_
  intro p e s m args below meth c A C hM
  refine hv4 ((show zPf ln rv ≤ 0 from Nat.le_refl 0)) (show NW [] L L cl from NW.refl) (show XT L cl ln L cl ln from XT.refl) (show fT [202] L cl iv rv iv rv from fT.refl) (fun hph nw0 hX0 hF0 => ?_)
  refine c_aload_n (j := 0) (x := a0) C dX1_init_0 rfl ?_
  refine c_objInit C dX1_init_1 w1_37 w1_30 w1_31 (by decide) (Nat.le_of_ble_eq_true rfl) ?_
  refine c_aload_n (j := 0) (x := a0) C dX1_init_4 rfl ?_
  refine c_iconst C dX1_init_5 ?_
  refine c_put (z := 0) (k := 2) C ck_2 dX1_init_6 w1_43 (by decide) rfl t_a0 rfl rfl (by decide) rfl (by rfl) (by rfl) (fun iv1 pq1 => ?_)
  refine hv2 (hW.puti pq1 t_a0 ⟨by decide, by decide⟩ rfl) (hF0.puti hX0 pq1 t_a0 rfl) (fun W1 F1 => ?_)
  refine c_aload_n (j := 0) (x := a0) C dX1_init_9 rfl ?_
  refine c_iload_n (j := 1) C dX1_init_10 rfl ?_
  refine c_putF (z := i) (k := 0) C ck_2 dX1_init_11 w1_38 (by decide) rfl rfl rfl t_a0 rfl rfl (by decide) rfl (by rfl) (by rfl) (fun iv2 pq2 => ?_)
  refine hv2 (W1.puti pq2 t_a0 (show (-2147483648) ≤ i ∧ i ≤ 2147483647 by omega) rfl) (F1.puti hX0 pq2 t_a0 rfl) (fun W2 F2 => ?_)
  refine c_aload_n (j := 0) (x := a0) C dX1_init_14 rfl ?_
  refine c_bipush (z := 16) C dX1_init_15 (by decide) ?_
  refine c_newaI (z := 16) (N := 16) C 40 dX1_init_17 w1_57 rfl (by omega) (by omega) (rom2 hph hph (by decide)) (fun qn1 cln1 lnn1 ivn1 rvn1 hqn1 hcn1 hln1 hin1 hrn1 => ⟨32, (z_in (by omega)), ?_⟩)
  refine c_g0 C (fun hg1 => ?_)
  refine hv5 (show ∀ b, b ≠ qn1 → lnn1 b = ln b from (fun b hb => by rw [hln1]; exact va_up_ne _ _ hb)) (show lnn1 qn1 = 16 from by rw [hln1]; exact va_up_self _ _ _) (F2.new hX0 hqn1 hin1 hrn1) (show ty (L ++ [qn1]) cln1 qn1 40 from ty_new hcn1) (show qn1 ∉ L from fun h => hqn1 ((hX0 qn1 h).1)) (fun hxn1 lqn1 F3 tqn1 h0qn1 => ?_)
  refine hv2 (W2.new (ln2 := lnn1) hqn1 (hg1 qn1 (List.mem_append_right _ List.mem_cons_self)) hcn1 hxn1 hin1 hrn1 (fun _ => ⟨(show (-2147483648 : Int) ≤ 0 by decide), (show (0 : Int) ≤ 2147483647 by decide)⟩) (Or.inr (fun _ => rfl)) (fun _ => by show 16 ≤ lnn1 qn1 ∧ lnn1 qn1 ≤ 8002; omega) rfl rfl) (XT.new hqn1 hcn1 hxn1) (fun W3 xl1 => ?_)
  refine hv3 (hX0.trans xl1) (nw0.new xl1 hcn1) (xl1.ty t_a0) (fun X1 nw1 ty1 => ?_)
  refine c_putr (x := (some qn1)) (k := 1) C ck_2 dX1_init_19 w1_39 (by decide) rfl ty1 rfl rfl (by decide) rfl (by rfl) (by rfl) (fun rv1 pq3 => ⟨32, (zp2 (Nat.le_refl _)), ?_⟩)
  refine hv9 (W3.putr pq3 ty1 (fun qr => by rw [ty1.2] at qr; cases qr) rfl (by decide)) (F3.putr X1 pq3 ty1 rfl) (show rv1 a0 1 = (some qn1) from by rw [pq3]; exact upr_s) (show ∀ k, ([1] : List Nat).contains k = false → rv1 a0 k = rv a0 k from fun k hk => (Eq.trans (show rv1 a0 k = rvn1 a0 k from (by rw [pq3]; exact upr_j (fun e => by subst e; exact absurd hk (by decide)))) (show rvn1 a0 k = rv a0 k from (by rw [hrn1]; exact congrFun (up0_a (ne_in t_a0.1 hqn1)) _)))) (show ivn1 a0 0 = iv2 a0 0 from by rw [hin1]; exact congrFun (up0_a (ne_in t_a0.1 hqn1)) _) (show iv2 a0 0 = i from by rw [pq2]; exact up2_s) (show ivn1 a0 2 = iv2 a0 2 from by rw [hin1]; exact congrFun (up0_a (ne_in t_a0.1 hqn1)) _) (show iv2 a0 2 = iv1 a0 2 from by rw [pq2]; exact up2_j (by decide)) (show iv1 a0 2 = 0 from by rw [pq1]; exact up2_s) (fun W4 F4 rp1 rn1 ie1 ie2 ie3 ie4 ie5 => ?_)
  refine hv2 (show (-2147483648) ≤ ivn1 a0 0 ∧ ivn1 a0 0 ≤ 2147483647 from W4.int ty1 0) (show (-2147483648) ≤ ivn1 a0 2 ∧ ivn1 a0 2 ≤ 2147483647 from W4.int ty1 2) (fun ri1 ri2 => ?_)
  exact c_vret C dX1_init_22 rfl (by decide) (rom0 hph (Nat.le_refl 0) (by decide)) ⟨rfl, X1, F4, W4, ⟨qn1, rn1, rp1, tqn1, (by omega), (by omega), (by omega)⟩, nw1.sub (by decide)⟩
set_option maxHeartbeats 4000000 in
set_option maxRecDepth 100000 in
theorem Y_ints_11 {l : Launch} {G : GT} {mi : Nat} {sk : Nat → Nat} {L : List Nat} {cl ln : Nat → Nat} {iv : Nat → Nat → Int} {rv : Nat → Nat → Option Nat}  {a0 : Nat} {i : Int} (hW : WT (g0 G) sk L cl ln iv rv) (t_a0 : ty L cl a0 202) (h_i : -2147483648 ≤ i ∧ i ≤ 2147483647)  : Mc l G mi zPf 0 yX1_init cX1_init 2 none 1 [.ref a0, .int (iI i)] L cl ln iv rv 32 (fun v L2 cl2 ln2 iv2 rv2 => v = none ∧ XT L cl ln L2 cl2 ln2 ∧ fT [202] L cl iv rv iv2 rv2 ∧ WT (g0 G) sk L2 cl2 ln2 iv2 rv2 ∧ (∃ b, (∀ k, ([1] : List Nat).contains k = false → rv2 a0 k = rv a0 k) ∧ rv2 a0 1 = some b ∧ ty L2 cl2 b 41 ∧ ln2 b = 16 ∧ iv2 a0 0 = i ∧ iv2 a0 2 = 0) ∧ NW [41] L L2 cl2) := by
  refine Mc.mk (by decide) (Nat.le_of_ble_eq_true rfl) ?_
  intro p e s m args below meth c A C hM
  refine hv4 ((show zPf ln rv ≤ 0 from Nat.le_refl 0)) (show NW [] L L cl from NW.refl) (show XT L cl ln L cl ln from XT.refl) (show fT [202] L cl iv rv iv rv from fT.refl) (fun hph nw0 hX0 hF0 => ?_)
  refine c_aload_n (j := 0) (x := a0) C dX1_init_0 rfl ?_
  refine c_objInit C dX1_init_1 w1_37 w1_30 w1_31 (by decide) (Nat.le_of_ble_eq_true rfl) ?_
  refine c_aload_n (j := 0) (x := a0) C dX1_init_4 rfl ?_
  refine c_iconst C dX1_init_5 ?_
  refine c_put (z := 0) (k := 2) C ck_2 dX1_init_6 w1_43 (by decide) rfl t_a0 rfl rfl (by decide) rfl (by rfl) (by rfl) (fun iv1 pq1 => ?_)
  refine hv2 (hW.puti pq1 t_a0 ⟨by decide, by decide⟩ rfl) (hF0.puti hX0 pq1 t_a0 rfl) (fun W1 F1 => ?_)
  refine c_aload_n (j := 0) (x := a0) C dX1_init_9 rfl ?_
  refine c_iload_n (j := 1) C dX1_init_10 rfl ?_
  refine c_putF (z := i) (k := 0) C ck_2 dX1_init_11 w1_38 (by decide) rfl rfl rfl t_a0 rfl rfl (by decide) rfl (by rfl) (by rfl) (fun iv2 pq2 => ?_)
  refine hv2 (W1.puti pq2 t_a0 (show (-2147483648) ≤ i ∧ i ≤ 2147483647 by omega) rfl) (F1.puti hX0 pq2 t_a0 rfl) (fun W2 F2 => ?_)
  refine c_aload_n (j := 0) (x := a0) C dX1_init_14 rfl ?_
  refine c_bipush (z := 16) C dX1_init_15 (by decide) ?_
  refine c_newaI (z := 16) (N := 16) C 41 dX1_init_17 w1_57 rfl (by omega) (by omega) (rom2 hph hph (by decide)) (fun qn1 cln1 lnn1 ivn1 rvn1 hqn1 hcn1 hln1 hin1 hrn1 => ⟨32, (z_in (by omega)), ?_⟩)
  refine c_g0 C (fun hg1 => ?_)
  refine hv5 (show ∀ b, b ≠ qn1 → lnn1 b = ln b from (fun b hb => by rw [hln1]; exact va_up_ne _ _ hb)) (show lnn1 qn1 = 16 from by rw [hln1]; exact va_up_self _ _ _) (F2.new hX0 hqn1 hin1 hrn1) (show ty (L ++ [qn1]) cln1 qn1 41 from ty_new hcn1) (show qn1 ∉ L from fun h => hqn1 ((hX0 qn1 h).1)) (fun hxn1 lqn1 F3 tqn1 h0qn1 => ?_)
  refine hv2 (W2.new (ln2 := lnn1) hqn1 (hg1 qn1 (List.mem_append_right _ List.mem_cons_self)) hcn1 hxn1 hin1 hrn1 (fun _ => ⟨(show (-2147483648 : Int) ≤ 0 by decide), (show (0 : Int) ≤ 2147483647 by decide)⟩) (Or.inr (fun _ => rfl)) (fun _ => by show 16 ≤ lnn1 qn1 ∧ lnn1 qn1 ≤ 80000; omega) rfl rfl) (XT.new hqn1 hcn1 hxn1) (fun W3 xl1 => ?_)
  refine hv3 (hX0.trans xl1) (nw0.new xl1 hcn1) (xl1.ty t_a0) (fun X1 nw1 ty1 => ?_)
  refine c_putr (x := (some qn1)) (k := 1) C ck_2 dX1_init_19 w1_39 (by decide) rfl ty1 rfl rfl (by decide) rfl (by rfl) (by rfl) (fun rv1 pq3 => ⟨32, (zp2 (Nat.le_refl _)), ?_⟩)
  refine hv9 (W3.putr pq3 ty1 (fun qr => by rw [ty1.2] at qr; cases qr) rfl (by decide)) (F3.putr X1 pq3 ty1 rfl) (show rv1 a0 1 = (some qn1) from by rw [pq3]; exact upr_s) (show ∀ k, ([1] : List Nat).contains k = false → rv1 a0 k = rv a0 k from fun k hk => (Eq.trans (show rv1 a0 k = rvn1 a0 k from (by rw [pq3]; exact upr_j (fun e => by subst e; exact absurd hk (by decide)))) (show rvn1 a0 k = rv a0 k from (by rw [hrn1]; exact congrFun (up0_a (ne_in t_a0.1 hqn1)) _)))) (show ivn1 a0 0 = iv2 a0 0 from by rw [hin1]; exact congrFun (up0_a (ne_in t_a0.1 hqn1)) _) (show iv2 a0 0 = i from by rw [pq2]; exact up2_s) (show ivn1 a0 2 = iv2 a0 2 from by rw [hin1]; exact congrFun (up0_a (ne_in t_a0.1 hqn1)) _) (show iv2 a0 2 = iv1 a0 2 from by rw [pq2]; exact up2_j (by decide)) (show iv1 a0 2 = 0 from by rw [pq1]; exact up2_s) (fun W4 F4 rp1 rn1 ie1 ie2 ie3 ie4 ie5 => ?_)
  refine hv2 (show (-2147483648) ≤ ivn1 a0 0 ∧ ivn1 a0 0 ≤ 2147483647 from W4.int ty1 0) (show (-2147483648) ≤ ivn1 a0 2 ∧ ivn1 a0 2 ≤ 2147483647 from W4.int ty1 2) (fun ri1 ri2 => ?_)
  exact c_vret C dX1_init_22 rfl (by decide) (rom0 hph (Nat.le_refl 0) (by decide)) ⟨rfl, X1, F4, W4, ⟨qn1, rn1, rp1, tqn1, (by omega), (by omega), (by omega)⟩, nw1.sub (by decide)⟩
set_option maxHeartbeats 4000000 in
set_option maxRecDepth 100000 in
theorem Y_source {l : Launch} {G : GT} {mi : Nat} {sk : Nat → Nat} {L : List Nat} {cl ln : Nat → Nat} {iv : Nat → Nat → Int} {rv : Nat → Nat → Option Nat}  {a0 : Nat} (hW : WT (g0 G) sk L cl ln iv rv) (t_a0 : ty L cl a0 209)  : Mc l G mi zPf 0 yX8_init cX8_init 1 none 1 [.ref a0] L cl ln iv rv 306 (fun v L2 cl2 ln2 iv2 rv2 => v = none ∧ XT L cl ln L2 cl2 ln2 ∧ fT [209] L cl iv rv iv2 rv2 ∧ WT (g0 G) sk L2 cl2 ln2 iv2 rv2 ∧ (∃ b3 b4 b6, (∀ k, ([3, 4, 6] : List Nat).contains k = false → rv2 a0 k = rv a0 k) ∧ rv2 a0 3 = some b3 ∧ ty L2 cl2 b3 56 ∧ rv2 a0 4 = some b4 ∧ ty L2 cl2 b4 57 ∧ rv2 a0 6 = some b6 ∧ ty L2 cl2 b6 58 ∧ iv2 a0 0 = 0 ∧ iv2 a0 1 = 0 ∧ iv2 a0 2 = 0 ∧ iv2 a0 5 = 0 ∧ iv2 a0 7 = 0) ∧ NW [56, 57, 58] L L2 cl2) := by
  refine Mc.mk (by decide) (Nat.le_of_ble_eq_true rfl) ?_
  intro p e s m args below meth c A C hM
  refine hv4 ((show zPf ln rv ≤ 0 from Nat.le_refl 0)) (show NW [] L L cl from NW.refl) (show XT L cl ln L cl ln from XT.refl) (show fT [209] L cl iv rv iv rv from fT.refl) (fun hph nw0 hX0 hF0 => ?_)
  refine c_aload_n (j := 0) (x := a0) C dX8_init_0 rfl ?_
  refine c_objInit C dX8_init_1 w1_102 w1_30 w1_31 (by decide) (Nat.le_of_ble_eq_true rfl) ?_
  refine c_aload_n (j := 0) (x := a0) C dX8_init_4 rfl ?_
  refine c_iconst C dX8_init_5 ?_
  refine c_put (z := 0) (k := 0) C ck_9 dX8_init_6 w1_103 (by decide) rfl t_a0 rfl rfl (by decide) rfl (by rfl) (by rfl) (fun iv1 pq1 => ?_)
  refine hv2 (hW.puti pq1 t_a0 ⟨by decide, by decide⟩ rfl) (hF0.puti hX0 pq1 t_a0 rfl) (fun W1 F1 => ?_)
  refine c_aload_n (j := 0) (x := a0) C dX8_init_9 rfl ?_
  refine c_iconst C dX8_init_10 ?_
  refine c_put (z := 0) (k := 1) C ck_9 dX8_init_11 w1_104 (by decide) rfl t_a0 rfl rfl (by decide) rfl (by decide) (by decide) (fun iv2 pq2 => ?_)
  refine hv2 (W1.puti pq2 t_a0 ⟨by decide, by decide⟩ rfl) (F1.puti hX0 pq2 t_a0 rfl) (fun W2 F2 => ?_)
  refine c_aload_n (j := 0) (x := a0) C dX8_init_14 rfl ?_
  refine c_iconst C dX8_init_15 ?_
  refine c_put (z := 0) (k := 2) C ck_9 dX8_init_16 w1_105 (by decide) rfl t_a0 rfl rfl (by decide) rfl (by decide) (by decide) (fun iv3 pq3 => ?_)
  refine hv2 (W2.puti pq3 t_a0 ⟨by decide, by decide⟩ rfl) (F2.puti hX0 pq3 t_a0 rfl) (fun W3 F3 => ?_)
  refine c_aload_n (j := 0) (x := a0) C dX8_init_19 rfl ?_
  refine c_bipush (z := 126) C dX8_init_20 (by decide) ?_
  refine c_newaZ (z := 126) (N := 126) C 56 dX8_init_22 w1_129 rfl (by omega) (by omega) (rom2 hph hph (by decide)) (fun qn1 cln1 lnn1 ivn1 rvn1 hqn1 hcn1 hln1 hin1 hrn1 => ⟨142, (z_in (by omega)), ?_⟩)
  refine c_g0 C (fun hg1 => ?_)
  refine hv5 (show ∀ b, b ≠ qn1 → lnn1 b = ln b from (fun b hb => by rw [hln1]; exact va_up_ne _ _ hb)) (show lnn1 qn1 = 126 from by rw [hln1]; exact va_up_self _ _ _) (F3.new hX0 hqn1 hin1 hrn1) (show ty (L ++ [qn1]) cln1 qn1 56 from ty_new hcn1) (show qn1 ∉ L from fun h => hqn1 ((hX0 qn1 h).1)) (fun hxn1 lqn1 F4 tqn1 h0qn1 => ?_)
  refine hv2 (W3.new (ln2 := lnn1) hqn1 (hg1 qn1 (List.mem_append_right _ List.mem_cons_self)) hcn1 hxn1 hin1 hrn1 (fun _ => ⟨(show (0 : Int) ≤ 0 by decide), (show (0 : Int) ≤ 1 by decide)⟩) (Or.inr (fun _ => rfl)) (fun _ => by show 126 ≤ lnn1 qn1 ∧ lnn1 qn1 ≤ 126; omega) rfl rfl) (XT.new hqn1 hcn1 hxn1) (fun W4 xl1 => ?_)
  refine hv3 (hX0.trans xl1) (nw0.new xl1 hcn1) (xl1.ty t_a0) (fun X1 nw1 ty1 => ?_)
  refine c_putrF (x := (some qn1)) (k := 3) C ck_9 dX8_init_24 w1_107 (by decide) rfl rfl rfl ty1 rfl rfl (by decide) rfl (by rfl) (by rfl) (fun rv1 pq4 => ⟨142, (zp2 (Nat.le_refl _)), ?_⟩)
  refine hv2 (W4.putr pq4 ty1 (fun qr => by rw [ty1.2] at qr; cases qr) rfl (by decide)) (F4.putr X1 pq4 ty1 rfl) (fun W5 F5 => ?_)
  refine c_aload_n (j := 0) (x := a0) C dX8_init_27 rfl ?_
  refine c_bipush (z := 126) C dX8_init_28 (by decide) ?_
  refine c_newaI (z := 126) (N := 126) C 57 dX8_init_30 w1_57 rfl (by omega) (by omega) (rom2 hph (Nat.le_refl 0) (by decide)) (fun qn2 cln2 lnn2 ivn2 rvn2 hqn2 hcn2 hln2 hin2 hrn2 => ⟨284, (z_in (by omega)), ?_⟩)
  refine c_g0 C (fun hg2 => ?_)
  refine hv5 (show ∀ b, b ≠ qn2 → lnn2 b = lnn1 b from (fun b hb => by rw [hln2]; exact va_up_ne _ _ hb)) (show lnn2 qn2 = 126 from by rw [hln2]; exact va_up_self _ _ _) (F5.new X1 hqn2 hin2 hrn2) (show ty ((L ++ [qn1]) ++ [qn2]) cln2 qn2 57 from ty_new hcn2) (show qn2 ∉ L from fun h => hqn2 ((X1 qn2 h).1)) (fun hxn2 lqn2 F6 tqn2 h0qn2 => ?_)
  refine hv2 (W5.new (ln2 := lnn2) hqn2 (hg2 qn2 (List.mem_append_right _ List.mem_cons_self)) hcn2 hxn2 hin2 hrn2 (fun _ => ⟨(show (-2147483648 : Int) ≤ 0 by decide), (show (0 : Int) ≤ 2147483647 by decide)⟩) (Or.inr (fun _ => rfl)) (fun _ => by show 126 ≤ lnn2 qn2 ∧ lnn2 qn2 ≤ 126; omega) rfl rfl) (XT.new hqn2 hcn2 hxn2) (fun W6 xl2 => ?_)
  refine hv3 (X1.trans xl2) (nw1.new xl2 hcn2) (xl2.ty ty1) (fun X2 nw2 ty2 => ?_)
  refine c_putrF (x := (some qn2)) (k := 4) C ck_9 dX8_init_32 w1_108 (by decide) rfl rfl rfl ty2 rfl rfl (by decide) rfl (by rfl) (by rfl) (fun rv2 pq5 => ⟨284, (zp2 (Nat.le_refl _)), ?_⟩)
  refine hv2 (W6.putr pq5 ty2 (fun qr => by rw [ty2.2] at qr; cases qr) rfl (by decide)) (F6.putr X2 pq5 ty2 rfl) (fun W7 F7 => ?_)
  refine c_aload_n (j := 0) (x := a0) C dX8_init_35 rfl ?_
  refine c_iconst C dX8_init_36 ?_
  refine c_put (z := 0) (k := 5) C ck_9 dX8_init_37 w1_109 (by decide) rfl ty2 rfl rfl (by decide) rfl (by rfl) (by rfl) (fun iv4 pq6 => ?_)
  refine hv2 (W7.puti pq6 ty2 ⟨by decide, by decide⟩ rfl) (F7.puti X2 pq6 ty2 rfl) (fun W8 F8 => ?_)
  refine c_aload_n (j := 0) (x := a0) C dX8_init_40 rfl ?_
  refine c_bipush (z := 6) C dX8_init_41 (by decide) ?_
  have ty3 := xl2.ty tqn1
  refine c_newaI (z := 6) (N := 6) C 58 dX8_init_43 w1_57 rfl (by omega) (by omega) (rom2 hph (Nat.le_refl 0) (by decide)) (fun qn3 cln3 lnn3 ivn3 rvn3 hqn3 hcn3 hln3 hin3 hrn3 => ⟨306, (z_in (by omega)), ?_⟩)
  refine c_g0 C (fun hg3 => ?_)
  refine hv5 (show ∀ b, b ≠ qn3 → lnn3 b = lnn2 b from (fun b hb => by rw [hln3]; exact va_up_ne _ _ hb)) (show lnn3 qn3 = 6 from by rw [hln3]; exact va_up_self _ _ _) (F8.new X2 hqn3 hin3 hrn3) (show ty (((L ++ [qn1]) ++ [qn2]) ++ [qn3]) cln3 qn3 58 from ty_new hcn3) (show qn3 ∉ L from fun h => hqn3 ((X2 qn3 h).1)) (fun hxn3 lqn3 F9 tqn3 h0qn3 => ?_)
  refine hv2 (W8.new (ln2 := lnn3) hqn3 (hg3 qn3 (List.mem_append_right _ List.mem_cons_self)) hcn3 hxn3 hin3 hrn3 (fun _ => ⟨(show (0 : Int) ≤ 0 by decide), (show (0 : Int) ≤ 125 by decide)⟩) (Or.inr (fun _ => rfl)) (fun _ => by show 6 ≤ lnn3 qn3 ∧ lnn3 qn3 ≤ 6; omega) rfl rfl) (XT.new hqn3 hcn3 hxn3) (fun W9 xl3 => ?_)
  refine hv3 (X2.trans xl3) (nw2.new xl3 hcn3) (xl3.ty ty2) (fun X3 nw3 ty4 => ?_)
  refine c_putrF (x := (some qn3)) (k := 6) C ck_9 dX8_init_45 w1_110 (by decide) rfl rfl rfl ty4 rfl rfl (by decide) rfl (by rfl) (by rfl) (fun rv3 pq7 => ⟨306, (zp2 (Nat.le_refl _)), ?_⟩)
  refine hv2 (W9.putr pq7 ty4 (fun qr => by rw [ty4.2] at qr; cases qr) rfl (by decide)) (F9.putr X3 pq7 ty4 rfl) (fun W10 F10 => ?_)
  refine c_aload_n (j := 0) (x := a0) C dX8_init_48 rfl ?_
  refine c_iconst C dX8_init_49 ?_
  refine c_put (z := 0) (k := 7) C ck_9 dX8_init_50 w1_111 (by decide) rfl ty4 rfl rfl (by decide) rfl (by rfl) (by rfl) (fun iv5 pq8 => ?_)
  refine hv4 (W10.puti pq8 ty4 ⟨by decide, by decide⟩ rfl) (F10.puti X3 pq8 ty4 rfl) (show rv1 a0 3 = (some qn1) from by rw [pq4]; exact upr_s) (show rvn2 a0 3 = rv1 a0 3 from (by rw [hrn2]; exact congrFun (up0_a (ne_in ty1.1 hqn2)) _)) (fun W11 F11 rp1 re1 => ?_)
  rw [rp1] at re1
  have re2 : rv2 a0 3 = rvn2 a0 3 := (by rw [pq5]; exact upr_j (by decide))
  rw [re1] at re2
  have re3 : rvn3 a0 3 = rv2 a0 3 := (by rw [hrn3]; exact congrFun (up0_a (ne_in ty2.1 hqn3)) _)
  rw [re2] at re3
  have re4 : rv3 a0 3 = rvn3 a0 3 := (by rw [pq7]; exact upr_j (by decide))
  rw [re3] at re4
  refine hv2 (show rv2 a0 4 = (some qn2) from by rw [pq5]; exact upr_s) (show rvn3 a0 4 = rv2 a0 4 from (by rw [hrn3]; exact congrFun (up0_a (ne_in ty2.1 hqn3)) _)) (fun rp2 re5 => ?_)
  rw [rp2] at re5
  have re6 : rv3 a0 4 = rvn3 a0 4 := (by rw [pq7]; exact upr_j (by decide))
  rw [re5] at re6
  refine hv34 (show rv3 a0 6 = (some qn3) from by rw [pq7]; exact upr_s) (show ∀ k, ([3, 4, 6] : List Nat).contains k = false → rv3 a0 k = rv a0 k from fun k hk => (Eq.trans (show rv3 a0 k = rvn3 a0 k from (by rw [pq7]; exact upr_j (fun e => by subst e; exact absurd hk (by decide)))) (Eq.trans (show rvn3 a0 k = rv2 a0 k from (by rw [hrn3]; exact congrFun (up0_a (ne_in ty2.1 hqn3)) _)) (Eq.trans (show rv2 a0 k = rvn2 a0 k from (by rw [pq5]; exact upr_j (fun e => by subst e; exact absurd hk (by decide)))) (Eq.trans (show rvn2 a0 k = rv1 a0 k from (by rw [hrn2]; exact congrFun (up0_a (ne_in ty1.1 hqn2)) _)) (Eq.trans (show rv1 a0 k = rvn1 a0 k from (by rw [pq4]; exact upr_j (fun e => by subst e; exact absurd hk (by decide)))) (show rvn1 a0 k = rv a0 k from (by rw [hrn1]; exact congrFun (up0_a (ne_in t_a0.1 hqn1)) _)))))))) (xl3.ty ty3) (xl3.ty tqn2) (show (-2147483648) ≤ iv5 a0 0 ∧ iv5 a0 0 ≤ 2147483647 from W11.int ty4 0) (show iv5 a0 0 = ivn3 a0 0 from by rw [pq8]; exact up2_j (by decide)) (show ivn3 a0 0 = iv4 a0 0 from by rw [hin3]; exact congrFun (up0_a (ne_in ty2.1 hqn3)) _) (show iv4 a0 0 = ivn2 a0 0 from by rw [pq6]; exact up2_j (by decide)) (show ivn2 a0 0 = ivn1 a0 0 from by rw [hin2]; exact congrFun (up0_a (ne_in ty1.1 hqn2)) _) (show ivn1 a0 0 = iv3 a0 0 from by rw [hin1]; exact congrFun (up0_a (ne_in t_a0.1 hqn1)) _) (show iv3 a0 0 = iv2 a0 0 from by rw [pq3]; exact up2_j (by decide)) (show iv2 a0 0 = iv1 a0 0 from by rw [pq2]; exact up2_j (by decide)) (show iv1 a0 0 = 0 from by rw [pq1]; exact up2_s) (show (-2147483648) ≤ iv5 a0 1 ∧ iv5 a0 1 ≤ 2147483647 from W11.int ty4 1) (show iv5 a0 1 = ivn3 a0 1 from by rw [pq8]; exact up2_j (by decide)) (show ivn3 a0 1 = iv4 a0 1 from by rw [hin3]; exact congrFun (up0_a (ne_in ty2.1 hqn3)) _) (show iv4 a0 1 = ivn2 a0 1 from by rw [pq6]; exact up2_j (by decide)) (show ivn2 a0 1 = ivn1 a0 1 from by rw [hin2]; exact congrFun (up0_a (ne_in ty1.1 hqn2)) _) (show ivn1 a0 1 = iv3 a0 1 from by rw [hin1]; exact congrFun (up0_a (ne_in t_a0.1 hqn1)) _) (show iv3 a0 1 = iv2 a0 1 from by rw [pq3]; exact up2_j (by decide)) (show iv2 a0 1 = 0 from by rw [pq2]; exact up2_s) (show (-2147483648) ≤ iv5 a0 2 ∧ iv5 a0 2 ≤ 2147483647 from W11.int ty4 2) (show iv5 a0 2 = ivn3 a0 2 from by rw [pq8]; exact up2_j (by decide)) (show ivn3 a0 2 = iv4 a0 2 from by rw [hin3]; exact congrFun (up0_a (ne_in ty2.1 hqn3)) _) (show iv4 a0 2 = ivn2 a0 2 from by rw [pq6]; exact up2_j (by decide)) (show ivn2 a0 2 = ivn1 a0 2 from by rw [hin2]; exact congrFun (up0_a (ne_in ty1.1 hqn2)) _) (show ivn1 a0 2 = iv3 a0 2 from by rw [hin1]; exact congrFun (up0_a (ne_in t_a0.1 hqn1)) _) (show iv3 a0 2 = 0 from by rw [pq3]; exact up2_s) (show (-2147483648) ≤ iv5 a0 5 ∧ iv5 a0 5 ≤ 2147483647 from W11.int ty4 5) (show iv5 a0 5 = ivn3 a0 5 from by rw [pq8]; exact up2_j (by decide)) (show ivn3 a0 5 = iv4 a0 5 from by rw [hin3]; exact congrFun (up0_a (ne_in ty2.1 hqn3)) _) (show iv4 a0 5 = 0 from by rw [pq6]; exact up2_s) (show (-2147483648) ≤ iv5 a0 7 ∧ iv5 a0 7 ≤ 2147483647 from W11.int ty4 7) (show iv5 a0 7 = 0 from by rw [pq8]; exact up2_s) (fun rp3 rn1 ty5 ty6 ri1 ie1 ie2 ie3 ie4 ie5 ie6 ie7 ie8 ri2 ie9 ie10 ie11 ie12 ie13 ie14 ie15 ri3 ie16 ie17 ie18 ie19 ie20 ie21 ri4 ie22 ie23 ie24 ri5 ie25 => ?_)
  exact c_vret C dX8_init_53 rfl (by decide) (rom0 hph (Nat.le_refl 0) (by decide)) ⟨rfl, X3, F11, W11, ⟨qn1, qn2, qn3, rn1, re4, ty5, re6, ty6, rp3, tqn3, (by omega), (by omega), (by omega), (by omega), (by omega)⟩, nw3.sub (by decide)⟩
set_option maxHeartbeats 4000000 in
set_option maxRecDepth 100000 in
theorem Y_setting {l : Launch} {G : GT} {mi : Nat} {sk : Nat → Nat} {L : List Nat} {cl ln : Nat → Nat} {iv : Nat → Nat → Int} {rv : Nat → Nat → Option Nat}  {a0 : Nat} (hW : WT (g0 G) sk L cl ln iv rv) (t_a0 : ty L cl a0 207)  : Mc l G mi zPf 0 yX6_init cX6_init 1 none 1 [.ref a0] L cl ln iv rv 2301 (fun v L2 cl2 ln2 iv2 rv2 => v = none ∧ XT L cl ln L2 cl2 ln2 ∧ fT [207] L cl iv rv iv2 rv2 ∧ WT (g0 G) sk L2 cl2 ln2 iv2 rv2 ∧ (∃ b0 b1 b2 b3 b6 b8, (∀ k, ([0, 1, 2, 3, 6, 8] : List Nat).contains k = false → rv2 a0 k = rv a0 k) ∧ rv2 a0 0 = some b0 ∧ ty L2 cl2 b0 50 ∧ rv2 a0 1 = some b1 ∧ ty L2 cl2 b1 51 ∧ rv2 a0 2 = some b2 ∧ ty L2 cl2 b2 52 ∧ rv2 a0 3 = some b3 ∧ ty L2 cl2 b3 53 ∧ rv2 a0 6 = some b6 ∧ ty L2 cl2 b6 54 ∧ rv2 a0 8 = some b8 ∧ ty L2 cl2 b8 55 ∧ iv2 a0 4 = 0 ∧ iv2 a0 5 = 0 ∧ iv2 a0 7 = 0 ∧ iv2 a0 9 = 0 ∧ iv2 a0 10 = 0 ∧ iv2 a0 11 = 0) ∧ NW [50, 51, 52, 53, 54, 55] L L2 cl2) := by
  refine Mc.mk (by decide) (Nat.le_of_ble_eq_true rfl) ?_
  intro p e s m args below meth c A C hM
  refine hv4 ((show zPf ln rv ≤ 0 from Nat.le_refl 0)) (show NW [] L L cl from NW.refl) (show XT L cl ln L cl ln from XT.refl) (show fT [207] L cl iv rv iv rv from fT.refl) (fun hph nw0 hX0 hF0 => ?_)
  refine c_aload_n (j := 0) (x := a0) C dX6_init_0 rfl ?_
  refine c_objInit C dX6_init_1 w1_135 w1_30 w1_31 (by decide) (Nat.le_of_ble_eq_true rfl) ?_
  refine c_aload_n (j := 0) (x := a0) C dX6_init_4 rfl ?_
  refine c_sipush (z := 500) C dX6_init_5 (by decide) ?_
  refine c_newaI (z := 500) (N := 500) C 50 dX6_init_8 w1_57 rfl (by omega) (by omega) (rom2 hph hph (by decide)) (fun qn1 cln1 lnn1 ivn1 rvn1 hqn1 hcn1 hln1 hin1 hrn1 => ⟨516, (z_in (by omega)), ?_⟩)
  refine c_g0 C (fun hg1 => ?_)
  refine hv5 (show ∀ b, b ≠ qn1 → lnn1 b = ln b from (fun b hb => by rw [hln1]; exact va_up_ne _ _ hb)) (show lnn1 qn1 = 500 from by rw [hln1]; exact va_up_self _ _ _) (hF0.new hX0 hqn1 hin1 hrn1) (show ty (L ++ [qn1]) cln1 qn1 50 from ty_new hcn1) (show qn1 ∉ L from fun h => hqn1 ((hX0 qn1 h).1)) (fun hxn1 lqn1 F1 tqn1 h0qn1 => ?_)
  refine hv2 (hW.new (ln2 := lnn1) hqn1 (hg1 qn1 (List.mem_append_right _ List.mem_cons_self)) hcn1 hxn1 hin1 hrn1 (fun _ => ⟨(show (-2147483648 : Int) ≤ 0 by decide), (show (0 : Int) ≤ 2147483647 by decide)⟩) (Or.inr (fun _ => rfl)) (fun _ => by show 500 ≤ lnn1 qn1 ∧ lnn1 qn1 ≤ 500; omega) rfl rfl) (XT.new hqn1 hcn1 hxn1) (fun W1 xl1 => ?_)
  refine hv3 (hX0.trans xl1) (nw0.new xl1 hcn1) (xl1.ty t_a0) (fun X1 nw1 ty1 => ?_)
  refine c_putrF (x := (some qn1)) (k := 0) C ck_7 dX6_init_10 w1_136 (by decide) rfl rfl rfl ty1 rfl rfl (by decide) rfl (by rfl) (by rfl) (fun rv1 pq1 => ⟨516, (zp2 (Nat.le_refl _)), ?_⟩)
  refine hv2 (W1.putr pq1 ty1 (fun qr => by rw [ty1.2] at qr; cases qr) rfl (by decide)) (F1.putr X1 pq1 ty1 rfl) (fun W2 F2 => ?_)
  refine c_aload_n (j := 0) (x := a0) C dX6_init_13 rfl ?_
  refine c_sipush (z := 500) C dX6_init_14 (by decide) ?_
  refine c_newaI (z := 500) (N := 500) C 51 dX6_init_17 w1_57 rfl (by omega) (by omega) (rom2 hph (Nat.le_refl 0) (by decide)) (fun qn2 cln2 lnn2 ivn2 rvn2 hqn2 hcn2 hln2 hin2 hrn2 => ⟨1032, (z_in (by omega)), ?_⟩)
  refine c_g0 C (fun hg2 => ?_)
  refine hv5 (show ∀ b, b ≠ qn2 → lnn2 b = lnn1 b from (fun b hb => by rw [hln2]; exact va_up_ne _ _ hb)) (show lnn2 qn2 = 500 from by rw [hln2]; exact va_up_self _ _ _) (F2.new X1 hqn2 hin2 hrn2) (show ty ((L ++ [qn1]) ++ [qn2]) cln2 qn2 51 from ty_new hcn2) (show qn2 ∉ L from fun h => hqn2 ((X1 qn2 h).1)) (fun hxn2 lqn2 F3 tqn2 h0qn2 => ?_)
  refine hv2 (W2.new (ln2 := lnn2) hqn2 (hg2 qn2 (List.mem_append_right _ List.mem_cons_self)) hcn2 hxn2 hin2 hrn2 (fun _ => ⟨(show (-2147483648 : Int) ≤ 0 by decide), (show (0 : Int) ≤ 2147483647 by decide)⟩) (Or.inr (fun _ => rfl)) (fun _ => by show 500 ≤ lnn2 qn2 ∧ lnn2 qn2 ≤ 500; omega) rfl rfl) (XT.new hqn2 hcn2 hxn2) (fun W3 xl2 => ?_)
  refine hv3 (X1.trans xl2) (nw1.new xl2 hcn2) (xl2.ty ty1) (fun X2 nw2 ty2 => ?_)
  refine c_putrF (x := (some qn2)) (k := 1) C ck_7 dX6_init_19 w1_137 (by decide) rfl rfl rfl ty2 rfl rfl (by decide) rfl (by rfl) (by rfl) (fun rv2 pq2 => ⟨1032, (zp2 (Nat.le_refl _)), ?_⟩)
  refine hv2 (W3.putr pq2 ty2 (fun qr => by rw [ty2.2] at qr; cases qr) rfl (by decide)) (F3.putr X2 pq2 ty2 rfl) (fun W4 F4 => ?_)
  refine c_aload_n (j := 0) (x := a0) C dX6_init_22 rfl ?_
  refine c_sipush (z := 500) C dX6_init_23 (by decide) ?_
  have ty3 := xl2.ty tqn1
  refine c_newaZ (z := 500) (N := 500) C 52 dX6_init_26 w1_129 rfl (by omega) (by omega) (rom2 hph (Nat.le_refl 0) (by decide)) (fun qn3 cln3 lnn3 ivn3 rvn3 hqn3 hcn3 hln3 hin3 hrn3 => ⟨1548, (z_in (by omega)), ?_⟩)
  refine c_g0 C (fun hg3 => ?_)
  refine hv5 (show ∀ b, b ≠ qn3 → lnn3 b = lnn2 b from (fun b hb => by rw [hln3]; exact va_up_ne _ _ hb)) (show lnn3 qn3 = 500 from by rw [hln3]; exact va_up_self _ _ _) (F4.new X2 hqn3 hin3 hrn3) (show ty (((L ++ [qn1]) ++ [qn2]) ++ [qn3]) cln3 qn3 52 from ty_new hcn3) (show qn3 ∉ L from fun h => hqn3 ((X2 qn3 h).1)) (fun hxn3 lqn3 F5 tqn3 h0qn3 => ?_)
  refine hv2 (W4.new (ln2 := lnn3) hqn3 (hg3 qn3 (List.mem_append_right _ List.mem_cons_self)) hcn3 hxn3 hin3 hrn3 (fun _ => ⟨(show (0 : Int) ≤ 0 by decide), (show (0 : Int) ≤ 1 by decide)⟩) (Or.inr (fun _ => rfl)) (fun _ => by show 500 ≤ lnn3 qn3 ∧ lnn3 qn3 ≤ 500; omega) rfl rfl) (XT.new hqn3 hcn3 hxn3) (fun W5 xl3 => ?_)
  refine hv3 (X2.trans xl3) (nw2.new xl3 hcn3) (xl3.ty ty2) (fun X3 nw3 ty4 => ?_)
  refine c_putrF (x := (some qn3)) (k := 2) C ck_7 dX6_init_28 w1_138 (by decide) rfl rfl rfl ty4 rfl rfl (by decide) rfl (by rfl) (by rfl) (fun rv3 pq3 => ⟨1548, (zp2 (Nat.le_refl _)), ?_⟩)
  refine hv2 (W5.putr pq3 ty4 (fun qr => by rw [ty4.2] at qr; cases qr) rfl (by decide)) (F5.putr X3 pq3 ty4 rfl) (fun W6 F6 => ?_)
  refine c_aload_n (j := 0) (x := a0) C dX6_init_31 rfl ?_
  refine c_sipush (z := 500) C dX6_init_32 (by decide) ?_
  refine hv2 (xl3.ty ty3) (xl3.ty tqn2) (fun ty5 ty6 => ?_)
  refine c_newaI (z := 500) (N := 500) C 53 dX6_init_35 w1_57 rfl (by omega) (by omega) (rom2 hph (Nat.le_refl 0) (by decide)) (fun qn4 cln4 lnn4 ivn4 rvn4 hqn4 hcn4 hln4 hin4 hrn4 => ⟨2064, (z_in (by omega)), ?_⟩)
  refine c_g0 C (fun hg4 => ?_)
  refine hv5 (show ∀ b, b ≠ qn4 → lnn4 b = lnn3 b from (fun b hb => by rw [hln4]; exact va_up_ne _ _ hb)) (show lnn4 qn4 = 500 from by rw [hln4]; exact va_up_self _ _ _) (F6.new X3 hqn4 hin4 hrn4) (show ty ((((L ++ [qn1]) ++ [qn2]) ++ [qn3]) ++ [qn4]) cln4 qn4 53 from ty_new hcn4) (show qn4 ∉ L from fun h => hqn4 ((X3 qn4 h).1)) (fun hxn4 lqn4 F7 tqn4 h0qn4 => ?_)
  refine hv2 (W6.new (ln2 := lnn4) hqn4 (hg4 qn4 (List.mem_append_right _ List.mem_cons_self)) hcn4 hxn4 hin4 hrn4 (fun _ => ⟨(show (-2147483648 : Int) ≤ 0 by decide), (show (0 : Int) ≤ 2147483647 by decide)⟩) (Or.inr (fun _ => rfl)) (fun _ => by show 500 ≤ lnn4 qn4 ∧ lnn4 qn4 ≤ 500; omega) rfl rfl) (XT.new hqn4 hcn4 hxn4) (fun W7 xl4 => ?_)
  refine hv3 (X3.trans xl4) (nw3.new xl4 hcn4) (xl4.ty ty4) (fun X4 nw4 ty7 => ?_)
  refine c_putrF (x := (some qn4)) (k := 3) C ck_7 dX6_init_37 w1_139 (by decide) rfl rfl rfl ty7 rfl rfl (by decide) rfl (by rfl) (by rfl) (fun rv4 pq4 => ⟨2064, (zp2 (Nat.le_refl _)), ?_⟩)
  refine hv2 (W7.putr pq4 ty7 (fun qr => by rw [ty7.2] at qr; cases qr) rfl (by decide)) (F7.putr X4 pq4 ty7 rfl) (fun W8 F8 => ?_)
  refine c_aload_n (j := 0) (x := a0) C dX6_init_40 rfl ?_
  refine c_iconst C dX6_init_41 ?_
  refine c_put (z := 0) (k := 4) C ck_7 dX6_init_42 w1_140 (by decide) rfl ty7 rfl rfl (by decide) rfl (by rfl) (by rfl) (fun iv1 pq5 => ?_)
  refine hv2 (W8.puti pq5 ty7 ⟨by decide, by decide⟩ rfl) (F8.puti X4 pq5 ty7 rfl) (fun W9 F9 => ?_)
  refine c_aload_n (j := 0) (x := a0) C dX6_init_45 rfl ?_
  refine c_iconst C dX6_init_46 ?_
  refine c_put (z := 0) (k := 5) C ck_7 dX6_init_47 w1_143 (by decide) rfl ty7 rfl rfl (by decide) rfl (by decide) (by decide) (fun iv2 pq6 => ?_)
  refine hv2 (W9.puti pq6 ty7 ⟨by decide, by decide⟩ rfl) (F9.puti X4 pq6 ty7 rfl) (fun W10 F10 => ?_)
  refine c_aload_n (j := 0) (x := a0) C dX6_init_50 rfl ?_
  refine c_sipush (z := 200) C dX6_init_51 (by decide) ?_
  refine hv3 (xl4.ty ty5) (xl4.ty ty6) (xl4.ty tqn3) (fun ty8 ty9 ty10 => ?_)
  refine c_newaI (z := 200) (N := 200) C 54 dX6_init_54 w1_57 rfl (by omega) (by omega) (rom2 hph (Nat.le_refl 0) (by decide)) (fun qn5 cln5 lnn5 ivn5 rvn5 hqn5 hcn5 hln5 hin5 hrn5 => ⟨2280, (z_in (by omega)), ?_⟩)
  refine c_g0 C (fun hg5 => ?_)
  refine hv5 (show ∀ b, b ≠ qn5 → lnn5 b = lnn4 b from (fun b hb => by rw [hln5]; exact va_up_ne _ _ hb)) (show lnn5 qn5 = 200 from by rw [hln5]; exact va_up_self _ _ _) (F10.new X4 hqn5 hin5 hrn5) (show ty (((((L ++ [qn1]) ++ [qn2]) ++ [qn3]) ++ [qn4]) ++ [qn5]) cln5 qn5 54 from ty_new hcn5) (show qn5 ∉ L from fun h => hqn5 ((X4 qn5 h).1)) (fun hxn5 lqn5 F11 tqn5 h0qn5 => ?_)
  refine hv2 (W10.new (ln2 := lnn5) hqn5 (hg5 qn5 (List.mem_append_right _ List.mem_cons_self)) hcn5 hxn5 hin5 hrn5 (fun _ => ⟨(show (-2147483648 : Int) ≤ 0 by decide), (show (0 : Int) ≤ 2147483647 by decide)⟩) (Or.inr (fun _ => rfl)) (fun _ => by show 200 ≤ lnn5 qn5 ∧ lnn5 qn5 ≤ 200; omega) rfl rfl) (XT.new hqn5 hcn5 hxn5) (fun W11 xl5 => ?_)
  refine hv3 (X4.trans xl5) (nw4.new xl5 hcn5) (xl5.ty ty7) (fun X5 nw5 ty11 => ?_)
  refine c_putrF (x := (some qn5)) (k := 6) C ck_7 dX6_init_56 w1_144 (by decide) rfl rfl rfl ty11 rfl rfl (by decide) rfl (by rfl) (by rfl) (fun rv5 pq7 => ⟨2280, (zp2 (Nat.le_refl _)), ?_⟩)
  refine hv2 (W11.putr pq7 ty11 (fun qr => by rw [ty11.2] at qr; cases qr) rfl (by decide)) (F11.putr X5 pq7 ty11 rfl) (fun W12 F12 => ?_)
  refine c_aload_n (j := 0) (x := a0) C dX6_init_59 rfl ?_
  refine c_iconst C dX6_init_60 ?_
  refine c_put (z := 0) (k := 7) C ck_7 dX6_init_61 w1_147 (by decide) rfl ty11 rfl rfl (by decide) rfl (by rfl) (by rfl) (fun iv3 pq8 => ?_)
  refine hv2 (W12.puti pq8 ty11 ⟨by decide, by decide⟩ rfl) (F12.puti X5 pq8 ty11 rfl) (fun W13 F13 => ?_)
  refine c_aload_n (j := 0) (x := a0) C dX6_init_64 rfl ?_
  refine c_iconst C dX6_init_65 ?_
  refine hv4 (xl5.ty ty8) (xl5.ty ty9) (xl5.ty ty10) (xl5.ty tqn4) (fun ty12 ty13 ty14 ty15 => ?_)
  refine c_newaI (z := 5) (N := 5) C 55 dX6_init_66 w1_57 rfl (by omega) (by omega) (rom2 hph (Nat.le_refl 0) (by decide)) (fun qn6 cln6 lnn6 ivn6 rvn6 hqn6 hcn6 hln6 hin6 hrn6 => ⟨2301, (z_in (by omega)), ?_⟩)
  refine c_g0 C (fun hg6 => ?_)
  refine hv5 (show ∀ b, b ≠ qn6 → lnn6 b = lnn5 b from (fun b hb => by rw [hln6]; exact va_up_ne _ _ hb)) (show lnn6 qn6 = 5 from by rw [hln6]; exact va_up_self _ _ _) (F13.new X5 hqn6 hin6 hrn6) (show ty ((((((L ++ [qn1]) ++ [qn2]) ++ [qn3]) ++ [qn4]) ++ [qn5]) ++ [qn6]) cln6 qn6 55 from ty_new hcn6) (show qn6 ∉ L from fun h => hqn6 ((X5 qn6 h).1)) (fun hxn6 lqn6 F14 tqn6 h0qn6 => ?_)
  refine hv2 (W13.new (ln2 := lnn6) hqn6 (hg6 qn6 (List.mem_append_right _ List.mem_cons_self)) hcn6 hxn6 hin6 hrn6 (fun _ => ⟨(show (-2147483648 : Int) ≤ 0 by decide), (show (0 : Int) ≤ 2147483647 by decide)⟩) (Or.inr (fun _ => rfl)) (fun _ => by show 5 ≤ lnn6 qn6 ∧ lnn6 qn6 ≤ 5; omega) rfl rfl) (XT.new hqn6 hcn6 hxn6) (fun W14 xl6 => ?_)
  refine hv3 (X5.trans xl6) (nw5.new xl6 hcn6) (xl6.ty ty11) (fun X6 nw6 ty16 => ?_)
  refine c_putrF (x := (some qn6)) (k := 8) C ck_7 dX6_init_68 w1_150 (by decide) rfl rfl rfl ty16 rfl rfl (by decide) rfl (by rfl) (by rfl) (fun rv6 pq9 => ⟨2301, (zp2 (Nat.le_refl _)), ?_⟩)
  refine hv2 (W14.putr pq9 ty16 (fun qr => by rw [ty16.2] at qr; cases qr) rfl (by decide)) (F14.putr X6 pq9 ty16 rfl) (fun W15 F15 => ?_)
  refine c_aload_n (j := 0) (x := a0) C dX6_init_71 rfl ?_
  refine c_iconst C dX6_init_72 ?_
  refine c_put (z := 0) (k := 9) C ck_7 dX6_init_73 w1_151 (by decide) rfl ty16 rfl rfl (by decide) rfl (by rfl) (by rfl) (fun iv4 pq10 => ?_)
  refine hv2 (W15.puti pq10 ty16 ⟨by decide, by decide⟩ rfl) (F15.puti X6 pq10 ty16 rfl) (fun W16 F16 => ?_)
  refine c_aload_n (j := 0) (x := a0) C dX6_init_76 rfl ?_
  refine c_iconst C dX6_init_77 ?_
  refine c_put (z := 0) (k := 10) C ck_7 dX6_init_78 w1_152 (by decide) rfl ty16 rfl rfl (by decide) rfl (by rfl) (by rfl) (fun iv5 pq11 => ?_)
  refine hv2 (W16.puti pq11 ty16 ⟨by decide, by decide⟩ rfl) (F16.puti X6 pq11 ty16 rfl) (fun W17 F17 => ?_)
  refine c_aload_n (j := 0) (x := a0) C dX6_init_81 rfl ?_
  refine c_iconst C dX6_init_82 ?_
  refine c_put (z := 0) (k := 11) C ck_7 dX6_init_83 w1_153 (by decide) rfl ty16 rfl rfl (by decide) rfl (by rfl) (by rfl) (fun iv6 pq12 => ?_)
  refine hv4 (W17.puti pq12 ty16 ⟨by decide, by decide⟩ rfl) (F17.puti X6 pq12 ty16 rfl) (show rv1 a0 0 = (some qn1) from by rw [pq1]; exact upr_s) (show rvn2 a0 0 = rv1 a0 0 from (by rw [hrn2]; exact congrFun (up0_a (ne_in ty1.1 hqn2)) _)) (fun W18 F18 rp1 re1 => ?_)
  rw [rp1] at re1
  have re2 : rv2 a0 0 = rvn2 a0 0 := (by rw [pq2]; exact upr_j (by decide))
  rw [re1] at re2
  have re3 : rvn3 a0 0 = rv2 a0 0 := (by rw [hrn3]; exact congrFun (up0_a (ne_in ty2.1 hqn3)) _)
  rw [re2] at re3
  have re4 : rv3 a0 0 = rvn3 a0 0 := (by rw [pq3]; exact upr_j (by decide))
  rw [re3] at re4
  have re5 : rvn4 a0 0 = rv3 a0 0 := (by rw [hrn4]; exact congrFun (up0_a (ne_in ty4.1 hqn4)) _)
  rw [re4] at re5
  have re6 : rv4 a0 0 = rvn4 a0 0 := (by rw [pq4]; exact upr_j (by decide))
  rw [re5] at re6
  have re7 : rvn5 a0 0 = rv4 a0 0 := (by rw [hrn5]; exact congrFun (up0_a (ne_in ty7.1 hqn5)) _)
  rw [re6] at re7
  have re8 : rv5 a0 0 = rvn5 a0 0 := (by rw [pq7]; exact upr_j (by decide))
  rw [re7] at re8
  have re9 : rvn6 a0 0 = rv5 a0 0 := (by rw [hrn6]; exact congrFun (up0_a (ne_in ty11.1 hqn6)) _)
  rw [re8] at re9
  have re10 : rv6 a0 0 = rvn6 a0 0 := (by rw [pq9]; exact upr_j (by decide))
  rw [re9] at re10
  refine hv2 (show rv2 a0 1 = (some qn2) from by rw [pq2]; exact upr_s) (show rvn3 a0 1 = rv2 a0 1 from (by rw [hrn3]; exact congrFun (up0_a (ne_in ty2.1 hqn3)) _)) (fun rp2 re11 => ?_)
  rw [rp2] at re11
  have re12 : rv3 a0 1 = rvn3 a0 1 := (by rw [pq3]; exact upr_j (by decide))
  rw [re11] at re12
  have re13 : rvn4 a0 1 = rv3 a0 1 := (by rw [hrn4]; exact congrFun (up0_a (ne_in ty4.1 hqn4)) _)
  rw [re12] at re13
  have re14 : rv4 a0 1 = rvn4 a0 1 := (by rw [pq4]; exact upr_j (by decide))
  rw [re13] at re14
  have re15 : rvn5 a0 1 = rv4 a0 1 := (by rw [hrn5]; exact congrFun (up0_a (ne_in ty7.1 hqn5)) _)
  rw [re14] at re15
  have re16 : rv5 a0 1 = rvn5 a0 1 := (by rw [pq7]; exact upr_j (by decide))
  rw [re15] at re16
  have re17 : rvn6 a0 1 = rv5 a0 1 := (by rw [hrn6]; exact congrFun (up0_a (ne_in ty11.1 hqn6)) _)
  rw [re16] at re17
  have re18 : rv6 a0 1 = rvn6 a0 1 := (by rw [pq9]; exact upr_j (by decide))
  rw [re17] at re18
  refine hv2 (show rv3 a0 2 = (some qn3) from by rw [pq3]; exact upr_s) (show rvn4 a0 2 = rv3 a0 2 from (by rw [hrn4]; exact congrFun (up0_a (ne_in ty4.1 hqn4)) _)) (fun rp3 re19 => ?_)
  rw [rp3] at re19
  have re20 : rv4 a0 2 = rvn4 a0 2 := (by rw [pq4]; exact upr_j (by decide))
  rw [re19] at re20
  have re21 : rvn5 a0 2 = rv4 a0 2 := (by rw [hrn5]; exact congrFun (up0_a (ne_in ty7.1 hqn5)) _)
  rw [re20] at re21
  have re22 : rv5 a0 2 = rvn5 a0 2 := (by rw [pq7]; exact upr_j (by decide))
  rw [re21] at re22
  have re23 : rvn6 a0 2 = rv5 a0 2 := (by rw [hrn6]; exact congrFun (up0_a (ne_in ty11.1 hqn6)) _)
  rw [re22] at re23
  have re24 : rv6 a0 2 = rvn6 a0 2 := (by rw [pq9]; exact upr_j (by decide))
  rw [re23] at re24
  refine hv2 (show rv4 a0 3 = (some qn4) from by rw [pq4]; exact upr_s) (show rvn5 a0 3 = rv4 a0 3 from (by rw [hrn5]; exact congrFun (up0_a (ne_in ty7.1 hqn5)) _)) (fun rp4 re25 => ?_)
  rw [rp4] at re25
  have re26 : rv5 a0 3 = rvn5 a0 3 := (by rw [pq7]; exact upr_j (by decide))
  rw [re25] at re26
  have re27 : rvn6 a0 3 = rv5 a0 3 := (by rw [hrn6]; exact congrFun (up0_a (ne_in ty11.1 hqn6)) _)
  rw [re26] at re27
  have re28 : rv6 a0 3 = rvn6 a0 3 := (by rw [pq9]; exact upr_j (by decide))
  rw [re27] at re28
  refine hv2 (show rv5 a0 6 = (some qn5) from by rw [pq7]; exact upr_s) (show rvn6 a0 6 = rv5 a0 6 from (by rw [hrn6]; exact congrFun (up0_a (ne_in ty11.1 hqn6)) _)) (fun rp5 re29 => ?_)
  rw [rp5] at re29
  have re30 : rv6 a0 6 = rvn6 a0 6 := (by rw [pq9]; exact upr_j (by decide))
  rw [re29] at re30
  refine hv39 (show rv6 a0 8 = (some qn6) from by rw [pq9]; exact upr_s) (show ∀ k, ([0, 1, 2, 3, 6, 8] : List Nat).contains k = false → rv6 a0 k = rv a0 k from fun k hk => (Eq.trans (show rv6 a0 k = rvn6 a0 k from (by rw [pq9]; exact upr_j (fun e => by subst e; exact absurd hk (by decide)))) (Eq.trans (show rvn6 a0 k = rv5 a0 k from (by rw [hrn6]; exact congrFun (up0_a (ne_in ty11.1 hqn6)) _)) (Eq.trans (show rv5 a0 k = rvn5 a0 k from (by rw [pq7]; exact upr_j (fun e => by subst e; exact absurd hk (by decide)))) (Eq.trans (show rvn5 a0 k = rv4 a0 k from (by rw [hrn5]; exact congrFun (up0_a (ne_in ty7.1 hqn5)) _)) (Eq.trans (show rv4 a0 k = rvn4 a0 k from (by rw [pq4]; exact upr_j (fun e => by subst e; exact absurd hk (by decide)))) (Eq.trans (show rvn4 a0 k = rv3 a0 k from (by rw [hrn4]; exact congrFun (up0_a (ne_in ty4.1 hqn4)) _)) (Eq.trans (show rv3 a0 k = rvn3 a0 k from (by rw [pq3]; exact upr_j (fun e => by subst e; exact absurd hk (by decide)))) (Eq.trans (show rvn3 a0 k = rv2 a0 k from (by rw [hrn3]; exact congrFun (up0_a (ne_in ty2.1 hqn3)) _)) (Eq.trans (show rv2 a0 k = rvn2 a0 k from (by rw [pq2]; exact upr_j (fun e => by subst e; exact absurd hk (by decide)))) (Eq.trans (show rvn2 a0 k = rv1 a0 k from (by rw [hrn2]; exact congrFun (up0_a (ne_in ty1.1 hqn2)) _)) (Eq.trans (show rv1 a0 k = rvn1 a0 k from (by rw [pq1]; exact upr_j (fun e => by subst e; exact absurd hk (by decide)))) (show rvn1 a0 k = rv a0 k from (by rw [hrn1]; exact congrFun (up0_a (ne_in t_a0.1 hqn1)) _)))))))))))))) (xl6.ty ty12) (xl6.ty ty13) (xl6.ty ty14) (xl6.ty ty15) (xl6.ty tqn5) (show (-2147483648) ≤ iv6 a0 4 ∧ iv6 a0 4 ≤ 2147483647 from W18.int ty16 4) (show iv6 a0 4 = iv5 a0 4 from by rw [pq12]; exact up2_j (by decide)) (show iv5 a0 4 = iv4 a0 4 from by rw [pq11]; exact up2_j (by decide)) (show iv4 a0 4 = ivn6 a0 4 from by rw [pq10]; exact up2_j (by decide)) (show ivn6 a0 4 = iv3 a0 4 from by rw [hin6]; exact congrFun (up0_a (ne_in ty11.1 hqn6)) _) (show iv3 a0 4 = ivn5 a0 4 from by rw [pq8]; exact up2_j (by decide)) (show ivn5 a0 4 = iv2 a0 4 from by rw [hin5]; exact congrFun (up0_a (ne_in ty7.1 hqn5)) _) (show iv2 a0 4 = iv1 a0 4 from by rw [pq6]; exact up2_j (by decide)) (show iv1 a0 4 = 0 from by rw [pq5]; exact up2_s) (show (-2147483648) ≤ iv6 a0 5 ∧ iv6 a0 5 ≤ 2147483647 from W18.int ty16 5) (show iv6 a0 5 = iv5 a0 5 from by rw [pq12]; exact up2_j (by decide)) (show iv5 a0 5 = iv4 a0 5 from by rw [pq11]; exact up2_j (by decide)) (show iv4 a0 5 = ivn6 a0 5 from by rw [pq10]; exact up2_j (by decide)) (show ivn6 a0 5 = iv3 a0 5 from by rw [hin6]; exact congrFun (up0_a (ne_in ty11.1 hqn6)) _) (show iv3 a0 5 = ivn5 a0 5 from by rw [pq8]; exact up2_j (by decide)) (show ivn5 a0 5 = iv2 a0 5 from by rw [hin5]; exact congrFun (up0_a (ne_in ty7.1 hqn5)) _) (show iv2 a0 5 = 0 from by rw [pq6]; exact up2_s) (show (-2147483648) ≤ iv6 a0 7 ∧ iv6 a0 7 ≤ 2147483647 from W18.int ty16 7) (show iv6 a0 7 = iv5 a0 7 from by rw [pq12]; exact up2_j (by decide)) (show iv5 a0 7 = iv4 a0 7 from by rw [pq11]; exact up2_j (by decide)) (show iv4 a0 7 = ivn6 a0 7 from by rw [pq10]; exact up2_j (by decide)) (show ivn6 a0 7 = iv3 a0 7 from by rw [hin6]; exact congrFun (up0_a (ne_in ty11.1 hqn6)) _) (show iv3 a0 7 = 0 from by rw [pq8]; exact up2_s) (show (-2147483648) ≤ iv6 a0 9 ∧ iv6 a0 9 ≤ 2147483647 from W18.int ty16 9) (show iv6 a0 9 = iv5 a0 9 from by rw [pq12]; exact up2_j (by decide)) (show iv5 a0 9 = iv4 a0 9 from by rw [pq11]; exact up2_j (by decide)) (show iv4 a0 9 = 0 from by rw [pq10]; exact up2_s) (show (-2147483648) ≤ iv6 a0 10 ∧ iv6 a0 10 ≤ 2147483647 from W18.int ty16 10) (show iv6 a0 10 = iv5 a0 10 from by rw [pq12]; exact up2_j (by decide)) (show iv5 a0 10 = 0 from by rw [pq11]; exact up2_s) (show (-2147483648) ≤ iv6 a0 11 ∧ iv6 a0 11 ≤ 2147483647 from W18.int ty16 11) (show iv6 a0 11 = 0 from by rw [pq12]; exact up2_s) (fun rp6 rn1 ty17 ty18 ty19 ty20 ty21 ri1 ie1 ie2 ie3 ie4 ie5 ie6 ie7 ie8 ri2 ie9 ie10 ie11 ie12 ie13 ie14 ie15 ri3 ie16 ie17 ie18 ie19 ie20 ri4 ie21 ie22 ie23 ri5 ie24 ie25 ri6 ie26 => ?_)
  exact c_vret C dX6_init_86 rfl (by decide) (rom0 hph (Nat.le_refl 0) (by decide)) ⟨rfl, X6, F18, W18, ⟨qn1, qn2, qn3, qn4, qn5, qn6, rn1, re10, ty17, re18, ty18, re24, ty19, re28, ty20, re30, ty21, rp6, tqn6, (by omega), (by omega), (by omega), (by omega), (by omega), (by omega)⟩, nw6.sub (by decide)⟩
set_option maxHeartbeats 4000000 in
set_option maxRecDepth 100000 in
theorem Y_sheet {l : Launch} {G : GT} {mi : Nat} {sk : Nat → Nat} {L : List Nat} {cl ln : Nat → Nat} {iv : Nat → Nat → Int} {rv : Nat → Nat → Option Nat}  {a0 : Nat} (hW : WT (g0 G) sk L cl ln iv rv) (t_a0 : ty L cl a0 208)  : Mc l G mi zPf 0 yX7_init cX7_init 1 none 1 [.ref a0] L cl ln iv rv 216 (fun v L2 cl2 ln2 iv2 rv2 => v = none ∧ XT L cl ln L2 cl2 ln2 ∧ fT [208] L cl iv rv iv2 rv2 ∧ WT (g0 G) sk L2 cl2 ln2 iv2 rv2 ∧ (∃ b, (∀ k, ([0] : List Nat).contains k = false → rv2 a0 k = rv a0 k) ∧ rv2 a0 0 = some b ∧ ty L2 cl2 b 213 ∧ ln2 b = 200 ∧ (∀ k, rv2 b k = none) ∧ b ∉ L ∧ iv2 a0 1 = 0) ∧ NW [213] L L2 cl2) := by
  refine Mc.mk (by decide) (Nat.le_of_ble_eq_true rfl) ?_
  intro p e s m args below meth c A C hM
  refine hv4 ((show zPf ln rv ≤ 0 from Nat.le_refl 0)) (show NW [] L L cl from NW.refl) (show XT L cl ln L cl ln from XT.refl) (show fT [208] L cl iv rv iv rv from fT.refl) (fun hph nw0 hX0 hF0 => ?_)
  refine c_aload_n (j := 0) (x := a0) C dX7_init_0 rfl ?_
  refine c_objInit C dX7_init_1 w2_30 w1_30 w1_31 (by decide) (Nat.le_of_ble_eq_true rfl) ?_
  refine c_aload_n (j := 0) (x := a0) C dX7_init_4 rfl ?_
  refine c_sipush (z := 200) C dX7_init_5 (by decide) ?_
  refine c_newaL (z := 200) (N := 200) C 213 dX7_init_8 w2_31 w2_32t rfl (by omega) (by omega) (rom2 hph hph (by decide)) (fun qn1 cln1 lnn1 ivn1 rvn1 hqn1 hcn1 hln1 hin1 hrn1 => ⟨216, (z_in (by omega)), ?_⟩)
  refine c_g0 C (fun hg1 => ?_)
  refine hv5 (show ∀ b, b ≠ qn1 → lnn1 b = ln b from (fun b hb => by rw [hln1]; exact va_up_ne _ _ hb)) (show lnn1 qn1 = 200 from by rw [hln1]; exact va_up_self _ _ _) (hF0.new hX0 hqn1 hin1 hrn1) (show ty (L ++ [qn1]) cln1 qn1 213 from ty_new hcn1) (show qn1 ∉ L from fun h => hqn1 ((hX0 qn1 h).1)) (fun hxn1 lqn1 F1 tqn1 h0qn1 => ?_)
  refine hv2 (hW.new (ln2 := lnn1) hqn1 (hg1 qn1 (List.mem_append_right _ List.mem_cons_self)) hcn1 hxn1 hin1 hrn1 (fun _ => ⟨(show (-2147483648 : Int) ≤ 0 by decide), (show (0 : Int) ≤ 2147483647 by decide)⟩) (Or.inl rfl) (fun q => by cases q) rfl rfl) (XT.new hqn1 hcn1 hxn1) (fun W1 xl1 => ?_)
  refine hv3 (hX0.trans xl1) (nw0.new xl1 hcn1) (xl1.ty t_a0) (fun X1 nw1 ty1 => ?_)
  refine c_putrF (x := (some qn1)) (k := 0) C ck_8 dX7_init_11 w2_33 (by decide) rfl rfl rfl ty1 rfl rfl (by decide) rfl (by rfl) (by rfl) (fun rv1 pq1 => ⟨216, (zp2 (Nat.le_refl _)), ?_⟩)
  refine hv2 (W1.putr pq1 ty1 (fun qr => by rw [ty1.2] at qr; cases qr) rfl (by decide)) (F1.putr X1 pq1 ty1 rfl) (fun W2 F2 => ?_)
  refine c_aload_n (j := 0) (x := a0) C dX7_init_14 rfl ?_
  refine c_iconst C dX7_init_15 ?_
  refine c_put (z := 0) (k := 1) C ck_8 dX7_init_16 w2_34 (by decide) rfl ty1 rfl rfl (by decide) rfl (by rfl) (by rfl) (fun iv1 pq2 => ?_)
  refine hv2 (W2.puti pq2 ty1 ⟨by decide, by decide⟩ rfl) (F2.puti X1 pq2 ty1 rfl) (fun W3 F3 => ?_)
  refine c_aload_n (j := 0) (x := a0) C dX7_init_19 rfl ?_
  refine c_iconst C dX7_init_20 ?_
  refine c_put (z := 0) (k := 2) C ck_8 dX7_init_21 w2_36 (by decide) rfl ty1 rfl rfl (by decide) rfl (by rfl) (by rfl) (fun iv2 pq3 => ?_)
  refine hv7 (W3.puti pq3 ty1 ⟨by decide, by decide⟩ rfl) (F3.puti X1 pq3 ty1 rfl) (show rv1 a0 0 = (some qn1) from by rw [pq1]; exact upr_s) (show ∀ k, ([] : List Nat).contains k = false → rv1 qn1 k = none from fun k hk => (Eq.trans (show rv1 qn1 k = rvn1 qn1 k from (by rw [pq1]; exact congrFun (upr_a (ne_ty tqn1 ty1 (by decide))) _)) (show rvn1 qn1 k = none from (by rw [hrn1]; exact up0_s)))) (show iv2 a0 1 = iv1 a0 1 from by rw [pq3]; exact up2_j (by decide)) (show iv1 a0 1 = 0 from by rw [pq2]; exact up2_s) (show ∀ k, ([0] : List Nat).contains k = false → rv1 a0 k = rv a0 k from fun k hk => (Eq.trans (show rv1 a0 k = rvn1 a0 k from (by rw [pq1]; exact upr_j (fun e => by subst e; exact absurd hk (by decide)))) (show rvn1 a0 k = rv a0 k from (by rw [hrn1]; exact congrFun (up0_a (ne_in t_a0.1 hqn1)) _)))) (fun W4 F4 rp1 rn1 ie1 ie2 rn2 => ?_)
  have ri1 : (-2147483648) ≤ iv2 a0 1 ∧ iv2 a0 1 ≤ 2147483647 := W4.int ty1 1
  exact c_vret C dX7_init_24 rfl (by decide) (rom0 hph (Nat.le_refl 0) (by decide)) ⟨rfl, X1, F4, W4, ⟨qn1, rn2, rp1, tqn1, (by omega), (fun k => rn1 k rfl), h0qn1, (by omega)⟩, nw1.sub (by decide)⟩
end
section
set_option maxHeartbeats 4000000 in
set_option maxRecDepth 100000 in
theorem Y_tables {l : Launch} {G : GT} {mi : Nat} {sk : Nat → Nat} {L : List Nat} {cl ln : Nat → Nat} {iv : Nat → Nat → Int} {rv : Nat → Nat → Option Nat}  {a0 : Nat} (hW : WT (g0 G) sk L cl ln iv rv) (hnt : ∀ t, ([22, 23] : List Nat).contains t = true → ∀ a ∈ L, cl a ≠ t) (t_a0 : ty L cl a0 211)  : Mc l G mi zPf 0 yX10_init cX10_init 1 none 4 [.ref a0] L cl ln iv rv 38 (fun v L2 cl2 ln2 iv2 rv2 => ∃ sk2, v = none ∧ XT L cl ln L2 cl2 ln2 ∧ fT [211, 200] L cl iv rv iv2 rv2 ∧ WT (g0 G) sk2 L2 cl2 ln2 iv2 rv2 ∧ (∃ b0 b1, (∀ k, ([0, 1] : List Nat).contains k = false → rv2 a0 k = rv a0 k) ∧ rv2 a0 0 = some b0 ∧ ty L2 cl2 b0 22 ∧ rv2 a0 1 = some b1 ∧ ty L2 cl2 b1 23 ∧ iv2 b0 2 = 0 ∧ iv2 b1 2 = 0) ∧ NW [200, 22, 23] L L2 cl2) := by
  refine Mc.mk (by decide) (Nat.le_of_ble_eq_true rfl) ?_
  intro p e s m args below meth c A C hM
  refine hv4 ((show zPf ln rv ≤ 0 from Nat.le_refl 0)) (show NW [] L L cl from NW.refl) (show XT L cl ln L cl ln from XT.refl) (show fT [211, 200] L cl iv rv iv rv from fT.refl) (fun hph nw0 hX0 hF0 => ?_)
  refine c_aload_n (j := 0) (x := a0) C dX10_init_0 rfl ?_
  refine c_objInit C dX10_init_1 w1_63 w1_30 w1_31 (by decide) (Nat.le_of_ble_eq_true rfl) ?_
  refine c_aload_n (j := 0) (x := a0) C dX10_init_4 rfl ?_
  refine c_new C ck_0 dv_0 ⟨rfl, rfl⟩ rfl (by decide) dX10_init_5 w1_64 w1_65 w1_6 (rom2 hph hph (by decide)) (fun qn1 cln1 lnn1 ivn1 rvn1 hqn1 hcn1 hln1 hin1 hrn1 => ⟨19, (z_in (by omega)), ?_⟩)
  refine c_g0 C (fun hg1 => ?_)
  refine hv4 (show ∀ b, b ≠ qn1 → lnn1 b = ln b from (fun b _ => by rw [hln1])) (hF0.new hX0 hqn1 hin1 hrn1) (show ty (L ++ [qn1]) cln1 qn1 200 from ty_new hcn1) (show qn1 ∉ L from fun h => hqn1 ((hX0 qn1 h).1)) (fun hxn1 F1 tqn1 h0qn1 => ?_)
  refine hv2 (hW.new (ln2 := lnn1) hqn1 (hg1 qn1 (List.mem_append_right _ List.mem_cons_self)) hcn1 hxn1 hin1 hrn1 (fun _ => ⟨(show (-2147483648 : Int) ≤ 0 by decide), (show (0 : Int) ≤ 2147483647 by decide)⟩) (Or.inl rfl) (fun q => by cases q) rfl rfl) (XT.new hqn1 hcn1 hxn1) (fun W1 xl1 => ?_)
  refine hv2 (hX0.trans xl1) (nw0.new xl1 hcn1) (fun X1 nw1 => ?_)
  refine c_dup C dX10_init_8 rfl ?_
  refine hv2 (show (-2147483648) ≤ ivn1 qn1 2 ∧ ivn1 qn1 2 ≤ 2147483647 from W1.int tqn1 2) (show ivn1 qn1 2 = 0 from by rw [hin1]; exact up0_s) (fun ri1 ie1 => ?_)
  refine c_callI (As := []) (rest := [.ref qn1, .ref a0]) C hM (Y_list (a0 := qn1) W1  tqn1  ) dX10_init_9 kI_X10_11 rfl rfl (Nat.le_of_ble_eq_true rfl) ⟨(Nat.le_of_ble_eq_true rfl), (Nat.le_of_ble_eq_true rfl)⟩ (rz0 hph (by decide)) (fun rh1 Lh1 clh1 lnh1 ivh1 rvh1 h1 => ⟨19, zk0, ?_⟩)
  obtain ⟨rfl, rfl, rfl, rfl, fl1, W2, exf1⟩ := h1
  have F2 := F1.call X1 fl1 rfl
  refine c_st (st2 := [.ref qn1, .ref a0]) rfl ?_
  refine hv4 (exf1.1) (exf1.2.1) (show (-2147483648) ≤ ivh1 qn1 2 ∧ ivh1 qn1 2 ≤ 2147483647 from W2.int tqn1 2) (show ∀ k, ([1] : List Nat).contains k = false → rvh1 qn1 k = none from fun k hk => (Eq.trans (show rvh1 qn1 k = rvn1 qn1 k from (exf1.2.2 k hk)) (show rvn1 qn1 k = none from (by rw [hrn1]; exact up0_s)))) (fun exf1r exf1s ri2 rn1 => ?_)
  refine c_retag (q := qn1) (t := 22) (by rw [tqn1.2]; rfl) (fun clr1 hcr1 => ?_)
  refine hv3 (xl1.ty t_a0) (show ty (L ++ [qn1]) clr1 qn1 22 from ⟨tqn1.1, by rw [hcr1, va_up_self]; rfl⟩) (NW.no nw1 X1 (hnt 22 (by decide)) (by decide)) (fun ty1 tqr1 hno1 => ?_)
  have ty2 := ty_rt ty1 hcr1 (ne_ty ty1 tqn1 (by decide))
  have W3 := W2.retagU tqn1.1 (by rw [tqn1.2]; rfl) hcr1 (fun k => by
        rcases k with _ | _ | _ | k
        · exact W2.int tqn1 0
        · exact W2.int tqn1 1
        · exact ⟨(by show 0 ≤ ivh1 qn1 2; first | exact bx_lo ‹ivh1 qn1 2 = _› (by decide) | omega), (by show ivh1 qn1 2 ≤ 30; first | exact bx_hi ‹ivh1 qn1 2 = _› (by decide) | omega)⟩
        · exact W2.int tqn1 (k + 3)) (fun k => by
        rcases k with _ | _ | _ | k
        · rw [rn1 0 (by decide)]; exact rok_none tqr1 rfl
        · rw [exf1r]; exact rok_lst tqr1 rfl
        · rw [rn1 2 (by decide)]; exact rok_none tqr1 rfl
        · rw [rn1 (k + 3) (by simp)]; exact rok_none tqr1 rfl) (fun z => by cases z) (fun _ b hb => by rw [exf1r] at hb; cases hb; exact Or.inl ⟨rfl, by omega⟩) (fun _ b hb i hi => absurd hi (by omega)) hno1
  refine hv3 (nw1.rt hcr1) (X1.rt hcr1 h0qn1) (show clr1 qn1 = 22 from by rw [hcr1]; exact va_up_self _ _ _) (fun nw2 X2 ctr1 => ?_)
  refine c_putrF (x := (some qn1)) (k := 0) C ck_11 dX10_init_12 w1_90 (by decide) rfl rfl rfl ty2 rfl rfl (by decide) rfl (by rfl) (by rfl) (fun rv1 pq1 => ⟨19, (zp2 (Nat.le_refl _)), ?_⟩)
  refine hv2 (W3.putr pq1 ty2 (fun qr => by rw [ty2.2] at qr; cases qr) rfl (by decide)) (F2.putr X2 pq1 ty2 rfl) (fun W4 F3 => ?_)
  refine c_aload_n (j := 0) (x := a0) C dX10_init_15 rfl ?_
  refine c_new C ck_0 dv_0 ⟨rfl, rfl⟩ rfl (by decide) dX10_init_16 w1_64 w1_65 w1_6 (rom2 hph (Nat.le_refl 0) (by decide)) (fun qn2 cln2 lnn2 ivn2 rvn2 hqn2 hcn2 hln2 hin2 hrn2 => ⟨38, (z_in (by omega)), ?_⟩)
  refine c_g0 C (fun hg2 => ?_)
  refine hv4 (show ∀ b, b ≠ qn2 → lnn2 b = lnn1 b from (fun b _ => by rw [hln2])) (F3.new X2 hqn2 hin2 hrn2) (show ty ((L ++ [qn1]) ++ [qn2]) cln2 qn2 200 from ty_new hcn2) (show qn2 ∉ L from fun h => hqn2 ((X2 qn2 h).1)) (fun hxn2 F4 tqn2 h0qn2 => ?_)
  refine hv2 (W4.new (ln2 := lnn2) hqn2 (hg2 qn2 (List.mem_append_right _ List.mem_cons_self)) hcn2 hxn2 hin2 hrn2 (fun _ => ⟨(show (-2147483648 : Int) ≤ 0 by decide), (show (0 : Int) ≤ 2147483647 by decide)⟩) (Or.inl rfl) (fun q => by cases q) rfl rfl) (XT.new hqn2 hcn2 hxn2) (fun W5 xl3 => ?_)
  refine hv2 (X2.trans xl3) (nw2.new xl3 hcn2) (fun X3 nw3 => ?_)
  refine c_dup C dX10_init_19 rfl ?_
  refine hv2 (show (-2147483648) ≤ ivn2 qn2 2 ∧ ivn2 qn2 2 ≤ 2147483647 from W5.int tqn2 2) (show ivn2 qn2 2 = 0 from by rw [hin2]; exact up0_s) (fun ri3 ie2 => ?_)
  refine c_callI (As := []) (rest := [.ref qn2, .ref a0]) C hM (Y_list (a0 := qn2) W5  tqn2  ) dX10_init_20 kI_X10_11 rfl rfl (Nat.le_of_ble_eq_true rfl) ⟨(Nat.le_of_ble_eq_true rfl), (Nat.le_of_ble_eq_true rfl)⟩ (rz0 hph (by decide)) (fun rh2 Lh2 clh2 lnh2 ivh2 rvh2 h2 => ⟨38, zk0, ?_⟩)
  obtain ⟨rfl, rfl, rfl, rfl, fl2, W6, exf2⟩ := h2
  have F5 := F4.call X3 fl2 rfl
  refine c_st (st2 := [.ref qn2, .ref a0]) rfl ?_
  refine hv4 (exf2.1) (exf2.2.1) (show (-2147483648) ≤ ivh2 qn2 2 ∧ ivh2 qn2 2 ≤ 2147483647 from W6.int tqn2 2) (show ∀ k, ([1] : List Nat).contains k = false → rvh2 qn2 k = none from fun k hk => (Eq.trans (show rvh2 qn2 k = rvn2 qn2 k from (exf2.2.2 k hk)) (show rvn2 qn2 k = none from (by rw [hrn2]; exact up0_s)))) (fun exf2r exf2s ri4 rn2 => ?_)
  refine c_retag (q := qn2) (t := 23) (by rw [tqn2.2]; rfl) (fun clr2 hcr2 => ?_)
  refine hv4 (xl3.ty ty2) (xl3.ty tqr1) (show ty ((L ++ [qn1]) ++ [qn2]) clr2 qn2 23 from ⟨tqn2.1, by rw [hcr2, va_up_self]; rfl⟩) (NW.no nw3 X3 (hnt 23 (by decide)) (by decide)) (fun ty3 ty5 tqr2 hno2 => ?_)
  refine hv2 (ty_rt ty3 hcr2 (ne_ty ty3 tqn2 (by decide))) (ty_rt ty5 hcr2 (ne_ty ty5 tqn2 (by decide))) (fun ty4 ty6 => ?_)
  have W7 := W6.retagU tqn2.1 (by rw [tqn2.2]; rfl) hcr2 (fun k => by
        rcases k with _ | _ | _ | k
        · exact W6.int tqn2 0
        · exact W6.int tqn2 1
        · exact ⟨(by show 0 ≤ ivh2 qn2 2; first | exact bx_lo ‹ivh2 qn2 2 = _› (by decide) | omega), (by show ivh2 qn2 2 ≤ 512; first | exact bx_hi ‹ivh2 qn2 2 = _› (by decide) | omega)⟩
        · exact W6.int tqn2 (k + 3)) (fun k => by
        rcases k with _ | _ | _ | k
        · rw [rn2 0 (by decide)]; exact rok_none tqr2 rfl
        · rw [exf2r]; exact rok_lst tqr2 rfl
        · rw [rn2 2 (by decide)]; exact rok_none tqr2 rfl
        · rw [rn2 (k + 3) (by simp)]; exact rok_none tqr2 rfl) (fun z => by cases z) (fun _ b hb => by rw [exf2r] at hb; cases hb; exact Or.inl ⟨rfl, by omega⟩) (fun _ b hb i hi => absurd hi (by omega)) hno2
  refine hv3 (nw3.rt hcr2) (X3.rt hcr2 h0qn2) (show clr2 qn2 = 23 from by rw [hcr2]; exact va_up_self _ _ _) (fun nw4 X4 ctr2 => ?_)
  refine c_putrF (x := (some qn2)) (k := 1) C ck_11 dX10_init_23 w1_91 (by decide) rfl rfl rfl ty4 rfl rfl (by decide) rfl (by rfl) (by rfl) (fun rv2 pq2 => ⟨38, (zp2 (Nat.le_refl _)), ?_⟩)
  refine hv4 (W7.putr pq2 ty4 (fun qr => by rw [ty4.2] at qr; cases qr) rfl (by decide)) (F5.putr X4 pq2 ty4 rfl) (show rv1 a0 0 = (some qn1) from by rw [pq1]; exact upr_s) (show rvn2 a0 0 = rv1 a0 0 from (by rw [hrn2]; exact congrFun (up0_a (ne_in ty2.1 hqn2)) _)) (fun W8 F6 rp1 re1 => ?_)
  rw [rp1] at re1
  have re2 : rvh2 a0 0 = rvn2 a0 0 := (fl2.r ty3 rfl 0)
  rw [re1] at re2
  have re3 : rv2 a0 0 = rvh2 a0 0 := (by rw [pq2]; exact upr_j (by decide))
  rw [re2] at re3
  refine hv5 (show rv2 a0 1 = (some qn2) from by rw [pq2]; exact upr_s) (show ∀ k, ([0, 1] : List Nat).contains k = false → rv2 a0 k = rv a0 k from fun k hk => (Eq.trans (show rv2 a0 k = rvh2 a0 k from (by rw [pq2]; exact upr_j (fun e => by subst e; exact absurd hk (by decide)))) (Eq.trans (show rvh2 a0 k = rvn2 a0 k from (fl2.r ty3 rfl k)) (Eq.trans (show rvn2 a0 k = rv1 a0 k from (by rw [hrn2]; exact congrFun (up0_a (ne_in ty2.1 hqn2)) _)) (Eq.trans (show rv1 a0 k = rvh1 a0 k from (by rw [pq1]; exact upr_j (fun e => by subst e; exact absurd hk (by decide)))) (Eq.trans (show rvh1 a0 k = rvn1 a0 k from (fl1.r ty1 rfl k)) (show rvn1 a0 k = rv a0 k from (by rw [hrn1]; exact congrFun (up0_a (ne_in t_a0.1 hqn1)) _)))))))) (show 0 ≤ ivh2 qn1 2 ∧ ivh2 qn1 2 ≤ 30 from W8.int ty6 2) (show ivh2 qn1 2 = ivn2 qn1 2 from fl2.i ty5 rfl 2) (show ivn2 qn1 2 = ivh1 qn1 2 from by rw [hin2]; exact congrFun (up0_a (ne_in tqr1.1 hqn2)) _) (fun rp2 rn3 ri5 ie3 ie4 => ?_)
  exact c_vret C dX10_init_26 rfl (by decide) (rom0 hph (Nat.le_refl 0) (by decide)) ⟨_, rfl, X4, F6, W8, ⟨qn1, qn2, rn3, re3, ty6, rp2, tqr2, (by omega), (by omega)⟩, nw4.sub (by decide)⟩
set_option maxHeartbeats 4000000 in
set_option maxRecDepth 100000 in
theorem Y_reader {l : Launch} {G : GT} {mi : Nat} {sk : Nat → Nat} {L : List Nat} {cl ln : Nat → Nat} {iv : Nat → Nat → Int} {rv : Nat → Nat → Option Nat}  {a0 : Nat} (hW : WT (g0 G) sk L cl ln iv rv) (hnt : ∀ t, ([24, 25, 6, 7, 8, 9, 10] : List Nat).contains t = true → ∀ a ∈ L, cl a ≠ t) (t_a0 : ty L cl a0 204)  : Mc l G mi zPf 0 yX3_init cX3_init 1 none 4 [.ref a0] L cl ln iv rv 293 (fun v L2 cl2 ln2 iv2 rv2 => ∃ sk2, v = none ∧ XT L cl ln L2 cl2 ln2 ∧ fT [204, 200, 202] L cl iv rv iv2 rv2 ∧ WT (g0 G) sk2 L2 cl2 ln2 iv2 rv2 ∧ (∃ b0 b1 b2 b3 b4 b5 b6, (∀ k, ([0, 1, 2, 3, 4, 5, 6] : List Nat).contains k = false → rv2 a0 k = rv a0 k) ∧ rv2 a0 0 = some b0 ∧ ty L2 cl2 b0 24 ∧ rv2 a0 1 = some b1 ∧ ty L2 cl2 b1 25 ∧ rv2 a0 2 = some b2 ∧ ty L2 cl2 b2 6 ∧ rv2 a0 3 = some b3 ∧ ty L2 cl2 b3 7 ∧ rv2 a0 4 = some b4 ∧ ty L2 cl2 b4 8 ∧ rv2 a0 5 = some b5 ∧ ty L2 cl2 b5 9 ∧ rv2 a0 6 = some b6 ∧ ty L2 cl2 b6 10 ∧ iv2 a0 7 = 0) ∧ NW [200, 202, 24, 25, 6, 7, 8, 9, 10, 36, 37, 38, 39, 40] L L2 cl2) := by
  refine Mc.mk (by decide) (Nat.le_of_ble_eq_true rfl) ?_
  intro p e s m args below meth c A C hM
  refine hv4 ((show zPf ln rv ≤ 0 from Nat.le_refl 0)) (show NW [] L L cl from NW.refl) (show XT L cl ln L cl ln from XT.refl) (show fT [204, 200, 202] L cl iv rv iv rv from fT.refl) (fun hph nw0 hX0 hF0 => ?_)
  refine c_aload_n (j := 0) (x := a0) C dX3_init_0 rfl ?_
  refine c_objInit C dX3_init_1 w1_184 w1_30 w1_31 (by decide) (Nat.le_of_ble_eq_true rfl) ?_
  refine c_aload_n (j := 0) (x := a0) C dX3_init_4 rfl ?_
  refine c_new C ck_0 dv_0 ⟨rfl, rfl⟩ rfl (by decide) dX3_init_5 w1_185 w1_65 w1_6 (rom2 hph hph (by decide)) (fun qn1 cln1 lnn1 ivn1 rvn1 hqn1 hcn1 hln1 hin1 hrn1 => ⟨19, (z_in (by omega)), ?_⟩)
  refine c_g0 C (fun hg1 => ?_)
  refine hv4 (show ∀ b, b ≠ qn1 → lnn1 b = ln b from (fun b _ => by rw [hln1])) (hF0.new hX0 hqn1 hin1 hrn1) (show ty (L ++ [qn1]) cln1 qn1 200 from ty_new hcn1) (show qn1 ∉ L from fun h => hqn1 ((hX0 qn1 h).1)) (fun hxn1 F1 tqn1 h0qn1 => ?_)
  refine hv2 (hW.new (ln2 := lnn1) hqn1 (hg1 qn1 (List.mem_append_right _ List.mem_cons_self)) hcn1 hxn1 hin1 hrn1 (fun _ => ⟨(show (-2147483648 : Int) ≤ 0 by decide), (show (0 : Int) ≤ 2147483647 by decide)⟩) (Or.inl rfl) (fun q => by cases q) rfl rfl) (XT.new hqn1 hcn1 hxn1) (fun W1 xl1 => ?_)
  refine hv2 (hX0.trans xl1) (nw0.new xl1 hcn1) (fun X1 nw1 => ?_)
  refine c_dup C dX3_init_8 rfl ?_
  refine hv2 (show (-2147483648) ≤ ivn1 qn1 2 ∧ ivn1 qn1 2 ≤ 2147483647 from W1.int tqn1 2) (show ivn1 qn1 2 = 0 from by rw [hin1]; exact up0_s) (fun ri1 ie1 => ?_)
  refine c_callI (As := []) (rest := [.ref qn1, .ref a0]) C hM (Y_list (a0 := qn1) W1  tqn1  ) dX3_init_9 kI_X3_11 rfl rfl (Nat.le_of_ble_eq_true rfl) ⟨(Nat.le_of_ble_eq_true rfl), (Nat.le_of_ble_eq_true rfl)⟩ (rz0 hph (by decide)) (fun rh1 Lh1 clh1 lnh1 ivh1 rvh1 h1 => ⟨19, zk0, ?_⟩)
  obtain ⟨rfl, rfl, rfl, rfl, fl1, W2, exf1⟩ := h1
  have F2 := F1.call X1 fl1 rfl
  refine c_st (st2 := [.ref qn1, .ref a0]) rfl ?_
  refine hv4 (exf1.1) (exf1.2.1) (show (-2147483648) ≤ ivh1 qn1 2 ∧ ivh1 qn1 2 ≤ 2147483647 from W2.int tqn1 2) (show ∀ k, ([1] : List Nat).contains k = false → rvh1 qn1 k = none from fun k hk => (Eq.trans (show rvh1 qn1 k = rvn1 qn1 k from (exf1.2.2 k hk)) (show rvn1 qn1 k = none from (by rw [hrn1]; exact up0_s)))) (fun exf1r exf1s ri2 rn1 => ?_)
  refine c_retag (q := qn1) (t := 24) (by rw [tqn1.2]; rfl) (fun clr1 hcr1 => ?_)
  refine hv3 (xl1.ty t_a0) (show ty (L ++ [qn1]) clr1 qn1 24 from ⟨tqn1.1, by rw [hcr1, va_up_self]; rfl⟩) (NW.no nw1 X1 (hnt 24 (by decide)) (by decide)) (fun ty1 tqr1 hno1 => ?_)
  have ty2 := ty_rt ty1 hcr1 (ne_ty ty1 tqn1 (by decide))
  have W3 := W2.retagU tqn1.1 (by rw [tqn1.2]; rfl) hcr1 (fun k => by
        rcases k with _ | _ | _ | k
        · exact W2.int tqn1 0
        · exact W2.int tqn1 1
        · exact ⟨(by show 0 ≤ ivh1 qn1 2; first | exact bx_lo ‹ivh1 qn1 2 = _› (by decide) | omega), (by show ivh1 qn1 2 ≤ 6003; first | exact bx_hi ‹ivh1 qn1 2 = _› (by decide) | omega)⟩
        · exact W2.int tqn1 (k + 3)) (fun k => by
        rcases k with _ | _ | _ | k
        · rw [rn1 0 (by decide)]; exact rok_none tqr1 rfl
        · rw [exf1r]; exact rok_lst tqr1 rfl
        · rw [rn1 2 (by decide)]; exact rok_none tqr1 rfl
        · rw [rn1 (k + 3) (by simp)]; exact rok_none tqr1 rfl) (fun z => by cases z) (fun _ b hb => by rw [exf1r] at hb; cases hb; exact Or.inl ⟨rfl, by omega⟩) (fun _ b hb i hi => absurd hi (by omega)) hno1
  refine hv3 (nw1.rt hcr1) (X1.rt hcr1 h0qn1) (show clr1 qn1 = 24 from by rw [hcr1]; exact va_up_self _ _ _) (fun nw2 X2 ctr1 => ?_)
  refine c_putrF (x := (some qn1)) (k := 0) C ck_4 dX3_init_12 w1_190 (by decide) rfl rfl rfl ty2 rfl rfl (by decide) rfl (by rfl) (by rfl) (fun rv1 pq1 => ⟨19, (zp2 (Nat.le_refl _)), ?_⟩)
  refine hv2 (W3.putr pq1 ty2 (fun qr => by rw [ty2.2] at qr; cases qr) rfl (by decide)) (F2.putr X2 pq1 ty2 rfl) (fun W4 F3 => ?_)
  refine c_aload_n (j := 0) (x := a0) C dX3_init_15 rfl ?_
  refine c_new C ck_0 dv_0 ⟨rfl, rfl⟩ rfl (by decide) dX3_init_16 w1_185 w1_65 w1_6 (rom2 hph (Nat.le_refl 0) (by decide)) (fun qn2 cln2 lnn2 ivn2 rvn2 hqn2 hcn2 hln2 hin2 hrn2 => ⟨38, (z_in (by omega)), ?_⟩)
  refine c_g0 C (fun hg2 => ?_)
  refine hv4 (show ∀ b, b ≠ qn2 → lnn2 b = lnn1 b from (fun b _ => by rw [hln2])) (F3.new X2 hqn2 hin2 hrn2) (show ty ((L ++ [qn1]) ++ [qn2]) cln2 qn2 200 from ty_new hcn2) (show qn2 ∉ L from fun h => hqn2 ((X2 qn2 h).1)) (fun hxn2 F4 tqn2 h0qn2 => ?_)
  refine hv2 (W4.new (ln2 := lnn2) hqn2 (hg2 qn2 (List.mem_append_right _ List.mem_cons_self)) hcn2 hxn2 hin2 hrn2 (fun _ => ⟨(show (-2147483648 : Int) ≤ 0 by decide), (show (0 : Int) ≤ 2147483647 by decide)⟩) (Or.inl rfl) (fun q => by cases q) rfl rfl) (XT.new hqn2 hcn2 hxn2) (fun W5 xl3 => ?_)
  refine hv2 (X2.trans xl3) (nw2.new xl3 hcn2) (fun X3 nw3 => ?_)
  refine c_dup C dX3_init_19 rfl ?_
  refine hv2 (show (-2147483648) ≤ ivn2 qn2 2 ∧ ivn2 qn2 2 ≤ 2147483647 from W5.int tqn2 2) (show ivn2 qn2 2 = 0 from by rw [hin2]; exact up0_s) (fun ri3 ie2 => ?_)
  refine c_callI (As := []) (rest := [.ref qn2, .ref a0]) C hM (Y_list (a0 := qn2) W5  tqn2  ) dX3_init_20 kI_X3_11 rfl rfl (Nat.le_of_ble_eq_true rfl) ⟨(Nat.le_of_ble_eq_true rfl), (Nat.le_of_ble_eq_true rfl)⟩ (rz0 hph (by decide)) (fun rh2 Lh2 clh2 lnh2 ivh2 rvh2 h2 => ⟨38, zk0, ?_⟩)
  obtain ⟨rfl, rfl, rfl, rfl, fl2, W6, exf2⟩ := h2
  have F5 := F4.call X3 fl2 rfl
  refine c_st (st2 := [.ref qn2, .ref a0]) rfl ?_
  refine hv4 (exf2.1) (exf2.2.1) (show (-2147483648) ≤ ivh2 qn2 2 ∧ ivh2 qn2 2 ≤ 2147483647 from W6.int tqn2 2) (show ∀ k, ([1] : List Nat).contains k = false → rvh2 qn2 k = none from fun k hk => (Eq.trans (show rvh2 qn2 k = rvn2 qn2 k from (exf2.2.2 k hk)) (show rvn2 qn2 k = none from (by rw [hrn2]; exact up0_s)))) (fun exf2r exf2s ri4 rn2 => ?_)
  refine c_retag (q := qn2) (t := 25) (by rw [tqn2.2]; rfl) (fun clr2 hcr2 => ?_)
  refine hv4 (xl3.ty ty2) (xl3.ty tqr1) (show ty ((L ++ [qn1]) ++ [qn2]) clr2 qn2 25 from ⟨tqn2.1, by rw [hcr2, va_up_self]; rfl⟩) (NW.no nw3 X3 (hnt 25 (by decide)) (by decide)) (fun ty3 ty5 tqr2 hno2 => ?_)
  refine hv2 (ty_rt ty3 hcr2 (ne_ty ty3 tqn2 (by decide))) (ty_rt ty5 hcr2 (ne_ty ty5 tqn2 (by decide))) (fun ty4 ty6 => ?_)
  have W7 := W6.retagU tqn2.1 (by rw [tqn2.2]; rfl) hcr2 (fun k => by
        rcases k with _ | _ | _ | k
        · exact W6.int tqn2 0
        · exact W6.int tqn2 1
        · exact ⟨(by show 0 ≤ ivh2 qn2 2; first | exact bx_lo ‹ivh2 qn2 2 = _› (by decide) | omega), (by show ivh2 qn2 2 ≤ 6003; first | exact bx_hi ‹ivh2 qn2 2 = _› (by decide) | omega)⟩
        · exact W6.int tqn2 (k + 3)) (fun k => by
        rcases k with _ | _ | _ | k
        · rw [rn2 0 (by decide)]; exact rok_none tqr2 rfl
        · rw [exf2r]; exact rok_lst tqr2 rfl
        · rw [rn2 2 (by decide)]; exact rok_none tqr2 rfl
        · rw [rn2 (k + 3) (by simp)]; exact rok_none tqr2 rfl) (fun z => by cases z) (fun _ b hb => by rw [exf2r] at hb; cases hb; exact Or.inl ⟨rfl, by omega⟩) (fun _ b hb i hi => absurd hi (by omega)) hno2
  refine hv3 (nw3.rt hcr2) (X3.rt hcr2 h0qn2) (show clr2 qn2 = 25 from by rw [hcr2]; exact va_up_self _ _ _) (fun nw4 X4 ctr2 => ?_)
  refine c_putrF (x := (some qn2)) (k := 1) C ck_4 dX3_init_23 w1_193 (by decide) rfl rfl rfl ty4 rfl rfl (by decide) rfl (by rfl) (by rfl) (fun rv2 pq2 => ⟨38, (zp2 (Nat.le_refl _)), ?_⟩)
  refine hv2 (W7.putr pq2 ty4 (fun qr => by rw [ty4.2] at qr; cases qr) rfl (by decide)) (F5.putr X4 pq2 ty4 rfl) (fun W8 F6 => ?_)
  refine c_aload_n (j := 0) (x := a0) C dX3_init_26 rfl ?_
  refine c_new C ck_2 dv_2 ⟨rfl, rfl⟩ rfl (by decide) dX3_init_27 w1_187 w1_33 w1_2 (rom2 hph (Nat.le_refl 0) (by decide)) (fun qn3 cln3 lnn3 ivn3 rvn3 hqn3 hcn3 hln3 hin3 hrn3 => ⟨57, (z_in (by omega)), ?_⟩)
  refine c_g0 C (fun hg3 => ?_)
  refine hv4 (show ∀ b, b ≠ qn3 → lnn3 b = lnn2 b from (fun b _ => by rw [hln3])) (F6.new X4 hqn3 hin3 hrn3) (show ty (((L ++ [qn1]) ++ [qn2]) ++ [qn3]) cln3 qn3 202 from ty_new hcn3) (show qn3 ∉ L from fun h => hqn3 ((X4 qn3 h).1)) (fun hxn3 F7 tqn3 h0qn3 => ?_)
  refine hv2 (W8.new (ln2 := lnn3) hqn3 (hg3 qn3 (List.mem_append_right _ List.mem_cons_self)) hcn3 hxn3 hin3 hrn3 (fun _ => ⟨(show (-2147483648 : Int) ≤ 0 by decide), (show (0 : Int) ≤ 2147483647 by decide)⟩) (Or.inl rfl) (fun q => by cases q) rfl rfl) (XT.new hqn3 hcn3 hxn3) (fun W9 xl5 => ?_)
  refine hv2 (X4.trans xl5) (nw4.new xl5 hcn3) (fun X5 nw5 => ?_)
  refine c_dup C dX3_init_30 rfl ?_
  refine c_sipush (z := 6003) C dX3_init_31 (by decide) ?_
  refine c_callI (As := [.int (iI 6003)]) (rest := [.ref qn3, .ref a0]) C hM (Y_ints_6 (a0 := qn3) (i := 6003) W9  tqn3 ⟨by decide, by decide⟩ ) dX3_init_34 kI_X3_23 rfl rfl (Nat.le_of_ble_eq_true rfl) ⟨(Nat.le_of_ble_eq_true rfl), (Nat.le_of_ble_eq_true rfl)⟩ (rz0 hph (by decide)) (fun rh3 Lh3 clh3 lnh3 ivh3 rvh3 h3 => ⟨89, zk0, ?_⟩)
  obtain ⟨rfl, xl6, fl3, W10, exf3, nxh3⟩ := h3
  refine hv6 (F7.call X5 fl3 rfl) (xl5.ty ty4) (xl5.ty ty6) (xl5.ty tqr2) (X5.trans xl6) (nw5.call xl6 nxh3) (fun F8 ty7 ty8 ty9 X6 nw6 => ?_)
  refine c_st (st2 := [.ref qn3, .ref a0]) rfl ?_
  obtain ⟨bexf3, exf3x, exf3r, exf3t, exf3l, exf3i, exf3j⟩ := exf3
  refine hv2 (show ∀ k, ([1] : List Nat).contains k = false → rvh3 qn3 k = none from fun k hk => (Eq.trans (show rvh3 qn3 k = rvn3 qn3 k from (exf3x k hk)) (show rvn3 qn3 k = none from (by rw [hrn3]; exact up0_s)))) (xl6.ty tqn3) (fun rn3 ty10 => ?_)
  refine c_retag (q := qn3) (t := 6) (by rw [ty10.2]; rfl) (fun clr3 hcr3 => ?_)
  refine hv6 (xl6.ty ty7) (xl6.ty ty8) (xl6.ty ty9) (ty_rt exf3t hcr3 (ne_ty exf3t ty10 (by decide))) (show ty Lh3 clr3 qn3 6 from ⟨ty10.1, by rw [hcr3, va_up_self]; rfl⟩) (NW.no nw6 X6 (hnt 6 (by decide)) (by decide)) (fun ty11 ty13 ty15 ty17 tqr3 hno3 => ?_)
  refine hv3 (ty_rt ty11 hcr3 (ne_ty ty11 ty10 (by decide))) (ty_rt ty13 hcr3 (ne_ty ty13 ty10 (by decide))) (ty_rt ty15 hcr3 (ne_ty ty15 ty10 (by decide))) (fun ty12 ty14 ty16 => ?_)
  have W11 := W10.retagU ty10.1 (by rw [ty10.2]; rfl) hcr3 (fun k => by
        rcases k with _ | _ | _ | k
        · exact ⟨(by show 6003 ≤ ivh3 qn3 0; first | exact bx_lo ‹ivh3 qn3 0 = _› (by decide) | omega), (by show ivh3 qn3 0 ≤ 6003; first | exact bx_hi ‹ivh3 qn3 0 = _› (by decide) | omega)⟩
        · exact W10.int ty10 1
        · exact ⟨(by show 0 ≤ ivh3 qn3 2; first | exact bx_lo ‹ivh3 qn3 2 = _› (by decide) | omega), (by show ivh3 qn3 2 ≤ 6003; first | exact bx_hi ‹ivh3 qn3 2 = _› (by decide) | omega)⟩
        · exact W10.int ty10 (k + 3)) (fun k => by
        rcases k with _ | _ | _ | k
        · rw [rn3 0 (by decide)]; exact rok_none tqr3 rfl
        · rw [exf3r]; exact rok_some tqr3 ty17 rfl (by decide) rfl
        · rw [rn3 2 (by decide)]; exact rok_none tqr3 rfl
        · rw [rn3 (k + 3) (by simp)]; exact rok_none tqr3 rfl) (fun z => by cases z) (fun _ b hb => by rw [exf3r] at hb; cases hb; exact Or.inr ⟨exf3t.1, by omega⟩) (fun z => by cases z) hno3
  refine hv3 (nw6.rt hcr3) (X6.rt hcr3 h0qn3) (show clr3 qn3 = 6 from by rw [hcr3]; exact va_up_self _ _ _) (fun nw7 X7 ctr3 => ?_)
  refine c_putrF (x := (some qn3)) (k := 2) C ck_4 dX3_init_37 w1_196 (by decide) rfl rfl rfl ty12 rfl rfl (by decide) rfl (by rfl) (by rfl) (fun rv3 pq3 => ⟨89, (zp2 (Nat.le_refl _)), ?_⟩)
  refine hv2 (W11.putr pq3 ty12 (fun qr => by rw [ty12.2] at qr; cases qr) rfl (by decide)) (F8.putr X7 pq3 ty12 rfl) (fun W12 F9 => ?_)
  refine c_aload_n (j := 0) (x := a0) C dX3_init_40 rfl ?_
  refine c_new C ck_2 dv_2 ⟨rfl, rfl⟩ rfl (by decide) dX3_init_41 w1_187 w1_33 w1_2 (rom2 hph (Nat.le_refl 0) (by decide)) (fun qn4 cln4 lnn4 ivn4 rvn4 hqn4 hcn4 hln4 hin4 hrn4 => ⟨108, (z_in (by omega)), ?_⟩)
  refine c_g0 C (fun hg4 => ?_)
  refine hv4 (show ∀ b, b ≠ qn4 → lnn4 b = lnh3 b from (fun b _ => by rw [hln4])) (F9.new X7 hqn4 hin4 hrn4) (show ty (Lh3 ++ [qn4]) cln4 qn4 202 from ty_new hcn4) (show qn4 ∉ L from fun h => hqn4 ((X7 qn4 h).1)) (fun hxn4 F10 tqn4 h0qn4 => ?_)
  refine hv2 (W12.new (ln2 := lnn4) hqn4 (hg4 qn4 (List.mem_append_right _ List.mem_cons_self)) hcn4 hxn4 hin4 hrn4 (fun _ => ⟨(show (-2147483648 : Int) ≤ 0 by decide), (show (0 : Int) ≤ 2147483647 by decide)⟩) (Or.inl rfl) (fun q => by cases q) rfl rfl) (XT.new hqn4 hcn4 hxn4) (fun W13 xl7 => ?_)
  refine hv2 (X7.trans xl7) (nw7.new xl7 hcn4) (fun X8 nw8 => ?_)
  refine c_dup C dX3_init_44 rfl ?_
  refine c_sipush (z := 6003) C dX3_init_45 (by decide) ?_
  refine c_callI (As := [.int (iI 6003)]) (rest := [.ref qn4, .ref a0]) C hM (Y_ints_7 (a0 := qn4) (i := 6003) W13  tqn4 ⟨by decide, by decide⟩ ) dX3_init_48 kI_X3_23 rfl rfl (Nat.le_of_ble_eq_true rfl) ⟨(Nat.le_of_ble_eq_true rfl), (Nat.le_of_ble_eq_true rfl)⟩ (rz0 hph (by decide)) (fun rh4 Lh4 clh4 lnh4 ivh4 rvh4 h4 => ⟨140, zk0, ?_⟩)
  obtain ⟨rfl, xl8, fl4, W14, exf4, nxh4⟩ := h4
  refine hv8 (F10.call X8 fl4 rfl) (xl7.ty ty12) (xl7.ty ty14) (xl7.ty ty16) (xl7.ty tqr3) (xl7.ty ty17) (X8.trans xl8) (nw8.call xl8 nxh4) (fun F11 ty18 ty19 ty20 ty21 ty22 X9 nw9 => ?_)
  refine c_st (st2 := [.ref qn4, .ref a0]) rfl ?_
  obtain ⟨bexf4, exf4x, exf4r, exf4t, exf4l, exf4i, exf4j⟩ := exf4
  refine hv2 (show ∀ k, ([1] : List Nat).contains k = false → rvh4 qn4 k = none from fun k hk => (Eq.trans (show rvh4 qn4 k = rvn4 qn4 k from (exf4x k hk)) (show rvn4 qn4 k = none from (by rw [hrn4]; exact up0_s)))) (xl8.ty tqn4) (fun rn4 ty23 => ?_)
  refine c_retag (q := qn4) (t := 7) (by rw [ty23.2]; rfl) (fun clr4 hcr4 => ?_)
  refine hv8 (xl8.ty ty18) (xl8.ty ty19) (xl8.ty ty20) (xl8.ty ty21) (xl8.ty ty22) (ty_rt exf4t hcr4 (ne_ty exf4t ty23 (by decide))) (show ty Lh4 clr4 qn4 7 from ⟨ty23.1, by rw [hcr4, va_up_self]; rfl⟩) (NW.no nw9 X9 (hnt 7 (by decide)) (by decide)) (fun ty24 ty26 ty28 ty30 ty32 ty34 tqr4 hno4 => ?_)
  refine hv5 (ty_rt ty24 hcr4 (ne_ty ty24 ty23 (by decide))) (ty_rt ty26 hcr4 (ne_ty ty26 ty23 (by decide))) (ty_rt ty28 hcr4 (ne_ty ty28 ty23 (by decide))) (ty_rt ty30 hcr4 (ne_ty ty30 ty23 (by decide))) (ty_rt ty32 hcr4 (ne_ty ty32 ty23 (by decide))) (fun ty25 ty27 ty29 ty31 ty33 => ?_)
  have W15 := W14.retagU ty23.1 (by rw [ty23.2]; rfl) hcr4 (fun k => by
        rcases k with _ | _ | _ | k
        · exact ⟨(by show 6003 ≤ ivh4 qn4 0; first | exact bx_lo ‹ivh4 qn4 0 = _› (by decide) | omega), (by show ivh4 qn4 0 ≤ 6003; first | exact bx_hi ‹ivh4 qn4 0 = _› (by decide) | omega)⟩
        · exact W14.int ty23 1
        · exact ⟨(by show 0 ≤ ivh4 qn4 2; first | exact bx_lo ‹ivh4 qn4 2 = _› (by decide) | omega), (by show ivh4 qn4 2 ≤ 6003; first | exact bx_hi ‹ivh4 qn4 2 = _› (by decide) | omega)⟩
        · exact W14.int ty23 (k + 3)) (fun k => by
        rcases k with _ | _ | _ | k
        · rw [rn4 0 (by decide)]; exact rok_none tqr4 rfl
        · rw [exf4r]; exact rok_some tqr4 ty34 rfl (by decide) rfl
        · rw [rn4 2 (by decide)]; exact rok_none tqr4 rfl
        · rw [rn4 (k + 3) (by simp)]; exact rok_none tqr4 rfl) (fun z => by cases z) (fun _ b hb => by rw [exf4r] at hb; cases hb; exact Or.inr ⟨exf4t.1, by omega⟩) (fun z => by cases z) hno4
  refine hv3 (nw9.rt hcr4) (X9.rt hcr4 h0qn4) (show clr4 qn4 = 7 from by rw [hcr4]; exact va_up_self _ _ _) (fun nw10 X10 ctr4 => ?_)
  refine c_putrF (x := (some qn4)) (k := 3) C ck_4 dX3_init_51 w1_197 (by decide) rfl rfl rfl ty25 rfl rfl (by decide) rfl (by rfl) (by rfl) (fun rv4 pq4 => ⟨140, (zp2 (Nat.le_refl _)), ?_⟩)
  refine hv2 (W15.putr pq4 ty25 (fun qr => by rw [ty25.2] at qr; cases qr) rfl (by decide)) (F11.putr X10 pq4 ty25 rfl) (fun W16 F12 => ?_)
  refine c_aload_n (j := 0) (x := a0) C dX3_init_54 rfl ?_
  refine c_new C ck_2 dv_2 ⟨rfl, rfl⟩ rfl (by decide) dX3_init_55 w1_187 w1_33 w1_2 (rom2 hph (Nat.le_refl 0) (by decide)) (fun qn5 cln5 lnn5 ivn5 rvn5 hqn5 hcn5 hln5 hin5 hrn5 => ⟨159, (z_in (by omega)), ?_⟩)
  refine c_g0 C (fun hg5 => ?_)
  refine hv4 (show ∀ b, b ≠ qn5 → lnn5 b = lnh4 b from (fun b _ => by rw [hln5])) (F12.new X10 hqn5 hin5 hrn5) (show ty (Lh4 ++ [qn5]) cln5 qn5 202 from ty_new hcn5) (show qn5 ∉ L from fun h => hqn5 ((X10 qn5 h).1)) (fun hxn5 F13 tqn5 h0qn5 => ?_)
  refine hv2 (W16.new (ln2 := lnn5) hqn5 (hg5 qn5 (List.mem_append_right _ List.mem_cons_self)) hcn5 hxn5 hin5 hrn5 (fun _ => ⟨(show (-2147483648 : Int) ≤ 0 by decide), (show (0 : Int) ≤ 2147483647 by decide)⟩) (Or.inl rfl) (fun q => by cases q) rfl rfl) (XT.new hqn5 hcn5 hxn5) (fun W17 xl9 => ?_)
  refine hv2 (X10.trans xl9) (nw10.new xl9 hcn5) (fun X11 nw11 => ?_)
  refine c_dup C dX3_init_58 rfl ?_
  refine c_ldc (z := 40200) C dX3_init_59 w1_189 rfl ?_
  refine c_callI (As := [.int (iI 40200)]) (rest := [.ref qn5, .ref a0]) C hM (Y_ints_8 (a0 := qn5) (i := 40200) W17  tqn5 ⟨by decide, by decide⟩ ) dX3_init_61 kI_X3_23 rfl rfl (Nat.le_of_ble_eq_true rfl) ⟨(Nat.le_of_ble_eq_true rfl), (Nat.le_of_ble_eq_true rfl)⟩ (rz0 hph (by decide)) (fun rh5 Lh5 clh5 lnh5 ivh5 rvh5 h5 => ⟨191, zk0, ?_⟩)
  obtain ⟨rfl, xl10, fl5, W18, exf5, nxh5⟩ := h5
  refine hv10 (F13.call X11 fl5 rfl) (xl9.ty ty25) (xl9.ty ty27) (xl9.ty ty29) (xl9.ty ty31) (xl9.ty ty33) (xl9.ty tqr4) (xl9.ty ty34) (X11.trans xl10) (nw11.call xl10 nxh5) (fun F14 ty35 ty36 ty37 ty38 ty39 ty40 ty41 X12 nw12 => ?_)
  refine c_st (st2 := [.ref qn5, .ref a0]) rfl ?_
  obtain ⟨bexf5, exf5x, exf5r, exf5t, exf5l, exf5i, exf5j⟩ := exf5
  refine hv2 (show ∀ k, ([1] : List Nat).contains k = false → rvh5 qn5 k = none from fun k hk => (Eq.trans (show rvh5 qn5 k = rvn5 qn5 k from (exf5x k hk)) (show rvn5 qn5 k = none from (by rw [hrn5]; exact up0_s)))) (xl10.ty tqn5) (fun rn5 ty42 => ?_)
  refine c_retag (q := qn5) (t := 8) (by rw [ty42.2]; rfl) (fun clr5 hcr5 => ?_)
  refine hv10 (xl10.ty ty35) (xl10.ty ty36) (xl10.ty ty37) (xl10.ty ty38) (xl10.ty ty39) (xl10.ty ty40) (xl10.ty ty41) (ty_rt exf5t hcr5 (ne_ty exf5t ty42 (by decide))) (show ty Lh5 clr5 qn5 8 from ⟨ty42.1, by rw [hcr5, va_up_self]; rfl⟩) (NW.no nw12 X12 (hnt 8 (by decide)) (by decide)) (fun ty43 ty45 ty47 ty49 ty51 ty53 ty55 ty57 tqr5 hno5 => ?_)
  refine hv7 (ty_rt ty43 hcr5 (ne_ty ty43 ty42 (by decide))) (ty_rt ty45 hcr5 (ne_ty ty45 ty42 (by decide))) (ty_rt ty47 hcr5 (ne_ty ty47 ty42 (by decide))) (ty_rt ty49 hcr5 (ne_ty ty49 ty42 (by decide))) (ty_rt ty51 hcr5 (ne_ty ty51 ty42 (by decide))) (ty_rt ty53 hcr5 (ne_ty ty53 ty42 (by decide))) (ty_rt ty55 hcr5 (ne_ty ty55 ty42 (by decide))) (fun ty44 ty46 ty48 ty50 ty52 ty54 ty56 => ?_)
  have W19 := W18.retagU ty42.1 (by rw [ty42.2]; rfl) hcr5 (fun k => by
        rcases k with _ | _ | _ | k
        · exact ⟨(by show 40200 ≤ ivh5 qn5 0; first | exact bx_lo ‹ivh5 qn5 0 = _› (by decide) | omega), (by show ivh5 qn5 0 ≤ 40200; first | exact bx_hi ‹ivh5 qn5 0 = _› (by decide) | omega)⟩
        · exact W18.int ty42 1
        · exact ⟨(by show 0 ≤ ivh5 qn5 2; first | exact bx_lo ‹ivh5 qn5 2 = _› (by decide) | omega), (by show ivh5 qn5 2 ≤ 40200; first | exact bx_hi ‹ivh5 qn5 2 = _› (by decide) | omega)⟩
        · exact W18.int ty42 (k + 3)) (fun k => by
        rcases k with _ | _ | _ | k
        · rw [rn5 0 (by decide)]; exact rok_none tqr5 rfl
        · rw [exf5r]; exact rok_some tqr5 ty57 rfl (by decide) rfl
        · rw [rn5 2 (by decide)]; exact rok_none tqr5 rfl
        · rw [rn5 (k + 3) (by simp)]; exact rok_none tqr5 rfl) (fun z => by cases z) (fun _ b hb => by rw [exf5r] at hb; cases hb; exact Or.inr ⟨exf5t.1, by omega⟩) (fun z => by cases z) hno5
  refine hv3 (nw12.rt hcr5) (X12.rt hcr5 h0qn5) (show clr5 qn5 = 8 from by rw [hcr5]; exact va_up_self _ _ _) (fun nw13 X13 ctr5 => ?_)
  refine c_putrF (x := (some qn5)) (k := 4) C ck_4 dX3_init_64 w1_198 (by decide) rfl rfl rfl ty44 rfl rfl (by decide) rfl (by rfl) (by rfl) (fun rv5 pq5 => ⟨191, (zp2 (Nat.le_refl _)), ?_⟩)
  refine hv2 (W19.putr pq5 ty44 (fun qr => by rw [ty44.2] at qr; cases qr) rfl (by decide)) (F14.putr X13 pq5 ty44 rfl) (fun W20 F15 => ?_)
  refine c_aload_n (j := 0) (x := a0) C dX3_init_67 rfl ?_
  refine c_new C ck_2 dv_2 ⟨rfl, rfl⟩ rfl (by decide) dX3_init_68 w1_187 w1_33 w1_2 (rom2 hph (Nat.le_refl 0) (by decide)) (fun qn6 cln6 lnn6 ivn6 rvn6 hqn6 hcn6 hln6 hin6 hrn6 => ⟨210, (z_in (by omega)), ?_⟩)
  refine c_g0 C (fun hg6 => ?_)
  refine hv4 (show ∀ b, b ≠ qn6 → lnn6 b = lnh5 b from (fun b _ => by rw [hln6])) (F15.new X13 hqn6 hin6 hrn6) (show ty (Lh5 ++ [qn6]) cln6 qn6 202 from ty_new hcn6) (show qn6 ∉ L from fun h => hqn6 ((X13 qn6 h).1)) (fun hxn6 F16 tqn6 h0qn6 => ?_)
  refine hv2 (W20.new (ln2 := lnn6) hqn6 (hg6 qn6 (List.mem_append_right _ List.mem_cons_self)) hcn6 hxn6 hin6 hrn6 (fun _ => ⟨(show (-2147483648 : Int) ≤ 0 by decide), (show (0 : Int) ≤ 2147483647 by decide)⟩) (Or.inl rfl) (fun q => by cases q) rfl rfl) (XT.new hqn6 hcn6 hxn6) (fun W21 xl11 => ?_)
  refine hv2 (X13.trans xl11) (nw13.new xl11 hcn6) (fun X14 nw14 => ?_)
  refine c_dup C dX3_init_71 rfl ?_
  refine c_ldc (z := 40200) C dX3_init_72 w1_189 rfl ?_
  refine c_callI (As := [.int (iI 40200)]) (rest := [.ref qn6, .ref a0]) C hM (Y_ints_9 (a0 := qn6) (i := 40200) W21  tqn6 ⟨by decide, by decide⟩ ) dX3_init_74 kI_X3_23 rfl rfl (Nat.le_of_ble_eq_true rfl) ⟨(Nat.le_of_ble_eq_true rfl), (Nat.le_of_ble_eq_true rfl)⟩ (rz0 hph (by decide)) (fun rh6 Lh6 clh6 lnh6 ivh6 rvh6 h6 => ⟨242, zk0, ?_⟩)
  obtain ⟨rfl, xl12, fl6, W22, exf6, nxh6⟩ := h6
  refine hv12 (F16.call X14 fl6 rfl) (xl11.ty ty44) (xl11.ty ty46) (xl11.ty ty48) (xl11.ty ty50) (xl11.ty ty52) (xl11.ty ty54) (xl11.ty ty56) (xl11.ty tqr5) (xl11.ty ty57) (X14.trans xl12) (nw14.call xl12 nxh6) (fun F17 ty58 ty59 ty60 ty61 ty62 ty63 ty64 ty65 ty66 X15 nw15 => ?_)
  refine c_st (st2 := [.ref qn6, .ref a0]) rfl ?_
  obtain ⟨bexf6, exf6x, exf6r, exf6t, exf6l, exf6i, exf6j⟩ := exf6
  refine hv2 (show ∀ k, ([1] : List Nat).contains k = false → rvh6 qn6 k = none from fun k hk => (Eq.trans (show rvh6 qn6 k = rvn6 qn6 k from (exf6x k hk)) (show rvn6 qn6 k = none from (by rw [hrn6]; exact up0_s)))) (xl12.ty tqn6) (fun rn6 ty67 => ?_)
  refine c_retag (q := qn6) (t := 9) (by rw [ty67.2]; rfl) (fun clr6 hcr6 => ?_)
  refine hv12 (xl12.ty ty58) (xl12.ty ty59) (xl12.ty ty60) (xl12.ty ty61) (xl12.ty ty62) (xl12.ty ty63) (xl12.ty ty64) (xl12.ty ty65) (xl12.ty ty66) (ty_rt exf6t hcr6 (ne_ty exf6t ty67 (by decide))) (show ty Lh6 clr6 qn6 9 from ⟨ty67.1, by rw [hcr6, va_up_self]; rfl⟩) (NW.no nw15 X15 (hnt 9 (by decide)) (by decide)) (fun ty68 ty70 ty72 ty74 ty76 ty78 ty80 ty82 ty84 ty86 tqr6 hno6 => ?_)
  refine hv9 (ty_rt ty68 hcr6 (ne_ty ty68 ty67 (by decide))) (ty_rt ty70 hcr6 (ne_ty ty70 ty67 (by decide))) (ty_rt ty72 hcr6 (ne_ty ty72 ty67 (by decide))) (ty_rt ty74 hcr6 (ne_ty ty74 ty67 (by decide))) (ty_rt ty76 hcr6 (ne_ty ty76 ty67 (by decide))) (ty_rt ty78 hcr6 (ne_ty ty78 ty67 (by decide))) (ty_rt ty80 hcr6 (ne_ty ty80 ty67 (by decide))) (ty_rt ty82 hcr6 (ne_ty ty82 ty67 (by decide))) (ty_rt ty84 hcr6 (ne_ty ty84 ty67 (by decide))) (fun ty69 ty71 ty73 ty75 ty77 ty79 ty81 ty83 ty85 => ?_)
  have W23 := W22.retagU ty67.1 (by rw [ty67.2]; rfl) hcr6 (fun k => by
        rcases k with _ | _ | _ | k
        · exact ⟨(by show 40200 ≤ ivh6 qn6 0; first | exact bx_lo ‹ivh6 qn6 0 = _› (by decide) | omega), (by show ivh6 qn6 0 ≤ 40200; first | exact bx_hi ‹ivh6 qn6 0 = _› (by decide) | omega)⟩
        · exact W22.int ty67 1
        · exact ⟨(by show 0 ≤ ivh6 qn6 2; first | exact bx_lo ‹ivh6 qn6 2 = _› (by decide) | omega), (by show ivh6 qn6 2 ≤ 40200; first | exact bx_hi ‹ivh6 qn6 2 = _› (by decide) | omega)⟩
        · exact W22.int ty67 (k + 3)) (fun k => by
        rcases k with _ | _ | _ | k
        · rw [rn6 0 (by decide)]; exact rok_none tqr6 rfl
        · rw [exf6r]; exact rok_some tqr6 ty86 rfl (by decide) rfl
        · rw [rn6 2 (by decide)]; exact rok_none tqr6 rfl
        · rw [rn6 (k + 3) (by simp)]; exact rok_none tqr6 rfl) (fun z => by cases z) (fun _ b hb => by rw [exf6r] at hb; cases hb; exact Or.inr ⟨exf6t.1, by omega⟩) (fun z => by cases z) hno6
  refine hv3 (nw15.rt hcr6) (X15.rt hcr6 h0qn6) (show clr6 qn6 = 9 from by rw [hcr6]; exact va_up_self _ _ _) (fun nw16 X16 ctr6 => ?_)
  refine c_putrF (x := (some qn6)) (k := 5) C ck_4 dX3_init_77 w1_199 (by decide) rfl rfl rfl ty69 rfl rfl (by decide) rfl (by rfl) (by rfl) (fun rv6 pq6 => ⟨242, (zp2 (Nat.le_refl _)), ?_⟩)
  refine hv2 (W23.putr pq6 ty69 (fun qr => by rw [ty69.2] at qr; cases qr) rfl (by decide)) (F17.putr X16 pq6 ty69 rfl) (fun W24 F18 => ?_)
  refine c_aload_n (j := 0) (x := a0) C dX3_init_80 rfl ?_
  refine c_new C ck_2 dv_2 ⟨rfl, rfl⟩ rfl (by decide) dX3_init_81 w1_187 w1_33 w1_2 (rom2 hph (Nat.le_refl 0) (by decide)) (fun qn7 cln7 lnn7 ivn7 rvn7 hqn7 hcn7 hln7 hin7 hrn7 => ⟨261, (z_in (by omega)), ?_⟩)
  refine c_g0 C (fun hg7 => ?_)
  refine hv4 (show ∀ b, b ≠ qn7 → lnn7 b = lnh6 b from (fun b _ => by rw [hln7])) (F18.new X16 hqn7 hin7 hrn7) (show ty (Lh6 ++ [qn7]) cln7 qn7 202 from ty_new hcn7) (show qn7 ∉ L from fun h => hqn7 ((X16 qn7 h).1)) (fun hxn7 F19 tqn7 h0qn7 => ?_)
  refine hv2 (W24.new (ln2 := lnn7) hqn7 (hg7 qn7 (List.mem_append_right _ List.mem_cons_self)) hcn7 hxn7 hin7 hrn7 (fun _ => ⟨(show (-2147483648 : Int) ≤ 0 by decide), (show (0 : Int) ≤ 2147483647 by decide)⟩) (Or.inl rfl) (fun q => by cases q) rfl rfl) (XT.new hqn7 hcn7 hxn7) (fun W25 xl13 => ?_)
  refine hv2 (X16.trans xl13) (nw16.new xl13 hcn7) (fun X17 nw17 => ?_)
  refine c_dup C dX3_init_84 rfl ?_
  refine c_sipush (z := 4001) C dX3_init_85 (by decide) ?_
  refine c_callI (As := [.int (iI 4001)]) (rest := [.ref qn7, .ref a0]) C hM (Y_ints_10 (a0 := qn7) (i := 4001) W25  tqn7 ⟨by decide, by decide⟩ ) dX3_init_88 kI_X3_23 rfl rfl (Nat.le_of_ble_eq_true rfl) ⟨(Nat.le_of_ble_eq_true rfl), (Nat.le_of_ble_eq_true rfl)⟩ (rz0 hph (by decide)) (fun rh7 Lh7 clh7 lnh7 ivh7 rvh7 h7 => ⟨293, zk0, ?_⟩)
  obtain ⟨rfl, xl14, fl7, W26, exf7, nxh7⟩ := h7
  refine hv14 (F19.call X17 fl7 rfl) (xl13.ty ty69) (xl13.ty ty71) (xl13.ty ty73) (xl13.ty ty75) (xl13.ty ty77) (xl13.ty ty79) (xl13.ty ty81) (xl13.ty ty83) (xl13.ty ty85) (xl13.ty tqr6) (xl13.ty ty86) (X17.trans xl14) (nw17.call xl14 nxh7) (fun F20 ty87 ty88 ty89 ty90 ty91 ty92 ty93 ty94 ty95 ty96 ty97 X18 nw18 => ?_)
  refine c_st (st2 := [.ref qn7, .ref a0]) rfl ?_
  obtain ⟨bexf7, exf7x, exf7r, exf7t, exf7l, exf7i, exf7j⟩ := exf7
  refine hv2 (show ∀ k, ([1] : List Nat).contains k = false → rvh7 qn7 k = none from fun k hk => (Eq.trans (show rvh7 qn7 k = rvn7 qn7 k from (exf7x k hk)) (show rvn7 qn7 k = none from (by rw [hrn7]; exact up0_s)))) (xl14.ty tqn7) (fun rn7 ty98 => ?_)
  refine c_retag (q := qn7) (t := 10) (by rw [ty98.2]; rfl) (fun clr7 hcr7 => ?_)
  refine hv14 (xl14.ty ty87) (xl14.ty ty88) (xl14.ty ty89) (xl14.ty ty90) (xl14.ty ty91) (xl14.ty ty92) (xl14.ty ty93) (xl14.ty ty94) (xl14.ty ty95) (xl14.ty ty96) (xl14.ty ty97) (ty_rt exf7t hcr7 (ne_ty exf7t ty98 (by decide))) (show ty Lh7 clr7 qn7 10 from ⟨ty98.1, by rw [hcr7, va_up_self]; rfl⟩) (NW.no nw18 X18 (hnt 10 (by decide)) (by decide)) (fun ty99 ty101 ty103 ty105 ty107 ty109 ty111 ty113 ty115 ty117 ty119 ty121 tqr7 hno7 => ?_)
  refine hv11 (ty_rt ty99 hcr7 (ne_ty ty99 ty98 (by decide))) (ty_rt ty101 hcr7 (ne_ty ty101 ty98 (by decide))) (ty_rt ty103 hcr7 (ne_ty ty103 ty98 (by decide))) (ty_rt ty105 hcr7 (ne_ty ty105 ty98 (by decide))) (ty_rt ty107 hcr7 (ne_ty ty107 ty98 (by decide))) (ty_rt ty109 hcr7 (ne_ty ty109 ty98 (by decide))) (ty_rt ty111 hcr7 (ne_ty ty111 ty98 (by decide))) (ty_rt ty113 hcr7 (ne_ty ty113 ty98 (by decide))) (ty_rt ty115 hcr7 (ne_ty ty115 ty98 (by decide))) (ty_rt ty117 hcr7 (ne_ty ty117 ty98 (by decide))) (ty_rt ty119 hcr7 (ne_ty ty119 ty98 (by decide))) (fun ty100 ty102 ty104 ty106 ty108 ty110 ty112 ty114 ty116 ty118 ty120 => ?_)
  have W27 := W26.retagU ty98.1 (by rw [ty98.2]; rfl) hcr7 (fun k => by
        rcases k with _ | _ | _ | k
        · exact ⟨(by show 4001 ≤ ivh7 qn7 0; first | exact bx_lo ‹ivh7 qn7 0 = _› (by decide) | omega), (by show ivh7 qn7 0 ≤ 4001; first | exact bx_hi ‹ivh7 qn7 0 = _› (by decide) | omega)⟩
        · exact W26.int ty98 1
        · exact ⟨(by show 0 ≤ ivh7 qn7 2; first | exact bx_lo ‹ivh7 qn7 2 = _› (by decide) | omega), (by show ivh7 qn7 2 ≤ 4001; first | exact bx_hi ‹ivh7 qn7 2 = _› (by decide) | omega)⟩
        · exact W26.int ty98 (k + 3)) (fun k => by
        rcases k with _ | _ | _ | k
        · rw [rn7 0 (by decide)]; exact rok_none tqr7 rfl
        · rw [exf7r]; exact rok_some tqr7 ty121 rfl (by decide) rfl
        · rw [rn7 2 (by decide)]; exact rok_none tqr7 rfl
        · rw [rn7 (k + 3) (by simp)]; exact rok_none tqr7 rfl) (fun z => by cases z) (fun _ b hb => by rw [exf7r] at hb; cases hb; exact Or.inr ⟨exf7t.1, by omega⟩) (fun z => by cases z) hno7
  refine hv3 (nw18.rt hcr7) (X18.rt hcr7 h0qn7) (show clr7 qn7 = 10 from by rw [hcr7]; exact va_up_self _ _ _) (fun nw19 X19 ctr7 => ?_)
  refine c_putrF (x := (some qn7)) (k := 6) C ck_4 dX3_init_91 w1_200 (by decide) rfl rfl rfl ty100 rfl rfl (by decide) rfl (by rfl) (by rfl) (fun rv7 pq7 => ⟨293, (zp2 (Nat.le_refl _)), ?_⟩)
  refine hv2 (W27.putr pq7 ty100 (fun qr => by rw [ty100.2] at qr; cases qr) rfl (by decide)) (F20.putr X19 pq7 ty100 rfl) (fun W28 F21 => ?_)
  refine c_aload_n (j := 0) (x := a0) C dX3_init_94 rfl ?_
  refine c_iconst C dX3_init_95 ?_
  refine c_put (z := 0) (k := 7) C ck_4 dX3_init_96 w1_202 (by decide) rfl ty100 rfl rfl (by decide) rfl (by rfl) (by rfl) (fun iv1 pq8 => ?_)
  refine hv4 (W28.puti pq8 ty100 ⟨by decide, by decide⟩ rfl) (F21.puti X19 pq8 ty100 rfl) (show rv1 a0 0 = (some qn1) from by rw [pq1]; exact upr_s) (show rvn2 a0 0 = rv1 a0 0 from (by rw [hrn2]; exact congrFun (up0_a (ne_in ty2.1 hqn2)) _)) (fun W29 F22 rp1 re1 => ?_)
  rw [rp1] at re1
  have re2 : rvh2 a0 0 = rvn2 a0 0 := (fl2.r ty3 rfl 0)
  rw [re1] at re2
  have re3 : rv2 a0 0 = rvh2 a0 0 := (by rw [pq2]; exact upr_j (by decide))
  rw [re2] at re3
  have re4 : rvn3 a0 0 = rv2 a0 0 := (by rw [hrn3]; exact congrFun (up0_a (ne_in ty4.1 hqn3)) _)
  rw [re3] at re4
  have re5 : rvh3 a0 0 = rvn3 a0 0 := (fl3.r ty7 rfl 0)
  rw [re4] at re5
  have re6 : rv3 a0 0 = rvh3 a0 0 := (by rw [pq3]; exact upr_j (by decide))
  rw [re5] at re6
  have re7 : rvn4 a0 0 = rv3 a0 0 := (by rw [hrn4]; exact congrFun (up0_a (ne_in ty12.1 hqn4)) _)
  rw [re6] at re7
  have re8 : rvh4 a0 0 = rvn4 a0 0 := (fl4.r ty18 rfl 0)
  rw [re7] at re8
  have re9 : rv4 a0 0 = rvh4 a0 0 := (by rw [pq4]; exact upr_j (by decide))
  rw [re8] at re9
  have re10 : rvn5 a0 0 = rv4 a0 0 := (by rw [hrn5]; exact congrFun (up0_a (ne_in ty25.1 hqn5)) _)
  rw [re9] at re10
  have re11 : rvh5 a0 0 = rvn5 a0 0 := (fl5.r ty35 rfl 0)
  rw [re10] at re11
  have re12 : rv5 a0 0 = rvh5 a0 0 := (by rw [pq5]; exact upr_j (by decide))
  rw [re11] at re12
  have re13 : rvn6 a0 0 = rv5 a0 0 := (by rw [hrn6]; exact congrFun (up0_a (ne_in ty44.1 hqn6)) _)
  rw [re12] at re13
  have re14 : rvh6 a0 0 = rvn6 a0 0 := (fl6.r ty58 rfl 0)
  rw [re13] at re14
  have re15 : rv6 a0 0 = rvh6 a0 0 := (by rw [pq6]; exact upr_j (by decide))
  rw [re14] at re15
  have re16 : rvn7 a0 0 = rv6 a0 0 := (by rw [hrn7]; exact congrFun (up0_a (ne_in ty69.1 hqn7)) _)
  rw [re15] at re16
  have re17 : rvh7 a0 0 = rvn7 a0 0 := (fl7.r ty87 rfl 0)
  rw [re16] at re17
  have re18 : rv7 a0 0 = rvh7 a0 0 := (by rw [pq7]; exact upr_j (by decide))
  rw [re17] at re18
  refine hv2 (show rv2 a0 1 = (some qn2) from by rw [pq2]; exact upr_s) (show rvn3 a0 1 = rv2 a0 1 from (by rw [hrn3]; exact congrFun (up0_a (ne_in ty4.1 hqn3)) _)) (fun rp2 re19 => ?_)
  rw [rp2] at re19
  have re20 : rvh3 a0 1 = rvn3 a0 1 := (fl3.r ty7 rfl 1)
  rw [re19] at re20
  have re21 : rv3 a0 1 = rvh3 a0 1 := (by rw [pq3]; exact upr_j (by decide))
  rw [re20] at re21
  have re22 : rvn4 a0 1 = rv3 a0 1 := (by rw [hrn4]; exact congrFun (up0_a (ne_in ty12.1 hqn4)) _)
  rw [re21] at re22
  have re23 : rvh4 a0 1 = rvn4 a0 1 := (fl4.r ty18 rfl 1)
  rw [re22] at re23
  have re24 : rv4 a0 1 = rvh4 a0 1 := (by rw [pq4]; exact upr_j (by decide))
  rw [re23] at re24
  have re25 : rvn5 a0 1 = rv4 a0 1 := (by rw [hrn5]; exact congrFun (up0_a (ne_in ty25.1 hqn5)) _)
  rw [re24] at re25
  have re26 : rvh5 a0 1 = rvn5 a0 1 := (fl5.r ty35 rfl 1)
  rw [re25] at re26
  have re27 : rv5 a0 1 = rvh5 a0 1 := (by rw [pq5]; exact upr_j (by decide))
  rw [re26] at re27
  have re28 : rvn6 a0 1 = rv5 a0 1 := (by rw [hrn6]; exact congrFun (up0_a (ne_in ty44.1 hqn6)) _)
  rw [re27] at re28
  have re29 : rvh6 a0 1 = rvn6 a0 1 := (fl6.r ty58 rfl 1)
  rw [re28] at re29
  have re30 : rv6 a0 1 = rvh6 a0 1 := (by rw [pq6]; exact upr_j (by decide))
  rw [re29] at re30
  have re31 : rvn7 a0 1 = rv6 a0 1 := (by rw [hrn7]; exact congrFun (up0_a (ne_in ty69.1 hqn7)) _)
  rw [re30] at re31
  have re32 : rvh7 a0 1 = rvn7 a0 1 := (fl7.r ty87 rfl 1)
  rw [re31] at re32
  have re33 : rv7 a0 1 = rvh7 a0 1 := (by rw [pq7]; exact upr_j (by decide))
  rw [re32] at re33
  refine hv2 (show rv3 a0 2 = (some qn3) from by rw [pq3]; exact upr_s) (show rvn4 a0 2 = rv3 a0 2 from (by rw [hrn4]; exact congrFun (up0_a (ne_in ty12.1 hqn4)) _)) (fun rp3 re34 => ?_)
  rw [rp3] at re34
  have re35 : rvh4 a0 2 = rvn4 a0 2 := (fl4.r ty18 rfl 2)
  rw [re34] at re35
  have re36 : rv4 a0 2 = rvh4 a0 2 := (by rw [pq4]; exact upr_j (by decide))
  rw [re35] at re36
  have re37 : rvn5 a0 2 = rv4 a0 2 := (by rw [hrn5]; exact congrFun (up0_a (ne_in ty25.1 hqn5)) _)
  rw [re36] at re37
  have re38 : rvh5 a0 2 = rvn5 a0 2 := (fl5.r ty35 rfl 2)
  rw [re37] at re38
  have re39 : rv5 a0 2 = rvh5 a0 2 := (by rw [pq5]; exact upr_j (by decide))
  rw [re38] at re39
  have re40 : rvn6 a0 2 = rv5 a0 2 := (by rw [hrn6]; exact congrFun (up0_a (ne_in ty44.1 hqn6)) _)
  rw [re39] at re40
  have re41 : rvh6 a0 2 = rvn6 a0 2 := (fl6.r ty58 rfl 2)
  rw [re40] at re41
  have re42 : rv6 a0 2 = rvh6 a0 2 := (by rw [pq6]; exact upr_j (by decide))
  rw [re41] at re42
  have re43 : rvn7 a0 2 = rv6 a0 2 := (by rw [hrn7]; exact congrFun (up0_a (ne_in ty69.1 hqn7)) _)
  rw [re42] at re43
  have re44 : rvh7 a0 2 = rvn7 a0 2 := (fl7.r ty87 rfl 2)
  rw [re43] at re44
  have re45 : rv7 a0 2 = rvh7 a0 2 := (by rw [pq7]; exact upr_j (by decide))
  rw [re44] at re45
  refine hv2 (show rv4 a0 3 = (some qn4) from by rw [pq4]; exact upr_s) (show rvn5 a0 3 = rv4 a0 3 from (by rw [hrn5]; exact congrFun (up0_a (ne_in ty25.1 hqn5)) _)) (fun rp4 re46 => ?_)
  rw [rp4] at re46
  have re47 : rvh5 a0 3 = rvn5 a0 3 := (fl5.r ty35 rfl 3)
  rw [re46] at re47
  have re48 : rv5 a0 3 = rvh5 a0 3 := (by rw [pq5]; exact upr_j (by decide))
  rw [re47] at re48
  have re49 : rvn6 a0 3 = rv5 a0 3 := (by rw [hrn6]; exact congrFun (up0_a (ne_in ty44.1 hqn6)) _)
  rw [re48] at re49
  have re50 : rvh6 a0 3 = rvn6 a0 3 := (fl6.r ty58 rfl 3)
  rw [re49] at re50
  have re51 : rv6 a0 3 = rvh6 a0 3 := (by rw [pq6]; exact upr_j (by decide))
  rw [re50] at re51
  have re52 : rvn7 a0 3 = rv6 a0 3 := (by rw [hrn7]; exact congrFun (up0_a (ne_in ty69.1 hqn7)) _)
  rw [re51] at re52
  have re53 : rvh7 a0 3 = rvn7 a0 3 := (fl7.r ty87 rfl 3)
  rw [re52] at re53
  have re54 : rv7 a0 3 = rvh7 a0 3 := (by rw [pq7]; exact upr_j (by decide))
  rw [re53] at re54
  refine hv2 (show rv5 a0 4 = (some qn5) from by rw [pq5]; exact upr_s) (show rvn6 a0 4 = rv5 a0 4 from (by rw [hrn6]; exact congrFun (up0_a (ne_in ty44.1 hqn6)) _)) (fun rp5 re55 => ?_)
  rw [rp5] at re55
  have re56 : rvh6 a0 4 = rvn6 a0 4 := (fl6.r ty58 rfl 4)
  rw [re55] at re56
  have re57 : rv6 a0 4 = rvh6 a0 4 := (by rw [pq6]; exact upr_j (by decide))
  rw [re56] at re57
  have re58 : rvn7 a0 4 = rv6 a0 4 := (by rw [hrn7]; exact congrFun (up0_a (ne_in ty69.1 hqn7)) _)
  rw [re57] at re58
  have re59 : rvh7 a0 4 = rvn7 a0 4 := (fl7.r ty87 rfl 4)
  rw [re58] at re59
  have re60 : rv7 a0 4 = rvh7 a0 4 := (by rw [pq7]; exact upr_j (by decide))
  rw [re59] at re60
  refine hv2 (show rv6 a0 5 = (some qn6) from by rw [pq6]; exact upr_s) (show rvn7 a0 5 = rv6 a0 5 from (by rw [hrn7]; exact congrFun (up0_a (ne_in ty69.1 hqn7)) _)) (fun rp6 re61 => ?_)
  rw [rp6] at re61
  have re62 : rvh7 a0 5 = rvn7 a0 5 := (fl7.r ty87 rfl 5)
  rw [re61] at re62
  have re63 : rv7 a0 5 = rvh7 a0 5 := (by rw [pq7]; exact upr_j (by decide))
  rw [re62] at re63
  refine hv4 (show rv7 a0 6 = (some qn7) from by rw [pq7]; exact upr_s) (show ∀ k, ([0, 1, 2, 3, 4, 5, 6] : List Nat).contains k = false → rv7 a0 k = rv a0 k from fun k hk => (Eq.trans (show rv7 a0 k = rvh7 a0 k from (by rw [pq7]; exact upr_j (fun e => by subst e; exact absurd hk (by decide)))) (Eq.trans (show rvh7 a0 k = rvn7 a0 k from (fl7.r ty87 rfl k)) (Eq.trans (show rvn7 a0 k = rv6 a0 k from (by rw [hrn7]; exact congrFun (up0_a (ne_in ty69.1 hqn7)) _)) (Eq.trans (show rv6 a0 k = rvh6 a0 k from (by rw [pq6]; exact upr_j (fun e => by subst e; exact absurd hk (by decide)))) (Eq.trans (show rvh6 a0 k = rvn6 a0 k from (fl6.r ty58 rfl k)) (Eq.trans (show rvn6 a0 k = rv5 a0 k from (by rw [hrn6]; exact congrFun (up0_a (ne_in ty44.1 hqn6)) _)) (Eq.trans (show rv5 a0 k = rvh5 a0 k from (by rw [pq5]; exact upr_j (fun e => by subst e; exact absurd hk (by decide)))) (Eq.trans (show rvh5 a0 k = rvn5 a0 k from (fl5.r ty35 rfl k)) (Eq.trans (show rvn5 a0 k = rv4 a0 k from (by rw [hrn5]; exact congrFun (up0_a (ne_in ty25.1 hqn5)) _)) (Eq.trans (show rv4 a0 k = rvh4 a0 k from (by rw [pq4]; exact upr_j (fun e => by subst e; exact absurd hk (by decide)))) (Eq.trans (show rvh4 a0 k = rvn4 a0 k from (fl4.r ty18 rfl k)) (Eq.trans (show rvn4 a0 k = rv3 a0 k from (by rw [hrn4]; exact congrFun (up0_a (ne_in ty12.1 hqn4)) _)) (Eq.trans (show rv3 a0 k = rvh3 a0 k from (by rw [pq3]; exact upr_j (fun e => by subst e; exact absurd hk (by decide)))) (Eq.trans (show rvh3 a0 k = rvn3 a0 k from (fl3.r ty7 rfl k)) (Eq.trans (show rvn3 a0 k = rv2 a0 k from (by rw [hrn3]; exact congrFun (up0_a (ne_in ty4.1 hqn3)) _)) (Eq.trans (show rv2 a0 k = rvh2 a0 k from (by rw [pq2]; exact upr_j (fun e => by subst e; exact absurd hk (by decide)))) (Eq.trans (show rvh2 a0 k = rvn2 a0 k from (fl2.r ty3 rfl k)) (Eq.trans (show rvn2 a0 k = rv1 a0 k from (by rw [hrn2]; exact congrFun (up0_a (ne_in ty2.1 hqn2)) _)) (Eq.trans (show rv1 a0 k = rvh1 a0 k from (by rw [pq1]; exact upr_j (fun e => by subst e; exact absurd hk (by decide)))) (Eq.trans (show rvh1 a0 k = rvn1 a0 k from (fl1.r ty1 rfl k)) (show rvn1 a0 k = rv a0 k from (by rw [hrn1]; exact congrFun (up0_a (ne_in t_a0.1 hqn1)) _))))))))))))))))))))))) (show (-2147483648) ≤ iv1 a0 7 ∧ iv1 a0 7 ≤ 2147483647 from W29.int ty100 7) (show iv1 a0 7 = 0 from by rw [pq8]; exact up2_s) (fun rp7 rn8 ri5 ie3 => ?_)
  exact c_vret C dX3_init_99 rfl (by decide) (rom0 hph (Nat.le_refl 0) (by decide)) ⟨_, rfl, X19, F22, W29, ⟨qn1, qn2, qn3, qn4, qn5, qn6, qn7, rn8, re18, ty102, re33, ty104, re45, ty106, re54, ty110, re60, ty114, re63, ty118, rp7, tqr7, (by omega)⟩, nw19.sub (by decide)⟩
set_option maxHeartbeats 4000000 in
set_option maxRecDepth 100000 in
theorem Y_found {l : Launch} {G : GT} {mi : Nat} {sk : Nat → Nat} {L : List Nat} {cl ln : Nat → Nat} {iv : Nat → Nat → Int} {rv : Nat → Nat → Option Nat}  {a0 : Nat} {a1 : Nat} (hW : WT (g0 G) sk L cl ln iv rv) (hnt : ∀ t, ([11] : List Nat).contains t = true → ∀ a ∈ L, cl a ≠ t) (t_a0 : ty L cl a0 205) (t_a1 : ty L cl a1 16)  : Mc l G mi zPf 0 yX4_init cX4_init 2 none 4 [.ref a0, .ref a1] L cl ln iv rv 887 (fun v L2 cl2 ln2 iv2 rv2 => ∃ sk2, v = none ∧ XT L cl ln L2 cl2 ln2 ∧ fT [205, 202] L cl iv rv iv2 rv2 ∧ WT (g0 G) sk2 L2 cl2 ln2 iv2 rv2 ∧ (∃ b0 b1 b2 b3 b4 b8, (∀ k, ([0, 1, 2, 3, 4, 7, 8] : List Nat).contains k = false → rv2 a0 k = rv a0 k) ∧ rv2 a0 0 = some b0 ∧ ty L2 cl2 b0 59 ∧ rv2 a0 1 = some b1 ∧ ty L2 cl2 b1 60 ∧ rv2 a0 2 = some b2 ∧ ty L2 cl2 b2 61 ∧ rv2 a0 3 = some b3 ∧ ty L2 cl2 b3 62 ∧ rv2 a0 4 = some b4 ∧ ty L2 cl2 b4 11 ∧ rv2 a0 8 = some b8 ∧ ty L2 cl2 b8 63 ∧ iv2 a0 5 = 0 ∧ iv2 a0 6 = 0 ∧ iv2 a0 9 = 0 ∧ iv2 a0 10 = 0 ∧ rv2 a0 7 = some a1 ∧ iv2 b4 2 = 0) ∧ NW [59, 60, 61, 62, 63, 202, 11, 41] L L2 cl2) := by
  refine Mc.mk (by decide) (Nat.le_of_ble_eq_true rfl) ?_
  intro p e s m args below meth c A C hM
  refine hv4 ((show zPf ln rv ≤ 0 from Nat.le_refl 0)) (show NW [] L L cl from NW.refl) (show XT L cl ln L cl ln from XT.refl) (show fT [205, 202] L cl iv rv iv rv from fT.refl) (fun hph nw0 hX0 hF0 => ?_)
  refine c_aload_n (j := 0) (x := a0) C dX4_init_0 rfl ?_
  refine c_objInit C dX4_init_1 w1_225 w1_30 w1_31 (by decide) (Nat.le_of_ble_eq_true rfl) ?_
  refine c_aload_n (j := 0) (x := a0) C dX4_init_4 rfl ?_
  refine c_sipush (z := 404) C dX4_init_5 (by decide) ?_
  refine c_newaZ (z := 404) (N := 404) C 59 dX4_init_8 w1_129 rfl (by omega) (by omega) (rom2 hph hph (by decide)) (fun qn1 cln1 lnn1 ivn1 rvn1 hqn1 hcn1 hln1 hin1 hrn1 => ⟨420, (z_in (by omega)), ?_⟩)
  refine c_g0 C (fun hg1 => ?_)
  refine hv5 (show ∀ b, b ≠ qn1 → lnn1 b = ln b from (fun b hb => by rw [hln1]; exact va_up_ne _ _ hb)) (show lnn1 qn1 = 404 from by rw [hln1]; exact va_up_self _ _ _) (hF0.new hX0 hqn1 hin1 hrn1) (show ty (L ++ [qn1]) cln1 qn1 59 from ty_new hcn1) (show qn1 ∉ L from fun h => hqn1 ((hX0 qn1 h).1)) (fun hxn1 lqn1 F1 tqn1 h0qn1 => ?_)
  refine hv2 (hW.new (ln2 := lnn1) hqn1 (hg1 qn1 (List.mem_append_right _ List.mem_cons_self)) hcn1 hxn1 hin1 hrn1 (fun _ => ⟨(show (0 : Int) ≤ 0 by decide), (show (0 : Int) ≤ 1 by decide)⟩) (Or.inr (fun _ => rfl)) (fun _ => by show 404 ≤ lnn1 qn1 ∧ lnn1 qn1 ≤ 404; omega) rfl rfl) (XT.new hqn1 hcn1 hxn1) (fun W1 xl1 => ?_)
  refine hv3 (hX0.trans xl1) (nw0.new xl1 hcn1) (xl1.ty t_a0) (fun X1 nw1 ty1 => ?_)
  refine c_putrF (x := (some qn1)) (k := 0) C ck_5 dX4_init_10 w1_229 (by decide) rfl rfl rfl ty1 rfl rfl (by decide) rfl (by rfl) (by rfl) (fun rv1 pq1 => ⟨420, (zp2 (Nat.le_refl _)), ?_⟩)
  refine hv2 (W1.putr pq1 ty1 (fun qr => by rw [ty1.2] at qr; cases qr) rfl (by decide)) (F1.putr X1 pq1 ty1 rfl) (fun W2 F2 => ?_)
  refine c_aload_n (j := 0) (x := a0) C dX4_init_13 rfl ?_
  refine c_bipush (z := 101) C dX4_init_14 (by decide) ?_
  have ty2 := xl1.ty t_a1
  refine c_newaI (z := 101) (N := 101) C 60 dX4_init_16 w1_57 rfl (by omega) (by omega) (rom2 hph (Nat.le_refl 0) (by decide)) (fun qn2 cln2 lnn2 ivn2 rvn2 hqn2 hcn2 hln2 hin2 hrn2 => ⟨537, (z_in (by omega)), ?_⟩)
  refine c_g0 C (fun hg2 => ?_)
  refine hv5 (show ∀ b, b ≠ qn2 → lnn2 b = lnn1 b from (fun b hb => by rw [hln2]; exact va_up_ne _ _ hb)) (show lnn2 qn2 = 101 from by rw [hln2]; exact va_up_self _ _ _) (F2.new X1 hqn2 hin2 hrn2) (show ty ((L ++ [qn1]) ++ [qn2]) cln2 qn2 60 from ty_new hcn2) (show qn2 ∉ L from fun h => hqn2 ((X1 qn2 h).1)) (fun hxn2 lqn2 F3 tqn2 h0qn2 => ?_)
  refine hv2 (W2.new (ln2 := lnn2) hqn2 (hg2 qn2 (List.mem_append_right _ List.mem_cons_self)) hcn2 hxn2 hin2 hrn2 (fun _ => ⟨(show (-2147483648 : Int) ≤ 0 by decide), (show (0 : Int) ≤ 2147483647 by decide)⟩) (Or.inr (fun _ => rfl)) (fun _ => by show 101 ≤ lnn2 qn2 ∧ lnn2 qn2 ≤ 101; omega) rfl rfl) (XT.new hqn2 hcn2 hxn2) (fun W3 xl2 => ?_)
  refine hv3 (X1.trans xl2) (nw1.new xl2 hcn2) (xl2.ty ty1) (fun X2 nw2 ty3 => ?_)
  refine c_putrF (x := (some qn2)) (k := 1) C ck_5 dX4_init_18 w1_230 (by decide) rfl rfl rfl ty3 rfl rfl (by decide) rfl (by rfl) (by rfl) (fun rv2 pq2 => ⟨537, (zp2 (Nat.le_refl _)), ?_⟩)
  refine hv2 (W3.putr pq2 ty3 (fun qr => by rw [ty3.2] at qr; cases qr) rfl (by decide)) (F3.putr X2 pq2 ty3 rfl) (fun W4 F4 => ?_)
  refine c_aload_n (j := 0) (x := a0) C dX4_init_21 rfl ?_
  refine c_bipush (z := 101) C dX4_init_22 (by decide) ?_
  refine hv2 (xl2.ty ty2) (xl2.ty tqn1) (fun ty4 ty5 => ?_)
  refine c_newaI (z := 101) (N := 101) C 61 dX4_init_24 w1_57 rfl (by omega) (by omega) (rom2 hph (Nat.le_refl 0) (by decide)) (fun qn3 cln3 lnn3 ivn3 rvn3 hqn3 hcn3 hln3 hin3 hrn3 => ⟨654, (z_in (by omega)), ?_⟩)
  refine c_g0 C (fun hg3 => ?_)
  refine hv5 (show ∀ b, b ≠ qn3 → lnn3 b = lnn2 b from (fun b hb => by rw [hln3]; exact va_up_ne _ _ hb)) (show lnn3 qn3 = 101 from by rw [hln3]; exact va_up_self _ _ _) (F4.new X2 hqn3 hin3 hrn3) (show ty (((L ++ [qn1]) ++ [qn2]) ++ [qn3]) cln3 qn3 61 from ty_new hcn3) (show qn3 ∉ L from fun h => hqn3 ((X2 qn3 h).1)) (fun hxn3 lqn3 F5 tqn3 h0qn3 => ?_)
  refine hv2 (W4.new (ln2 := lnn3) hqn3 (hg3 qn3 (List.mem_append_right _ List.mem_cons_self)) hcn3 hxn3 hin3 hrn3 (fun _ => ⟨(show (-2147483648 : Int) ≤ 0 by decide), (show (0 : Int) ≤ 2147483647 by decide)⟩) (Or.inr (fun _ => rfl)) (fun _ => by show 101 ≤ lnn3 qn3 ∧ lnn3 qn3 ≤ 101; omega) rfl rfl) (XT.new hqn3 hcn3 hxn3) (fun W5 xl3 => ?_)
  refine hv3 (X2.trans xl3) (nw2.new xl3 hcn3) (xl3.ty ty3) (fun X3 nw3 ty6 => ?_)
  refine c_putrF (x := (some qn3)) (k := 2) C ck_5 dX4_init_26 w1_231 (by decide) rfl rfl rfl ty6 rfl rfl (by decide) rfl (by rfl) (by rfl) (fun rv3 pq3 => ⟨654, (zp2 (Nat.le_refl _)), ?_⟩)
  refine hv2 (W5.putr pq3 ty6 (fun qr => by rw [ty6.2] at qr; cases qr) rfl (by decide)) (F5.putr X3 pq3 ty6 rfl) (fun W6 F6 => ?_)
  refine c_aload_n (j := 0) (x := a0) C dX4_init_29 rfl ?_
  refine c_bipush (z := 50) C dX4_init_30 (by decide) ?_
  refine hv3 (xl3.ty ty4) (xl3.ty ty5) (xl3.ty tqn2) (fun ty7 ty8 ty9 => ?_)
  refine c_newaI (z := 50) (N := 50) C 62 dX4_init_32 w1_57 rfl (by omega) (by omega) (rom2 hph (Nat.le_refl 0) (by decide)) (fun qn4 cln4 lnn4 ivn4 rvn4 hqn4 hcn4 hln4 hin4 hrn4 => ⟨720, (z_in (by omega)), ?_⟩)
  refine c_g0 C (fun hg4 => ?_)
  refine hv5 (show ∀ b, b ≠ qn4 → lnn4 b = lnn3 b from (fun b hb => by rw [hln4]; exact va_up_ne _ _ hb)) (show lnn4 qn4 = 50 from by rw [hln4]; exact va_up_self _ _ _) (F6.new X3 hqn4 hin4 hrn4) (show ty ((((L ++ [qn1]) ++ [qn2]) ++ [qn3]) ++ [qn4]) cln4 qn4 62 from ty_new hcn4) (show qn4 ∉ L from fun h => hqn4 ((X3 qn4 h).1)) (fun hxn4 lqn4 F7 tqn4 h0qn4 => ?_)
  refine hv2 (W6.new (ln2 := lnn4) hqn4 (hg4 qn4 (List.mem_append_right _ List.mem_cons_self)) hcn4 hxn4 hin4 hrn4 (fun _ => ⟨(show (-2147483648 : Int) ≤ 0 by decide), (show (0 : Int) ≤ 2147483647 by decide)⟩) (Or.inr (fun _ => rfl)) (fun _ => by show 50 ≤ lnn4 qn4 ∧ lnn4 qn4 ≤ 50; omega) rfl rfl) (XT.new hqn4 hcn4 hxn4) (fun W7 xl4 => ?_)
  refine hv3 (X3.trans xl4) (nw3.new xl4 hcn4) (xl4.ty ty6) (fun X4 nw4 ty10 => ?_)
  refine c_putrF (x := (some qn4)) (k := 3) C ck_5 dX4_init_34 w1_232 (by decide) rfl rfl rfl ty10 rfl rfl (by decide) rfl (by rfl) (by rfl) (fun rv4 pq4 => ⟨720, (zp2 (Nat.le_refl _)), ?_⟩)
  refine hv2 (W7.putr pq4 ty10 (fun qr => by rw [ty10.2] at qr; cases qr) rfl (by decide)) (F7.putr X4 pq4 ty10 rfl) (fun W8 F8 => ?_)
  refine c_aload_n (j := 0) (x := a0) C dX4_init_37 rfl ?_
  refine hv4 (xl4.ty ty7) (xl4.ty ty8) (xl4.ty ty9) (xl4.ty tqn3) (fun ty11 ty12 ty13 ty14 => ?_)
  refine c_new C ck_2 dv_2 ⟨rfl, rfl⟩ rfl (by decide) dX4_init_38 w1_226 w1_33 w1_2 (rom2 hph (Nat.le_refl 0) (by decide)) (fun qn5 cln5 lnn5 ivn5 rvn5 hqn5 hcn5 hln5 hin5 hrn5 => ⟨739, (z_in (by omega)), ?_⟩)
  refine c_g0 C (fun hg5 => ?_)
  refine hv4 (show ∀ b, b ≠ qn5 → lnn5 b = lnn4 b from (fun b _ => by rw [hln5])) (F8.new X4 hqn5 hin5 hrn5) (show ty (((((L ++ [qn1]) ++ [qn2]) ++ [qn3]) ++ [qn4]) ++ [qn5]) cln5 qn5 202 from ty_new hcn5) (show qn5 ∉ L from fun h => hqn5 ((X4 qn5 h).1)) (fun hxn5 F9 tqn5 h0qn5 => ?_)
  refine hv2 (W8.new (ln2 := lnn5) hqn5 (hg5 qn5 (List.mem_append_right _ List.mem_cons_self)) hcn5 hxn5 hin5 hrn5 (fun _ => ⟨(show (-2147483648 : Int) ≤ 0 by decide), (show (0 : Int) ≤ 2147483647 by decide)⟩) (Or.inl rfl) (fun q => by cases q) rfl rfl) (XT.new hqn5 hcn5 hxn5) (fun W9 xl5 => ?_)
  refine hv2 (X4.trans xl5) (nw4.new xl5 hcn5) (fun X5 nw5 => ?_)
  refine c_dup C dX4_init_41 rfl ?_
  refine c_ldc (z := 40000) C dX4_init_42 w1_227 rfl ?_
  refine c_callI (As := [.int (iI 40000)]) (rest := [.ref qn5, .ref a0]) C hM (Y_ints_11 (a0 := qn5) (i := 40000) W9  tqn5 ⟨by decide, by decide⟩ ) dX4_init_44 kI_X4_28 rfl rfl (Nat.le_of_ble_eq_true rfl) ⟨(Nat.le_of_ble_eq_true rfl), (Nat.le_of_ble_eq_true rfl)⟩ (rz0 hph (by decide)) (fun rh1 Lh1 clh1 lnh1 ivh1 rvh1 h1 => ⟨771, zk0, ?_⟩)
  obtain ⟨rfl, xl6, fl1, W10, exf1, nxh1⟩ := h1
  refine hv9 (F9.call X5 fl1 rfl) (xl5.ty ty10) (xl5.ty ty11) (xl5.ty ty12) (xl5.ty ty13) (xl5.ty ty14) (xl5.ty tqn4) (X5.trans xl6) (nw5.call xl6 nxh1) (fun F10 ty15 ty16 ty17 ty18 ty19 ty20 X6 nw6 => ?_)
  refine c_st (st2 := [.ref qn5, .ref a0]) rfl ?_
  obtain ⟨bexf1, exf1x, exf1r, exf1t, exf1l, exf1i, exf1j⟩ := exf1
  refine hv2 (show ∀ k, ([1] : List Nat).contains k = false → rvh1 qn5 k = none from fun k hk => (Eq.trans (show rvh1 qn5 k = rvn5 qn5 k from (exf1x k hk)) (show rvn5 qn5 k = none from (by rw [hrn5]; exact up0_s)))) (xl6.ty tqn5) (fun rn1 ty21 => ?_)
  refine c_retag (q := qn5) (t := 11) (by rw [ty21.2]; rfl) (fun clr1 hcr1 => ?_)
  refine hv9 (xl6.ty ty15) (xl6.ty ty16) (xl6.ty ty17) (xl6.ty ty18) (xl6.ty ty19) (xl6.ty ty20) (ty_rt exf1t hcr1 (ne_ty exf1t ty21 (by decide))) (show ty Lh1 clr1 qn5 11 from ⟨ty21.1, by rw [hcr1, va_up_self]; rfl⟩) (NW.no nw6 X6 (hnt 11 (by decide)) (by decide)) (fun ty22 ty24 ty26 ty28 ty30 ty32 ty34 tqr1 hno1 => ?_)
  refine hv6 (ty_rt ty22 hcr1 (ne_ty ty22 ty21 (by decide))) (ty_rt ty24 hcr1 (ne_ty ty24 ty21 (by decide))) (ty_rt ty26 hcr1 (ne_ty ty26 ty21 (by decide))) (ty_rt ty28 hcr1 (ne_ty ty28 ty21 (by decide))) (ty_rt ty30 hcr1 (ne_ty ty30 ty21 (by decide))) (ty_rt ty32 hcr1 (ne_ty ty32 ty21 (by decide))) (fun ty23 ty25 ty27 ty29 ty31 ty33 => ?_)
  have W11 := W10.retagU ty21.1 (by rw [ty21.2]; rfl) hcr1 (fun k => by
        rcases k with _ | _ | _ | k
        · exact ⟨(by show 40000 ≤ ivh1 qn5 0; first | exact bx_lo ‹ivh1 qn5 0 = _› (by decide) | omega), (by show ivh1 qn5 0 ≤ 40000; first | exact bx_hi ‹ivh1 qn5 0 = _› (by decide) | omega)⟩
        · exact W10.int ty21 1
        · exact ⟨(by show 0 ≤ ivh1 qn5 2; first | exact bx_lo ‹ivh1 qn5 2 = _› (by decide) | omega), (by show ivh1 qn5 2 ≤ 40000; first | exact bx_hi ‹ivh1 qn5 2 = _› (by decide) | omega)⟩
        · exact W10.int ty21 (k + 3)) (fun k => by
        rcases k with _ | _ | _ | k
        · rw [rn1 0 (by decide)]; exact rok_none tqr1 rfl
        · rw [exf1r]; exact rok_some tqr1 ty34 rfl (by decide) rfl
        · rw [rn1 2 (by decide)]; exact rok_none tqr1 rfl
        · rw [rn1 (k + 3) (by simp)]; exact rok_none tqr1 rfl) (fun z => by cases z) (fun _ b hb => by rw [exf1r] at hb; cases hb; exact Or.inr ⟨exf1t.1, by omega⟩) (fun z => by cases z) hno1
  refine hv3 (nw6.rt hcr1) (X6.rt hcr1 h0qn5) (show clr1 qn5 = 11 from by rw [hcr1]; exact va_up_self _ _ _) (fun nw7 X7 ctr1 => ?_)
  refine c_putrF (x := (some qn5)) (k := 4) C ck_5 dX4_init_47 w1_233 (by decide) rfl rfl rfl ty23 rfl rfl (by decide) rfl (by rfl) (by rfl) (fun rv5 pq5 => ⟨771, (zp2 (Nat.le_refl _)), ?_⟩)
  refine hv2 (W11.putr pq5 ty23 (fun qr => by rw [ty23.2] at qr; cases qr) rfl (by decide)) (F10.putr X7 pq5 ty23 rfl) (fun W12 F11 => ?_)
  refine c_aload_n (j := 0) (x := a0) C dX4_init_50 rfl ?_
  refine c_iconst C dX4_init_51 ?_
  refine c_put (z := 0) (k := 5) C ck_5 dX4_init_52 w1_234 (by decide) rfl ty23 rfl rfl (by decide) rfl (by rfl) (by rfl) (fun iv1 pq6 => ?_)
  refine hv2 (W12.puti pq6 ty23 ⟨by decide, by decide⟩ rfl) (F11.puti X7 pq6 ty23 rfl) (fun W13 F12 => ?_)
  refine c_aload_n (j := 0) (x := a0) C dX4_init_55 rfl ?_
  refine c_iconst C dX4_init_56 ?_
  refine c_put (z := 0) (k := 6) C ck_5 dX4_init_57 w1_236 (by decide) rfl ty23 rfl rfl (by decide) rfl (by decide) (by decide) (fun iv2 pq7 => ?_)
  refine hv2 (W13.puti pq7 ty23 ⟨by decide, by decide⟩ rfl) (F12.puti X7 pq7 ty23 rfl) (fun W14 F13 => ?_)
  refine c_aload_n (j := 0) (x := a0) C dX4_init_60 rfl ?_
  refine c_bipush (z := 100) C dX4_init_61 (by decide) ?_
  refine c_newaI (z := 100) (N := 100) C 63 dX4_init_63 w1_57 rfl (by omega) (by omega) (rom2 hph (Nat.le_refl 0) (by decide)) (fun qn6 cln6 lnn6 ivn6 rvn6 hqn6 hcn6 hln6 hin6 hrn6 => ⟨887, (z_in (by omega)), ?_⟩)
  refine c_g0 C (fun hg6 => ?_)
  refine hv5 (show ∀ b, b ≠ qn6 → lnn6 b = lnh1 b from (fun b hb => by rw [hln6]; exact va_up_ne _ _ hb)) (show lnn6 qn6 = 100 from by rw [hln6]; exact va_up_self _ _ _) (F13.new X7 hqn6 hin6 hrn6) (show ty (Lh1 ++ [qn6]) cln6 qn6 63 from ty_new hcn6) (show qn6 ∉ L from fun h => hqn6 ((X7 qn6 h).1)) (fun hxn6 lqn6 F14 tqn6 h0qn6 => ?_)
  refine hv2 (W14.new (ln2 := lnn6) hqn6 (hg6 qn6 (List.mem_append_right _ List.mem_cons_self)) hcn6 hxn6 hin6 hrn6 (fun _ => ⟨(show (-2147483648 : Int) ≤ 0 by decide), (show (0 : Int) ≤ 2147483647 by decide)⟩) (Or.inr (fun _ => rfl)) (fun _ => by show 100 ≤ lnn6 qn6 ∧ lnn6 qn6 ≤ 100; omega) rfl rfl) (XT.new hqn6 hcn6 hxn6) (fun W15 xl7 => ?_)
  refine hv3 (X7.trans xl7) (nw7.new xl7 hcn6) (xl7.ty ty23) (fun X8 nw8 ty35 => ?_)
  refine c_putrF (x := (some qn6)) (k := 8) C ck_5 dX4_init_65 w1_239 (by decide) rfl rfl rfl ty35 rfl rfl (by decide) rfl (by rfl) (by rfl) (fun rv6 pq8 => ⟨887, (zp2 (Nat.le_refl _)), ?_⟩)
  refine hv2 (W15.putr pq8 ty35 (fun qr => by rw [ty35.2] at qr; cases qr) rfl (by decide)) (F14.putr X8 pq8 ty35 rfl) (fun W16 F15 => ?_)
  refine c_aload_n (j := 0) (x := a0) C dX4_init_68 rfl ?_
  refine c_iconst C dX4_init_69 ?_
  refine c_put (z := 0) (k := 9) C ck_5 dX4_init_70 w2_0 (by decide) rfl ty35 rfl rfl (by decide) rfl (by rfl) (by rfl) (fun iv3 pq9 => ?_)
  refine hv2 (W16.puti pq9 ty35 ⟨by decide, by decide⟩ rfl) (F15.puti X8 pq9 ty35 rfl) (fun W17 F16 => ?_)
  refine c_aload_n (j := 0) (x := a0) C dX4_init_73 rfl ?_
  refine c_iconst C dX4_init_74 ?_
  refine c_put (z := 0) (k := 10) C ck_5 dX4_init_75 w2_1 (by decide) rfl ty35 rfl rfl (by decide) rfl (by rfl) (by rfl) (fun iv4 pq10 => ?_)
  refine hv2 (W17.puti pq10 ty35 ⟨by decide, by decide⟩ rfl) (F16.puti X8 pq10 ty35 rfl) (fun W18 F17 => ?_)
  refine c_aload_n (j := 0) (x := a0) C dX4_init_78 rfl ?_
  refine c_aload_n (j := 1) (x := a1) C dX4_init_79 rfl ?_
  refine c_putrF (x := (some a1)) (k := 7) C ck_5 dX4_init_80 w1_238 (by decide) rfl rfl rfl ty35 rfl rfl (by decide) rfl (by rfl) (by rfl) (fun rv7 pq11 => ⟨887, (zp2 (Nat.le_refl _)), ?_⟩)
  refine hv4 (W18.putr pq11 ty35 (fun qr => by rw [ty35.2] at qr; cases qr) rfl (by decide)) (F17.putr X8 pq11 ty35 rfl) (show rv1 a0 0 = (some qn1) from by rw [pq1]; exact upr_s) (show rvn2 a0 0 = rv1 a0 0 from (by rw [hrn2]; exact congrFun (up0_a (ne_in ty1.1 hqn2)) _)) (fun W19 F18 rp1 re1 => ?_)
  rw [rp1] at re1
  have re2 : rv2 a0 0 = rvn2 a0 0 := (by rw [pq2]; exact upr_j (by decide))
  rw [re1] at re2
  have re3 : rvn3 a0 0 = rv2 a0 0 := (by rw [hrn3]; exact congrFun (up0_a (ne_in ty3.1 hqn3)) _)
  rw [re2] at re3
  have re4 : rv3 a0 0 = rvn3 a0 0 := (by rw [pq3]; exact upr_j (by decide))
  rw [re3] at re4
  have re5 : rvn4 a0 0 = rv3 a0 0 := (by rw [hrn4]; exact congrFun (up0_a (ne_in ty6.1 hqn4)) _)
  rw [re4] at re5
  have re6 : rv4 a0 0 = rvn4 a0 0 := (by rw [pq4]; exact upr_j (by decide))
  rw [re5] at re6
  have re7 : rvn5 a0 0 = rv4 a0 0 := (by rw [hrn5]; exact congrFun (up0_a (ne_in ty10.1 hqn5)) _)
  rw [re6] at re7
  have re8 : rvh1 a0 0 = rvn5 a0 0 := (fl1.r ty15 rfl 0)
  rw [re7] at re8
  have re9 : rv5 a0 0 = rvh1 a0 0 := (by rw [pq5]; exact upr_j (by decide))
  rw [re8] at re9
  have re10 : rvn6 a0 0 = rv5 a0 0 := (by rw [hrn6]; exact congrFun (up0_a (ne_in ty23.1 hqn6)) _)
  rw [re9] at re10
  have re11 : rv6 a0 0 = rvn6 a0 0 := (by rw [pq8]; exact upr_j (by decide))
  rw [re10] at re11
  have re12 : rv7 a0 0 = rv6 a0 0 := (by rw [pq11]; exact upr_j (by decide))
  rw [re11] at re12
  refine hv2 (show rv2 a0 1 = (some qn2) from by rw [pq2]; exact upr_s) (show rvn3 a0 1 = rv2 a0 1 from (by rw [hrn3]; exact congrFun (up0_a (ne_in ty3.1 hqn3)) _)) (fun rp2 re13 => ?_)
  rw [rp2] at re13
  have re14 : rv3 a0 1 = rvn3 a0 1 := (by rw [pq3]; exact upr_j (by decide))
  rw [re13] at re14
  have re15 : rvn4 a0 1 = rv3 a0 1 := (by rw [hrn4]; exact congrFun (up0_a (ne_in ty6.1 hqn4)) _)
  rw [re14] at re15
  have re16 : rv4 a0 1 = rvn4 a0 1 := (by rw [pq4]; exact upr_j (by decide))
  rw [re15] at re16
  have re17 : rvn5 a0 1 = rv4 a0 1 := (by rw [hrn5]; exact congrFun (up0_a (ne_in ty10.1 hqn5)) _)
  rw [re16] at re17
  have re18 : rvh1 a0 1 = rvn5 a0 1 := (fl1.r ty15 rfl 1)
  rw [re17] at re18
  have re19 : rv5 a0 1 = rvh1 a0 1 := (by rw [pq5]; exact upr_j (by decide))
  rw [re18] at re19
  have re20 : rvn6 a0 1 = rv5 a0 1 := (by rw [hrn6]; exact congrFun (up0_a (ne_in ty23.1 hqn6)) _)
  rw [re19] at re20
  have re21 : rv6 a0 1 = rvn6 a0 1 := (by rw [pq8]; exact upr_j (by decide))
  rw [re20] at re21
  have re22 : rv7 a0 1 = rv6 a0 1 := (by rw [pq11]; exact upr_j (by decide))
  rw [re21] at re22
  refine hv2 (show rv3 a0 2 = (some qn3) from by rw [pq3]; exact upr_s) (show rvn4 a0 2 = rv3 a0 2 from (by rw [hrn4]; exact congrFun (up0_a (ne_in ty6.1 hqn4)) _)) (fun rp3 re23 => ?_)
  rw [rp3] at re23
  have re24 : rv4 a0 2 = rvn4 a0 2 := (by rw [pq4]; exact upr_j (by decide))
  rw [re23] at re24
  have re25 : rvn5 a0 2 = rv4 a0 2 := (by rw [hrn5]; exact congrFun (up0_a (ne_in ty10.1 hqn5)) _)
  rw [re24] at re25
  have re26 : rvh1 a0 2 = rvn5 a0 2 := (fl1.r ty15 rfl 2)
  rw [re25] at re26
  have re27 : rv5 a0 2 = rvh1 a0 2 := (by rw [pq5]; exact upr_j (by decide))
  rw [re26] at re27
  have re28 : rvn6 a0 2 = rv5 a0 2 := (by rw [hrn6]; exact congrFun (up0_a (ne_in ty23.1 hqn6)) _)
  rw [re27] at re28
  have re29 : rv6 a0 2 = rvn6 a0 2 := (by rw [pq8]; exact upr_j (by decide))
  rw [re28] at re29
  have re30 : rv7 a0 2 = rv6 a0 2 := (by rw [pq11]; exact upr_j (by decide))
  rw [re29] at re30
  refine hv2 (show rv4 a0 3 = (some qn4) from by rw [pq4]; exact upr_s) (show rvn5 a0 3 = rv4 a0 3 from (by rw [hrn5]; exact congrFun (up0_a (ne_in ty10.1 hqn5)) _)) (fun rp4 re31 => ?_)
  rw [rp4] at re31
  have re32 : rvh1 a0 3 = rvn5 a0 3 := (fl1.r ty15 rfl 3)
  rw [re31] at re32
  have re33 : rv5 a0 3 = rvh1 a0 3 := (by rw [pq5]; exact upr_j (by decide))
  rw [re32] at re33
  have re34 : rvn6 a0 3 = rv5 a0 3 := (by rw [hrn6]; exact congrFun (up0_a (ne_in ty23.1 hqn6)) _)
  rw [re33] at re34
  have re35 : rv6 a0 3 = rvn6 a0 3 := (by rw [pq8]; exact upr_j (by decide))
  rw [re34] at re35
  have re36 : rv7 a0 3 = rv6 a0 3 := (by rw [pq11]; exact upr_j (by decide))
  rw [re35] at re36
  refine hv2 (show rv5 a0 4 = (some qn5) from by rw [pq5]; exact upr_s) (show rvn6 a0 4 = rv5 a0 4 from (by rw [hrn6]; exact congrFun (up0_a (ne_in ty23.1 hqn6)) _)) (fun rp5 re37 => ?_)
  rw [rp5] at re37
  have re38 : rv6 a0 4 = rvn6 a0 4 := (by rw [pq8]; exact upr_j (by decide))
  rw [re37] at re38
  have re39 : rv7 a0 4 = rv6 a0 4 := (by rw [pq11]; exact upr_j (by decide))
  rw [re38] at re39
  refine hv2 (show rv6 a0 8 = (some qn6) from by rw [pq8]; exact upr_s) (show rv7 a0 8 = rv6 a0 8 from (by rw [pq11]; exact upr_j (by decide))) (fun rp6 re40 => ?_)
  rw [rp6] at re40
  refine hv26 (show ∀ k, ([0, 1, 2, 3, 4, 7, 8] : List Nat).contains k = false → rv7 a0 k = rv a0 k from fun k hk => (Eq.trans (show rv7 a0 k = rv6 a0 k from (by rw [pq11]; exact upr_j (fun e => by subst e; exact absurd hk (by decide)))) (Eq.trans (show rv6 a0 k = rvn6 a0 k from (by rw [pq8]; exact upr_j (fun e => by subst e; exact absurd hk (by decide)))) (Eq.trans (show rvn6 a0 k = rv5 a0 k from (by rw [hrn6]; exact congrFun (up0_a (ne_in ty23.1 hqn6)) _)) (Eq.trans (show rv5 a0 k = rvh1 a0 k from (by rw [pq5]; exact upr_j (fun e => by subst e; exact absurd hk (by decide)))) (Eq.trans (show rvh1 a0 k = rvn5 a0 k from (fl1.r ty15 rfl k)) (Eq.trans (show rvn5 a0 k = rv4 a0 k from (by rw [hrn5]; exact congrFun (up0_a (ne_in ty10.1 hqn5)) _)) (Eq.trans (show rv4 a0 k = rvn4 a0 k from (by rw [pq4]; exact upr_j (fun e => by subst e; exact absurd hk (by decide)))) (Eq.trans (show rvn4 a0 k = rv3 a0 k from (by rw [hrn4]; exact congrFun (up0_a (ne_in ty6.1 hqn4)) _)) (Eq.trans (show rv3 a0 k = rvn3 a0 k from (by rw [pq3]; exact upr_j (fun e => by subst e; exact absurd hk (by decide)))) (Eq.trans (show rvn3 a0 k = rv2 a0 k from (by rw [hrn3]; exact congrFun (up0_a (ne_in ty3.1 hqn3)) _)) (Eq.trans (show rv2 a0 k = rvn2 a0 k from (by rw [pq2]; exact upr_j (fun e => by subst e; exact absurd hk (by decide)))) (Eq.trans (show rvn2 a0 k = rv1 a0 k from (by rw [hrn2]; exact congrFun (up0_a (ne_in ty1.1 hqn2)) _)) (Eq.trans (show rv1 a0 k = rvn1 a0 k from (by rw [pq1]; exact upr_j (fun e => by subst e; exact absurd hk (by decide)))) (show rvn1 a0 k = rv a0 k from (by rw [hrn1]; exact congrFun (up0_a (ne_in t_a0.1 hqn1)) _)))))))))))))))) (xl7.ty ty27) (xl7.ty ty29) (xl7.ty ty31) (xl7.ty ty33) (xl7.ty tqr1) (show (-2147483648) ≤ iv4 a0 5 ∧ iv4 a0 5 ≤ 2147483647 from W19.int ty35 5) (show iv4 a0 5 = iv3 a0 5 from by rw [pq10]; exact up2_j (by decide)) (show iv3 a0 5 = ivn6 a0 5 from by rw [pq9]; exact up2_j (by decide)) (show ivn6 a0 5 = iv2 a0 5 from by rw [hin6]; exact congrFun (up0_a (ne_in ty23.1 hqn6)) _) (show iv2 a0 5 = iv1 a0 5 from by rw [pq7]; exact up2_j (by decide)) (show iv1 a0 5 = 0 from by rw [pq6]; exact up2_s) (show (-2147483648) ≤ iv4 a0 6 ∧ iv4 a0 6 ≤ 2147483647 from W19.int ty35 6) (show iv4 a0 6 = iv3 a0 6 from by rw [pq10]; exact up2_j (by decide)) (show iv3 a0 6 = ivn6 a0 6 from by rw [pq9]; exact up2_j (by decide)) (show ivn6 a0 6 = iv2 a0 6 from by rw [hin6]; exact congrFun (up0_a (ne_in ty23.1 hqn6)) _) (show iv2 a0 6 = 0 from by rw [pq7]; exact up2_s) (show (-2147483648) ≤ iv4 a0 9 ∧ iv4 a0 9 ≤ 2147483647 from W19.int ty35 9) (show iv4 a0 9 = iv3 a0 9 from by rw [pq10]; exact up2_j (by decide)) (show iv3 a0 9 = 0 from by rw [pq9]; exact up2_s) (show (-2147483648) ≤ iv4 a0 10 ∧ iv4 a0 10 ≤ 2147483647 from W19.int ty35 10) (show iv4 a0 10 = 0 from by rw [pq10]; exact up2_s) (show rv7 a0 7 = (some a1) from by rw [pq11]; exact upr_s) (show ivn6 qn5 2 = iv2 qn5 2 from by rw [hin6]; exact congrFun (up0_a (ne_in tqr1.1 hqn6)) _) (show iv2 qn5 2 = iv1 qn5 2 from by rw [pq7]; exact up2_k (ne_ty tqr1 ty23 (by decide))) (show iv1 qn5 2 = ivh1 qn5 2 from by rw [pq6]; exact up2_k (ne_ty tqr1 ty23 (by decide))) (fun rn2 ty36 ty37 ty38 ty39 ty40 ri1 ie1 ie2 ie3 ie4 ie5 ri2 ie6 ie7 ie8 ie9 ri3 ie10 ie11 ri4 ie12 rp7 ie15 ie16 ie17 => ?_)
  refine hv3 (show 0 ≤ iv4 qn5 2 ∧ iv4 qn5 2 ≤ 40000 from W19.int ty40 2) (show iv4 qn5 2 = iv3 qn5 2 from by rw [pq10]; exact up2_k (ne_ty ty40 ty35 (by decide))) (show iv3 qn5 2 = ivn6 qn5 2 from by rw [pq9]; exact up2_k (ne_ty ty40 ty35 (by decide))) (fun ri5 ie13 ie14 => ?_)
  exact c_vret C dX4_init_83 rfl (by decide) (rom0 hph (Nat.le_refl 0) (by decide)) ⟨_, rfl, X8, F18, W19, ⟨qn1, qn2, qn3, qn4, qn5, qn6, rn2, re12, ty36, re22, ty37, re30, ty38, re36, ty39, re39, ty40, re40, tqn6, (by omega), (by omega), (by omega), (by omega), rp7, (by omega)⟩, nw8.sub (by decide)⟩
end
