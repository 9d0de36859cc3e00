set_option maxHeartbeats 4000000 in
set_option maxRecDepth 100000 in
theorem C_placeOfUnknown {l : Launch} {G : GT} {mi : Nat} {sk : Nat → Nat} {L : List Nat} {cl ln : Nat → Nat} {iv : Nat → Nat → Int} {rv : Nat → Nat → Option Nat}  {a0 : Nat} (hW : WT (g0 G) sk L cl ln iv rv) (hS : SKL sk L cl) (t_a0 : ty L cl a0 15)  : Mc l G mi (Phi (g0 G) sk) PHM yX6_placeOfUnknown cX6_placeOfUnknown 1 (some .int) 0 [.ref a0] L cl ln iv rv 0 (fun v L2 cl2 ln2 iv2 rv2 => ∃ f : Int, v = some (.int (iI f)) ∧ L = L2 ∧ cl = cl2 ∧ ln = ln2 ∧ iv = iv2 ∧ rv = rv2 ∧ (-2147483648 ≤ f ∧ f ≤ 2147483647) ∧ (True)) := by
  refine Mc.mk (by decide) (Nat.le_of_ble_eq_true rfl) ?_
  intro p e s m args below meth c A C hM
  have hph := Phi.le hW hS
  have hX0 : XT L cl ln L cl ln := XT.refl
  have hF0 : fT [] L cl iv rv iv rv := fT.refl
  refine c_aload_n (j := 0) (x := a0) C dX6_placeOfUnknown_0 rfl ?_
  have ri1 : (-2147483648) ≤ iv a0 9 ∧ iv a0 9 ≤ 2147483647 := hW.int t_a0 9
  refine c_get (k := 9) C ck_7 dX6_placeOfUnknown_1 w1_151 (by decide) t_a0 rfl rfl (by decide) rfl ?_
  refine c_if_lt (tgt := 30) C ⟨by omega, by omega⟩ dX6_placeOfUnknown_4 (by decide) (fun c1 => ?_) (fun c1 => ?_)
  · refine c_iconst C dX6_placeOfUnknown_30 ?_
    exact c_iret C dX6_placeOfUnknown_31 rfl (by decide) (rom0 hph hph (by decide)) ⟨(-1), rfl, rfl, rfl, rfl, rfl, rfl, ⟨by decide, by decide⟩, trivial⟩
  · refine c_aload_n (j := 0) (x := a0) C dX6_placeOfUnknown_7 rfl ?_
    refine c_get (k := 9) C ck_7 dX6_placeOfUnknown_8 w1_151 (by decide) t_a0 rfl rfl (by decide) rfl ?_
    refine c_aload_n (j := 0) (x := a0) C dX6_placeOfUnknown_11 rfl ?_
    have ri2 : 0 ≤ iv a0 4 ∧ iv a0 4 ≤ 500 := hW.int t_a0 4
    refine c_get (k := 4) C ck_7 dX6_placeOfUnknown_12 w1_140 (by decide) t_a0 rfl rfl (by decide) rfl ?_
    refine c_icmp_ge (tgt := 30) C ⟨by omega, by omega⟩ ⟨by omega, by omega⟩ dX6_placeOfUnknown_15 (by decide) (fun c2 => ?_) (fun c2 => ?_)
    · refine c_iconst C dX6_placeOfUnknown_30 ?_
      exact c_iret C dX6_placeOfUnknown_31 rfl (by decide) (rom0 hph hph (by decide)) ⟨(-1), rfl, rfl, rfl, rfl, rfl, rfl, ⟨by decide, by decide⟩, trivial⟩
    · refine c_aload_n (j := 0) (x := a0) C dX6_placeOfUnknown_18 rfl ?_
      obtain ⟨rb1, rq1, trb1⟩ := hW.ref t_a0 1 rfl rfl rfl
      have lnrb1 : 500 ≤ ln rb1 ∧ ln rb1 ≤ 500 := hW.len trb1 rfl
      refine c_getr (k := 1) C ck_7 dX6_placeOfUnknown_19 w1_137 (by decide) t_a0 rfl rfl (by decide) rfl rq1 ?_
      refine c_st (st2 := [.ref rb1]) rfl ?_
      refine c_aload_n (j := 0) (x := a0) C dX6_placeOfUnknown_22 rfl ?_
      refine c_get (k := 9) C ck_7 dX6_placeOfUnknown_23 w1_151 (by decide) t_a0 rfl rfl (by decide) rfl ?_
      have ll1 : 500 ≤ ln rb1 ∧ ln rb1 ≤ 500 := hW.len trb1 rfl
      refine c_iald C dX6_placeOfUnknown_26 trb1 rfl (by omega) (by omega) (by omega) ?_
      have ri3 : (-2147483648) ≤ iv rb1 ((iv a0 9).toNat) ∧ iv rb1 ((iv a0 9).toNat) ≤ 2147483647 := hW.int trb1 ((iv a0 9).toNat)
      refine c_goto (tgt := 31) C dX6_placeOfUnknown_27 (by decide) ?_
      exact c_iret C dX6_placeOfUnknown_31 rfl (by decide) (rom0 hph hph (by decide)) ⟨(iv rb1 (iv a0 9).toNat), rfl, rfl, rfl, rfl, rfl, rfl, ⟨by omega, by omega⟩, trivial⟩
