set_option maxHeartbeats 4000000 in
set_option maxRecDepth 100000 in
theorem C_at_2 {l : Launch} {G : GT} {mi : Nat} {sk : Nat → Nat} {L : List Nat} {cl ln : Nat → Nat} {iv : Nat → Nat → Int} {rv : Nat → Nat → Option Nat}  {a0 : Nat} {i : Int} (hW : WT (g0 G) sk L cl ln iv rv) (hS : SKL sk L cl) (t_a0 : ty L cl a0 2) (h_i : -2147483648 ≤ i ∧ i ≤ 2147483647)  : Mc l G mi (Phi (g0 G) sk) PHM yX1_at cX1_at 2 (some .int) 0 [.ref a0, .int (iI i)] L cl ln iv rv 0 (fun v L2 cl2 ln2 iv2 rv2 => ∃ f : Int, v = some (.int (iI f)) ∧ L = L2 ∧ cl = cl2 ∧ ln = ln2 ∧ iv = iv2 ∧ rv = rv2 ∧ (-2147483648 ≤ f ∧ f ≤ 2147483647) ∧ (((0 ≤ i ∧ i < iv a0 2) ∨ f = 0) ∧ ∀ ss, CT iv rv a0 ss → 0 ≤ i → i < iv a0 2 → f = ss i.toNat)) := by
  refine Mc.mk (by decide) (Nat.le_of_ble_eq_true rfl) ?_
  intro p e s m args below meth c A C hM
  refine hv3 (Phi.le hW hS) (show XT L cl ln L cl ln from XT.refl) (show fT [] L cl iv rv iv rv from fT.refl) (fun hph hX0 hF0 => ?_)
  refine c_iload_n (j := 1) C dX1_at_0 rfl ?_
  refine c_if_lt (tgt := 21) C ⟨by omega, by omega⟩ dX1_at_1 (by decide) (fun c1 => ?_) (fun c1 => ?_)
  · refine c_iconst C dX1_at_21 ?_
    exact c_iret C dX1_at_22 rfl (by decide) (rom0 hph hph (by decide)) ⟨0, rfl, rfl, rfl, rfl, rfl, rfl, ⟨by decide, by decide⟩, ⟨by omega, fun ss hs h1 h2 => absurd h2 (by omega)⟩⟩
  · refine c_iload_n (j := 1) C dX1_at_4 rfl ?_
    refine c_aload_n (j := 0) (x := a0) C dX1_at_5 rfl ?_
    have ri1 : 0 ≤ iv a0 2 ∧ iv a0 2 ≤ 3000 := hW.int t_a0 2
    refine c_get (k := 2) C ck_2 dX1_at_6 w1_43 (by decide) t_a0 rfl rfl (by decide) rfl ?_
    refine c_icmp_ge (tgt := 21) C ⟨by omega, by omega⟩ (r32_c (lo := 0) (hi := 3000) ri1.1 ri1.2 (by decide) (by decide)) dX1_at_9 (by decide) (fun c2 => ?_) (fun c2 => ?_)
    · refine c_iconst C dX1_at_21 ?_
      exact c_iret C dX1_at_22 rfl (by decide) (rom0 hph hph (by decide)) ⟨0, rfl, rfl, rfl, rfl, rfl, rfl, ⟨by decide, by decide⟩, ⟨by omega, fun ss hs h1 h2 => absurd h2 (by omega)⟩⟩
    · refine c_aload_n (j := 0) (x := a0) C dX1_at_12 rfl ?_
      obtain ⟨rb1, rq1, trb1⟩ := hW.ref t_a0 1 rfl rfl rfl
      refine hv2 (show 16 ≤ ln rb1 ∧ ln rb1 ≤ 6000 from hW.len trb1 rfl) (hW.isz t_a0 rfl rfl rq1) (fun lnrb1 szrb1 => ?_)
      refine c_getr (k := 1) C ck_2 dX1_at_13 w1_39 (by decide) t_a0 rfl rfl (by decide) rfl rq1 ?_
      refine c_st (st2 := [.ref rb1]) rfl ?_
      refine c_iload_n (j := 1) C dX1_at_16 rfl ?_
      have ll1 : 16 ≤ ln rb1 ∧ ln rb1 ≤ 6000 := hW.len trb1 rfl
      refine c_iald C dX1_at_17 trb1 rfl (by omega) (by omega) (by omega) ?_
      have ri2 : (-2147483648) ≤ iv rb1 i.toNat ∧ iv rb1 i.toNat ≤ 2147483647 := hW.int trb1 i.toNat
      refine c_goto (tgt := 22) C dX1_at_18 (by decide) ?_
      exact c_iret C dX1_at_22 rfl (by decide) (rom0 hph hph (by decide)) ⟨(iv rb1 i.toNat), rfl, rfl, rfl, rfl, rfl, rfl, ⟨by omega, by omega⟩, ⟨by omega, fun ss hs h1 h2 => hs rb1 rq1 i.toNat (by omega)⟩⟩
set_option maxHeartbeats 4000000 in
set_option maxRecDepth 100000 in
theorem C_clear_2 {l : Launch} {G : GT} {mi : Nat} {sk : Nat → Nat} {L : List Nat} {cl ln : Nat → Nat} {iv : Nat → Nat → Int} {rv : Nat → Nat → Option Nat}  {a0 : Nat} (hW : WT (g0 G) sk L cl ln iv rv) (hS : SKL sk L cl) (t_a0 : ty L cl a0 2)  : Mc l G mi (Phi (g0 G) sk) PHM yX1_clear cX1_clear 1 none 0 [.ref a0] L cl ln iv rv 0 (fun v L2 cl2 ln2 iv2 rv2 => v = none ∧ L = L2 ∧ cl = cl2 ∧ ln = ln2 ∧ rv = rv2 ∧ fT [2] L cl iv rv iv2 rv2 ∧ WT (g0 G) sk L2 cl2 ln2 iv2 rv2 ∧ (iv2 a0 2 = 0)) := by
  refine Mc.mk (by decide) (Nat.le_of_ble_eq_true rfl) ?_
  intro p e s m args below meth c A C hM
  refine hv3 (Phi.le hW hS) (show XT L cl ln L cl ln from XT.refl) (show fT [2] L cl iv rv iv rv from fT.refl) (fun hph hX0 hF0 => ?_)
  refine c_aload_n (j := 0) (x := a0) C dX1_clear_0 rfl ?_
  refine c_iconst C dX1_clear_1 ?_
  refine c_put (z := 0) (k := 2) C ck_2 dX1_clear_2 w1_43 (by decide) rfl t_a0 rfl rfl (by decide) rfl (by rfl) (by rfl) (fun iv1 pq1 => ?_)
  obtain ⟨rb1, rq1, trb1⟩ := hW.ref t_a0 1 rfl rfl rfl
  refine hv3 (hW.isz t_a0 rfl rfl rq1) (hF0.puti hX0 pq1 t_a0 rfl) (show iv1 a0 2 = 0 from by rw [pq1]; exact up2_s) (fun szrb1 F1 ie1 => ?_)
  have W1 := hW.isz_put pq1 t_a0 (show 0 ≤ 0 ∧ 0 ≤ 3000 by omega) rfl rfl rq1 (show 0 ≤ ((ln rb1 : Nat) : Int) by omega)
  have ri1 : 0 ≤ iv1 a0 2 ∧ iv1 a0 2 ≤ 3000 := W1.int t_a0 2
  exact c_vret C dX1_clear_5 rfl (by decide) (rom0 hph hph (by decide)) ⟨rfl, rfl, rfl, rfl, rfl, F1, W1, (by omega)⟩
set_option maxHeartbeats 4000000 in
set_option maxRecDepth 100000 in
theorem C_at_3 {l : Launch} {G : GT} {mi : Nat} {sk : Nat → Nat} {L : List Nat} {cl ln : Nat → Nat} {iv : Nat → Nat → Int} {rv : Nat → Nat → Option Nat}  {a0 : Nat} {i : Int} (hW : WT (g0 G) sk L cl ln iv rv) (hS : SKL sk L cl) (t_a0 : ty L cl a0 3) (h_i : -2147483648 ≤ i ∧ i ≤ 2147483647)  : Mc l G mi (Phi (g0 G) sk) PHM yX1_at cX1_at 2 (some .int) 0 [.ref a0, .int (iI i)] L cl ln iv rv 0 (fun v L2 cl2 ln2 iv2 rv2 => ∃ f : Int, v = some (.int (iI f)) ∧ L = L2 ∧ cl = cl2 ∧ ln = ln2 ∧ iv = iv2 ∧ rv = rv2 ∧ (-2147483648 ≤ f ∧ f ≤ 2147483647) ∧ (((0 ≤ i ∧ i < iv a0 2) ∨ f = 0) ∧ ∀ ss, CT iv rv a0 ss → 0 ≤ i → i < iv a0 2 → f = ss i.toNat)) := by
  refine Mc.mk (by decide) (Nat.le_of_ble_eq_true rfl) ?_
  intro p e s m args below meth c A C hM
  refine hv3 (Phi.le hW hS) (show XT L cl ln L cl ln from XT.refl) (show fT [] L cl iv rv iv rv from fT.refl) (fun hph hX0 hF0 => ?_)
  refine c_iload_n (j := 1) C dX1_at_0 rfl ?_
  refine c_if_lt (tgt := 21) C ⟨by omega, by omega⟩ dX1_at_1 (by decide) (fun c1 => ?_) (fun c1 => ?_)
  · refine c_iconst C dX1_at_21 ?_
    exact c_iret C dX1_at_22 rfl (by decide) (rom0 hph hph (by decide)) ⟨0, rfl, rfl, rfl, rfl, rfl, rfl, ⟨by decide, by decide⟩, ⟨by omega, fun ss hs h1 h2 => absurd h2 (by omega)⟩⟩
  · refine c_iload_n (j := 1) C dX1_at_4 rfl ?_
    refine c_aload_n (j := 0) (x := a0) C dX1_at_5 rfl ?_
    have ri1 : 0 ≤ iv a0 2 ∧ iv a0 2 ≤ 500 := hW.int t_a0 2
    refine c_get (k := 2) C ck_2 dX1_at_6 w1_43 (by decide) t_a0 rfl rfl (by decide) rfl ?_
    refine c_icmp_ge (tgt := 21) C ⟨by omega, by omega⟩ (r32_c (lo := 0) (hi := 500) ri1.1 ri1.2 (by decide) (by decide)) dX1_at_9 (by decide) (fun c2 => ?_) (fun c2 => ?_)
    · refine c_iconst C dX1_at_21 ?_
      exact c_iret C dX1_at_22 rfl (by decide) (rom0 hph hph (by decide)) ⟨0, rfl, rfl, rfl, rfl, rfl, rfl, ⟨by decide, by decide⟩, ⟨by omega, fun ss hs h1 h2 => absurd h2 (by omega)⟩⟩
    · refine c_aload_n (j := 0) (x := a0) C dX1_at_12 rfl ?_
      obtain ⟨rb1, rq1, trb1⟩ := hW.ref t_a0 1 rfl rfl rfl
      refine hv2 (show 16 ≤ ln rb1 ∧ ln rb1 ≤ 1000 from hW.len trb1 rfl) (hW.isz t_a0 rfl rfl rq1) (fun lnrb1 szrb1 => ?_)
      refine c_getr (k := 1) C ck_2 dX1_at_13 w1_39 (by decide) t_a0 rfl rfl (by decide) rfl rq1 ?_
      refine c_st (st2 := [.ref rb1]) rfl ?_
      refine c_iload_n (j := 1) C dX1_at_16 rfl ?_
      have ll1 : 16 ≤ ln rb1 ∧ ln rb1 ≤ 1000 := hW.len trb1 rfl
      refine c_iald C dX1_at_17 trb1 rfl (by omega) (by omega) (by omega) ?_
      have ri2 : (-2147483648) ≤ iv rb1 i.toNat ∧ iv rb1 i.toNat ≤ 2147483647 := hW.int trb1 i.toNat
      refine c_goto (tgt := 22) C dX1_at_18 (by decide) ?_
      exact c_iret C dX1_at_22 rfl (by decide) (rom0 hph hph (by decide)) ⟨(iv rb1 i.toNat), rfl, rfl, rfl, rfl, rfl, rfl, ⟨by omega, by omega⟩, ⟨by omega, fun ss hs h1 h2 => hs rb1 rq1 i.toNat (by omega)⟩⟩
set_option maxHeartbeats 4000000 in
set_option maxRecDepth 100000 in
theorem C_clear_3 {l : Launch} {G : GT} {mi : Nat} {sk : Nat → Nat} {L : List Nat} {cl ln : Nat → Nat} {iv : Nat → Nat → Int} {rv : Nat → Nat → Option Nat}  {a0 : Nat} (hW : WT (g0 G) sk L cl ln iv rv) (hS : SKL sk L cl) (t_a0 : ty L cl a0 3)  : Mc l G mi (Phi (g0 G) sk) PHM yX1_clear cX1_clear 1 none 0 [.ref a0] L cl ln iv rv 0 (fun v L2 cl2 ln2 iv2 rv2 => v = none ∧ L = L2 ∧ cl = cl2 ∧ ln = ln2 ∧ rv = rv2 ∧ fT [3] L cl iv rv iv2 rv2 ∧ WT (g0 G) sk L2 cl2 ln2 iv2 rv2 ∧ (iv2 a0 2 = 0)) := by
  refine Mc.mk (by decide) (Nat.le_of_ble_eq_true rfl) ?_
  intro p e s m args below meth c A C hM
  refine hv3 (Phi.le hW hS) (show XT L cl ln L cl ln from XT.refl) (show fT [3] L cl iv rv iv rv from fT.refl) (fun hph hX0 hF0 => ?_)
  refine c_aload_n (j := 0) (x := a0) C dX1_clear_0 rfl ?_
  refine c_iconst C dX1_clear_1 ?_
  refine c_put (z := 0) (k := 2) C ck_2 dX1_clear_2 w1_43 (by decide) rfl t_a0 rfl rfl (by decide) rfl (by rfl) (by rfl) (fun iv1 pq1 => ?_)
  obtain ⟨rb1, rq1, trb1⟩ := hW.ref t_a0 1 rfl rfl rfl
  refine hv3 (hW.isz t_a0 rfl rfl rq1) (hF0.puti hX0 pq1 t_a0 rfl) (show iv1 a0 2 = 0 from by rw [pq1]; exact up2_s) (fun szrb1 F1 ie1 => ?_)
  have W1 := hW.isz_put pq1 t_a0 (show 0 ≤ 0 ∧ 0 ≤ 500 by omega) rfl rfl rq1 (show 0 ≤ ((ln rb1 : Nat) : Int) by omega)
  have ri1 : 0 ≤ iv1 a0 2 ∧ iv1 a0 2 ≤ 500 := W1.int t_a0 2
  exact c_vret C dX1_clear_5 rfl (by decide) (rom0 hph hph (by decide)) ⟨rfl, rfl, rfl, rfl, rfl, F1, W1, (by omega)⟩
set_option maxHeartbeats 4000000 in
set_option maxRecDepth 100000 in
theorem C_at_4 {l : Launch} {G : GT} {mi : Nat} {sk : Nat → Nat} {L : List Nat} {cl ln : Nat → Nat} {iv : Nat → Nat → Int} {rv : Nat → Nat → Option Nat}  {a0 : Nat} {i : Int} (hW : WT (g0 G) sk L cl ln iv rv) (hS : SKL sk L cl) (t_a0 : ty L cl a0 4) (h_i : -2147483648 ≤ i ∧ i ≤ 2147483647)  : Mc l G mi (Phi (g0 G) sk) PHM yX1_at cX1_at 2 (some .int) 0 [.ref a0, .int (iI i)] L cl ln iv rv 0 (fun v L2 cl2 ln2 iv2 rv2 => ∃ f : Int, v = some (.int (iI f)) ∧ L = L2 ∧ cl = cl2 ∧ ln = ln2 ∧ iv = iv2 ∧ rv = rv2 ∧ (-2147483648 ≤ f ∧ f ≤ 2147483647) ∧ (((0 ≤ i ∧ i < iv a0 2) ∨ f = 0) ∧ ∀ ss, CT iv rv a0 ss → 0 ≤ i → i < iv a0 2 → f = ss i.toNat)) := by
  refine Mc.mk (by decide) (Nat.le_of_ble_eq_true rfl) ?_
  intro p e s m args below meth c A C hM
  refine hv3 (Phi.le hW hS) (show XT L cl ln L cl ln from XT.refl) (show fT [] L cl iv rv iv rv from fT.refl) (fun hph hX0 hF0 => ?_)
  refine c_iload_n (j := 1) C dX1_at_0 rfl ?_
  refine c_if_lt (tgt := 21) C ⟨by omega, by omega⟩ dX1_at_1 (by decide) (fun c1 => ?_) (fun c1 => ?_)
  · refine c_iconst C dX1_at_21 ?_
    exact c_iret C dX1_at_22 rfl (by decide) (rom0 hph hph (by decide)) ⟨0, rfl, rfl, rfl, rfl, rfl, rfl, ⟨by decide, by decide⟩, ⟨by omega, fun ss hs h1 h2 => absurd h2 (by omega)⟩⟩
  · refine c_iload_n (j := 1) C dX1_at_4 rfl ?_
    refine c_aload_n (j := 0) (x := a0) C dX1_at_5 rfl ?_
    have ri1 : 0 ≤ iv a0 2 ∧ iv a0 2 ≤ 4000 := hW.int t_a0 2
    refine c_get (k := 2) C ck_2 dX1_at_6 w1_43 (by decide) t_a0 rfl rfl (by decide) rfl ?_
    refine c_icmp_ge (tgt := 21) C ⟨by omega, by omega⟩ (r32_c (lo := 0) (hi := 4000) ri1.1 ri1.2 (by decide) (by decide)) dX1_at_9 (by decide) (fun c2 => ?_) (fun c2 => ?_)
    · refine c_iconst C dX1_at_21 ?_
      exact c_iret C dX1_at_22 rfl (by decide) (rom0 hph hph (by decide)) ⟨0, rfl, rfl, rfl, rfl, rfl, rfl, ⟨by decide, by decide⟩, ⟨by omega, fun ss hs h1 h2 => absurd h2 (by omega)⟩⟩
    · refine c_aload_n (j := 0) (x := a0) C dX1_at_12 rfl ?_
      obtain ⟨rb1, rq1, trb1⟩ := hW.ref t_a0 1 rfl rfl rfl
      refine hv2 (show 16 ≤ ln rb1 ∧ ln rb1 ≤ 8000 from hW.len trb1 rfl) (hW.isz t_a0 rfl rfl rq1) (fun lnrb1 szrb1 => ?_)
      refine c_getr (k := 1) C ck_2 dX1_at_13 w1_39 (by decide) t_a0 rfl rfl (by decide) rfl rq1 ?_
      refine c_st (st2 := [.ref rb1]) rfl ?_
      refine c_iload_n (j := 1) C dX1_at_16 rfl ?_
      have ll1 : 16 ≤ ln rb1 ∧ ln rb1 ≤ 8000 := hW.len trb1 rfl
      refine c_iald C dX1_at_17 trb1 rfl (by omega) (by omega) (by omega) ?_
      have ri2 : (-2147483648) ≤ iv rb1 i.toNat ∧ iv rb1 i.toNat ≤ 2147483647 := hW.int trb1 i.toNat
      refine c_goto (tgt := 22) C dX1_at_18 (by decide) ?_
      exact c_iret C dX1_at_22 rfl (by decide) (rom0 hph hph (by decide)) ⟨(iv rb1 i.toNat), rfl, rfl, rfl, rfl, rfl, rfl, ⟨by omega, by omega⟩, ⟨by omega, fun ss hs h1 h2 => hs rb1 rq1 i.toNat (by omega)⟩⟩
set_option maxHeartbeats 4000000 in
set_option maxRecDepth 100000 in
theorem C_clear_4 {l : Launch} {G : GT} {mi : Nat} {sk : Nat → Nat} {L : List Nat} {cl ln : Nat → Nat} {iv : Nat → Nat → Int} {rv : Nat → Nat → Option Nat}  {a0 : Nat} (hW : WT (g0 G) sk L cl ln iv rv) (hS : SKL sk L cl) (t_a0 : ty L cl a0 4)  : Mc l G mi (Phi (g0 G) sk) PHM yX1_clear cX1_clear 1 none 0 [.ref a0] L cl ln iv rv 0 (fun v L2 cl2 ln2 iv2 rv2 => v = none ∧ L = L2 ∧ cl = cl2 ∧ ln = ln2 ∧ rv = rv2 ∧ fT [4] L cl iv rv iv2 rv2 ∧ WT (g0 G) sk L2 cl2 ln2 iv2 rv2 ∧ (iv2 a0 2 = 0)) := by
  refine Mc.mk (by decide) (Nat.le_of_ble_eq_true rfl) ?_
  intro p e s m args below meth c A C hM
  refine hv3 (Phi.le hW hS) (show XT L cl ln L cl ln from XT.refl) (show fT [4] L cl iv rv iv rv from fT.refl) (fun hph hX0 hF0 => ?_)
  refine c_aload_n (j := 0) (x := a0) C dX1_clear_0 rfl ?_
  refine c_iconst C dX1_clear_1 ?_
  refine c_put (z := 0) (k := 2) C ck_2 dX1_clear_2 w1_43 (by decide) rfl t_a0 rfl rfl (by decide) rfl (by rfl) (by rfl) (fun iv1 pq1 => ?_)
  obtain ⟨rb1, rq1, trb1⟩ := hW.ref t_a0 1 rfl rfl rfl
  refine hv3 (hW.isz t_a0 rfl rfl rq1) (hF0.puti hX0 pq1 t_a0 rfl) (show iv1 a0 2 = 0 from by rw [pq1]; exact up2_s) (fun szrb1 F1 ie1 => ?_)
  have W1 := hW.isz_put pq1 t_a0 (show 0 ≤ 0 ∧ 0 ≤ 4000 by omega) rfl rfl rq1 (show 0 ≤ ((ln rb1 : Nat) : Int) by omega)
  have ri1 : 0 ≤ iv1 a0 2 ∧ iv1 a0 2 ≤ 4000 := W1.int t_a0 2
  exact c_vret C dX1_clear_5 rfl (by decide) (rom0 hph hph (by decide)) ⟨rfl, rfl, rfl, rfl, rfl, F1, W1, (by omega)⟩
set_option maxHeartbeats 4000000 in
set_option maxRecDepth 100000 in
theorem C_at_5 {l : Launch} {G : GT} {mi : Nat} {sk : Nat → Nat} {L : List Nat} {cl ln : Nat → Nat} {iv : Nat → Nat → Int} {rv : Nat → Nat → Option Nat}  {a0 : Nat} {i : Int} (hW : WT (g0 G) sk L cl ln iv rv) (hS : SKL sk L cl) (t_a0 : ty L cl a0 5) (h_i : -2147483648 ≤ i ∧ i ≤ 2147483647)  : Mc l G mi (Phi (g0 G) sk) PHM yX1_at cX1_at 2 (some .int) 0 [.ref a0, .int (iI i)] L cl ln iv rv 0 (fun v L2 cl2 ln2 iv2 rv2 => ∃ f : Int, v = some (.int (iI f)) ∧ L = L2 ∧ cl = cl2 ∧ ln = ln2 ∧ iv = iv2 ∧ rv = rv2 ∧ (-2147483648 ≤ f ∧ f ≤ 2147483647) ∧ (((0 ≤ i ∧ i < iv a0 2) ∨ f = 0) ∧ ∀ ss, CT iv rv a0 ss → 0 ≤ i → i < iv a0 2 → f = ss i.toNat)) := by
  refine Mc.mk (by decide) (Nat.le_of_ble_eq_true rfl) ?_
  intro p e s m args below meth c A C hM
  refine hv3 (Phi.le hW hS) (show XT L cl ln L cl ln from XT.refl) (show fT [] L cl iv rv iv rv from fT.refl) (fun hph hX0 hF0 => ?_)
  refine c_iload_n (j := 1) C dX1_at_0 rfl ?_
  refine c_if_lt (tgt := 21) C ⟨by omega, by omega⟩ dX1_at_1 (by decide) (fun c1 => ?_) (fun c1 => ?_)
  · refine c_iconst C dX1_at_21 ?_
    exact c_iret C dX1_at_22 rfl (by decide) (rom0 hph hph (by decide)) ⟨0, rfl, rfl, rfl, rfl, rfl, rfl, ⟨by decide, by decide⟩, ⟨by omega, fun ss hs h1 h2 => absurd h2 (by omega)⟩⟩
  · refine c_iload_n (j := 1) C dX1_at_4 rfl ?_
    refine c_aload_n (j := 0) (x := a0) C dX1_at_5 rfl ?_
    have ri1 : 0 ≤ iv a0 2 ∧ iv a0 2 ≤ 200 := hW.int t_a0 2
    refine c_get (k := 2) C ck_2 dX1_at_6 w1_43 (by decide) t_a0 rfl rfl (by decide) rfl ?_
    refine c_icmp_ge (tgt := 21) C ⟨by omega, by omega⟩ (r32_c (lo := 0) (hi := 200) ri1.1 ri1.2 (by decide) (by decide)) dX1_at_9 (by decide) (fun c2 => ?_) (fun c2 => ?_)
    · refine c_iconst C dX1_at_21 ?_
      exact c_iret C dX1_at_22 rfl (by decide) (rom0 hph hph (by decide)) ⟨0, rfl, rfl, rfl, rfl, rfl, rfl, ⟨by decide, by decide⟩, ⟨by omega, fun ss hs h1 h2 => absurd h2 (by omega)⟩⟩
    · refine c_aload_n (j := 0) (x := a0) C dX1_at_12 rfl ?_
      obtain ⟨rb1, rq1, trb1⟩ := hW.ref t_a0 1 rfl rfl rfl
      refine hv2 (show 16 ≤ ln rb1 ∧ ln rb1 ≤ 400 from hW.len trb1 rfl) (hW.isz t_a0 rfl rfl rq1) (fun lnrb1 szrb1 => ?_)
      refine c_getr (k := 1) C ck_2 dX1_at_13 w1_39 (by decide) t_a0 rfl rfl (by decide) rfl rq1 ?_
      refine c_st (st2 := [.ref rb1]) rfl ?_
      refine c_iload_n (j := 1) C dX1_at_16 rfl ?_
      have ll1 : 16 ≤ ln rb1 ∧ ln rb1 ≤ 400 := hW.len trb1 rfl
      refine c_iald C dX1_at_17 trb1 rfl (by omega) (by omega) (by omega) ?_
      have ri2 : (-2147483648) ≤ iv rb1 i.toNat ∧ iv rb1 i.toNat ≤ 2147483647 := hW.int trb1 i.toNat
      refine c_goto (tgt := 22) C dX1_at_18 (by decide) ?_
      exact c_iret C dX1_at_22 rfl (by decide) (rom0 hph hph (by decide)) ⟨(iv rb1 i.toNat), rfl, rfl, rfl, rfl, rfl, rfl, ⟨by omega, by omega⟩, ⟨by omega, fun ss hs h1 h2 => hs rb1 rq1 i.toNat (by omega)⟩⟩
set_option maxHeartbeats 4000000 in
set_option maxRecDepth 100000 in
theorem C_clear_5 {l : Launch} {G : GT} {mi : Nat} {sk : Nat → Nat} {L : List Nat} {cl ln : Nat → Nat} {iv : Nat → Nat → Int} {rv : Nat → Nat → Option Nat}  {a0 : Nat} (hW : WT (g0 G) sk L cl ln iv rv) (hS : SKL sk L cl) (t_a0 : ty L cl a0 5)  : Mc l G mi (Phi (g0 G) sk) PHM yX1_clear cX1_clear 1 none 0 [.ref a0] L cl ln iv rv 0 (fun v L2 cl2 ln2 iv2 rv2 => v = none ∧ L = L2 ∧ cl = cl2 ∧ ln = ln2 ∧ rv = rv2 ∧ fT [5] L cl iv rv iv2 rv2 ∧ WT (g0 G) sk L2 cl2 ln2 iv2 rv2 ∧ (iv2 a0 2 = 0)) := by
  refine Mc.mk (by decide) (Nat.le_of_ble_eq_true rfl) ?_
  intro p e s m args below meth c A C hM
  refine hv3 (Phi.le hW hS) (show XT L cl ln L cl ln from XT.refl) (show fT [5] L cl iv rv iv rv from fT.refl) (fun hph hX0 hF0 => ?_)
  refine c_aload_n (j := 0) (x := a0) C dX1_clear_0 rfl ?_
  refine c_iconst C dX1_clear_1 ?_
  refine c_put (z := 0) (k := 2) C ck_2 dX1_clear_2 w1_43 (by decide) rfl t_a0 rfl rfl (by decide) rfl (by rfl) (by rfl) (fun iv1 pq1 => ?_)
  obtain ⟨rb1, rq1, trb1⟩ := hW.ref t_a0 1 rfl rfl rfl
  refine hv3 (hW.isz t_a0 rfl rfl rq1) (hF0.puti hX0 pq1 t_a0 rfl) (show iv1 a0 2 = 0 from by rw [pq1]; exact up2_s) (fun szrb1 F1 ie1 => ?_)
  have W1 := hW.isz_put pq1 t_a0 (show 0 ≤ 0 ∧ 0 ≤ 200 by omega) rfl rfl rq1 (show 0 ≤ ((ln rb1 : Nat) : Int) by omega)
  have ri1 : 0 ≤ iv1 a0 2 ∧ iv1 a0 2 ≤ 200 := W1.int t_a0 2
  exact c_vret C dX1_clear_5 rfl (by decide) (rom0 hph hph (by decide)) ⟨rfl, rfl, rfl, rfl, rfl, F1, W1, (by omega)⟩
set_option maxHeartbeats 4000000 in
set_option maxRecDepth 100000 in
theorem C_clear_6 {l : Launch} {G : GT} {mi : Nat} {sk : Nat → Nat} {L : List Nat} {cl ln : Nat → Nat} {iv : Nat → Nat → Int} {rv : Nat → Nat → Option Nat}  {a0 : Nat} (hW : WT (g0 G) sk L cl ln iv rv) (hS : SKL sk L cl) (t_a0 : ty L cl a0 6)  : Mc l G mi (Phi (g0 G) sk) PHM yX1_clear cX1_clear 1 none 0 [.ref a0] L cl ln iv rv 0 (fun v L2 cl2 ln2 iv2 rv2 => v = none ∧ L = L2 ∧ cl = cl2 ∧ ln = ln2 ∧ rv = rv2 ∧ fT [6] L cl iv rv iv2 rv2 ∧ WT (g0 G) sk L2 cl2 ln2 iv2 rv2 ∧ (iv2 a0 2 = 0)) := by
  refine Mc.mk (by decide) (Nat.le_of_ble_eq_true rfl) ?_
  intro p e s m args below meth c A C hM
  refine hv3 (Phi.le hW hS) (show XT L cl ln L cl ln from XT.refl) (show fT [6] L cl iv rv iv rv from fT.refl) (fun hph hX0 hF0 => ?_)
  refine c_aload_n (j := 0) (x := a0) C dX1_clear_0 rfl ?_
  refine c_iconst C dX1_clear_1 ?_
  refine c_put (z := 0) (k := 2) C ck_2 dX1_clear_2 w1_43 (by decide) rfl t_a0 rfl rfl (by decide) rfl (by rfl) (by rfl) (fun iv1 pq1 => ?_)
  obtain ⟨rb1, rq1, trb1⟩ := hW.ref t_a0 1 rfl rfl rfl
  refine hv3 (hW.isz t_a0 rfl rfl rq1) (hF0.puti hX0 pq1 t_a0 rfl) (show iv1 a0 2 = 0 from by rw [pq1]; exact up2_s) (fun szrb1 F1 ie1 => ?_)
  have W1 := hW.isz_put pq1 t_a0 (show 0 ≤ 0 ∧ 0 ≤ 6003 by omega) rfl rfl rq1 (show 0 ≤ ((ln rb1 : Nat) : Int) by omega)
  have ri1 : 0 ≤ iv1 a0 2 ∧ iv1 a0 2 ≤ 6003 := W1.int t_a0 2
  exact c_vret C dX1_clear_5 rfl (by decide) (rom0 hph hph (by decide)) ⟨rfl, rfl, rfl, rfl, rfl, F1, W1, (by omega)⟩
set_option maxHeartbeats 4000000 in
set_option maxRecDepth 100000 in
theorem C_clear_7 {l : Launch} {G : GT} {mi : Nat} {sk : Nat → Nat} {L : List Nat} {cl ln : Nat → Nat} {iv : Nat → Nat → Int} {rv : Nat → Nat → Option Nat}  {a0 : Nat} (hW : WT (g0 G) sk L cl ln iv rv) (hS : SKL sk L cl) (t_a0 : ty L cl a0 7)  : Mc l G mi (Phi (g0 G) sk) PHM yX1_clear cX1_clear 1 none 0 [.ref a0] L cl ln iv rv 0 (fun v L2 cl2 ln2 iv2 rv2 => v = none ∧ L = L2 ∧ cl = cl2 ∧ ln = ln2 ∧ rv = rv2 ∧ fT [7] L cl iv rv iv2 rv2 ∧ WT (g0 G) sk L2 cl2 ln2 iv2 rv2 ∧ (iv2 a0 2 = 0)) := by
  refine Mc.mk (by decide) (Nat.le_of_ble_eq_true rfl) ?_
  intro p e s m args below meth c A C hM
  refine hv3 (Phi.le hW hS) (show XT L cl ln L cl ln from XT.refl) (show fT [7] L cl iv rv iv rv from fT.refl) (fun hph hX0 hF0 => ?_)
  refine c_aload_n (j := 0) (x := a0) C dX1_clear_0 rfl ?_
  refine c_iconst C dX1_clear_1 ?_
  refine c_put (z := 0) (k := 2) C ck_2 dX1_clear_2 w1_43 (by decide) rfl t_a0 rfl rfl (by decide) rfl (by rfl) (by rfl) (fun iv1 pq1 => ?_)
  obtain ⟨rb1, rq1, trb1⟩ := hW.ref t_a0 1 rfl rfl rfl
  refine hv3 (hW.isz t_a0 rfl rfl rq1) (hF0.puti hX0 pq1 t_a0 rfl) (show iv1 a0 2 = 0 from by rw [pq1]; exact up2_s) (fun szrb1 F1 ie1 => ?_)
  have W1 := hW.isz_put pq1 t_a0 (show 0 ≤ 0 ∧ 0 ≤ 6003 by omega) rfl rfl rq1 (show 0 ≤ ((ln rb1 : Nat) : Int) by omega)
  have ri1 : 0 ≤ iv1 a0 2 ∧ iv1 a0 2 ≤ 6003 := W1.int t_a0 2
  exact c_vret C dX1_clear_5 rfl (by decide) (rom0 hph hph (by decide)) ⟨rfl, rfl, rfl, rfl, rfl, F1, W1, (by omega)⟩
set_option maxHeartbeats 4000000 in
set_option maxRecDepth 100000 in
theorem C_at_8 {l : Launch} {G : GT} {mi : Nat} {sk : Nat → Nat} {L : List Nat} {cl ln : Nat → Nat} {iv : Nat → Nat → Int} {rv : Nat → Nat → Option Nat}  {a0 : Nat} {i : Int} (hW : WT (g0 G) sk L cl ln iv rv) (hS : SKL sk L cl) (t_a0 : ty L cl a0 8) (h_i : -2147483648 ≤ i ∧ i ≤ 2147483647)  : Mc l G mi (Phi (g0 G) sk) PHM yX1_at cX1_at 2 (some .int) 0 [.ref a0, .int (iI i)] L cl ln iv rv 0 (fun v L2 cl2 ln2 iv2 rv2 => ∃ f : Int, v = some (.int (iI f)) ∧ L = L2 ∧ cl = cl2 ∧ ln = ln2 ∧ iv = iv2 ∧ rv = rv2 ∧ (-2147483648 ≤ f ∧ f ≤ 2147483647) ∧ (((0 ≤ i ∧ i < iv a0 2) ∨ f = 0) ∧ ∀ ss, CT iv rv a0 ss → 0 ≤ i → i < iv a0 2 → f = ss i.toNat)) := by
  refine Mc.mk (by decide) (Nat.le_of_ble_eq_true rfl) ?_
  intro p e s m args below meth c A C hM
  refine hv3 (Phi.le hW hS) (show XT L cl ln L cl ln from XT.refl) (show fT [] L cl iv rv iv rv from fT.refl) (fun hph hX0 hF0 => ?_)
  refine c_iload_n (j := 1) C dX1_at_0 rfl ?_
  refine c_if_lt (tgt := 21) C ⟨by omega, by omega⟩ dX1_at_1 (by decide) (fun c1 => ?_) (fun c1 => ?_)
  · refine c_iconst C dX1_at_21 ?_
    exact c_iret C dX1_at_22 rfl (by decide) (rom0 hph hph (by decide)) ⟨0, rfl, rfl, rfl, rfl, rfl, rfl, ⟨by decide, by decide⟩, ⟨by omega, fun ss hs h1 h2 => absurd h2 (by omega)⟩⟩
  · refine c_iload_n (j := 1) C dX1_at_4 rfl ?_
    refine c_aload_n (j := 0) (x := a0) C dX1_at_5 rfl ?_
    have ri1 : 0 ≤ iv a0 2 ∧ iv a0 2 ≤ 40200 := hW.int t_a0 2
    refine c_get (k := 2) C ck_2 dX1_at_6 w1_43 (by decide) t_a0 rfl rfl (by decide) rfl ?_
    refine c_icmp_ge (tgt := 21) C ⟨by omega, by omega⟩ (r32_c (lo := 0) (hi := 40200) ri1.1 ri1.2 (by decide) (by decide)) dX1_at_9 (by decide) (fun c2 => ?_) (fun c2 => ?_)
    · refine c_iconst C dX1_at_21 ?_
      exact c_iret C dX1_at_22 rfl (by decide) (rom0 hph hph (by decide)) ⟨0, rfl, rfl, rfl, rfl, rfl, rfl, ⟨by decide, by decide⟩, ⟨by omega, fun ss hs h1 h2 => absurd h2 (by omega)⟩⟩
    · refine c_aload_n (j := 0) (x := a0) C dX1_at_12 rfl ?_
      obtain ⟨rb1, rq1, trb1⟩ := hW.ref t_a0 1 rfl rfl rfl
      refine hv2 (show 16 ≤ ln rb1 ∧ ln rb1 ≤ 80400 from hW.len trb1 rfl) (hW.isz t_a0 rfl rfl rq1) (fun lnrb1 szrb1 => ?_)
      refine c_getr (k := 1) C ck_2 dX1_at_13 w1_39 (by decide) t_a0 rfl rfl (by decide) rfl rq1 ?_
      refine c_st (st2 := [.ref rb1]) rfl ?_
      refine c_iload_n (j := 1) C dX1_at_16 rfl ?_
      have ll1 : 16 ≤ ln rb1 ∧ ln rb1 ≤ 80400 := hW.len trb1 rfl
      refine c_iald C dX1_at_17 trb1 rfl (by omega) (by omega) (by omega) ?_
      have ri2 : (-2147483648) ≤ iv rb1 i.toNat ∧ iv rb1 i.toNat ≤ 2147483647 := hW.int trb1 i.toNat
      refine c_goto (tgt := 22) C dX1_at_18 (by decide) ?_
      exact c_iret C dX1_at_22 rfl (by decide) (rom0 hph hph (by decide)) ⟨(iv rb1 i.toNat), rfl, rfl, rfl, rfl, rfl, rfl, ⟨by omega, by omega⟩, ⟨by omega, fun ss hs h1 h2 => hs rb1 rq1 i.toNat (by omega)⟩⟩
set_option maxHeartbeats 4000000 in
set_option maxRecDepth 100000 in
theorem C_clear_8 {l : Launch} {G : GT} {mi : Nat} {sk : Nat → Nat} {L : List Nat} {cl ln : Nat → Nat} {iv : Nat → Nat → Int} {rv : Nat → Nat → Option Nat}  {a0 : Nat} (hW : WT (g0 G) sk L cl ln iv rv) (hS : SKL sk L cl) (t_a0 : ty L cl a0 8)  : Mc l G mi (Phi (g0 G) sk) PHM yX1_clear cX1_clear 1 none 0 [.ref a0] L cl ln iv rv 0 (fun v L2 cl2 ln2 iv2 rv2 => v = none ∧ L = L2 ∧ cl = cl2 ∧ ln = ln2 ∧ rv = rv2 ∧ fT [8] L cl iv rv iv2 rv2 ∧ WT (g0 G) sk L2 cl2 ln2 iv2 rv2 ∧ (iv2 a0 2 = 0)) := by
  refine Mc.mk (by decide) (Nat.le_of_ble_eq_true rfl) ?_
  intro p e s m args below meth c A C hM
  refine hv3 (Phi.le hW hS) (show XT L cl ln L cl ln from XT.refl) (show fT [8] L cl iv rv iv rv from fT.refl) (fun hph hX0 hF0 => ?_)
  refine c_aload_n (j := 0) (x := a0) C dX1_clear_0 rfl ?_
  refine c_iconst C dX1_clear_1 ?_
  refine c_put (z := 0) (k := 2) C ck_2 dX1_clear_2 w1_43 (by decide) rfl t_a0 rfl rfl (by decide) rfl (by rfl) (by rfl) (fun iv1 pq1 => ?_)
  obtain ⟨rb1, rq1, trb1⟩ := hW.ref t_a0 1 rfl rfl rfl
  refine hv3 (hW.isz t_a0 rfl rfl rq1) (hF0.puti hX0 pq1 t_a0 rfl) (show iv1 a0 2 = 0 from by rw [pq1]; exact up2_s) (fun szrb1 F1 ie1 => ?_)
  have W1 := hW.isz_put pq1 t_a0 (show 0 ≤ 0 ∧ 0 ≤ 40200 by omega) rfl rfl rq1 (show 0 ≤ ((ln rb1 : Nat) : Int) by omega)
  have ri1 : 0 ≤ iv1 a0 2 ∧ iv1 a0 2 ≤ 40200 := W1.int t_a0 2
  exact c_vret C dX1_clear_5 rfl (by decide) (rom0 hph hph (by decide)) ⟨rfl, rfl, rfl, rfl, rfl, F1, W1, (by omega)⟩
set_option maxHeartbeats 4000000 in
set_option maxRecDepth 100000 in
theorem C_at_9 {l : Launch} {G : GT} {mi : Nat} {sk : Nat → Nat} {L : List Nat} {cl ln : Nat → Nat} {iv : Nat → Nat → Int} {rv : Nat → Nat → Option Nat}  {a0 : Nat} {i : Int} (hW : WT (g0 G) sk L cl ln iv rv) (hS : SKL sk L cl) (t_a0 : ty L cl a0 9) (h_i : -2147483648 ≤ i ∧ i ≤ 2147483647)  : Mc l G mi (Phi (g0 G) sk) PHM yX1_at cX1_at 2 (some .int) 0 [.ref a0, .int (iI i)] L cl ln iv rv 0 (fun v L2 cl2 ln2 iv2 rv2 => ∃ f : Int, v = some (.int (iI f)) ∧ L = L2 ∧ cl = cl2 ∧ ln = ln2 ∧ iv = iv2 ∧ rv = rv2 ∧ (-2147483648 ≤ f ∧ f ≤ 2147483647) ∧ (((0 ≤ i ∧ i < iv a0 2) ∨ f = 0) ∧ ∀ ss, CT iv rv a0 ss → 0 ≤ i → i < iv a0 2 → f = ss i.toNat)) := by
  refine Mc.mk (by decide) (Nat.le_of_ble_eq_true rfl) ?_
  intro p e s m args below meth c A C hM
  refine hv3 (Phi.le hW hS) (show XT L cl ln L cl ln from XT.refl) (show fT [] L cl iv rv iv rv from fT.refl) (fun hph hX0 hF0 => ?_)
  refine c_iload_n (j := 1) C dX1_at_0 rfl ?_
  refine c_if_lt (tgt := 21) C ⟨by omega, by omega⟩ dX1_at_1 (by decide) (fun c1 => ?_) (fun c1 => ?_)
  · refine c_iconst C dX1_at_21 ?_
    exact c_iret C dX1_at_22 rfl (by decide) (rom0 hph hph (by decide)) ⟨0, rfl, rfl, rfl, rfl, rfl, rfl, ⟨by decide, by decide⟩, ⟨by omega, fun ss hs h1 h2 => absurd h2 (by omega)⟩⟩
  · refine c_iload_n (j := 1) C dX1_at_4 rfl ?_
    refine c_aload_n (j := 0) (x := a0) C dX1_at_5 rfl ?_
    have ri1 : 0 ≤ iv a0 2 ∧ iv a0 2 ≤ 40200 := hW.int t_a0 2
    refine c_get (k := 2) C ck_2 dX1_at_6 w1_43 (by decide) t_a0 rfl rfl (by decide) rfl ?_
    refine c_icmp_ge (tgt := 21) C ⟨by omega, by omega⟩ (r32_c (lo := 0) (hi := 40200) ri1.1 ri1.2 (by decide) (by decide)) dX1_at_9 (by decide) (fun c2 => ?_) (fun c2 => ?_)
    · refine c_iconst C dX1_at_21 ?_
      exact c_iret C dX1_at_22 rfl (by decide) (rom0 hph hph (by decide)) ⟨0, rfl, rfl, rfl, rfl, rfl, rfl, ⟨by decide, by decide⟩, ⟨by omega, fun ss hs h1 h2 => absurd h2 (by omega)⟩⟩
    · refine c_aload_n (j := 0) (x := a0) C dX1_at_12 rfl ?_
      obtain ⟨rb1, rq1, trb1⟩ := hW.ref t_a0 1 rfl rfl rfl
      refine hv2 (show 16 ≤ ln rb1 ∧ ln rb1 ≤ 80400 from hW.len trb1 rfl) (hW.isz t_a0 rfl rfl rq1) (fun lnrb1 szrb1 => ?_)
      refine c_getr (k := 1) C ck_2 dX1_at_13 w1_39 (by decide) t_a0 rfl rfl (by decide) rfl rq1 ?_
      refine c_st (st2 := [.ref rb1]) rfl ?_
      refine c_iload_n (j := 1) C dX1_at_16 rfl ?_
      have ll1 : 16 ≤ ln rb1 ∧ ln rb1 ≤ 80400 := hW.len trb1 rfl
      refine c_iald C dX1_at_17 trb1 rfl (by omega) (by omega) (by omega) ?_
      have ri2 : (-2147483648) ≤ iv rb1 i.toNat ∧ iv rb1 i.toNat ≤ 2147483647 := hW.int trb1 i.toNat
      refine c_goto (tgt := 22) C dX1_at_18 (by decide) ?_
      exact c_iret C dX1_at_22 rfl (by decide) (rom0 hph hph (by decide)) ⟨(iv rb1 i.toNat), rfl, rfl, rfl, rfl, rfl, rfl, ⟨by omega, by omega⟩, ⟨by omega, fun ss hs h1 h2 => hs rb1 rq1 i.toNat (by omega)⟩⟩
set_option maxHeartbeats 4000000 in
set_option maxRecDepth 100000 in
theorem C_clear_9 {l : Launch} {G : GT} {mi : Nat} {sk : Nat → Nat} {L : List Nat} {cl ln : Nat → Nat} {iv : Nat → Nat → Int} {rv : Nat → Nat → Option Nat}  {a0 : Nat} (hW : WT (g0 G) sk L cl ln iv rv) (hS : SKL sk L cl) (t_a0 : ty L cl a0 9)  : Mc l G mi (Phi (g0 G) sk) PHM yX1_clear cX1_clear 1 none 0 [.ref a0] L cl ln iv rv 0 (fun v L2 cl2 ln2 iv2 rv2 => v = none ∧ L = L2 ∧ cl = cl2 ∧ ln = ln2 ∧ rv = rv2 ∧ fT [9] L cl iv rv iv2 rv2 ∧ WT (g0 G) sk L2 cl2 ln2 iv2 rv2 ∧ (iv2 a0 2 = 0)) := by
  refine Mc.mk (by decide) (Nat.le_of_ble_eq_true rfl) ?_
  intro p e s m args below meth c A C hM
  refine hv3 (Phi.le hW hS) (show XT L cl ln L cl ln from XT.refl) (show fT [9] L cl iv rv iv rv from fT.refl) (fun hph hX0 hF0 => ?_)
  refine c_aload_n (j := 0) (x := a0) C dX1_clear_0 rfl ?_
  refine c_iconst C dX1_clear_1 ?_
  refine c_put (z := 0) (k := 2) C ck_2 dX1_clear_2 w1_43 (by decide) rfl t_a0 rfl rfl (by decide) rfl (by rfl) (by rfl) (fun iv1 pq1 => ?_)
  obtain ⟨rb1, rq1, trb1⟩ := hW.ref t_a0 1 rfl rfl rfl
  refine hv3 (hW.isz t_a0 rfl rfl rq1) (hF0.puti hX0 pq1 t_a0 rfl) (show iv1 a0 2 = 0 from by rw [pq1]; exact up2_s) (fun szrb1 F1 ie1 => ?_)
  have W1 := hW.isz_put pq1 t_a0 (show 0 ≤ 0 ∧ 0 ≤ 40200 by omega) rfl rfl rq1 (show 0 ≤ ((ln rb1 : Nat) : Int) by omega)
  have ri1 : 0 ≤ iv1 a0 2 ∧ iv1 a0 2 ≤ 40200 := W1.int t_a0 2
  exact c_vret C dX1_clear_5 rfl (by decide) (rom0 hph hph (by decide)) ⟨rfl, rfl, rfl, rfl, rfl, F1, W1, (by omega)⟩
set_option maxHeartbeats 4000000 in
set_option maxRecDepth 100000 in
theorem C_at_10 {l : Launch} {G : GT} {mi : Nat} {sk : Nat → Nat} {L : List Nat} {cl ln : Nat → Nat} {iv : Nat → Nat → Int} {rv : Nat → Nat → Option Nat}  {a0 : Nat} {i : Int} (hW : WT (g0 G) sk L cl ln iv rv) (hS : SKL sk L cl) (t_a0 : ty L cl a0 10) (h_i : -2147483648 ≤ i ∧ i ≤ 2147483647)  : Mc l G mi (Phi (g0 G) sk) PHM yX1_at cX1_at 2 (some .int) 0 [.ref a0, .int (iI i)] L cl ln iv rv 0 (fun v L2 cl2 ln2 iv2 rv2 => ∃ f : Int, v = some (.int (iI f)) ∧ L = L2 ∧ cl = cl2 ∧ ln = ln2 ∧ iv = iv2 ∧ rv = rv2 ∧ (-2147483648 ≤ f ∧ f ≤ 2147483647) ∧ (((0 ≤ i ∧ i < iv a0 2) ∨ f = 0) ∧ ∀ ss, CT iv rv a0 ss → 0 ≤ i → i < iv a0 2 → f = ss i.toNat)) := by
  refine Mc.mk (by decide) (Nat.le_of_ble_eq_true rfl) ?_
  intro p e s m args below meth c A C hM
  refine hv3 (Phi.le hW hS) (show XT L cl ln L cl ln from XT.refl) (show fT [] L cl iv rv iv rv from fT.refl) (fun hph hX0 hF0 => ?_)
  refine c_iload_n (j := 1) C dX1_at_0 rfl ?_
  refine c_if_lt (tgt := 21) C ⟨by omega, by omega⟩ dX1_at_1 (by decide) (fun c1 => ?_) (fun c1 => ?_)
  · refine c_iconst C dX1_at_21 ?_
    exact c_iret C dX1_at_22 rfl (by decide) (rom0 hph hph (by decide)) ⟨0, rfl, rfl, rfl, rfl, rfl, rfl, ⟨by decide, by decide⟩, ⟨by omega, fun ss hs h1 h2 => absurd h2 (by omega)⟩⟩
  · refine c_iload_n (j := 1) C dX1_at_4 rfl ?_
    refine c_aload_n (j := 0) (x := a0) C dX1_at_5 rfl ?_
    have ri1 : 0 ≤ iv a0 2 ∧ iv a0 2 ≤ 4001 := hW.int t_a0 2
    refine c_get (k := 2) C ck_2 dX1_at_6 w1_43 (by decide) t_a0 rfl rfl (by decide) rfl ?_
    refine c_icmp_ge (tgt := 21) C ⟨by omega, by omega⟩ (r32_c (lo := 0) (hi := 4001) ri1.1 ri1.2 (by decide) (by decide)) dX1_at_9 (by decide) (fun c2 => ?_) (fun c2 => ?_)
    · refine c_iconst C dX1_at_21 ?_
      exact c_iret C dX1_at_22 rfl (by decide) (rom0 hph hph (by decide)) ⟨0, rfl, rfl, rfl, rfl, rfl, rfl, ⟨by decide, by decide⟩, ⟨by omega, fun ss hs h1 h2 => absurd h2 (by omega)⟩⟩
    · refine c_aload_n (j := 0) (x := a0) C dX1_at_12 rfl ?_
      obtain ⟨rb1, rq1, trb1⟩ := hW.ref t_a0 1 rfl rfl rfl
      refine hv2 (show 16 ≤ ln rb1 ∧ ln rb1 ≤ 8002 from hW.len trb1 rfl) (hW.isz t_a0 rfl rfl rq1) (fun lnrb1 szrb1 => ?_)
      refine c_getr (k := 1) C ck_2 dX1_at_13 w1_39 (by decide) t_a0 rfl rfl (by decide) rfl rq1 ?_
      refine c_st (st2 := [.ref rb1]) rfl ?_
      refine c_iload_n (j := 1) C dX1_at_16 rfl ?_
      have ll1 : 16 ≤ ln rb1 ∧ ln rb1 ≤ 8002 := hW.len trb1 rfl
      refine c_iald C dX1_at_17 trb1 rfl (by omega) (by omega) (by omega) ?_
      have ri2 : (-2147483648) ≤ iv rb1 i.toNat ∧ iv rb1 i.toNat ≤ 2147483647 := hW.int trb1 i.toNat
      refine c_goto (tgt := 22) C dX1_at_18 (by decide) ?_
      exact c_iret C dX1_at_22 rfl (by decide) (rom0 hph hph (by decide)) ⟨(iv rb1 i.toNat), rfl, rfl, rfl, rfl, rfl, rfl, ⟨by omega, by omega⟩, ⟨by omega, fun ss hs h1 h2 => hs rb1 rq1 i.toNat (by omega)⟩⟩
set_option maxHeartbeats 4000000 in
set_option maxRecDepth 100000 in
theorem C_clear_10 {l : Launch} {G : GT} {mi : Nat} {sk : Nat → Nat} {L : List Nat} {cl ln : Nat → Nat} {iv : Nat → Nat → Int} {rv : Nat → Nat → Option Nat}  {a0 : Nat} (hW : WT (g0 G) sk L cl ln iv rv) (hS : SKL sk L cl) (t_a0 : ty L cl a0 10)  : Mc l G mi (Phi (g0 G) sk) PHM yX1_clear cX1_clear 1 none 0 [.ref a0] L cl ln iv rv 0 (fun v L2 cl2 ln2 iv2 rv2 => v = none ∧ L = L2 ∧ cl = cl2 ∧ ln = ln2 ∧ rv = rv2 ∧ fT [10] L cl iv rv iv2 rv2 ∧ WT (g0 G) sk L2 cl2 ln2 iv2 rv2 ∧ (iv2 a0 2 = 0)) := by
  refine Mc.mk (by decide) (Nat.le_of_ble_eq_true rfl) ?_
  intro p e s m args below meth c A C hM
  refine hv3 (Phi.le hW hS) (show XT L cl ln L cl ln from XT.refl) (show fT [10] L cl iv rv iv rv from fT.refl) (fun hph hX0 hF0 => ?_)
  refine c_aload_n (j := 0) (x := a0) C dX1_clear_0 rfl ?_
  refine c_iconst C dX1_clear_1 ?_
  refine c_put (z := 0) (k := 2) C ck_2 dX1_clear_2 w1_43 (by decide) rfl t_a0 rfl rfl (by decide) rfl (by rfl) (by rfl) (fun iv1 pq1 => ?_)
  obtain ⟨rb1, rq1, trb1⟩ := hW.ref t_a0 1 rfl rfl rfl
  refine hv3 (hW.isz t_a0 rfl rfl rq1) (hF0.puti hX0 pq1 t_a0 rfl) (show iv1 a0 2 = 0 from by rw [pq1]; exact up2_s) (fun szrb1 F1 ie1 => ?_)
  have W1 := hW.isz_put pq1 t_a0 (show 0 ≤ 0 ∧ 0 ≤ 4001 by omega) rfl rfl rq1 (show 0 ≤ ((ln rb1 : Nat) : Int) by omega)
  have ri1 : 0 ≤ iv1 a0 2 ∧ iv1 a0 2 ≤ 4001 := W1.int t_a0 2
  exact c_vret C dX1_clear_5 rfl (by decide) (rom0 hph hph (by decide)) ⟨rfl, rfl, rfl, rfl, rfl, F1, W1, (by omega)⟩
set_option maxHeartbeats 4000000 in
set_option maxRecDepth 100000 in
theorem C_at_11 {l : Launch} {G : GT} {mi : Nat} {sk : Nat → Nat} {L : List Nat} {cl ln : Nat → Nat} {iv : Nat → Nat → Int} {rv : Nat → Nat → Option Nat}  {a0 : Nat} {i : Int} (hW : WT (g0 G) sk L cl ln iv rv) (hS : SKL sk L cl) (t_a0 : ty L cl a0 11) (h_i : -2147483648 ≤ i ∧ i ≤ 2147483647)  : Mc l G mi (Phi (g0 G) sk) PHM yX1_at cX1_at 2 (some .int) 0 [.ref a0, .int (iI i)] L cl ln iv rv 0 (fun v L2 cl2 ln2 iv2 rv2 => ∃ f : Int, v = some (.int (iI f)) ∧ L = L2 ∧ cl = cl2 ∧ ln = ln2 ∧ iv = iv2 ∧ rv = rv2 ∧ (-2147483648 ≤ f ∧ f ≤ 2147483647) ∧ (((0 ≤ i ∧ i < iv a0 2) ∨ f = 0) ∧ ∀ ss, CT iv rv a0 ss → 0 ≤ i → i < iv a0 2 → f = ss i.toNat)) := by
  refine Mc.mk (by decide) (Nat.le_of_ble_eq_true rfl) ?_
  intro p e s m args below meth c A C hM
  refine hv3 (Phi.le hW hS) (show XT L cl ln L cl ln from XT.refl) (show fT [] L cl iv rv iv rv from fT.refl) (fun hph hX0 hF0 => ?_)
  refine c_iload_n (j := 1) C dX1_at_0 rfl ?_
  refine c_if_lt (tgt := 21) C ⟨by omega, by omega⟩ dX1_at_1 (by decide) (fun c1 => ?_) (fun c1 => ?_)
  · refine c_iconst C dX1_at_21 ?_
    exact c_iret C dX1_at_22 rfl (by decide) (rom0 hph hph (by decide)) ⟨0, rfl, rfl, rfl, rfl, rfl, rfl, ⟨by decide, by decide⟩, ⟨by omega, fun ss hs h1 h2 => absurd h2 (by omega)⟩⟩
  · refine c_iload_n (j := 1) C dX1_at_4 rfl ?_
    refine c_aload_n (j := 0) (x := a0) C dX1_at_5 rfl ?_
    have ri1 : 0 ≤ iv a0 2 ∧ iv a0 2 ≤ 40000 := hW.int t_a0 2
    refine c_get (k := 2) C ck_2 dX1_at_6 w1_43 (by decide) t_a0 rfl rfl (by decide) rfl ?_
    refine c_icmp_ge (tgt := 21) C ⟨by omega, by omega⟩ (r32_c (lo := 0) (hi := 40000) ri1.1 ri1.2 (by decide) (by decide)) dX1_at_9 (by decide) (fun c2 => ?_) (fun c2 => ?_)
    · refine c_iconst C dX1_at_21 ?_
      exact c_iret C dX1_at_22 rfl (by decide) (rom0 hph hph (by decide)) ⟨0, rfl, rfl, rfl, rfl, rfl, rfl, ⟨by decide, by decide⟩, ⟨by omega, fun ss hs h1 h2 => absurd h2 (by omega)⟩⟩
    · refine c_aload_n (j := 0) (x := a0) C dX1_at_12 rfl ?_
      obtain ⟨rb1, rq1, trb1⟩ := hW.ref t_a0 1 rfl rfl rfl
      refine hv2 (show 16 ≤ ln rb1 ∧ ln rb1 ≤ 80000 from hW.len trb1 rfl) (hW.isz t_a0 rfl rfl rq1) (fun lnrb1 szrb1 => ?_)
      refine c_getr (k := 1) C ck_2 dX1_at_13 w1_39 (by decide) t_a0 rfl rfl (by decide) rfl rq1 ?_
      refine c_st (st2 := [.ref rb1]) rfl ?_
      refine c_iload_n (j := 1) C dX1_at_16 rfl ?_
      have ll1 : 16 ≤ ln rb1 ∧ ln rb1 ≤ 80000 := hW.len trb1 rfl
      refine c_iald C dX1_at_17 trb1 rfl (by omega) (by omega) (by omega) ?_
      have ri2 : (-2147483648) ≤ iv rb1 i.toNat ∧ iv rb1 i.toNat ≤ 2147483647 := hW.int trb1 i.toNat
      refine c_goto (tgt := 22) C dX1_at_18 (by decide) ?_
      exact c_iret C dX1_at_22 rfl (by decide) (rom0 hph hph (by decide)) ⟨(iv rb1 i.toNat), rfl, rfl, rfl, rfl, rfl, rfl, ⟨by omega, by omega⟩, ⟨by omega, fun ss hs h1 h2 => hs rb1 rq1 i.toNat (by omega)⟩⟩
set_option maxHeartbeats 4000000 in
set_option maxRecDepth 100000 in
theorem C_clear_11 {l : Launch} {G : GT} {mi : Nat} {sk : Nat → Nat} {L : List Nat} {cl ln : Nat → Nat} {iv : Nat → Nat → Int} {rv : Nat → Nat → Option Nat}  {a0 : Nat} (hW : WT (g0 G) sk L cl ln iv rv) (hS : SKL sk L cl) (t_a0 : ty L cl a0 11)  : Mc l G mi (Phi (g0 G) sk) PHM yX1_clear cX1_clear 1 none 0 [.ref a0] L cl ln iv rv 0 (fun v L2 cl2 ln2 iv2 rv2 => v = none ∧ L = L2 ∧ cl = cl2 ∧ ln = ln2 ∧ rv = rv2 ∧ fT [11] L cl iv rv iv2 rv2 ∧ WT (g0 G) sk L2 cl2 ln2 iv2 rv2 ∧ (iv2 a0 2 = 0)) := by
  refine Mc.mk (by decide) (Nat.le_of_ble_eq_true rfl) ?_
  intro p e s m args below meth c A C hM
  refine hv3 (Phi.le hW hS) (show XT L cl ln L cl ln from XT.refl) (show fT [11] L cl iv rv iv rv from fT.refl) (fun hph hX0 hF0 => ?_)
  refine c_aload_n (j := 0) (x := a0) C dX1_clear_0 rfl ?_
  refine c_iconst C dX1_clear_1 ?_
  refine c_put (z := 0) (k := 2) C ck_2 dX1_clear_2 w1_43 (by decide) rfl t_a0 rfl rfl (by decide) rfl (by rfl) (by rfl) (fun iv1 pq1 => ?_)
  obtain ⟨rb1, rq1, trb1⟩ := hW.ref t_a0 1 rfl rfl rfl
  refine hv3 (hW.isz t_a0 rfl rfl rq1) (hF0.puti hX0 pq1 t_a0 rfl) (show iv1 a0 2 = 0 from by rw [pq1]; exact up2_s) (fun szrb1 F1 ie1 => ?_)
  have W1 := hW.isz_put pq1 t_a0 (show 0 ≤ 0 ∧ 0 ≤ 40000 by omega) rfl rfl rq1 (show 0 ≤ ((ln rb1 : Nat) : Int) by omega)
  have ri1 : 0 ≤ iv1 a0 2 ∧ iv1 a0 2 ≤ 40000 := W1.int t_a0 2
  exact c_vret C dX1_clear_5 rfl (by decide) (rom0 hph hph (by decide)) ⟨rfl, rfl, rfl, rfl, rfl, F1, W1, (by omega)⟩
set_option maxHeartbeats 4000000 in
set_option maxRecDepth 100000 in
theorem C_keep_2 {l : Launch} {G : GT} {mi : Nat} {sk : Nat → Nat} {L : List Nat} {cl ln : Nat → Nat} {iv : Nat → Nat → Int} {rv : Nat → Nat → Option Nat}  {a0 : Nat} {n : Int} (hW : WT (g0 G) sk L cl ln iv rv) (hS : SKL sk L cl) (t_a0 : ty L cl a0 2) (h_n : -2147483648 ≤ n ∧ n ≤ 2147483647)  : Mc l G mi (Phi (g0 G) sk) PHM yX1_keep cX1_keep 2 none 1 [.ref a0, .int (iI n)] L cl ln iv rv 0 (fun v L2 cl2 ln2 iv2 rv2 => v = none ∧ L = L2 ∧ cl = cl2 ∧ ln = ln2 ∧ rv = rv2 ∧ fT [2] L cl iv rv iv2 rv2 ∧ WT (g0 G) sk L2 cl2 ln2 iv2 rv2 ∧ (iv2 a0 2 ≤ iv a0 2 ∧ (n < 0 ∨ iv a0 2 < n ∨ iv2 a0 2 = n))) := by
  refine Mc.mk (by decide) (Nat.le_of_ble_eq_true rfl) ?_
  intro p e s m args below meth c A C hM
  refine hv3 (Phi.le hW hS) (show XT L cl ln L cl ln from XT.refl) (show fT [2] L cl iv rv iv rv from fT.refl) (fun hph hX0 hF0 => ?_)
  refine c_aload_n (j := 0) (x := a0) C dX1_keep_0 rfl ?_
  refine c_iconst C dX1_keep_1 ?_
  refine c_aload_n (j := 0) (x := a0) C dX1_keep_2 rfl ?_
  have ri1 : 0 ≤ iv a0 2 ∧ iv a0 2 ≤ 3000 := hW.int t_a0 2
  refine c_get (k := 2) C ck_2 dX1_keep_3 w1_43 (by decide) t_a0 rfl rfl (by decide) rfl ?_
  refine c_iload_n (j := 1) C dX1_keep_6 rfl ?_
  obtain ⟨mn1, hmn1, emn1⟩ := mmin_c (x := iv a0 2) (y := n) (r32_c (lo := 0) (hi := 3000) ri1.1 ri1.2 (by decide) (by decide)) ⟨by omega, by omega⟩
  refine c_mmin (w := iI mn1) C dX1_keep_7 w2_146 w2_129 w1_14 w2_130 (by decide) (rom0 hph hph (by decide)) (Nat.le_of_ble_eq_true rfl) emn1 ?_
  obtain ⟨mn2, hmn2, emn2⟩ := mmax_c (x := 0) (y := mn1) ⟨by decide, by decide⟩ ⟨by omega, by omega⟩
  refine c_mmax (w := iI mn2) C dX1_keep_10 w2_147 w2_148 w1_14 w2_149 (by decide) (rom0 hph hph (by decide)) (Nat.le_of_ble_eq_true rfl) emn2 ?_
  refine c_put (z := mn2) (k := 2) C ck_2 dX1_keep_13 w1_43 (by decide) rfl t_a0 rfl rfl (by decide) rfl (by rfl) (by rfl) (fun iv1 pq1 => ?_)
  obtain ⟨rb1, rq1, trb1⟩ := hW.ref t_a0 1 rfl rfl rfl
  refine hv3 (hW.isz t_a0 rfl rfl rq1) (hF0.puti hX0 pq1 t_a0 rfl) (show iv1 a0 2 = mn2 from by rw [pq1]; exact up2_s) (fun szrb1 F1 ie1 => ?_)
  have W1 := hW.isz_put pq1 t_a0 (show 0 ≤ mn2 ∧ mn2 ≤ 3000 by omega) rfl rfl rq1 (show mn2 ≤ ((ln rb1 : Nat) : Int) by omega)
  have ri2 : 0 ≤ iv1 a0 2 ∧ iv1 a0 2 ≤ 3000 := W1.int t_a0 2
  exact c_vret C dX1_keep_16 rfl (by decide) (rom0 hph hph (by decide)) ⟨rfl, rfl, rfl, rfl, rfl, F1, W1, (by omega)⟩
set_option maxHeartbeats 4000000 in
set_option maxRecDepth 100000 in
theorem C_keep_12 {l : Launch} {G : GT} {mi : Nat} {sk : Nat → Nat} {L : List Nat} {cl ln : Nat → Nat} {iv : Nat → Nat → Int} {rv : Nat → Nat → Option Nat}  {a0 : Nat} {n : Int} (hW : WT (g0 G) sk L cl ln iv rv) (hS : SKL sk L cl) (t_a0 : ty L cl a0 12) (h_n : -2147483648 ≤ n ∧ n ≤ 2147483647)  : Mc l G mi (Phi (g0 G) sk) PHM yX1_keep cX1_keep 2 none 1 [.ref a0, .int (iI n)] L cl ln iv rv 0 (fun v L2 cl2 ln2 iv2 rv2 => v = none ∧ L = L2 ∧ cl = cl2 ∧ ln = ln2 ∧ rv = rv2 ∧ fT [12] L cl iv rv iv2 rv2 ∧ WT (g0 G) sk L2 cl2 ln2 iv2 rv2 ∧ (iv2 a0 2 ≤ iv a0 2 ∧ (n < 0 ∨ iv a0 2 < n ∨ iv2 a0 2 = n)) ∧ (∀ bb, ty L cl bb 12 → bb ≠ a0 → iv2 bb 2 = iv bb 2)) := by
  refine Mc.mk (by decide) (Nat.le_of_ble_eq_true rfl) ?_
  intro p e s m args below meth c A C hM
  refine hv3 (Phi.le hW hS) (show XT L cl ln L cl ln from XT.refl) (show fT [12] L cl iv rv iv rv from fT.refl) (fun hph hX0 hF0 => ?_)
  refine c_aload_n (j := 0) (x := a0) C dX1_keep_0 rfl ?_
  refine c_iconst C dX1_keep_1 ?_
  refine c_aload_n (j := 0) (x := a0) C dX1_keep_2 rfl ?_
  have ri1 : 0 ≤ iv a0 2 ∧ iv a0 2 ≤ 200 := hW.int t_a0 2
  refine c_get (k := 2) C ck_2 dX1_keep_3 w1_43 (by decide) t_a0 rfl rfl (by decide) rfl ?_
  refine c_iload_n (j := 1) C dX1_keep_6 rfl ?_
  obtain ⟨mn1, hmn1, emn1⟩ := mmin_c (x := iv a0 2) (y := n) (r32_c (lo := 0) (hi := 200) ri1.1 ri1.2 (by decide) (by decide)) ⟨by omega, by omega⟩
  refine c_mmin (w := iI mn1) C dX1_keep_7 w2_146 w2_129 w1_14 w2_130 (by decide) (rom0 hph hph (by decide)) (Nat.le_of_ble_eq_true rfl) emn1 ?_
  obtain ⟨mn2, hmn2, emn2⟩ := mmax_c (x := 0) (y := mn1) ⟨by decide, by decide⟩ ⟨by omega, by omega⟩
  refine c_mmax (w := iI mn2) C dX1_keep_10 w2_147 w2_148 w1_14 w2_149 (by decide) (rom0 hph hph (by decide)) (Nat.le_of_ble_eq_true rfl) emn2 ?_
  refine c_put (z := mn2) (k := 2) C ck_2 dX1_keep_13 w1_43 (by decide) rfl t_a0 rfl rfl (by decide) rfl (by rfl) (by rfl) (fun iv1 pq1 => ?_)
  obtain ⟨rb1, rq1, trb1⟩ := hW.ref t_a0 1 rfl rfl rfl
  refine hv3 (hW.isz t_a0 rfl rfl rq1) (hF0.puti hX0 pq1 t_a0 rfl) (show iv1 a0 2 = mn2 from by rw [pq1]; exact up2_s) (fun szrb1 F1 ie1 => ?_)
  have W1 := hW.isz_put pq1 t_a0 (show 0 ≤ mn2 ∧ mn2 ≤ 200 by omega) rfl rfl rq1 (show mn2 ≤ ((ln rb1 : Nat) : Int) by omega)
  have ri2 : 0 ≤ iv1 a0 2 ∧ iv1 a0 2 ≤ 200 := W1.int t_a0 2
  exact c_vret C dX1_keep_16 rfl (by decide) (rom0 hph hph (by decide)) ⟨rfl, rfl, rfl, rfl, rfl, F1, W1, (by omega), (fun bb tbb hbb => by exact (show iv1 bb 2 = iv bb 2 from (by rw [pq1]; exact up2_k hbb)))⟩
set_option maxHeartbeats 4000000 in
set_option maxRecDepth 100000 in
theorem C_isWithin_2 {l : Launch} {G : GT} {mi : Nat} {sk : Nat → Nat} {L : List Nat} {cl ln : Nat → Nat} {iv : Nat → Nat → Int} {rv : Nat → Nat → Option Nat}  {a0 : Nat} {i : Int} {j : Int} {lo : Int} {hi : Int} (hW : WT (g0 G) sk L cl ln iv rv) (hS : SKL sk L cl) (t_a0 : ty L cl a0 2) (h_i : -2147483648 ≤ i ∧ i ≤ 2147483647) (h_j : -2147483648 ≤ j ∧ j ≤ 2147483647) (h_lo : -2147483648 ≤ lo ∧ lo ≤ 2147483647) (h_hi : -2147483648 ≤ hi ∧ hi ≤ 2147483647)  : Mc l G mi (Phi (g0 G) sk) PHM yX1_isWithin cX1_isWithin 6 (some .boolean) 1 [.ref a0, .int (iI i), .int (iI j), .int (iI lo), .int (iI hi)] L cl ln iv rv 0 (fun v L2 cl2 ln2 iv2 rv2 => ∃ f : Int, v = some (.int (iI f)) ∧ L = L2 ∧ cl = cl2 ∧ ln = ln2 ∧ iv = iv2 ∧ rv = rv2 ∧ (f = 0 ∨ f = 1) ∧ (∀ ss, CT iv rv a0 ss → 0 ≤ i → j ≤ iv a0 2 → (f = 1 ↔ ∀ x : Nat, i ≤ (x : Int) → (x : Int) < j → lo ≤ ss x ∧ ss x ≤ hi))) := by
  refine Mc.mk (by decide) (Nat.le_of_ble_eq_true rfl) ?_
  intro p e s m args below meth c A C hM
  refine hv3 (Phi.le hW hS) (show XT L cl ln L cl ln from XT.refl) (show fT [] L cl iv rv iv rv from fT.refl) (fun hph hX0 hF0 => ?_)
  refine c_iload_n (j := 1) C dX1_isWithin_0 rfl ?_
  refine c_istore (lv2 := [(5, .int (iI i)), (0, .ref a0), (1, .int (iI i)), (2, .int (iI j)), (3, .int (iI lo)), (4, .int (iI hi))]) C dX1_isWithin_1 (by decide) rfl ?_
  have Lp1 : ∀ (nn : Nat) (k : Int) , max 0 (j - k) < (nn : Int) → (i ≤ k ∧ k ≤ 2147483647) → (∀ ss, CT iv rv a0 ss → 0 ≤ i → j ≤ iv a0 2 → ∀ x : Nat, i ≤ (x : Int) → (x : Int) < k → lo ≤ ss x ∧ ss x ≤ hi) → cw p l e 1 ((PHM) + 0 - ((Phi (g0 G) sk) ln rv)) s m args below meth c G A 6 (MQ below (Qu G A (Qp G (Phi (g0 G) sk) ((Phi (g0 G) sk) ln rv) 0 (fun v L2 cl2 ln2 iv2 rv2 => ∃ f : Int, v = some (.int (iI f)) ∧ L = L2 ∧ cl = cl2 ∧ ln = ln2 ∧ iv = iv2 ∧ rv = rv2 ∧ (f = 0 ∨ f = 1) ∧ (∀ ss, CT iv rv a0 ss → 0 ≤ i → j ≤ iv a0 2 → (f = 1 ↔ ∀ x : Nat, i ≤ (x : Int) → (x : Int) < j → lo ≤ ss x ∧ ss x ≤ hi))))) args s (((PHM) + 0 - ((Phi (g0 G) sk) ln rv)) / 16) ((PHM) + 0 - ((Phi (g0 G) sk) ln rv)) A) (Phi (g0 G) sk) ((Phi (g0 G) sk) ln rv) L cl ln iv rv 0 3 [(5, .int (iI k)), (0, .ref a0), (1, .int (iI i)), (2, .int (iI j)), (3, .int (iI lo)), (4, .int (iI hi))] [] := by
    intro nn
    induction nn with
    | zero =>
      intro  k  hm   hk hall
      exact absurd hm (by omega)
    | succ nn ih1 =>
      intro  k  hm   hk hall
      refine c_iload (j := 0) C dX1_isWithin_3 rfl ?_
      refine c_iload_n (j := 3) C dX1_isWithin_5 rfl ?_
      refine c_icmp_ge (tgt := 38) C ⟨by omega, by omega⟩ ⟨by omega, by omega⟩ dX1_isWithin_6 (by decide) (fun c1 => ?_) (fun c1 => ?_)
      · refine c_iconst C dX1_isWithin_38 ?_
        exact c_zret C dX1_isWithin_39 rfl (Or.inr rfl) (by decide) (rom0 hph hph (by decide)) ⟨1, rfl, rfl, rfl, rfl, rfl, rfl, (Or.inr rfl), (fun ss hs h0 h1 => ⟨fun _ x hx hy => hall ss hs h0 h1 x hx (by omega), fun _ => rfl⟩)⟩
      · refine c_aload_n (j := 1) (x := a0) C dX1_isWithin_9 rfl ?_
        refine c_iload (j := 0) C dX1_isWithin_10 rfl ?_
        have ri1 : 0 ≤ iv a0 2 ∧ iv a0 2 ≤ 3000 := hW.int t_a0 2
        refine d_callV (As := [.int (iI k)]) (rest := []) C hM (C_at_2 (a0 := a0) (i := k) hW hS t_a0 (by omega) ) dX1_isWithin_12 kV_X1_39 rfl t_a0 rfl rfl (by decide) ck_2 rfl (Nat.le_of_ble_eq_true rfl) ⟨(Nat.le_of_ble_eq_true rfl), (Nat.le_of_ble_eq_true rfl)⟩ hph hph (show 0 + 0 = 0 from rfl) (by decide) (fun rh1 Lh1 clh1 lnh1 ivh1 rvh1 h1 => ?_)
        obtain ⟨f1, rfl, rfl, rfl, rfl, rfl, rfl, rgf1, exf1⟩ := h1
        refine c_st (st2 := [.int (iI f1)]) rfl ?_
        have gf1 : ((0 ≤ k ∧ k < iv a0 2) ∨ f1 = 0) ∧ ∀ ss, CT iv rv a0 ss → 0 ≤ k → k < iv a0 2 → f1 = ss k.toNat := exf1
        refine c_iload_n (j := 4) C dX1_isWithin_15 rfl ?_
        refine c_icmp_lt (tgt := 30) C ⟨by omega, by omega⟩ ⟨by omega, by omega⟩ dX1_isWithin_16 (by decide) (fun c2 => ?_) (fun c2 => ?_)
        · refine c_iconst C dX1_isWithin_30 ?_
          exact c_zret C dX1_isWithin_31 rfl (Or.inl rfl) (by decide) (rom0 hph hph (by decide)) ⟨0, rfl, rfl, rfl, rfl, rfl, rfl, (Or.inl rfl), (fun ss hs h0 h1 => ⟨fun q => absurd q (by decide), fun q => by have e1 := gf1.2 ss hs (by omega) (by omega); have e2 := q k.toNat (by omega) (by omega); rw [← e1] at e2; omega⟩)⟩
        · refine c_aload_n (j := 1) (x := a0) C dX1_isWithin_19 rfl ?_
          refine c_iload (j := 0) C dX1_isWithin_20 rfl ?_
          refine d_callV (As := [.int (iI k)]) (rest := []) C hM (C_at_2 (a0 := a0) (i := k) hW hS t_a0 (by omega) ) dX1_isWithin_22 kV_X1_39 rfl t_a0 rfl rfl (by decide) ck_2 rfl (Nat.le_of_ble_eq_true rfl) ⟨(Nat.le_of_ble_eq_true rfl), (Nat.le_of_ble_eq_true rfl)⟩ hph hph (show 0 + 0 = 0 from rfl) (by decide) (fun rh2 Lh2 clh2 lnh2 ivh2 rvh2 h2 => ?_)
          obtain ⟨f2, rfl, rfl, rfl, rfl, rfl, rfl, rgf2, exf2⟩ := h2
          refine c_st (st2 := [.int (iI f2)]) rfl ?_
          have gf2 : ((0 ≤ k ∧ k < iv a0 2) ∨ f2 = 0) ∧ ∀ ss, CT iv rv a0 ss → 0 ≤ k → k < iv a0 2 → f2 = ss k.toNat := exf2
          refine c_iload (j := 5) C dX1_isWithin_25 rfl ?_
          refine c_icmp_le (tgt := 32) C ⟨by omega, by omega⟩ ⟨by omega, by omega⟩ dX1_isWithin_27 (by decide) (fun c3 => ?_) (fun c3 => ?_)
          · refine c_iinc (z := k) (j := 0) (lv2 := [(5, .int (iI (k + 1))), (0, .ref a0), (1, .int (iI i)), (2, .int (iI j)), (3, .int (iI lo)), (4, .int (iI hi))]) C dX1_isWithin_32 rfl (by decide) rfl ?_
            refine c_goto (tgt := 3) C dX1_isWithin_35 (by decide) ?_
            refine c_lv (lv2 := [(5, .int (iI (k + 1))), (0, .ref a0), (1, .int (iI i)), (2, .int (iI j)), (3, .int (iI lo)), (4, .int (iI hi))]) [0, 1, 2, 3, 4, 5] rfl ?_
            exact ih1  (k + 1)  (by omega)   (by omega) (fun ss hs h0 h1 x hx hy => by
                by_cases e : (x : Int) < k
                · exact hall ss hs h0 h1 x hx e
                · have e1 := gf1.2 ss hs (by omega) (by omega)
                  have e2 := gf2.2 ss hs (by omega) (by omega)
                  rw [show x = k.toNat by omega, ← e1]
                  have e3 : f1 = f2 := e1.trans e2.symm
                  exact ⟨by omega, by omega⟩)
          · refine c_iconst C dX1_isWithin_30 ?_
            exact c_zret C dX1_isWithin_31 rfl (Or.inl rfl) (by decide) (rom0 hph hph (by decide)) ⟨0, rfl, rfl, rfl, rfl, rfl, rfl, (Or.inl rfl), (fun ss hs h0 h1 => ⟨fun q => absurd q (by decide), fun q => by have e1 := gf2.2 ss hs (by omega) (by omega); have e2 := q k.toNat (by omega) (by omega); rw [← e1] at e2; omega⟩)⟩
  refine c_lv (lv2 := [(5, .int (iI i)), (0, .ref a0), (1, .int (iI i)), (2, .int (iI j)), (3, .int (iI lo)), (4, .int (iI hi))]) [0, 1, 2, 3, 4, 5] rfl ?_
  exact Lp1 4294967297 i  (by omega)   (by omega) (fun ss hs h0 h1 x hx hy => absurd hy (by omega))
