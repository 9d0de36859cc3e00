set_option maxHeartbeats 4000000 in
set_option maxRecDepth 100000 in
theorem C_done {l : Launch} {G : GT} {mi : Nat} {sk : Nat → Nat} {L : List Nat} {cl ln : Nat → Nat} {iv : Nat → Nat → Int} {rv : Nat → Nat → Option Nat}  {a0 : Nat} {x : Int} (hW : WT (g0 G) sk L cl ln iv rv) (hS : SKL sk L cl) (t_a0 : ty L cl a0 1) (h_x : -2147483648 ≤ x ∧ x ≤ 2147483647)  : Mc l G mi (Phi (g0 G) sk) PHM yX11_done cX11_done 2 (some .int) 0 [.ref a0, .int (iI x)] L cl ln iv rv 0 (fun v L2 cl2 ln2 iv2 rv2 => ∃ f : Int, v = some (.int (iI f)) ∧ L = L2 ∧ cl = cl2 ∧ ln = ln2 ∧ rv = rv2 ∧ fT [1] L cl iv rv iv2 rv2 ∧ WT (g0 G) sk L2 cl2 ln2 iv2 rv2 ∧ (-2147483648 ≤ f ∧ f ≤ 2147483647) ∧ (f = x) ∧ iv2 a0 11 = iv a0 11 ∧ iv2 a0 12 = iv a0 12 ∧ iv2 a0 13 = iv a0 13 ∧ iv2 a0 14 = iv a0 14) := by
  refine Mc.mk (by decide) (Nat.le_of_ble_eq_true rfl) ?_
  intro p e s m args below meth c A C hM
  have hph := Phi.le hW hS
  have hX0 : XT L cl ln L cl ln := XT.refl
  have hF0 : fT [1] L cl iv rv iv rv := fT.refl
  refine c_aload_n (j := 0) (x := a0) C dX11_done_0 rfl ?_
  refine c_iconst C dX11_done_1 ?_
  refine c_put (z := 0) (k := 17) C ck_12 dX11_done_2 w2_61 (by decide) rfl t_a0 rfl rfl (by decide) rfl (by rfl) (by rfl) (fun iv1 pq1 => ?_)
  have W1 := hW.puti pq1 t_a0 ⟨by decide, by decide⟩ rfl
  have F1 := hF0.puti hX0 pq1 t_a0 rfl
  refine c_aload_n (j := 0) (x := a0) C dX11_done_5 rfl ?_
  refine c_iconst C dX11_done_6 ?_
  refine c_put (z := (-1)) (k := 18) C ck_12 dX11_done_7 w2_62 (by decide) rfl t_a0 rfl rfl (by decide) rfl (by rfl) (by rfl) (fun iv2 pq2 => ?_)
  have W2 := W1.puti pq2 t_a0 ⟨by decide, by decide⟩ rfl
  have F2 := F1.puti hX0 pq2 t_a0 rfl
  refine c_iload_n (j := 1) C dX11_done_10 rfl ?_
  have ri1 : 1 ≤ iv2 a0 11 ∧ iv2 a0 11 ≤ 100 := W2.int t_a0 11
  have ie1 : iv2 a0 11 = iv1 a0 11 := by rw [pq2]; exact up2_j (by decide)
  have ie2 : iv1 a0 11 = iv a0 11 := by rw [pq1]; exact up2_j (by decide)
  have ri2 : 1 ≤ iv2 a0 12 ∧ iv2 a0 12 ≤ 50 := W2.int t_a0 12
  have ie3 : iv2 a0 12 = iv1 a0 12 := by rw [pq2]; exact up2_j (by decide)
  have ie4 : iv1 a0 12 = iv a0 12 := by rw [pq1]; exact up2_j (by decide)
  have ri3 : (-2147483648) ≤ iv2 a0 13 ∧ iv2 a0 13 ≤ 2147483647 := W2.int t_a0 13
  have ie5 : iv2 a0 13 = iv1 a0 13 := by rw [pq2]; exact up2_j (by decide)
  have ie6 : iv1 a0 13 = iv a0 13 := by rw [pq1]; exact up2_j (by decide)
  have ri4 : (-2147483648) ≤ iv2 a0 14 ∧ iv2 a0 14 ≤ 2147483647 := W2.int t_a0 14
  have ie7 : iv2 a0 14 = iv1 a0 14 := by rw [pq2]; exact up2_j (by decide)
  have ie8 : iv1 a0 14 = iv a0 14 := by rw [pq1]; exact up2_j (by decide)
  exact c_iret C dX11_done_11 rfl (by decide) (rom0 hph hph (by decide)) ⟨x, rfl, rfl, rfl, rfl, rfl, F2, W2, ⟨by omega, by omega⟩, (by omega), (by omega), (by omega), (by omega), (by omega)⟩
set_option maxHeartbeats 4000000 in
set_option maxRecDepth 100000 in
theorem C_refuse {l : Launch} {G : GT} {mi : Nat} {sk : Nat → Nat} {L : List Nat} {cl ln : Nat → Nat} {iv : Nat → Nat → Int} {rv : Nat → Nat → Option Nat}  {a0 : Nat} {x : Int} (hW : WT (g0 G) sk L cl ln iv rv) (hS : SKL sk L cl) (t_a0 : ty L cl a0 1) (h_x : -2147483648 ≤ x ∧ x ≤ 2147483647)  : Mc l G mi (Phi (g0 G) sk) PHM yX11_refuse cX11_refuse 2 (some .int) 0 [.ref a0, .int (iI x)] L cl ln iv rv 0 (fun v L2 cl2 ln2 iv2 rv2 => ∃ f : Int, v = some (.int (iI f)) ∧ L = L2 ∧ cl = cl2 ∧ ln = ln2 ∧ rv = rv2 ∧ fT [1] L cl iv rv iv2 rv2 ∧ WT (g0 G) sk L2 cl2 ln2 iv2 rv2 ∧ (-2147483648 ≤ f ∧ f ≤ 2147483647) ∧ (f = -1) ∧ iv2 a0 11 = iv a0 11 ∧ iv2 a0 12 = iv a0 12 ∧ iv2 a0 13 = iv a0 13 ∧ iv2 a0 14 = iv a0 14) := by
  refine Mc.mk (by decide) (Nat.le_of_ble_eq_true rfl) ?_
  intro p e s m args below meth c A C hM
  have hph := Phi.le hW hS
  have hX0 : XT L cl ln L cl ln := XT.refl
  have hF0 : fT [1] L cl iv rv iv rv := fT.refl
  refine c_aload_n (j := 0) (x := a0) C dX11_refuse_0 rfl ?_
  refine c_iload_n (j := 1) C dX11_refuse_1 rfl ?_
  refine c_put (z := x) (k := 17) C ck_12 dX11_refuse_2 w2_61 (by decide) rfl t_a0 rfl rfl (by decide) rfl (by rfl) (by rfl) (fun iv1 pq1 => ?_)
  have W1 := hW.puti pq1 t_a0 (show (-2147483648) ≤ x ∧ x ≤ 2147483647 by omega) rfl
  have F1 := hF0.puti hX0 pq1 t_a0 rfl
  refine c_aload_n (j := 0) (x := a0) C dX11_refuse_5 rfl ?_
  refine c_iconst C dX11_refuse_6 ?_
  refine c_put (z := (-1)) (k := 18) C ck_12 dX11_refuse_7 w2_62 (by decide) rfl t_a0 rfl rfl (by decide) rfl (by rfl) (by rfl) (fun iv2 pq2 => ?_)
  have W2 := W1.puti pq2 t_a0 ⟨by decide, by decide⟩ rfl
  have F2 := F1.puti hX0 pq2 t_a0 rfl
  refine c_iconst C dX11_refuse_10 ?_
  have ri1 : 1 ≤ iv2 a0 11 ∧ iv2 a0 11 ≤ 100 := W2.int t_a0 11
  have ie1 : iv2 a0 11 = iv1 a0 11 := by rw [pq2]; exact up2_j (by decide)
  have ie2 : iv1 a0 11 = iv a0 11 := by rw [pq1]; exact up2_j (by decide)
  have ri2 : 1 ≤ iv2 a0 12 ∧ iv2 a0 12 ≤ 50 := W2.int t_a0 12
  have ie3 : iv2 a0 12 = iv1 a0 12 := by rw [pq2]; exact up2_j (by decide)
  have ie4 : iv1 a0 12 = iv a0 12 := by rw [pq1]; exact up2_j (by decide)
  have ri3 : (-2147483648) ≤ iv2 a0 13 ∧ iv2 a0 13 ≤ 2147483647 := W2.int t_a0 13
  have ie5 : iv2 a0 13 = iv1 a0 13 := by rw [pq2]; exact up2_j (by decide)
  have ie6 : iv1 a0 13 = iv a0 13 := by rw [pq1]; exact up2_j (by decide)
  have ri4 : (-2147483648) ≤ iv2 a0 14 ∧ iv2 a0 14 ≤ 2147483647 := W2.int t_a0 14
  have ie7 : iv2 a0 14 = iv1 a0 14 := by rw [pq2]; exact up2_j (by decide)
  have ie8 : iv1 a0 14 = iv a0 14 := by rw [pq1]; exact up2_j (by decide)
  exact c_iret C dX11_refuse_11 rfl (by decide) (rom0 hph hph (by decide)) ⟨(-1), rfl, rfl, rfl, rfl, rfl, F2, W2, ⟨by decide, by decide⟩, (by omega), (by omega), (by omega), (by omega), (by omega)⟩
set_option maxHeartbeats 4000000 in
set_option maxRecDepth 100000 in
theorem C_refuseAt {l : Launch} {G : GT} {mi : Nat} {sk : Nat → Nat} {L : List Nat} {cl ln : Nat → Nat} {iv : Nat → Nat → Int} {rv : Nat → Nat → Option Nat}  {a0 : Nat} {x : Int} {y : Int} (hW : WT (g0 G) sk L cl ln iv rv) (hS : SKL sk L cl) (t_a0 : ty L cl a0 1) (h_x : -2147483648 ≤ x ∧ x ≤ 2147483647) (h_y : -2147483648 ≤ y ∧ y ≤ 2147483647)  : Mc l G mi (Phi (g0 G) sk) PHM yX11_refuseAt cX11_refuseAt 3 (some .int) 0 [.ref a0, .int (iI x), .int (iI y)] L cl ln iv rv 0 (fun v L2 cl2 ln2 iv2 rv2 => ∃ f : Int, v = some (.int (iI f)) ∧ L = L2 ∧ cl = cl2 ∧ ln = ln2 ∧ rv = rv2 ∧ fT [1] L cl iv rv iv2 rv2 ∧ WT (g0 G) sk L2 cl2 ln2 iv2 rv2 ∧ (-2147483648 ≤ f ∧ f ≤ 2147483647) ∧ (f = -1) ∧ iv2 a0 11 = iv a0 11 ∧ iv2 a0 12 = iv a0 12 ∧ iv2 a0 13 = iv a0 13 ∧ iv2 a0 14 = iv a0 14) := by
  refine Mc.mk (by decide) (Nat.le_of_ble_eq_true rfl) ?_
  intro p e s m args below meth c A C hM
  have hph := Phi.le hW hS
  have hX0 : XT L cl ln L cl ln := XT.refl
  have hF0 : fT [1] L cl iv rv iv rv := fT.refl
  refine c_aload_n (j := 0) (x := a0) C dX11_refuseAt_0 rfl ?_
  refine c_iload_n (j := 1) C dX11_refuseAt_1 rfl ?_
  refine c_put (z := x) (k := 17) C ck_12 dX11_refuseAt_2 w2_61 (by decide) rfl t_a0 rfl rfl (by decide) rfl (by rfl) (by rfl) (fun iv1 pq1 => ?_)
  have W1 := hW.puti pq1 t_a0 (show (-2147483648) ≤ x ∧ x ≤ 2147483647 by omega) rfl
  have F1 := hF0.puti hX0 pq1 t_a0 rfl
  refine c_aload_n (j := 0) (x := a0) C dX11_refuseAt_5 rfl ?_
  refine c_iload_n (j := 1) C dX11_refuseAt_6 rfl ?_
  refine c_bipush (z := 7) C dX11_refuseAt_7 (by decide) ?_
  refine c_icmp_eq (tgt := 18) C ⟨by omega, by omega⟩ ⟨by decide, by decide⟩ dX11_refuseAt_9 (by decide) (fun c1 => ?_) (fun c1 => ?_)
  · refine c_iload_n (j := 2) C dX11_refuseAt_18 rfl ?_
    refine c_goto (tgt := 23) C dX11_refuseAt_19 (by decide) ?_
    refine c_put (z := y) (k := 18) C ck_12 dX11_refuseAt_23 w2_62 (by decide) rfl t_a0 rfl rfl (by decide) rfl (by rfl) (by rfl) (fun iv2 pq2 => ?_)
    have W2 := W1.puti pq2 t_a0 (show (-2147483648) ≤ y ∧ y ≤ 2147483647 by omega) rfl
    have F2 := F1.puti hX0 pq2 t_a0 rfl
    refine c_iconst C dX11_refuseAt_26 ?_
    have ri1 : 1 ≤ iv2 a0 11 ∧ iv2 a0 11 ≤ 100 := W2.int t_a0 11
    have ie1 : iv2 a0 11 = iv1 a0 11 := by rw [pq2]; exact up2_j (by decide)
    have ie2 : iv1 a0 11 = iv a0 11 := by rw [pq1]; exact up2_j (by decide)
    have ri2 : 1 ≤ iv2 a0 12 ∧ iv2 a0 12 ≤ 50 := W2.int t_a0 12
    have ie3 : iv2 a0 12 = iv1 a0 12 := by rw [pq2]; exact up2_j (by decide)
    have ie4 : iv1 a0 12 = iv a0 12 := by rw [pq1]; exact up2_j (by decide)
    have ri3 : (-2147483648) ≤ iv2 a0 13 ∧ iv2 a0 13 ≤ 2147483647 := W2.int t_a0 13
    have ie5 : iv2 a0 13 = iv1 a0 13 := by rw [pq2]; exact up2_j (by decide)
    have ie6 : iv1 a0 13 = iv a0 13 := by rw [pq1]; exact up2_j (by decide)
    have ri4 : (-2147483648) ≤ iv2 a0 14 ∧ iv2 a0 14 ≤ 2147483647 := W2.int t_a0 14
    have ie7 : iv2 a0 14 = iv1 a0 14 := by rw [pq2]; exact up2_j (by decide)
    have ie8 : iv1 a0 14 = iv a0 14 := by rw [pq1]; exact up2_j (by decide)
    exact c_iret C dX11_refuseAt_27 rfl (by decide) (rom0 hph hph (by decide)) ⟨(-1), rfl, rfl, rfl, rfl, rfl, F2, W2, ⟨by decide, by decide⟩, (by omega), (by omega), (by omega), (by omega), (by omega)⟩
  · refine c_iload_n (j := 1) C dX11_refuseAt_12 rfl ?_
    refine c_bipush (z := 9) C dX11_refuseAt_13 (by decide) ?_
    refine c_icmp_ne (tgt := 22) C ⟨by omega, by omega⟩ ⟨by decide, by decide⟩ dX11_refuseAt_15 (by decide) (fun c2 => ?_) (fun c2 => ?_)
    · refine c_iconst C dX11_refuseAt_22 ?_
      refine c_put (z := (-1)) (k := 18) C ck_12 dX11_refuseAt_23 w2_62 (by decide) rfl t_a0 rfl rfl (by decide) rfl (by rfl) (by rfl) (fun iv3 pq3 => ?_)
      have W3 := W1.puti pq3 t_a0 ⟨by decide, by decide⟩ rfl
      have F3 := F1.puti hX0 pq3 t_a0 rfl
      refine c_iconst C dX11_refuseAt_26 ?_
      have ri5 : 1 ≤ iv3 a0 11 ∧ iv3 a0 11 ≤ 100 := W3.int t_a0 11
      have ie9 : iv3 a0 11 = iv1 a0 11 := by rw [pq3]; exact up2_j (by decide)
      have ie10 : iv1 a0 11 = iv a0 11 := by rw [pq1]; exact up2_j (by decide)
      have ri6 : 1 ≤ iv3 a0 12 ∧ iv3 a0 12 ≤ 50 := W3.int t_a0 12
      have ie11 : iv3 a0 12 = iv1 a0 12 := by rw [pq3]; exact up2_j (by decide)
      have ie12 : iv1 a0 12 = iv a0 12 := by rw [pq1]; exact up2_j (by decide)
      have ri7 : (-2147483648) ≤ iv3 a0 13 ∧ iv3 a0 13 ≤ 2147483647 := W3.int t_a0 13
      have ie13 : iv3 a0 13 = iv1 a0 13 := by rw [pq3]; exact up2_j (by decide)
      have ie14 : iv1 a0 13 = iv a0 13 := by rw [pq1]; exact up2_j (by decide)
      have ri8 : (-2147483648) ≤ iv3 a0 14 ∧ iv3 a0 14 ≤ 2147483647 := W3.int t_a0 14
      have ie15 : iv3 a0 14 = iv1 a0 14 := by rw [pq3]; exact up2_j (by decide)
      have ie16 : iv1 a0 14 = iv a0 14 := by rw [pq1]; exact up2_j (by decide)
      exact c_iret C dX11_refuseAt_27 rfl (by decide) (rom0 hph hph (by decide)) ⟨(-1), rfl, rfl, rfl, rfl, rfl, F3, W3, ⟨by decide, by decide⟩, (by omega), (by omega), (by omega), (by omega), (by omega)⟩
    · refine c_iload_n (j := 2) C dX11_refuseAt_18 rfl ?_
      refine c_goto (tgt := 23) C dX11_refuseAt_19 (by decide) ?_
      refine c_put (z := y) (k := 18) C ck_12 dX11_refuseAt_23 w2_62 (by decide) rfl t_a0 rfl rfl (by decide) rfl (by rfl) (by rfl) (fun iv4 pq4 => ?_)
      have W4 := W1.puti pq4 t_a0 (show (-2147483648) ≤ y ∧ y ≤ 2147483647 by omega) rfl
      have F4 := F1.puti hX0 pq4 t_a0 rfl
      refine c_iconst C dX11_refuseAt_26 ?_
      have ri9 : 1 ≤ iv4 a0 11 ∧ iv4 a0 11 ≤ 100 := W4.int t_a0 11
      have ie17 : iv4 a0 11 = iv1 a0 11 := by rw [pq4]; exact up2_j (by decide)
      have ie18 : iv1 a0 11 = iv a0 11 := by rw [pq1]; exact up2_j (by decide)
      have ri10 : 1 ≤ iv4 a0 12 ∧ iv4 a0 12 ≤ 50 := W4.int t_a0 12
      have ie19 : iv4 a0 12 = iv1 a0 12 := by rw [pq4]; exact up2_j (by decide)
      have ie20 : iv1 a0 12 = iv a0 12 := by rw [pq1]; exact up2_j (by decide)
      have ri11 : (-2147483648) ≤ iv4 a0 13 ∧ iv4 a0 13 ≤ 2147483647 := W4.int t_a0 13
      have ie21 : iv4 a0 13 = iv1 a0 13 := by rw [pq4]; exact up2_j (by decide)
      have ie22 : iv1 a0 13 = iv a0 13 := by rw [pq1]; exact up2_j (by decide)
      have ri12 : (-2147483648) ≤ iv4 a0 14 ∧ iv4 a0 14 ≤ 2147483647 := W4.int t_a0 14
      have ie23 : iv4 a0 14 = iv1 a0 14 := by rw [pq4]; exact up2_j (by decide)
      have ie24 : iv1 a0 14 = iv a0 14 := by rw [pq1]; exact up2_j (by decide)
      exact c_iret C dX11_refuseAt_27 rfl (by decide) (rom0 hph hph (by decide)) ⟨(-1), rfl, rfl, rfl, rfl, rfl, F4, W4, ⟨by decide, by decide⟩, (by omega), (by omega), (by omega), (by omega), (by omega)⟩
