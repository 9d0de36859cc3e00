theorem whole_start {p : Program} {e : Env} {s : State} {m : MethodId} {below : List Frame} {meth : Method} {c : Code} (l : Launch) {b L : Nat} {xs : Nat → Int32} (hL : L ≤ 3072) (C0 : lw_At p s m meth c b L xs) : W p l e room_1 s m #[Value.ref b] below meth c s.heap [] 0 0 (lw_Z below #[Value.ref b] s) (entryFrame m ([Value.ref b] : List Value).toArray 4) := by
  obtain ⟨hx, hb, hr, hml, hown, hts, hX, hbl, hlk, hgv⟩ := C0
  refine hv2 (show ∀ w ∈ lw_g, w.before #[Value.ref b] s = true from fun w h => hts w (List.mem_filter.mp h).1) (flat_of_before _ hgv) (fun hg hs => ?_)
  obtain ⟨dC, dI, hKc⟩ := law_classes (c0 := m.cls) hg
  obtain ⟨cyI, kI1, kI2⟩ := law_arrI (hts _ w1_57t)
  obtain ⟨cyZ, kZ1, kZ2⟩ := law_arrZ (hts _ w1_129t)
  obtain ⟨cyL, kL1, kL2⟩ := law_arr (hts _ w2_32t)
  obtain ⟨cyR, kR1, kR2⟩ := law_arr (hts _ w2_173t)
  obtain ⟨cyO, kO1, kO2⟩ := law_arr (hts _ w3_30t)
  obtain ⟨t0, hv0, hT⟩ := va_Tof (tm := (Term.static "java/util/ArrayList" "DEFAULTCAPACITY_EMPTY_ELEMENTDATA" "[Ljava/lang/Object;")) (ty := .object "java/lang/Object") (N := 0) (f := fun _ => .null) (A := fun q => s.heap.size ≤ q) (by decide) (hs _ (by decide +kernel)) (va_eqt (hs _ (by decide +kernel))) (fun j h => absurd h (Nat.not_lt_zero j)) (fun a h => Nat.not_le.mpr h)
  have hZ := va_Zof (A := fun q => s.heap.size ≤ q) (hts _ w1_77t) (hts _ w1_6t) hv0 (fun a h => Nat.not_le.mpr h)
  have hK : va_K (dC, dI) vwCl (gT ((dC, dI), cyI, cyZ, cyL, cyR, cyO, t0)) s := ⟨hKc, fun k q hk => by
    match k, hk with
    | 0, hk => cases hk; exact ⟨kI1, kI2⟩
    | 1, hk => cases hk; exact ⟨kZ1, kZ2⟩
    | 2, hk => cases hk; exact ⟨kL1, kL2⟩
    | 3, hk => cases hk; exact ⟨kR1, kR2⟩
    | 4, hk => cases hk; exact ⟨kO1, kO2⟩
    | k + 5, hk => simp [gT] at hk⟩
  obtain ⟨y0, hy0⟩ : ∃ y0 : MethodName, meth.name = y0.name := ⟨⟨"", meth.name, ""⟩, rfl⟩
  have C : Cq p s m #[Value.ref b] meth c cL_law ⟨RL, y0.name, y0.desc⟩ meth.sig.returnType ((dC, dI), cyI, cyZ, cyL, cyR, cyO, t0) (fun q => s.heap.size ≤ q) 4 := ⟨hx, hb, hml, hown, hg, hK, fun _ h => h, ⟨hZ, hT⟩, rfl, hlk, hy0, Nst.of hts⟩
  obtain ⟨mi, hmi⟩ := va_Mi.of (C := "[Ljava/lang/Object;") (hs _ (by decide +kernel))
  refine hv2 (show Mir mi s from ⟨hmi, va_Dc.of (hts _ w8_173t)⟩) (lv_entry ([.ref b]) (n := 4) (Nat.le_of_ble_eq_true rfl)) (fun hM hl => ?_)
  rw [lg_entry_eq]
  exact law_go C hr hlk hM hL hX hbl (E0 := fun _ => .inr (0, [])) s.heap [] _ (fun k q h => by simp [va_pl] at h) ⟨fun i j p q h => by simp [va_pl] at h, fun k q h => by simp [va_pl] at h⟩ va_S.rf hl

-- ===== YOUR PART ENDS =====
set_option maxHeartbeats 4000000 in
theorem lw_walk (l : Launch) (b : Addr) (xs : List Int32) : MetFree l x (headSpec (Jvm.Cond.code x code maxLocals ret :: tables_1) room_1) (lw_P b xs) (fun _ _ _ _ _ => True) lw_Q := by
  refine MetFree.of_bodyS (code := code) (maxLocals := maxLocals) (ret := ret) (by decide) ?_ ?_
  · intro args s m h hn
    obtain ⟨meth, c, h1, h2, h3, h4, h5, h6, -, -⟩ := Cond.code_spec hn (atoms_spec (ws := Jvm.Cond.code x code maxLocals ret :: tables_1) h _ List.mem_cons_self)
    exact ⟨meth, c, h1, h2, h3, h4, h5, h6⟩
  · intro p e s m args below meth c s₁ B hml0 hP _
    obtain ⟨rfl, hx, hbd, hgv⟩ := hP
    obtain ⟨scr, harrAt, hlist, hof, hsmall⟩ := hx
    obtain ⟨hcb, hkn, -, -⟩ := State.arrayAt?_spec harrAt
    refine hv5 (show s.vm.findClass R_law = some m.cls from findClass_of_methodNamed B.named) (show ∀ c ∈ (Jvm.Cond.code x code maxLocals ret :: tables_1), c.before #[Value.ref b] s = true from atoms_spec (ws := Jvm.Cond.code x code maxLocals ret :: tables_1) B.pre) (show Stand p l e room_1 s m #[Value.ref b] below meth c s₁ [] 0 0 from Stand.of_body B) (show s₁.heap = s.heap from by rw [B.state]; rfl) (show scr.slots.size = xs.length from by rw [← Array.length_toList, hlist, List.length_map]) (fun hown hts0 X₀ hh0 hsz => ?_)
    refine hv2 (show ∀ w ∈ lw_tbl, w.before #[Value.ref b] s = true from k2_hts_sels lw_privs (fun w hw => hts0 w (List.mem_cons_of_mem _ hw)) lw_privs_ok) (show c.maxLocals = 4 from B.maxLocals_eq (hts0 _ List.mem_cons_self)) (fun hts hml => ?_)
    have hval : ∀ j : Nat, j < xs.length → scr.slots[j]? = some (.int (xs.getD j 0)) := fun j hj => by
      rw [← Array.getElem?_toList, hlist]
      simp [hj]
    have hbl : b < s.heap.size := (Array.getElem?_eq_some_iff.mp hcb).1
    have hX : va_X b xs.length (fun j => xs.getD j 0) s s.heap := ⟨scr, hcb, hof, hkn, hsz, hval⟩
    have K : W p l e room_1 s m #[Value.ref b] below meth c s₁.heap [] 0 0 (lw_Z below #[Value.ref b] s) (entryFrame m ([Value.ref b] : List Value).toArray 4) := by
      rw [hh0]
      exact whole_start l hbd ⟨B.exec, B.bytes, B.returns, hml, hown, hts, hX, hbl, B.notSynchronized, hgv⟩
    obtain ⟨t, a1, o, b1, b2, b3⟩ := K s₁ rfl X₀
    exact ⟨t, o, a1, b1, b2, b3⟩
theorem lw_pre_spec {args : Array Value} {s : State} (h : (Jvm.Cond.and given_1 narrow_1).before args s = true) (hr : rest_1_c.before args s = true) : ∃ (b : Addr) (xs : List Int32), lw_P b xs args s := by
  refine hv2 (flat_of_before _ h) (flat_of_before _ hr) (fun hs hq => ?_)
  refine hv5 (show (Cond.count 1).before args s = true from hs _ (by decide +kernel)) (show (Cond.arrayOf (.arg 0) .int).before args s = true from hs _ (by decide +kernel)) (show (Cond.le (.length (.arg 0)) (.int 3072)).before args s = true from hs _ (by decide +kernel)) (show (Cond.isInt (.length (.arg 0))).before args s = true from hq _ (by decide +kernel)) (show (Cond.all (.arg 0) (.isInt (.elem (.arg 0) (.index 0)))).before args s = true from hq _ (by decide +kernel)) (fun hc harr hle hlen hall => ?_)
  obtain ⟨b, xs, hb, hx⟩ := State.ints_of_pre rfl harr hlen hall
  refine hv2 (show xs.length < 2 ^ 31 from hx.choose_spec.2.2.2) (show (Term.length (.arg 0)).eval args s none [] s = some (.int xs.length.toInt32) from hx.length_eval hb) (fun hsm hev => ?_)
  have hv := Cond.le_ints hev (show (Term.int 3072).eval args s none [] s = some (.int 3072) from rfl)
  have hd : xs.length.toInt32 ≤ 3072 := by
    simpa [Cond.before, Cond.holds, hv] using hle
  have hN : xs.length ≤ 3072 := (Int32.ofNat_le_ofNat hsm (by decide)).mp (show Int32.ofNat xs.length ≤ Int32.ofNat 3072 from hd)
  exact ⟨b, xs, Cond.one_arg hc (show args[0]? = some (.ref b) from hb), hx, hN, h⟩
theorem lw_comes (l : Launch) : Comes l x (Jvm.Cond.code x code maxLocals ret :: tables_1) room_1 (fun tb e args s => Calls_1 tb e args s ∧ rest_1 tb e args s ∧ Pre_1 tb e args s)
    (fun _ _ args s o t => lw_Q args s o t) := by
  intro p e ha hc hk s m args below hf hfit hheap happ hpre
  obtain ⟨b, xs, hP⟩ := lw_pre_spec hpre.2.2 hpre.2.1
  obtain ⟨k, o, h1, h2, h3, hQ⟩ := lw_walk l b xs p e ha hc hk s m args below hf ((Spec.applies_iff_loose hf).mp happ).1 hP trivial
  exact ⟨k, o, h1, h2, h3, hQ⟩
theorem lw_frame {s t : State} {o : Outcome} {args : Array Value} (h : Framed s o t [] 600000 7302250) :
    Framed s o t (fieldLocs frame_1_writes args s ++ arrayLocs frame_1_arrays args s ++ staticLocs frame_1_statics s) 600000 7302250 := h
theorem lw_limb (L : Cond) (hL : ∀ (args : Array Value) (s t : State), L.after args s (.returned (some (.int 1))) t = true) :
    ArmFor flags0 classFile x code maxLocals ret World_1 tables_1 room_1 Calls_1 rest_1 Pre_1
      (fun tb e a s o t => postC L tb e a s o t ∧ Framed s o t (fieldLocs frame_1_writes a s ++ arrayLocs frame_1_arrays a s ++ staticLocs frame_1_statics s) 600000 7302250) := by
  intro l _ _ _ p e ha hc hk s m args below hf hfit hheap happ hpre
  obtain ⟨k, o, h1, h2, h3, rfl, hF⟩ := lw_comes l p e ha hc hk s m args below hf hfit hheap happ hpre
  exact ⟨k, _, h1, h2, h3, hL args s _, lw_frame hF⟩
theorem i_vc : Claimed_1_1 ∧ Claimed_1_2 := ⟨lw_limb limb_1_1 (fun args s t => by simp [limb_1_1, Cond.after, Cond.holds, Cond.value]), lw_limb limb_1_2 (fun args s t => Cond.after_iff.mpr (by
  first | (rw [show limb_1_2 = Cond.eq .result (.int 1) from rfl, Cond.eq_ints (x := 1) (y := 1) rfl rfl]; simp; done) | (simp [limb_1_2, Cond.value, Term.eval]; done)))⟩
