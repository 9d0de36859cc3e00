theorem XF.congr {G : GT} {L : List Nat} {E E2 : Nat → va_E} {h0 : Nat} (hX : XF G L E h0) (he : ∀ a ∈ L, E2 a = E a) : XF G L E2 h0 := by
  obtain ⟨tp, qt, wr, br, hd, tb, md, ch, wd, fi, fo, sh, f, ft, fw, fb, fh, fT, fm, fc, fd, ff, fs, hL, hE, f0, f1, f2, f3, f4, f6, f8, f9, f11, f12, f13, f14, f15, f16, f17, f18, hLtp, hEtp, ft0, ft1, ft2, hLqt, hEqt, hLwr, hEwr, fw2, hLbr, hEbr, fb2, hLhd, hEhd, fh2, hLtb, hEtb, fT0, fT1, hLmd, hEmd, fm0, fm1, fm2, hLch, hEch, fc0, fc1, fc2, hLwd, hEwd, fd8, hLfi, hEfi, hLfo, hEfo, ff5, ff6, hLsh, hEsh, fs1, nmc, ntw⟩ := hX
  exact ⟨tp, qt, wr, br, hd, tb, md, ch, wd, fi, fo, sh, f, ft, fw, fb, fh, fT, fm, fc, fd, ff, fs, hL, (he _ hL).trans hE, f0, f1, f2, f3, f4, f6, f8, f9, f11, f12, f13, f14, f15, f16, f17, f18, hLtp, (he _ hLtp).trans hEtp, ft0, ft1, ft2, hLqt, (he _ hLqt).trans hEqt, hLwr, (he _ hLwr).trans hEwr, fw2, hLbr, (he _ hLbr).trans hEbr, fb2, hLhd, (he _ hLhd).trans hEhd, fh2, hLtb, (he _ hLtb).trans hEtb, fT0, fT1, hLmd, (he _ hLmd).trans hEmd, fm0, fm1, fm2, hLch, (he _ hLch).trans hEch, fc0, fc1, fc2, hLwd, (he _ hLwd).trans hEwd, fd8, hLfi, (he _ hLfi).trans hEfi, hLfo, (he _ hLfo).trans hEfo, ff5, ff6, hLsh, (he _ hLsh).trans hEsh, fs1, nmc, ntw⟩
theorem MF.congr {G : GT} {L : List Nat} {E E2 : Nat → va_E} {h0 : Nat} (hX : MF G L E h0) (he : ∀ a ∈ L, E2 a = E a) : MF G L E2 h0 := by
  obtain ⟨a2, a5, a6, a7, a8, a9, a10, a16, a18, a27, f, hL, hE, f0, f1, f3, f4, f19, f23, f30, f31, f32, f33, f36, f41, f42, f43, f50, f52, f56, f60, f61, f2, hL2, hE2, f5, hL5, hE5, f6, hL6, hE6, f7, hL7, hE7, f8, hL8, hE8, f9, hL9, hE9, f10, hL10, hE10, f16, hL16, hE16, f18, hL18, hE18, f27, hL27, hE27, n2, n5, n6, n7, n8, n9, n10, n16, n18, n27, n2_5, n2_6, n2_7, n2_8, n2_9, n2_10, n2_16, n2_18, n2_27, n5_6, n5_7, n5_8, n5_9, n5_10, n5_16, n5_18, n5_27, n6_7, n6_8, n6_9, n6_10, n6_16, n6_18, n6_27, n7_8, n7_9, n7_10, n7_16, n7_18, n7_27, n8_9, n8_10, n8_16, n8_18, n8_27, n9_10, n9_16, n9_18, n9_27, n10_16, n10_18, n10_27, n16_18, n16_27, n18_27⟩ := hX
  exact ⟨a2, a5, a6, a7, a8, a9, a10, a16, a18, a27, f, hL, (he _ hL).trans hE, f0, f1, f3, f4, f19, f23, f30, f31, f32, f33, f36, f41, f42, f43, f50, f52, f56, f60, f61, f2, hL2, (he _ hL2).trans hE2, f5, hL5, (he _ hL5).trans hE5, f6, hL6, (he _ hL6).trans hE6, f7, hL7, (he _ hL7).trans hE7, f8, hL8, (he _ hL8).trans hE8, f9, hL9, (he _ hL9).trans hE9, f10, hL10, (he _ hL10).trans hE10, f16, hL16, (he _ hL16).trans hE16, f18, hL18, (he _ hL18).trans hE18, f27, hL27, (he _ hL27).trans hE27, n2, n5, n6, n7, n8, n9, n10, n16, n18, n27, n2_5, n2_6, n2_7, n2_8, n2_9, n2_10, n2_16, n2_18, n2_27, n5_6, n5_7, n5_8, n5_9, n5_10, n5_16, n5_18, n5_27, n6_7, n6_8, n6_9, n6_10, n6_16, n6_18, n6_27, n7_8, n7_9, n7_10, n7_16, n7_18, n7_27, n8_9, n8_10, n8_16, n8_18, n8_27, n9_10, n9_16, n9_18, n9_27, n10_16, n10_18, n10_27, n16_18, n16_27, n18_27⟩
section LW
variable {p : Program} {l : Launch} {e : Env} {R : Room} {s : State} {m : MethodId} {args : Array Value} {below : List Frame} {meth : Method} {c : Code} {cc : ByteArray} {y : MethodName} {ret : Option FieldType} {G : GT} {A : Nat → Prop} {nL : Nat} {Q : State → Prop} {L : List Nat} {E : Nat → va_E} {kc ks pc : Nat} {lv : List (Nat × Value)} {st : List Value}
theorem q_sld (C : Cq p s m args meth c cc y ret G A nL) {b Ln : Nat} {xs : Nat → Int32} (hX : va_X b Ln xs s s.heap) (hbl : b < s.heap.size) (hbA : ¬ A b) {i v : Int32} (d : decode cc pc = .ok (.iaload, 1)) (hin : vp_in i Ln) (hv : xs i.toNatClampNeg = v) (k : wq p l e R s m args below meth c G A nL Q L E kc ks (pc + 1) lv (.int v :: st)) : wq p l e R s m args below meth c G A nL Q L E kc ks pc lv (.int i :: .ref b :: st) := fun H locs ls hP hD hS hl => va_sld C.1 C.2.1 hX hbl hbA hS hin d (hv ▸ k H locs ls hP hD hS hl)
theorem q_slen (C : Cq p s m args meth c cc y ret G A nL) {b Ln : Nat} {xs : Nat → Int32} (hX : va_X b Ln xs s s.heap) (hbl : b < s.heap.size) (hbA : ¬ A b) {v : Int32} (d : decode cc pc = .ok (.arraylength, 1)) (hv : Int32.ofNat Ln = v) (k : wq p l e R s m args below meth c G A nL Q L E kc ks (pc + 1) lv (.int v :: st)) : wq p l e R s m args below meth c G A nL Q L E kc ks pc lv (.ref b :: st) := fun H locs ls hP hD hS hl => va_slen C.1 C.2.1 hX hbl hbA hS d (hv ▸ k H locs ls hP hD hS hl)
theorem q_tabIn (C : Cq p s m args meth c cc y ret G A nL) {dflt lo hi : Int} {offs : Array Int} {len : Nat} {x : Int32} {off : Int} {tgt : Nat} (d : decode cc pc = .ok (.tableswitch dflt lo hi offs, len)) (h1 : ¬ x.toInt < lo) (h2 : ¬ hi < x.toInt) (ho : offs[(x.toInt - lo).toNat]? = some off) (ht : (pc : Int) + off = (tgt : Int)) (k : wq p l e R s m args below meth c G A nL Q L E kc ks tgt lv st) : wq p l e R s m args below meth c G A nL Q L E kc ks pc lv (.int x :: st) := fun H locs ls hP hD hS hl => lv_tableIn C.1 C.2.1 d h1 h2 ho ht (k H locs ls hP hD hS hl)
theorem q_tabOut (C : Cq p s m args meth c cc y ret G A nL) {dflt lo hi : Int} {offs : Array Int} {len : Nat} {x : Int32} {tgt : Nat} (d : decode cc pc = .ok (.tableswitch dflt lo hi offs, len)) (h : x.toInt < lo ∨ hi < x.toInt) (ht : (pc : Int) + dflt = (tgt : Int)) (k : wq p l e R s m args below meth c G A nL Q L E kc ks tgt lv st) : wq p l e R s m args below meth c G A nL Q L E kc ks pc lv (.int x :: st) := fun H locs ls hP hD hS hl => lv_tableOut C.1 C.2.1 d h ht (k H locs ls hP hD hS hl)
theorem q_swap {La Lb : List Nat} (k : wq p l e R s m args below meth c G A nL Q (Lb ++ La) E kc ks pc lv st) : wq p l e R s m args below meth c G A nL Q (La ++ Lb) E kc ks pc lv st := by
  intro H locs ls hP hD hS hl
  have e1 : va_pl (La ++ Lb) E = va_pl La E ++ va_pl Lb E := List.map_append
  have e2 : va_pl (Lb ++ La) E = va_pl Lb E ++ va_pl La E := List.map_append
  rw [e1] at hP hD
  have pR : ∀ (j : Nat) (q : Nat × va_E), (va_pl Lb E)[j]? = some q → (va_pl La E ++ va_pl Lb E)[(va_pl La E).length + j]? = some q := fun j q h => by rw [List.getElem?_append_right (by omega), Nat.add_sub_cancel_left]; exact h
  have pL : ∀ (j : Nat) (q : Nat × va_E), (va_pl La E)[j]? = some q → (va_pl La E ++ va_pl Lb E)[j]? = some q := fun j q h => by rw [List.getElem?_append_left ((List.getElem?_eq_some_iff.mp h).1)]; exact h
  refine k H locs ls ?_ ?_ hS hl
  · rw [e2]
    exact va_P.app (fun j q h => hP _ q (pR j q h)) (fun j q h => hP _ q (pL j q h))
  · rw [e2]
    refine va_D.app ⟨fun i j x y hi hj e => by have := hD.1 _ _ x y (pR i x hi) (pR j y hj) e; omega, fun k q hk => hD.2 _ q (pR k q hk)⟩ ⟨fun i j x y hi hj e => hD.1 _ _ x y (pL i x hi) (pL j y hj) e, fun k q hk => hD.2 _ q (pL k q hk)⟩ (fun i j x y hx hy hxy => ?_)
    have := hD.1 _ _ y x (pL j y hy) (pR i x hx) hxy.symm
    have hj := (List.getElem?_eq_some_iff.mp hy).1
    omega
end LW

/-! THE CLAIM OUT OF ONE WALK OF THE LAW'S BODY. Your part is whole_start (and what it stands on); all else here is the same for every law, but numbers. -/
def R_law : String := "DotPressLaw"
def lw_P (b : Addr) (xs : List Int32) (args : Array Value) (s : State) : Prop := args = #[.ref b] ∧ s.IntsAt b xs ∧ xs.length ≤ 6 ∧ (Jvm.Cond.and given_1 narrow_1).before args s = true
def lw_Q (_ : Array Value) (s : State) (o : Outcome) (t : State) : Prop := o = .returned (some (.int 1)) ∧ Framed s o t [] 600000 7302250
def lw_Z (below : List Frame) (a : Array Value) (s : State) : State → Prop := fun t => ∃ o, t.status = .running ∧ Ended t below o ∧ lw_Q a s o t
/-- the law's own end, with 1 on the stack, nothing written that was there before, its room as the claim has it -/
theorem lw_ret {p : Program} {l : Launch} {e : Env} {s : State} {m : MethodId} {below : List Frame} {meth : Method} {c : Code} {b : Nat} (hx : p.tables.exec = Jvm.exec) (hb : c.code = code) (hr : meth.sig.returnType = ret) (hlocks : meth.locks = false) {pc : Nat} {H : Heap} {ls : Array Slot} (hdg : decode code pc = .ok (.ireturn, 1)) : W p l e room_1 s m #[Value.ref b] below meth c H [] 600000 7302250 (lw_Z below #[Value.ref b] s) (F0 m pc ls [.int 1]) := by
  intro T hT X
  obtain ⟨fs, hret, hrun, hended, hW, hframe⟩ := X.leave (v := some (.int 1)) (hlocks := hlocks) (fun h => by rw [hr] at h; cases h)
  have hmeth' : T.vm.method? m = some meth := X.method'
  refine ⟨T.setFrames fs, ?_, .returned (some (.int 1)), hrun, hended, rfl, ⟨_, rfl⟩, hW, hframe⟩
  jvm_step X.here [X.here.top, hx, hb, hdg, hmeth', hr, ret, narrow_b1]
  (try refine ⟨rfl, ?_⟩); (try refine ⟨rfl, ?_⟩)
  first | (intro acts; rw [hret _ acts rfl rfl rfl]) | rw [hret _ _ rfl rfl rfl]
  exact Steps.refl _
/-- what holds at the law's entry: the machine, the code, the tables' words (any of lw_tbl by 'hts w (by decide +kernel)'), the script of L ints xs at the cell b, what the Statement gives of the start (any of its parts by flat_of_before) -/
def lw_At (p : Program) (s : State) (m : MethodId) (meth : Method) (c : Code) (b L : Nat) (xs : Nat → Int32) : Prop :=
  p.tables.exec = Jvm.exec ∧ c.code = code ∧ meth.sig.returnType = ret ∧ c.maxLocals = 4 ∧ s.vm.findClass R_law = some m.cls ∧ (∀ w ∈ lw_tbl, w.before #[Value.ref b] s = true) ∧ va_X b L xs s s.heap ∧ b < s.heap.size ∧ meth.locks = false ∧ (Jvm.Cond.and given_1 narrow_1).before #[Value.ref b] s = true

theorem law_ret {p : Program} {l : Launch} {e : Env} {s : State} {m : MethodId} {below : List Frame} {meth : Method} {c : Code} {y : MethodName} {rt : Option FieldType} {G : GT} {b : Nat} (C : Cq p s m #[Value.ref b] meth c cL_law ⟨RL, y.name, y.desc⟩ rt G (fun q => s.heap.size ≤ q) 4) (hr : meth.sig.returnType = ret) (hlk : meth.locks = false) {L : List Nat} {E : Nat → va_E} {kc ks pc : Nat} {lv : List (Nat × Value)} (h1 : kc ≤ 600000) (h2 : ks ≤ 7302250) (d : decode cL_law pc = .ok (.ireturn, 1)) : wq p l e room_1 s m #[Value.ref b] below meth c G (fun q => s.heap.size ≤ q) 4 (lw_Z below #[Value.ref b] s) L E kc ks pc lv [.int 1] := fun H locs ls hP hD hS hl => va_forget (fun q hq => hS.2.2 q hq) (W.widen h1 h2 (lw_ret C.1 C.2.1 hr hlk d))
set_option maxRecDepth 100000 in
theorem law_tail {p : Program} {l : Launch} {e : Env} {s : State} {m : MethodId} {below : List Frame} {meth : Method} {c : Code} {y : MethodName} {rt : Option FieldType} {G : GT} {b : Nat} {xs : Nat → Int32} (C : Cq p s m #[Value.ref b] meth c cL_law ⟨RL, y.name, y.desc⟩ rt G (fun q => s.heap.size ≤ q) 4) (hr : meth.sig.returnType = ret) (hlk : meth.locks = false) (hX : va_X b 6 xs s s.heap) (hbl : b < s.heap.size) {L : List Nat} {E : Nat → va_E} {kc ks mm h0 : Nat} (h1 : kc ≤ 600000) (h2 : ks ≤ 7302250) : wq p l e room_1 s m #[Value.ref b] below meth c G (fun q => s.heap.size ≤ q) 4 (lw_Z below #[Value.ref b] s) L E kc ks 1377 [(3, .int 0), (2, .ref mm), (1, .ref h0), (0, .ref b)] [] := by
  have hbA : ¬ (fun q : Nat => s.heap.size ≤ q) b := Nat.not_le.mpr hbl
  refine q_iinc (j := 0) (v := 6) (lv2 := [(3, .int 6), (2, .ref mm), (1, .ref h0), (0, .ref b)]) C dL_law_1377 rfl (by decide) (by decide) rfl ?_
  refine q_goto (tgt := 18) C dL_law_1380 (by decide) ?_
  refine q_iload_n (j := 0) C dL_law_18 rfl ?_
  refine q_aload_n (j := 3) C dL_law_19 rfl ?_
  refine q_slen (v := 6) C hX hbl hbA dL_law_20 rfl ?_
  refine q_bipush (v := 6) C dL_law_21 (by decide) ?_
  refine q_isub (v := 0) C dL_law_23 (by decide) ?_
  refine q_icmp_gt (tgt := 1383) C dL_law_24 (by decide) (fun _ => ?_) (fun z => absurd (by decide) z)
  refine q_iconst (v := 1) C dL_law_1383 (by decide) ?_
  exact law_ret C hr hlk h1 h2 dL_law_1384
