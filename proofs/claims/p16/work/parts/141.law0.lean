section LW
variable {p : Program} {l : Launch} {e : Env} {R : Room} {s : State} {m : MethodId} {args : Array Value} {below : List Frame} {meth : Method} {c : Code} {cc : ByteArray} {y : MethodName} {ret : Option FieldType} {G : GT} {A : Nat → Prop} {nL : Nat} {Q : State → Prop} {L : List Nat} {E : Nat → va_E} {kc ks pc : Nat} {lv : List (Nat × Value)} {st : List Value}
theorem q_sld (C : Cq p s m args meth c cc y ret G A nL) {b Ln : Nat} {xs : Nat → Int32} (hX : va_X b Ln xs s s.heap) (hbl : b < s.heap.size) (hbA : ¬ A b) {i v : Int32} (d : decode cc pc = .ok (.iaload, 1)) (hin : vp_in i Ln) (hv : xs i.toNatClampNeg = v) (k : wq p l e R s m args below meth c G A nL Q L E kc ks (pc + 1) lv (.int v :: st)) : wq p l e R s m args below meth c G A nL Q L E kc ks pc lv (.int i :: .ref b :: st) := fun H locs ls hP hD hS hl => va_sld C.1 C.2.1 hX hbl hbA hS hin d (hv ▸ k H locs ls hP hD hS hl)
theorem q_slen (C : Cq p s m args meth c cc y ret G A nL) {b Ln : Nat} {xs : Nat → Int32} (hX : va_X b Ln xs s s.heap) (hbl : b < s.heap.size) (hbA : ¬ A b) {v : Int32} (d : decode cc pc = .ok (.arraylength, 1)) (hv : Int32.ofNat Ln = v) (k : wq p l e R s m args below meth c G A nL Q L E kc ks (pc + 1) lv (.int v :: st)) : wq p l e R s m args below meth c G A nL Q L E kc ks pc lv (.ref b :: st) := fun H locs ls hP hD hS hl => va_slen C.1 C.2.1 hX hbl hbA hS d (hv ▸ k H locs ls hP hD hS hl)
theorem q_tabIn (C : Cq p s m args meth c cc y ret G A nL) {dflt lo hi : Int} {offs : Array Int} {len : Nat} {x : Int32} {off : Int} {tgt : Nat} (d : decode cc pc = .ok (.tableswitch dflt lo hi offs, len)) (h1 : ¬ x.toInt < lo) (h2 : ¬ hi < x.toInt) (ho : offs[(x.toInt - lo).toNat]? = some off) (ht : (pc : Int) + off = (tgt : Int)) (k : wq p l e R s m args below meth c G A nL Q L E kc ks tgt lv st) : wq p l e R s m args below meth c G A nL Q L E kc ks pc lv (.int x :: st) := fun H locs ls hP hD hS hl => lv_tableIn C.1 C.2.1 d h1 h2 ho ht (k H locs ls hP hD hS hl)
theorem q_tabOut (C : Cq p s m args meth c cc y ret G A nL) {dflt lo hi : Int} {offs : Array Int} {len : Nat} {x : Int32} {tgt : Nat} (d : decode cc pc = .ok (.tableswitch dflt lo hi offs, len)) (h : x.toInt < lo ∨ hi < x.toInt) (ht : (pc : Int) + dflt = (tgt : Int)) (k : wq p l e R s m args below meth c G A nL Q L E kc ks tgt lv st) : wq p l e R s m args below meth c G A nL Q L E kc ks pc lv (.int x :: st) := fun H locs ls hP hD hS hl => lv_tableOut C.1 C.2.1 d h ht (k H locs ls hP hD hS hl)
theorem q_swap {La Lb : List Nat} (k : wq p l e R s m args below meth c G A nL Q (Lb ++ La) E kc ks pc lv st) : wq p l e R s m args below meth c G A nL Q (La ++ Lb) E kc ks pc lv st := by
  intro H locs ls hP hD hS hl
  refine hv2 (show va_pl (La ++ Lb) E = va_pl La E ++ va_pl Lb E from List.map_append) (show va_pl (Lb ++ La) E = va_pl Lb E ++ va_pl La E from List.map_append) (fun e1 e2 => ?_)
  rw [e1] at hP hD
  have pR : ∀ (j : Nat) (q : Nat × va_E), (va_pl Lb E)[j]? = some q → (va_pl La E ++ va_pl Lb E)[(va_pl La E).length + j]? = some q := fun j q h => by rw [List.getElem?_append_right (by omega), Nat.add_sub_cancel_left]; exact h
  have pL : ∀ (j : Nat) (q : Nat × va_E), (va_pl La E)[j]? = some q → (va_pl La E ++ va_pl Lb E)[j]? = some q := fun j q h => by rw [List.getElem?_append_left ((List.getElem?_eq_some_iff.mp h).1)]; exact h
  refine k H locs ls ?_ ?_ hS hl
  · rw [e2]
    exact va_P.app (fun j q h => hP _ q (pR j q h)) (fun j q h => hP _ q (pL j q h))
  · rw [e2]
    refine va_D.app ⟨fun i j x y hi hj e => by have := hD.1 _ _ x y (pR i x hi) (pR j y hj) e; omega, fun k q hk => hD.2 _ q (pR k q hk)⟩ ⟨fun i j x y hi hj e => hD.1 _ _ x y (pL i x hi) (pL j y hj) e, fun k q hk => hD.2 _ q (pL k q hk)⟩ (fun i j x y hx hy hxy => ?_)
    have := hD.1 _ _ y x (pL j y hy) (pR i x hx) hxy.symm
    have hj := (List.getElem?_eq_some_iff.mp hy).1
    omega
end LW

def R_law : String := "DotPressLaw"
def lw_P (b : Addr) (xs : List Int32) (args : Array Value) (s : State) : Prop := args = #[.ref b] ∧ s.IntsAt b xs ∧ xs.length ≤ 3072 ∧ (Jvm.Cond.and given_1 narrow_1).before args s = true
def lw_Q (_ : Array Value) (s : State) (o : Outcome) (t : State) : Prop := o = .returned (some (.int 1)) ∧ Framed s o t [] 600000 7302250
def lw_Z (below : List Frame) (a : Array Value) (s : State) : State → Prop := fun t => ∃ o, t.status = .running ∧ Ended t below o ∧ lw_Q a s o t
theorem lw_ret {p : Program} {l : Launch} {e : Env} {s : State} {m : MethodId} {below : List Frame} {meth : Method} {c : Code} {b : Nat} (hx : p.tables.exec = Jvm.exec) (hb : c.code = code) (hr : meth.sig.returnType = ret) (hlocks : meth.locks = false) {pc : Nat} {H : Heap} {ls : Array Slot} (hdg : decode code pc = .ok (.ireturn, 1)) : W p l e room_1 s m #[Value.ref b] below meth c H [] 600000 7302250 (lw_Z below #[Value.ref b] s) (F0 m pc ls [.int 1]) := by
  intro T hT X
  obtain ⟨fs, hret, hrun, hended, hW, hframe⟩ := X.leave (v := some (.int 1)) (hlocks := hlocks) (fun h => by rw [hr] at h; cases h)
  have hmeth' : T.vm.method? m = some meth := X.method'
  refine ⟨T.setFrames fs, ?_, .returned (some (.int 1)), hrun, hended, rfl, ⟨_, rfl⟩, hW, hframe⟩
  jvm_step X.here [X.here.top, hx, hb, hdg, hmeth', hr, ret, narrow_b1]
  (try refine ⟨rfl, ?_⟩); (try refine ⟨rfl, ?_⟩)
  first | (intro acts; rw [hret _ acts rfl rfl rfl]) | rw [hret _ _ rfl rfl rfl]
  exact Steps.refl _
def lw_At (p : Program) (s : State) (m : MethodId) (meth : Method) (c : Code) (b L : Nat) (xs : Nat → Int32) : Prop :=
  p.tables.exec = Jvm.exec ∧ c.code = code ∧ meth.sig.returnType = ret ∧ c.maxLocals = 4 ∧ s.vm.findClass R_law = some m.cls ∧ (∀ w ∈ lw_tbl, w.before #[Value.ref b] s = true) ∧ va_X b L xs s s.heap ∧ b < s.heap.size ∧ meth.locks = false ∧ (Jvm.Cond.and given_1 narrow_1).before #[Value.ref b] s = true

theorem law_ret {p : Program} {l : Launch} {e : Env} {s : State} {m : MethodId} {below : List Frame} {meth : Method} {c : Code} {y : MethodName} {rt : Option FieldType} {G : GT} {b : Nat} (C : Cq p s m #[Value.ref b] meth c cL_law ⟨RL, y.name, y.desc⟩ rt G (fun q => s.heap.size ≤ q) 4) (hr : meth.sig.returnType = ret) (hlk : meth.locks = false) {L : List Nat} {E : Nat → va_E} {kc ks pc : Nat} {lv : List (Nat × Value)} (h1 : kc ≤ 600000) (h2 : ks ≤ 7302250) (d : decode cL_law pc = .ok (.ireturn, 1)) : wq p l e room_1 s m #[Value.ref b] below meth c G (fun q => s.heap.size ≤ q) 4 (lw_Z below #[Value.ref b] s) L E kc ks pc lv [.int 1] := fun H locs ls hP hD hS hl => va_forget (fun q hq => hS.2.2 q hq) (W.widen h1 h2 (lw_ret C.1 C.2.1 hr hlk d))

theorem Mu.congr {l : Launch} {G : GT} {mi : Nat} {y : MethodName} {cc : ByteArray} {n : Nat} {ret : Option FieldType} {d : Nat} {av : List Value} {L : List Nat} {E E2 : Nat → va_E} {r : Nat} {P : PU} (h : Mu l G mi y cc n ret d av L E r P) (he : ∀ a ∈ L, E2 a = E a) : Mu l G mi y cc n ret d av L E2 r P := by
  have e : va_pl L E2 = va_pl L E := List.map_congr_left (fun a ha => by rw [he a ha])
  intro sz
  have e2 : Pcu G mi L E2 sz = Pcu G mi L E sz := by funext U; unfold Pcu Pcq; rw [e]
  rw [e, e2]
  exact h sz
theorem mI.cgE {G : GT} {h0 : Nat} {ad ln : Nat → Nat} {v : Nat → Int} {a : Nat → Nat → Int} {L : List Nat} {E E2 : Nat → va_E} (h : mI G h0 ad ln v a L E) (he : ∀ b ∈ L, E2 b = E b) : mI G h0 ad ln v a L E2 := ⟨h.1, (he _ h.1).trans h.2.1, fun k hk => ⟨(h.2.2.1 k hk).1, (he _ (h.2.2.1 k hk).1).trans (h.2.2.1 k hk).2⟩, h.2.2.2⟩
def LI (R : (Nat → Nat) → List Nat → (Nat → Nat) → (Nat → Nat) → (Nat → Nat → Int) → (Nat → Nat → Option Nat) → (Nat → Int) → (Nat → Nat → Int) → Prop) (G : GT) (h0 mm n n2 w u : Nat) (Lx Lm : List Nat) (E : Nat → va_E) : Prop := ∃ (cl ln : Nat → Nat) (iv : Nat → Nat → Int) (rv : Nat → Nat → Option Nat) (sk ad lnm : Nat → Nat) (v : Nat → Int) (a : Nat → Nat → Int), (∀ b ∈ Lx, E b = enc G cl ln iv rv b) ∧ PRS G h0 n Lx cl ln iv rv sk ∧ mI G mm ad lnm v a Lm E ∧ MIV n2 lnm v a ∧ u ≤ 360000 + Phi (g0 G) sk ln rv + w ∧ R sk Lx cl ln iv rv v a
def LV (b h0 mm n : Nat) : List (Nat × Value) := [(3, .int (iI (6 * (n : Int)))), (2, .ref mm), (1, .ref h0), (0, .ref b)]
section LAWS
variable {p : Program} {l : Launch} {e : Env} {s : State} {m : MethodId} {below : List Frame} {meth : Method} {c : Code} {y : MethodName} {rt : Option FieldType} {G : GT} {b mi h0 mm n u kc ks pc Ln w : Nat} {Lx Lm : List Nat} {E : Nat → va_E} {Q : State → Prop} {lv : List (Nat × Value)} {st rest : List Value} {xs : Nat → Int32} {zs : Nat → Int} {EX : (Nat → Nat) → List Nat → (Nat → Nat) → (Nat → Nat) → (Nat → Nat → Int) → (Nat → Nat → Option Nat) → List Nat → (Nat → Nat) → (Nat → Nat) → (Nat → Nat → Int) → (Nat → Nat → Option Nat) → Int → Prop} {EXm : (Nat → Int) → (Nat → Nat → Int) → (Nat → Int) → (Nat → Nat → Int) → Int → Prop} {R : (Nat → Nat) → List Nat → (Nat → Nat) → (Nat → Nat) → (Nat → Nat → Int) → (Nat → Nat → Option Nat) → (Nat → Int) → (Nat → Nat → Int) → Prop} {As : List Value} {y2 : MethodName} {cc2 : ByteArray} {n2 d2 idx k2 mc ms : Nat}
theorem q_ld (C : Cq p s m #[Value.ref b] meth c cL_law ⟨RL, y.name, y.desc⟩ rt G (fun q => s.heap.size ≤ q) 4) (hX : va_X b Ln xs s s.heap) (hbl : b < s.heap.size) (hzs : ∀ k, xs k = iI (zs k)) (hn : 6 * n + 6 ≤ Ln) (hLn : Ln ≤ 3072) {j : Nat} (hj : j < 6) {jj : Int} (hjj : jj = j) {L : List Nat} (d0 : decode cL_law pc = .ok (.aload_n 0, 1)) (d1 : decode cL_law (pc + 1) = .ok (.iload_n 3, 1)) (d2 : decode cL_law (pc + 2) = .ok (.iconst jj, 1)) (d3 : decode cL_law (pc + 3) = .ok (.iadd, 1)) (d4 : decode cL_law (pc + 4) = .ok (.iaload, 1)) (k : wq p l e room_1 s m #[Value.ref b] below meth c G (fun q => s.heap.size ≤ q) 4 Q L E kc ks (pc + 5) (LV b h0 mm n) (.int (iI (zs (6 * n + j))) :: st)) : wq p l e room_1 s m #[Value.ref b] below meth c G (fun q => s.heap.size ≤ q) 4 Q L E kc ks pc (LV b h0 mm n) st := by
  have hbA : ¬ (fun q : Nat => s.heap.size ≤ q) b := Nat.not_le.mpr hbl
  refine q_aload_n (j := 3) C d0 rfl ?_
  refine q_iload_n (j := 0) C d1 rfl ?_
  refine q_iconst (v := iI jj) C d2 rfl ?_
  refine q_iadd (v := iI (6 * (n : Int) + j)) C d3 (by rw [hjj]; exact (Int32.ofInt_add ..).symm) ?_
  refine q_sld (v := iI (zs (6 * n + j))) C hX hbl hbA d4 (iI_in ⟨by omega, by omega⟩ (by omega) (by omega)) (by rw [iI_cl ⟨by omega, by omega⟩, ← hzs]; congr 1) ?_
  exact k
theorem law_press (C : Cq p s m #[Value.ref b] meth c cL_law ⟨RL, y.name, y.desc⟩ rt G (fun q => s.heap.size ≤ q) 4) (hM : Mir mi s) (hI : LI R G h0 mm n n w u Lx Lm E) (hn : n ≤ 511) (hw0 : w ≤ 3400000) (hu : 16 * kc + ks ≤ u) (op : PressOp l G mi y2 cc2 n2 (some .int) d2 As h0 EX) (d : decode cL_law pc = .ok (.invokevirtual idx, 3)) (hw : Wv RL idx y2 cc2 n2 (some .int) k2) (hk : As.length = k2) (hcls : y2.cls = RX11) (hst : st = As.reverse ++ .ref h0 :: rest) (hcat : (rest.map fun v => v.category).sum ≤ 8) (hR : d2 + 1 ≤ 2048 ∧ 8 + (n2 + 11) + 64 * d2 ≤ 84000) (kk : ∀ (f : Int) (L2 : List Nat) (E3 : Nat → va_E) (kc2 ks2 u2 : Nat), (-2147483648 ≤ f ∧ f ≤ 2147483647) → LI (fun sk L2 cl2 ln2 iv2 rv2 v a => ∃ L cl ln iv rv, R sk L cl ln iv rv v a ∧ EX sk L cl ln iv rv L2 cl2 ln2 iv2 rv2 f) G h0 mm (n + 1) n (w + 2330) u2 L2 Lm E3 → 16 * kc2 + ks2 ≤ u2 → wq p l e room_1 s m #[Value.ref b] below meth c G (fun q => s.heap.size ≤ q) 4 Q (Lm ++ L2) E3 kc2 ks2 (pc + 3) lv (.int (iI f) :: rest)) : wq p l e room_1 s m #[Value.ref b] below meth c G (fun q => s.heap.size ≤ q) 4 Q (Lm ++ Lx) E kc ks pc lv st := by
  obtain ⟨cl, ln, iv, rv, sk, ad, lnm, v, a, hE, hP, hmI, hV, hU, hR0⟩ := hI
  obtain ⟨c0, P2, hc0, M, hpost⟩ := op n Lx cl ln iv rv sk hn hP
  obtain ⟨hW, hS, hm, h23, ht⟩ := hP
  refine hv2 (Phi.le hW hS) (show PHM = 1110000 from rfl) (fun hph e0 => ?_)
  have hEh : E h0 = ob 12 19 (ofv 12 (iv h0) (rv h0)) := by
    rw [hE h0 ht.1]; unfold enc; rw [ht.2]; rfl
  have M2 := Mu.congr (E2 := E) M (fun q hq => hE q hq)
  refine u_subV (As := As) (rest := rest) C hM hu M2 d hw hk ht.1 hEh (hcls ▸ ck_12) hst hcat hR ⟨by show kc + _ / 16 ≤ 600000; omega, by show ks + _ ≤ 7302250; omega⟩ (fun r L2 E2 E3 u2 h ha hb hc kc2 ks2 hk2 => ?_)
  obtain ⟨cl2, ln2, iv2, rv2, rfl, hu2, hp2⟩ := h
  obtain ⟨f, rfl, hf, hX2, hW2, hm2, h232, hex⟩ := hpost _ _ _ _ _ _ hp2
  exact kk f L2 E3 kc2 ks2 (u + u2) hf ⟨cl2, ln2, iv2, rv2, sk, ad, lnm, v, a, hb, ⟨hW2, hX2.skl hS, hm2, by push_cast; omega, hX2.ty ht⟩, hmI.cgE ha, hV, by omega, Lx, cl, ln, iv, rv, hR0, hex⟩ hk2
theorem law_model (C : Cq p s m #[Value.ref b] meth c cL_law ⟨RL, y.name, y.desc⟩ rt G (fun q => s.heap.size ≤ q) 4) (hI : LI R G h0 mm (n + 1) n w u Lx Lm E) (hn : n ≤ 511) (hw0 : w ≤ 3400000) (hu : 16 * kc + ks ≤ u) (op : ModelOp l G y2 cc2 n2 (some .int) d2 As mm mc ms EXm) (hcost : 16 * mc + ms ≤ 4126) (d : decode cL_law pc = .ok (.invokevirtual idx, 3)) (hw : Wv RL idx y2 cc2 n2 (some .int) k2) (hk : As.length = k2) (hcls : y2.cls = RX12) (hst : st = As.reverse ++ .ref mm :: rest) (hcat : (rest.map fun v => v.category).sum ≤ 8) (hR : d2 + 1 ≤ 2048 ∧ 8 + (n2 + 11) + 64 * d2 ≤ 84000) (kk : ∀ (f : Int) (L2 : List Nat) (E3 : Nat → va_E) (kc2 ks2 u2 : Nat), LI (fun sk L cl ln iv rv v2 a2 => ∃ v a, R sk L cl ln iv rv v a ∧ EXm v a v2 a2 f) G h0 mm (n + 1) (n + 1) (w + 4126) u2 Lx L2 E3 → 16 * kc2 + ks2 ≤ u2 → wq p l e room_1 s m #[Value.ref b] below meth c G (fun q => s.heap.size ≤ q) 4 Q (L2 ++ Lx) E3 kc2 ks2 (pc + 3) lv (.int (iI f) :: rest)) : wq p l e room_1 s m #[Value.ref b] below meth c G (fun q => s.heap.size ≤ q) 4 Q (Lm ++ Lx) E kc ks pc lv st := by
  obtain ⟨cl, ln, iv, rv, sk, ad, lnm, v, a, hE, hP, hmI, hV, hU, hR0⟩ := hI
  refine hv2 (Phi.le hP.1 hP.2.1) (show PHM = 1110000 from rfl) (fun hph e0 => ?_)
  obtain ⟨P2, M, hpost⟩ := op n ad lnm v a Lm E hn hV hmI
  refine q_swap ?_
  refine q_subV (As := As) (rest := rest) C M d hw hk hmI.1 hmI.2.1 (hcls ▸ ck_13) hst hcat hR ⟨by show kc + mc ≤ 600000; omega, by show ks + ms ≤ 7302250; omega⟩ (fun r L2 E2 E3 h ha hb hc => ?_)
  obtain ⟨f, ad2, ln2, v2, a2, rfl, hmI2, hV2, hex⟩ := hpost _ _ _ h
  refine q_swap ?_
  exact kk f L2 E3 _ _ (u + (16 * mc + ms)) ⟨cl, ln, iv, rv, sk, ad2, ln2, v2, a2, fun q hq => (ha q hq).trans (hE q hq), hP, hmI2.cgE hb, hV2, by omega, v, a, hR0, hex⟩ (by omega)
end LAWS
