abbrev GT : Type := va_G × ClassId × ClassId × ClassId × ClassId × ClassId × Nat
abbrev gT (G : GT) : List (ClassId × FieldType) := [(G.2.1, .int), (G.2.2.1, .boolean), (G.2.2.2.1, .object RX2), (G.2.2.2.2.1, .object RX5), (G.2.2.2.2.2.1, .object "java/lang/Object")]
def ob (ci N : Nat) (f : Nat → Value) : va_E := .inr (ci, (List.range N).map f)
def aI (G : GT) (n : Nat) (f : Nat → Int32) : va_E := .inl (G.2.1, n, .inl f)
def aZ (G : GT) (n : Nat) (f : Nat → Int32) : va_E := .inl (G.2.2.1, n, .inl f)
def aL (G : GT) (n : Nat) (f : Nat → Option Nat) : va_E := .inl (G.2.2.2.1, n, .inr (.inr (.inr (.inr f))))
def aR (G : GT) (n : Nat) (f : Nat → Option Nat) : va_E := .inl (G.2.2.2.2.1, n, .inr (.inr (.inr (.inr f))))
def aO (G : GT) (n : Nat) (f : Nat → Option Nat) : va_E := .inl (G.2.2.2.2.2.1, n, .inr (.inr (.inr (.inr f))))
abbrev g0 (G : GT) : Nat := G.2.2.2.2.2.2
def sZ (G : GT) (A : Nat → Prop) (U : State) (H : Heap) : Prop := va_Z "java/util/ArrayList" "DEFAULTCAPACITY_EMPTY_ELEMENTDATA" "[Ljava/lang/Object;" (.ref (g0 G)) A U H ∧ va_T (.object "java/lang/Object") (g0 G) 0 (fun _ => .null) A U H
def lw_g : List Cond := lw_tbl.filter goodWord
theorem lw_in {w : Cond} (h : w ∈ lw_tbl) (hg : goodWord w = true) : w ∈ lw_g := List.mem_filter.mpr ⟨h, hg⟩
def Nst (U : State) : Prop := (∀ (a : String) (i : Nat) (x : MethodName) (h : String), Cond.methodLinkNest a i x h ∈ lw_tbl → va_Nw (.methodLinkNest a i x h) U) ∧ (∀ C T : String, Cond.castable C T ∈ lw_tbl → va_Nw (.castable C T) U) ∧ (∀ C : String, Cond.arrayOver (.object C) ∈ lw_tbl → va_AO C U)
theorem Nst.of {args : Array Value} {s : State} (h : ∀ w ∈ lw_tbl, w.before args s = true) : Nst s := ⟨fun _ _ _ _ q => va_Nw.of rfl (h _ q), fun _ _ q => va_Nw.of rfl (h _ q), fun _ q => va_AO.of (h _ q)⟩
theorem Nst.warm {s U : State} (hW : s.WarmedH U.vm) (h : Nst s) : Nst U := ⟨fun a i x t q => va_Nw.warmM hW (h.1 a i x t q), fun C T q => va_Nw.warmC hW (h.2.1 C T q), fun C q => va_AO.moved hW.alike (h.2.2 C q)⟩
theorem Nst.same {s U : State} (hv : s.vm = U.vm) (h : Nst s) : Nst U := ⟨fun a i x t q => va_Nw.same rfl hv (h.1 a i x t q), fun C T q => va_Nw.same rfl hv (h.2.1 C T q), fun C q => va_AO.moved (by rw [hv]; exact Vm.Alike.refl _) (h.2.2 C q)⟩
abbrev PT : Type := Option Value → List Nat → (Nat → va_E) → Prop
def Qm (G : GT) (A : Nat → Prop) (Post : PT) : Array Value → State → Outcome → State → Prop := fun _ st oc t => (∃ (v : Option Value) (L' : List Nat) (E' : Nat → va_E), oc = .returned v ∧ Post v L' E' ∧ va_P G.1 vwCl (va_pl L' E') t.heap ∧ va_D A (va_pl L' E')) ∧ va_F A st t
def Cq (p : Program) (s : State) (m : MethodId) (args : Array Value) (meth : Method) (c : Code) (cc : ByteArray) (y : MethodName) (ret : Option FieldType) (G : GT) (A : Nat → Prop) (nL : Nat) : Prop :=
  p.tables.exec = Jvm.exec ∧ c.code = cc ∧ c.maxLocals = nL ∧ s.vm.findClass y.cls = some m.cls ∧ (∀ w ∈ lw_g, w.before args s = true) ∧ va_K G.1 vwCl (gT G) s ∧ (∀ q, s.heap.size ≤ q → A q) ∧ sZ G A s s.heap ∧ meth.sig.returnType = ret ∧ meth.locks = false ∧ meth.name = y.name ∧ Nst s
def wq (p : Program) (l : Launch) (e : Env) (R : Room) (s : State) (m : MethodId) (args : Array Value) (below : List Frame) (meth : Method) (c : Code) (G : GT) (A : Nat → Prop) (nL : Nat) (Q : State → Prop) (L : List Nat) (E : Nat → va_E) (kc ks pc : Nat) (lv : List (Nat × Value)) (st : List Value) : Prop :=
  ∀ (H : Heap) (locs : List Loc) (ls : Array Slot), va_P G.1 vwCl (va_pl L E) H → va_D A (va_pl L E) → va_S A s.heap H locs → lv_has ls nL lv → W p l e R s m args below meth c H locs kc ks Q (F0 m pc ls st)
abbrev rmq (d mc ms : Nat) : Room := { frames := d, cells := mc, slots := ms, locals := 64 * d }
def Pcq (G : GT) (L : List Nat) (E : Nat → va_E) (sz : Nat) (U : State) : Prop := U.heap.size = sz ∧ va_P G.1 vwCl (va_pl L E) U.heap ∧ va_K G.1 vwCl (gT G) U ∧ va_D (fun _ => True) (va_pl L E) ∧ sZ G (va_A (va_pl L E) sz) U U.heap ∧ Nst U
def Mq (l : Launch) (G : GT) (y : MethodName) (cc : ByteArray) (n : Nat) (ret : Option FieldType) (d : Nat) (av : List Value) (L : List Nat) (E : Nat → va_E) (mc ms : Nat) (Post : PT) : Prop :=
  ∀ sz : Nat, Met l y (.code y cc n ret :: lw_g) (rmq d mc ms) (va_Pc av (Pcq G L E sz)) (Qm G (va_A (va_pl L E) sz) Post) mc ms (va_A (va_pl L E) sz)
def Ck (ci : Nat) (Cn : String) (T : u_T) (N : Nat) (ty : Nat → FieldType) : Prop := vwCl[ci]? = some (Cn, T, N) ∧ (∀ w ∈ u_ws Cn T N, w ∈ lw_g) ∧ (∀ k, k < N → parseFieldDescriptor (T k).2.2.1 = some (ty k)) ∧ (∀ a, a < N → ∀ b, b < N → a ≠ b → (T a).2.1 ≠ (T b).2.1)
theorem ob_get {N k : Nat} {f : Nat → Value} (h : k < N) : ((List.range N).map f)[k]? = some (f k) := by
  rw [List.getElem?_map, List.getElem?_range h]; rfl
theorem ob_V {N k : Nat} {f : Nat → Value} (h : k < N) : vp_V ((List.range N).map f) k = f k := by
  unfold vp_V; rw [List.getD_eq_getElem?_getD, ob_get h]; rfl
theorem ob_set {N k : Nat} {f : Nat → Value} {v : Value} (h : k < N) : ((List.range N).map f).set k v = (List.range N).map (va_up f k v) := by
  apply List.ext_getElem?
  intro j
  by_cases hj : j < N
  · rw [ob_get hj]
    by_cases e : j = k
    · subst e; rw [List.getElem?_set_self (by simpa using hj), va_up_self]
    · rw [List.getElem?_set_ne (fun q => e q.symm), ob_get hj, va_up_ne _ _ e]
  · rw [List.getElem?_eq_none (by simpa using hj), List.getElem?_eq_none (by simpa using hj)]
theorem pl_at {L : List Nat} {E : Nat → va_E} {a : Nat} (h : a ∈ L) : ∃ k : Nat, (va_pl L E)[k]? = some (a, E a) := by
  obtain ⟨k, hk⟩ := va_pl_get (X := []) (f := E) h
  exact ⟨k, hk⟩
theorem pl_set {A : Nat → Prop} {L : List Nat} {E : Nat → va_E} {a k : Nat} {x : va_E} (hD : va_D A (va_pl L E)) (h : a ∈ L) (hk : (va_pl L E)[k]? = some (a, E a)) : (va_pl L E).set k (a, x) = va_pl L (va_up E a x) := va_pl_set (X := []) hD h hk
theorem pl_free {A : Nat → Prop} {L : List Nat} {E : Nat → va_E} {s : State} {H : Heap} {locs : List Loc} (hD : va_D A (va_pl L E)) (hS : va_S A s.heap H locs) (hA : ∀ q, s.heap.size ≤ q → A q) : ∀ q, va_A (va_pl L E) H.size q → A q := by
  intro q h
  rcases h with ⟨k, x, h⟩ | h
  · exact hD.2 k (q, x) h
  · exact hA q (Nat.le_trans hS.1 h)
theorem sZ.pass {G : GT} {A B : Nat → Prop} {s U : State} {H : Heap} {locs : List Loc} (h : sZ G A s s.heap) (hS : va_S A s.heap H locs) (hB : ∀ q, B q → A q) (hv : s.vm.Alike U.vm) (hU : U.heap = H) : sZ G B U U.heap := by
  rw [hU]
  exact ⟨((h.1.kept (fun a h1 h2 => hS.2.1 a h1 h2)).narrow hB).moved hv, ((h.2.kept (fun a h1 h2 => hS.2.1 a h1 h2)).narrow hB).moved hv⟩
theorem Pcq.blind {G : GT} {L : List Nat} {E : Nat → va_E} {sz : Nat} {av : List Value} : FrameBlind (va_Pc av (Pcq G L E sz)) := by
  intro a U g mk q
  obtain ⟨q0, q1, qP, qK, qD, qZ, qN⟩ := q
  exact ⟨q0, q1, qP, va_K.moved (u := U) (U := U.calling g mk a) (Vm.Alike.refl U.vm) qK, qD, ⟨va_Z.moved (u := U) (U := U.calling g mk a) (Vm.Alike.refl U.vm) qZ.1, va_T.moved (u := U) (U := U.calling g mk a) (Vm.Alike.refl U.vm) qZ.2⟩, Nst.same (s := U) (U := U.calling g mk a) rfl qN⟩
theorem lw_good : lw_g.all goodWord = true := by
  rw [List.all_eq_true]
  intro w hw
  exact (List.mem_filter.mp hw).2
theorem lw_goodIn {y : MethodName} {cc : ByteArray} {n : Nat} {ret : Option FieldType} (h : Cond.code y cc n ret ∈ lw_g) : GoodIn lw_g (.code y cc n ret :: lw_g) := by
  intro w hw
  have hm : w ∈ lw_g := by
    rcases List.mem_cons.mp hw with e | e
    · rw [e]; exact h
    · exact e
  exact ⟨hm, good_of_word (List.all_eq_true.mp lw_good w hm)⟩

theorem ne_in {a q : Nat} {L : List Nat} (h : a ∈ L) (n : q ∉ L) : a ≠ q := fun z => n (z ▸ h)
theorem i32_lt {a b : Int32} : a < b ↔ a.toInt < b.toInt := Int32.lt_iff_toInt_lt
theorem i32_le {a b : Int32} : a ≤ b ↔ a.toInt ≤ b.toInt := Int32.le_iff_toInt_le
theorem i32_eq {a b : Int32} : a = b ↔ a.toInt = b.toInt := Int32.toInt_inj.symm
def inn (x lo hi : Int32) : Int32 := if lo ≤ x ∧ x ≤ hi then 1 else 0
theorem inn_f {x lo hi : Int32} : inn x lo hi = 0 ↔ ¬ (lo ≤ x ∧ x ≤ hi) := by
  unfold inn; split
  · rename_i h; exact ⟨fun q => absurd q (by decide), fun q => absurd h q⟩
  · rename_i h; exact ⟨fun _ => h, fun _ => rfl⟩
theorem tn_m1 : ((-1) : Int32).toInt = -1 := rfl
theorem tn_0 : ((0) : Int32).toInt = 0 := rfl
theorem tn_1 : ((1) : Int32).toInt = 1 := rfl
theorem tn_2 : ((2) : Int32).toInt = 2 := rfl
theorem tn_3 : ((3) : Int32).toInt = 3 := rfl
theorem tn_4 : ((4) : Int32).toInt = 4 := rfl
theorem tn_5 : ((5) : Int32).toInt = 5 := rfl
theorem tn_6 : ((6) : Int32).toInt = 6 := rfl
theorem tn_7 : ((7) : Int32).toInt = 7 := rfl
theorem tn_8 : ((8) : Int32).toInt = 8 := rfl
theorem tn_10 : ((10) : Int32).toInt = 10 := rfl
theorem tn_30 : ((30) : Int32).toInt = 30 := rfl
theorem tn_31 : ((31) : Int32).toInt = 31 := rfl
theorem tn_32 : ((32) : Int32).toInt = 32 := rfl
theorem tn_36 : ((36) : Int32).toInt = 36 := rfl
theorem tn_40 : ((40) : Int32).toInt = 40 := rfl
theorem tn_50 : ((50) : Int32).toInt = 50 := rfl
theorem tn_100 : ((100) : Int32).toInt = 100 := rfl
theorem tn_126 : ((126) : Int32).toInt = 126 := rfl
theorem tn_200 : ((200) : Int32).toInt = 200 := rfl
theorem tn_255 : ((255) : Int32).toInt = 255 := rfl
theorem tn_500 : ((500) : Int32).toInt = 500 := rfl
theorem tn_512 : ((512) : Int32).toInt = 512 := rfl
theorem tn_3000 : ((3000) : Int32).toInt = 3000 := rfl
theorem tn_5000 : ((5000) : Int32).toInt = 5000 := rfl
section PQ
variable {p : Program} {l : Launch} {e : Env} {R : Room} {s : State} {m : MethodId} {args : Array Value} {below : List Frame} {meth : Method} {c : Code} {cc : ByteArray} {y : MethodName} {ret : Option FieldType} {G : GT} {A : Nat → Prop} {nL mc ms : Nat} {Q : State → Prop} {Post : PT} {L : List Nat} {E : Nat → va_E} {kc ks pc : Nat} {lv : List (Nat × Value)} {st : List Value}

theorem Mq.mk {n d : Nat} {av : List Value} (hy : plainName y.cls = true) (hn : (lg_sl av).length ≤ n) (body : ∀ (p : Program) (e : Env) (s : State) (m : MethodId) (args : Array Value) (below : List Frame) (meth : Method) (c : Code) (A : Nat → Prop), Cq p s m args meth c cc y ret G A n → wq p l e (rmq d mc ms) s m args below meth c G A n (MQ below (Qm G A Post) args s mc ms A) L E 0 0 0 (lv_args 0 av) []) : Mq l G y cc n ret d av L E mc ms Post := by
  intro sz
  refine Met.ofW (cc := cc) (maxL := n) (ret := ret) hy rfl ?_
  intro p e s m args below meth c s₁ B hml hv
  obtain ⟨rfl, hsz, hP, hK, hD0, hZ, hN⟩ := hv
  subst hsz
  refine hv2 (atoms_spec (ws := .code y cc n ret :: lw_g) B.pre) (lv_entry av (n := n) hn) (fun hts hl => ?_)
  rw [lg_entry_eq]
  have hown := findClass_of_methodNamed B.named
  exact body p e s m _ below meth c _ ⟨B.exec, B.bytes, hml, hown, fun w hw => hts w (List.mem_cons_of_mem _ hw), hK, fun q h => Or.inr h, hZ, B.returns, B.notSynchronized, (name_of_methodNamed B.named B.method).1, hN⟩ s.heap [] _ hP hD0.self va_S.rf hl

theorem q_iconst (C : Cq p s m args meth c cc y ret G A nL) {n : Int} {v : Int32} (d : decode cc pc = .ok (.iconst n, 1)) (hv : Int32.ofInt n = v) (k : wq p l e R s m args below meth c G A nL Q L E kc ks (pc + 1) lv (.int v :: st)) : wq p l e R s m args below meth c G A nL Q L E kc ks pc lv st := fun H locs ls hP hD hS hl => lv_iconst C.1 C.2.1 d hv (k H locs ls hP hD hS hl)
theorem q_bipush (C : Cq p s m args meth c cc y ret G A nL) {n : Int} {v : Int32} (d : decode cc pc = .ok (.bipush n, 2)) (hv : (Int8.ofInt n).toInt32 = v) (k : wq p l e R s m args below meth c G A nL Q L E kc ks (pc + 2) lv (.int v :: st)) : wq p l e R s m args below meth c G A nL Q L E kc ks pc lv st := fun H locs ls hP hD hS hl => lv_bipush C.1 C.2.1 d hv (k H locs ls hP hD hS hl)
theorem q_sipush (C : Cq p s m args meth c cc y ret G A nL) {n : Int} {v : Int32} (d : decode cc pc = .ok (.sipush n, 3)) (hv : (Int16.ofInt n).toInt32 = v) (k : wq p l e R s m args below meth c G A nL Q L E kc ks (pc + 3) lv (.int v :: st)) : wq p l e R s m args below meth c G A nL Q L E kc ks pc lv st := fun H locs ls hP hD hS hl => lv_sipush C.1 C.2.1 d hv (k H locs ls hP hD hS hl)
theorem q_ldc (C : Cq p s m args meth c cc y ret G A nL) {idx : Nat} {v : Int32} (d : decode cc pc = .ok (.ldc idx, 2)) (hc : Cond.constant y.cls idx v ∈ lw_g) (k : wq p l e R s m args below meth c G A nL Q L E kc ks (pc + 2) lv (.int v :: st)) : wq p l e R s m args below meth c G A nL Q L E kc ks pc lv st := fun H locs ls hP hD hS hl => lv_ldc C.1 C.2.1 C.2.2.2.1 (C.2.2.2.2.1 _ hc) d (k H locs ls hP hD hS hl)
theorem q_ldcw (C : Cq p s m args meth c cc y ret G A nL) {idx : Nat} {v : Int32} (d : decode cc pc = .ok (.ldc_w idx, 3)) (hc : Cond.constant y.cls idx v ∈ lw_g) (k : wq p l e R s m args below meth c G A nL Q L E kc ks (pc + 3) lv (.int v :: st)) : wq p l e R s m args below meth c G A nL Q L E kc ks pc lv st := fun H locs ls hP hD hS hl => lv_ldcw C.1 C.2.1 C.2.2.2.1 (C.2.2.2.2.1 _ hc) d (k H locs ls hP hD hS hl)
theorem q_i2l (C : Cq p s m args meth c cc y ret G A nL) {x : Int32} {v : Int64} (d : decode cc pc = .ok (.i2l, 1)) (hv : x.toInt64 = v) (k : wq p l e R s m args below meth c G A nL Q L E kc ks (pc + 1) lv (.long v :: st)) : wq p l e R s m args below meth c G A nL Q L E kc ks pc lv (.int x :: st) := fun H locs ls hP hD hS hl => lv_i2l C.1 C.2.1 d hv (k H locs ls hP hD hS hl)
theorem q_l2i (C : Cq p s m args meth c cc y ret G A nL) {x : Int64} {v : Int32} (d : decode cc pc = .ok (.l2i, 1)) (hv : x.toInt32 = v) (k : wq p l e R s m args below meth c G A nL Q L E kc ks (pc + 1) lv (.int v :: st)) : wq p l e R s m args below meth c G A nL Q L E kc ks pc lv (.long x :: st) := fun H locs ls hP hD hS hl => lv_l2i C.1 C.2.1 d hv (k H locs ls hP hD hS hl)
theorem q_ladd (C : Cq p s m args meth c cc y ret G A nL) {x y2 v : Int64} (d : decode cc pc = .ok (.ladd, 1)) (hv : x + y2 = v) (k : wq p l e R s m args below meth c G A nL Q L E kc ks (pc + 1) lv (.long v :: st)) : wq p l e R s m args below meth c G A nL Q L E kc ks pc lv (.long y2 :: .long x :: st) := fun H locs ls hP hD hS hl => lv_ladd C.1 C.2.1 d (hv ▸ (k H locs ls hP hD hS hl))
theorem q_lconst (C : Cq p s m args meth c cc y ret G A nL) {n : Fin 2} {v : Int64} (d : decode cc pc = .ok (.lconst n, 1)) (hv : Int64.ofNat (n : Nat) = v) (k : wq p l e R s m args below meth c G A nL Q L E kc ks (pc + 1) lv (.long v :: st)) : wq p l e R s m args below meth c G A nL Q L E kc ks pc lv st := fun H locs ls hP hD hS hl => lv_lconst C.1 C.2.1 d hv (k H locs ls hP hD hS hl)
theorem q_lload (C : Cq p s m args meth c cc y ret G A nL) {i j : Nat} {x : Int64} (d : decode cc pc = .ok (.lload i, 2)) (hj : lv[j]? = some (i, .long x)) (k : wq p l e R s m args below meth c G A nL Q L E kc ks (pc + 2) lv (.long x :: st)) : wq p l e R s m args below meth c G A nL Q L E kc ks pc lv st := fun H locs ls hP hD hS hl => lv_lload C.1 C.2.1 d (lv_at hl j hj) (k H locs ls hP hD hS hl)
theorem q_lcmp (C : Cq p s m args meth c cc y ret G A nL) {x y2 : Int64} {v : Int32} (d : decode cc pc = .ok (.lcmp, 1)) (hv : lg_cmp x y2 = v) (k : wq p l e R s m args below meth c G A nL Q L E kc ks (pc + 1) lv (.int v :: st)) : wq p l e R s m args below meth c G A nL Q L E kc ks pc lv (.long y2 :: .long x :: st) := fun H locs ls hP hD hS hl => W.lcmp C.1 C.2.1 d (hv ▸ (k H locs ls hP hD hS hl))
theorem q_lstore (C : Cq p s m args meth c cc y ret G A nL) {i : Nat} {x : Int64} {lv2 : List (Nat × Value)} (d : decode cc pc = .ok (.lstore i, 2)) (hn : i + 1 < nL) (hl : (i, Value.long x) :: lv.filter (fun q => !(q.1 == i) && (!(q.1 == i + 1) && !(q.1 + 1 == i && q.2.category == 2))) = lv2) (k : wq p l e R s m args below meth c G A nL Q L E kc ks (pc + 2) lv2 st) : wq p l e R s m args below meth c G A nL Q L E kc ks pc lv (Value.long x :: st) := fun H locs ls hP hD hS h => lv_lstore C.1 C.2.1 d h hn hl (fun ls h => k H locs ls hP hD hS h)
theorem q_null (C : Cq p s m args meth c cc y ret G A nL)  (d : decode cc pc = .ok (.aconst_null, 1))  (k : wq p l e R s m args below meth c G A nL Q L E kc ks (pc + 1) lv (.null :: st)) : wq p l e R s m args below meth c G A nL Q L E kc ks pc lv st := fun H locs ls hP hD hS hl => lv_null C.1 C.2.1 d (k H locs ls hP hD hS hl)
theorem q_iload_n (C : Cq p s m args meth c cc y ret G A nL) {i : Fin 4} {j : Nat} {x : Int32} (d : decode cc pc = .ok (.iload_n i, 1)) (hj : lv[j]? = some ((i : Nat), .int x)) (k : wq p l e R s m args below meth c G A nL Q L E kc ks (pc + 1) lv (.int x :: st)) : wq p l e R s m args below meth c G A nL Q L E kc ks pc lv st := fun H locs ls hP hD hS hl => lv_iload_n C.1 C.2.1 d rfl (lv_at hl j hj) (k H locs ls hP hD hS hl)
theorem q_iload (C : Cq p s m args meth c cc y ret G A nL) {i : Nat} {j : Nat} {x : Int32} (d : decode cc pc = .ok (.iload i, 2)) (hj : lv[j]? = some (i, .int x)) (k : wq p l e R s m args below meth c G A nL Q L E kc ks (pc + 2) lv (.int x :: st)) : wq p l e R s m args below meth c G A nL Q L E kc ks pc lv st := fun H locs ls hP hD hS hl => lv_iload C.1 C.2.1 d (lv_at hl j hj) (k H locs ls hP hD hS hl)
theorem q_aload_n (C : Cq p s m args meth c cc y ret G A nL) {i : Fin 4} {j : Nat} {x : Nat} (d : decode cc pc = .ok (.aload_n i, 1)) (hj : lv[j]? = some ((i : Nat), .ref x)) (k : wq p l e R s m args below meth c G A nL Q L E kc ks (pc + 1) lv (.ref x :: st)) : wq p l e R s m args below meth c G A nL Q L E kc ks pc lv st := fun H locs ls hP hD hS hl => lv_aload_n C.1 C.2.1 d rfl (lv_at hl j hj) (k H locs ls hP hD hS hl)
theorem q_aload (C : Cq p s m args meth c cc y ret G A nL) {i : Nat} {j : Nat} {x : Nat} (d : decode cc pc = .ok (.aload i, 2)) (hj : lv[j]? = some (i, .ref x)) (k : wq p l e R s m args below meth c G A nL Q L E kc ks (pc + 2) lv (.ref x :: st)) : wq p l e R s m args below meth c G A nL Q L E kc ks pc lv st := fun H locs ls hP hD hS hl => lv_aload C.1 C.2.1 d (lv_at hl j hj) (k H locs ls hP hD hS hl)
theorem q_aload_nN (C : Cq p s m args meth c cc y ret G A nL) {i : Fin 4} {j : Nat} (d : decode cc pc = .ok (.aload_n i, 1)) (hj : lv[j]? = some ((i : Nat), .null)) (k : wq p l e R s m args below meth c G A nL Q L E kc ks (pc + 1) lv (.null :: st)) : wq p l e R s m args below meth c G A nL Q L E kc ks pc lv st := fun H locs ls hP hD hS hl => lv_aload_nN C.1 C.2.1 d rfl (lv_at hl j hj) (k H locs ls hP hD hS hl)
theorem q_aloadN (C : Cq p s m args meth c cc y ret G A nL) {i : Nat} {j : Nat} (d : decode cc pc = .ok (.aload i, 2)) (hj : lv[j]? = some (i, .null)) (k : wq p l e R s m args below meth c G A nL Q L E kc ks (pc + 2) lv (.null :: st)) : wq p l e R s m args below meth c G A nL Q L E kc ks pc lv st := fun H locs ls hP hD hS hl => lv_aloadN C.1 C.2.1 d (lv_at hl j hj) (k H locs ls hP hD hS hl)
theorem q_istore_n (C : Cq p s m args meth c cc y ret G A nL) {i : Fin 4} {x : Int32} {lv2 : List (Nat × Value)} (d : decode cc pc = .ok (.istore_n i, 1)) (hn : (i : Nat) < nL) (hl : ((i : Nat), Value.int x) :: lv.filter (fun q => !(q.1 == (i : Nat)) && !(q.1 + 1 == (i : Nat) && q.2.category == 2)) = lv2) (k : wq p l e R s m args below meth c G A nL Q L E kc ks (pc + 1) lv2 st) : wq p l e R s m args below meth c G A nL Q L E kc ks pc lv (Value.int x :: st) := fun H locs ls hP hD hS h => lv_istore_n C.1 C.2.1 d rfl h hn hl (fun ls h => k H locs ls hP hD hS h)
theorem q_istore (C : Cq p s m args meth c cc y ret G A nL) {i : Nat} {x : Int32} {lv2 : List (Nat × Value)} (d : decode cc pc = .ok (.istore i, 2)) (hn : i < nL) (hl : (i, Value.int x) :: lv.filter (fun q => !(q.1 == i) && !(q.1 + 1 == i && q.2.category == 2)) = lv2) (k : wq p l e R s m args below meth c G A nL Q L E kc ks (pc + 2) lv2 st) : wq p l e R s m args below meth c G A nL Q L E kc ks pc lv (Value.int x :: st) := fun H locs ls hP hD hS h => lv_istore C.1 C.2.1 d h hn hl (fun ls h => k H locs ls hP hD hS h)
theorem q_astore_n (C : Cq p s m args meth c cc y ret G A nL) {i : Fin 4} {x : Nat} {lv2 : List (Nat × Value)} (d : decode cc pc = .ok (.astore_n i, 1)) (hn : (i : Nat) < nL) (hl : ((i : Nat), Value.ref x) :: lv.filter (fun q => !(q.1 == (i : Nat)) && !(q.1 + 1 == (i : Nat) && q.2.category == 2)) = lv2) (k : wq p l e R s m args below meth c G A nL Q L E kc ks (pc + 1) lv2 st) : wq p l e R s m args below meth c G A nL Q L E kc ks pc lv (Value.ref x :: st) := fun H locs ls hP hD hS h => lv_astore_n C.1 C.2.1 d rfl h hn hl (fun ls h => k H locs ls hP hD hS h)
theorem q_astore (C : Cq p s m args meth c cc y ret G A nL) {i : Nat} {x : Nat} {lv2 : List (Nat × Value)} (d : decode cc pc = .ok (.astore i, 2)) (hn : i < nL) (hl : (i, Value.ref x) :: lv.filter (fun q => !(q.1 == i) && !(q.1 + 1 == i && q.2.category == 2)) = lv2) (k : wq p l e R s m args below meth c G A nL Q L E kc ks (pc + 2) lv2 st) : wq p l e R s m args below meth c G A nL Q L E kc ks pc lv (Value.ref x :: st) := fun H locs ls hP hD hS h => lv_astore C.1 C.2.1 d h hn hl (fun ls h => k H locs ls hP hD hS h)
theorem q_astore_nN (C : Cq p s m args meth c cc y ret G A nL) {i : Fin 4}  {lv2 : List (Nat × Value)} (d : decode cc pc = .ok (.astore_n i, 1)) (hn : (i : Nat) < nL) (hl : ((i : Nat), Value.null) :: lv.filter (fun q => !(q.1 == (i : Nat)) && !(q.1 + 1 == (i : Nat) && q.2.category == 2)) = lv2) (k : wq p l e R s m args below meth c G A nL Q L E kc ks (pc + 1) lv2 st) : wq p l e R s m args below meth c G A nL Q L E kc ks pc lv (Value.null :: st) := fun H locs ls hP hD hS h => lv_astore_nN C.1 C.2.1 d rfl h hn hl (fun ls h => k H locs ls hP hD hS h)
theorem q_astoreN (C : Cq p s m args meth c cc y ret G A nL) {i : Nat}  {lv2 : List (Nat × Value)} (d : decode cc pc = .ok (.astore i, 2)) (hn : i < nL) (hl : (i, Value.null) :: lv.filter (fun q => !(q.1 == i) && !(q.1 + 1 == i && q.2.category == 2)) = lv2) (k : wq p l e R s m args below meth c G A nL Q L E kc ks (pc + 2) lv2 st) : wq p l e R s m args below meth c G A nL Q L E kc ks pc lv (Value.null :: st) := fun H locs ls hP hD hS h => lv_astoreN C.1 C.2.1 d h hn hl (fun ls h => k H locs ls hP hD hS h)
theorem q_iinc (C : Cq p s m args meth c cc y ret G A nL) {i j : Nat} {n : Int} {x v : Int32} {lv2 : List (Nat × Value)} (d : decode cc pc = .ok (.iinc i n, 3)) (hj : lv[j]? = some (i, .int x)) (hv : x + Int32.ofInt n = v) (hn : i < nL) (hl : (i, Value.int v) :: lv.filter (fun q => !(q.1 == i) && !(q.1 + 1 == i && q.2.category == 2)) = lv2) (k : wq p l e R s m args below meth c G A nL Q L E kc ks (pc + 3) lv2 st) : wq p l e R s m args below meth c G A nL Q L E kc ks pc lv st := fun H locs ls hP hD hS h => lv_iinc C.1 C.2.1 d h hj hv hn hl (fun ls h => k H locs ls hP hD hS h)
theorem q_iadd (C : Cq p s m args meth c cc y ret G A nL) {x y2 v : Int32} (d : decode cc pc = .ok (.iadd, 1)) (hv : x + y2 = v) (k : wq p l e R s m args below meth c G A nL Q L E kc ks (pc + 1) lv (.int v :: st)) : wq p l e R s m args below meth c G A nL Q L E kc ks pc lv (.int y2 :: .int x :: st) := fun H locs ls hP hD hS hl => lv_iadd C.1 C.2.1 d (hv ▸ (k H locs ls hP hD hS hl))
theorem q_isub (C : Cq p s m args meth c cc y ret G A nL) {x y2 v : Int32} (d : decode cc pc = .ok (.isub, 1)) (hv : x - y2 = v) (k : wq p l e R s m args below meth c G A nL Q L E kc ks (pc + 1) lv (.int v :: st)) : wq p l e R s m args below meth c G A nL Q L E kc ks pc lv (.int y2 :: .int x :: st) := fun H locs ls hP hD hS hl => lv_isub C.1 C.2.1 d (hv ▸ (k H locs ls hP hD hS hl))
theorem q_imul (C : Cq p s m args meth c cc y ret G A nL) {x y2 v : Int32} (d : decode cc pc = .ok (.imul, 1)) (hv : x * y2 = v) (k : wq p l e R s m args below meth c G A nL Q L E kc ks (pc + 1) lv (.int v :: st)) : wq p l e R s m args below meth c G A nL Q L E kc ks pc lv (.int y2 :: .int x :: st) := fun H locs ls hP hD hS hl => lv_imul C.1 C.2.1 d (hv ▸ (k H locs ls hP hD hS hl))
theorem q_iand (C : Cq p s m args meth c cc y ret G A nL) {x y2 v : Int32} (d : decode cc pc = .ok (.iand, 1)) (hv : x &&& y2 = v) (k : wq p l e R s m args below meth c G A nL Q L E kc ks (pc + 1) lv (.int v :: st)) : wq p l e R s m args below meth c G A nL Q L E kc ks pc lv (.int y2 :: .int x :: st) := fun H locs ls hP hD hS hl => lv_iand C.1 C.2.1 d (hv ▸ (k H locs ls hP hD hS hl))
theorem q_ior (C : Cq p s m args meth c cc y ret G A nL) {x y2 v : Int32} (d : decode cc pc = .ok (.ior, 1)) (hv : x ||| y2 = v) (k : wq p l e R s m args below meth c G A nL Q L E kc ks (pc + 1) lv (.int v :: st)) : wq p l e R s m args below meth c G A nL Q L E kc ks pc lv (.int y2 :: .int x :: st) := fun H locs ls hP hD hS hl => lv_ior C.1 C.2.1 d (hv ▸ (k H locs ls hP hD hS hl))
theorem q_ixor (C : Cq p s m args meth c cc y ret G A nL) {x y2 v : Int32} (d : decode cc pc = .ok (.ixor, 1)) (hv : x ^^^ y2 = v) (k : wq p l e R s m args below meth c G A nL Q L E kc ks (pc + 1) lv (.int v :: st)) : wq p l e R s m args below meth c G A nL Q L E kc ks pc lv (.int y2 :: .int x :: st) := fun H locs ls hP hD hS hl => lv_ixor C.1 C.2.1 d (hv ▸ (k H locs ls hP hD hS hl))
theorem q_ishl (C : Cq p s m args meth c cc y ret G A nL) {x y2 v : Int32} (d : decode cc pc = .ok (.ishl, 1)) (hv : x <<< (y2 &&& 31) = v) (k : wq p l e R s m args below meth c G A nL Q L E kc ks (pc + 1) lv (.int v :: st)) : wq p l e R s m args below meth c G A nL Q L E kc ks pc lv (.int y2 :: .int x :: st) := fun H locs ls hP hD hS hl => lv_ishl C.1 C.2.1 d (hv ▸ (k H locs ls hP hD hS hl))
theorem q_ishr (C : Cq p s m args meth c cc y ret G A nL) {x y2 v : Int32} (d : decode cc pc = .ok (.ishr, 1)) (hv : x >>> (y2 &&& 31) = v) (k : wq p l e R s m args below meth c G A nL Q L E kc ks (pc + 1) lv (.int v :: st)) : wq p l e R s m args below meth c G A nL Q L E kc ks pc lv (.int y2 :: .int x :: st) := fun H locs ls hP hD hS hl => lv_ishr C.1 C.2.1 d (hv ▸ (k H locs ls hP hD hS hl))
theorem q_iushr (C : Cq p s m args meth c cc y ret G A nL) {x y2 v : Int32} (d : decode cc pc = .ok (.iushr, 1)) (hv : (x.toUInt32 >>> (y2.toUInt32 &&& Int32.toUInt32 31)).toInt32 = v) (k : wq p l e R s m args below meth c G A nL Q L E kc ks (pc + 1) lv (.int v :: st)) : wq p l e R s m args below meth c G A nL Q L E kc ks pc lv (.int y2 :: .int x :: st) := fun H locs ls hP hD hS hl => lv_iushr C.1 C.2.1 d hv (k H locs ls hP hD hS hl)
theorem q_idiv (C : Cq p s m args meth c cc y ret G A nL) {x y2 v : Int32} (d : decode cc pc = .ok (.idiv, 1)) (hne : ¬ y2 = 0) (hv : x / y2 = v) (k : wq p l e R s m args below meth c G A nL Q L E kc ks (pc + 1) lv (.int v :: st)) : wq p l e R s m args below meth c G A nL Q L E kc ks pc lv (.int y2 :: .int x :: st) := fun H locs ls hP hD hS hl => lv_idiv C.1 C.2.1 d hne (hv ▸ (k H locs ls hP hD hS hl))
theorem q_ineg (C : Cq p s m args meth c cc y ret G A nL) {x v : Int32} (d : decode cc pc = .ok (.ineg, 1)) (hv : -x = v) (k : wq p l e R s m args below meth c G A nL Q L E kc ks (pc + 1) lv (.int v :: st)) : wq p l e R s m args below meth c G A nL Q L E kc ks pc lv (.int x :: st) := fun H locs ls hP hD hS hl => lv_ineg C.1 C.2.1 d (hv ▸ (k H locs ls hP hD hS hl))
theorem q_dup (C : Cq p s m args meth c cc y ret G A nL) {v : Value} (d : decode cc pc = .ok (.dup, 1)) (hv : v.category = 1) (k : wq p l e R s m args below meth c G A nL Q L E kc ks (pc + 1) lv (v :: v :: st)) : wq p l e R s m args below meth c G A nL Q L E kc ks pc lv (v :: st) := fun H locs ls hP hD hS hl => lv_dup C.1 C.2.1 d hv (k H locs ls hP hD hS hl)
theorem q_pop (C : Cq p s m args meth c cc y ret G A nL) {v : Value} (d : decode cc pc = .ok (.pop, 1)) (hv : v.category = 1) (k : wq p l e R s m args below meth c G A nL Q L E kc ks (pc + 1) lv st) : wq p l e R s m args below meth c G A nL Q L E kc ks pc lv (v :: st) := fun H locs ls hP hD hS hl => lv_pop C.1 C.2.1 d hv (k H locs ls hP hD hS hl)
theorem q_dup_x1 (C : Cq p s m args meth c cc y ret G A nL) {v w : Value} (d : decode cc pc = .ok (.dup_x1, 1)) (hv : v.category = 1) (hw : w.category = 1) (k : wq p l e R s m args below meth c G A nL Q L E kc ks (pc + 1) lv (v :: w :: v :: st)) : wq p l e R s m args below meth c G A nL Q L E kc ks pc lv (v :: w :: st) := fun H locs ls hP hD hS hl => lv_dup_x1 C.1 C.2.1 d hv hw (k H locs ls hP hD hS hl)
theorem q_dup2 (C : Cq p s m args meth c cc y ret G A nL) {v w : Value} (d : decode cc pc = .ok (.dup2, 1)) (hv : v.category = 1) (hw : w.category = 1) (k : wq p l e R s m args below meth c G A nL Q L E kc ks (pc + 1) lv (v :: w :: v :: w :: st)) : wq p l e R s m args below meth c G A nL Q L E kc ks pc lv (v :: w :: st) := fun H locs ls hP hD hS hl => lv_dup2_11 C.1 C.2.1 d hv hw (k H locs ls hP hD hS hl)
theorem q_if_eq (C : Cq p s m args meth c cc y ret G A nL) {x : Int32} {off : Int} {tgt : Nat} (d : decode cc pc = .ok (.ifCond .eq off, 3)) (ht : (pc : Int) + off = (tgt : Int)) (kt : x = 0 → wq p l e R s m args below meth c G A nL Q L E kc ks tgt lv st) (kf : ¬ x = 0 → wq p l e R s m args below meth c G A nL Q L E kc ks (pc + 3) lv st) : wq p l e R s m args below meth c G A nL Q L E kc ks pc lv (.int x :: st) := fun H locs ls hP hD hS hl => lv_if_eq C.1 C.2.1 d ht (fun h => kt h H locs ls hP hD hS hl) (fun h => kf h H locs ls hP hD hS hl)
theorem q_if_ne (C : Cq p s m args meth c cc y ret G A nL) {x : Int32} {off : Int} {tgt : Nat} (d : decode cc pc = .ok (.ifCond .ne off, 3)) (ht : (pc : Int) + off = (tgt : Int)) (kt : ¬ x = 0 → wq p l e R s m args below meth c G A nL Q L E kc ks tgt lv st) (kf : x = 0 → wq p l e R s m args below meth c G A nL Q L E kc ks (pc + 3) lv st) : wq p l e R s m args below meth c G A nL Q L E kc ks pc lv (.int x :: st) := fun H locs ls hP hD hS hl => lv_if_ne C.1 C.2.1 d ht (fun h => kt h H locs ls hP hD hS hl) (fun h => kf h H locs ls hP hD hS hl)
theorem q_if_lt (C : Cq p s m args meth c cc y ret G A nL) {x : Int32} {off : Int} {tgt : Nat} (d : decode cc pc = .ok (.ifCond .lt off, 3)) (ht : (pc : Int) + off = (tgt : Int)) (kt : x < 0 → wq p l e R s m args below meth c G A nL Q L E kc ks tgt lv st) (kf : ¬ x < 0 → wq p l e R s m args below meth c G A nL Q L E kc ks (pc + 3) lv st) : wq p l e R s m args below meth c G A nL Q L E kc ks pc lv (.int x :: st) := fun H locs ls hP hD hS hl => lv_if_lt C.1 C.2.1 d ht (fun h => kt h H locs ls hP hD hS hl) (fun h => kf h H locs ls hP hD hS hl)
theorem q_if_ge (C : Cq p s m args meth c cc y ret G A nL) {x : Int32} {off : Int} {tgt : Nat} (d : decode cc pc = .ok (.ifCond .ge off, 3)) (ht : (pc : Int) + off = (tgt : Int)) (kt : 0 ≤ x → wq p l e R s m args below meth c G A nL Q L E kc ks tgt lv st) (kf : ¬ 0 ≤ x → wq p l e R s m args below meth c G A nL Q L E kc ks (pc + 3) lv st) : wq p l e R s m args below meth c G A nL Q L E kc ks pc lv (.int x :: st) := fun H locs ls hP hD hS hl => lv_if_ge C.1 C.2.1 d ht (fun h => kt h H locs ls hP hD hS hl) (fun h => kf h H locs ls hP hD hS hl)
theorem q_if_gt (C : Cq p s m args meth c cc y ret G A nL) {x : Int32} {off : Int} {tgt : Nat} (d : decode cc pc = .ok (.ifCond .gt off, 3)) (ht : (pc : Int) + off = (tgt : Int)) (kt : 0 < x → wq p l e R s m args below meth c G A nL Q L E kc ks tgt lv st) (kf : ¬ 0 < x → wq p l e R s m args below meth c G A nL Q L E kc ks (pc + 3) lv st) : wq p l e R s m args below meth c G A nL Q L E kc ks pc lv (.int x :: st) := fun H locs ls hP hD hS hl => lv_if_gt C.1 C.2.1 d ht (fun h => kt h H locs ls hP hD hS hl) (fun h => kf h H locs ls hP hD hS hl)
theorem q_if_le (C : Cq p s m args meth c cc y ret G A nL) {x : Int32} {off : Int} {tgt : Nat} (d : decode cc pc = .ok (.ifCond .le off, 3)) (ht : (pc : Int) + off = (tgt : Int)) (kt : x ≤ 0 → wq p l e R s m args below meth c G A nL Q L E kc ks tgt lv st) (kf : ¬ x ≤ 0 → wq p l e R s m args below meth c G A nL Q L E kc ks (pc + 3) lv st) : wq p l e R s m args below meth c G A nL Q L E kc ks pc lv (.int x :: st) := fun H locs ls hP hD hS hl => lv_if_le C.1 C.2.1 d ht (fun h => kt h H locs ls hP hD hS hl) (fun h => kf h H locs ls hP hD hS hl)
theorem q_icmp_eq (C : Cq p s m args meth c cc y ret G A nL) {x y2 : Int32} {off : Int} {tgt : Nat} (d : decode cc pc = .ok (.if_icmp .eq off, 3)) (ht : (pc : Int) + off = (tgt : Int)) (kt : x = y2 → wq p l e R s m args below meth c G A nL Q L E kc ks tgt lv st) (kf : ¬ x = y2 → wq p l e R s m args below meth c G A nL Q L E kc ks (pc + 3) lv st) : wq p l e R s m args below meth c G A nL Q L E kc ks pc lv (.int y2 :: .int x :: st) := fun H locs ls hP hD hS hl => lv_icmp_eq C.1 C.2.1 d ht (fun h => kt h H locs ls hP hD hS hl) (fun h => kf h H locs ls hP hD hS hl)
theorem q_icmp_ne (C : Cq p s m args meth c cc y ret G A nL) {x y2 : Int32} {off : Int} {tgt : Nat} (d : decode cc pc = .ok (.if_icmp .ne off, 3)) (ht : (pc : Int) + off = (tgt : Int)) (kt : ¬ x = y2 → wq p l e R s m args below meth c G A nL Q L E kc ks tgt lv st) (kf : x = y2 → wq p l e R s m args below meth c G A nL Q L E kc ks (pc + 3) lv st) : wq p l e R s m args below meth c G A nL Q L E kc ks pc lv (.int y2 :: .int x :: st) := fun H locs ls hP hD hS hl => lv_icmp_ne C.1 C.2.1 d ht (fun h => kt h H locs ls hP hD hS hl) (fun h => kf h H locs ls hP hD hS hl)
theorem q_icmp_lt (C : Cq p s m args meth c cc y ret G A nL) {x y2 : Int32} {off : Int} {tgt : Nat} (d : decode cc pc = .ok (.if_icmp .lt off, 3)) (ht : (pc : Int) + off = (tgt : Int)) (kt : x < y2 → wq p l e R s m args below meth c G A nL Q L E kc ks tgt lv st) (kf : ¬ x < y2 → wq p l e R s m args below meth c G A nL Q L E kc ks (pc + 3) lv st) : wq p l e R s m args below meth c G A nL Q L E kc ks pc lv (.int y2 :: .int x :: st) := fun H locs ls hP hD hS hl => lv_icmp_lt C.1 C.2.1 d ht (fun h => kt h H locs ls hP hD hS hl) (fun h => kf h H locs ls hP hD hS hl)
theorem q_icmp_ge (C : Cq p s m args meth c cc y ret G A nL) {x y2 : Int32} {off : Int} {tgt : Nat} (d : decode cc pc = .ok (.if_icmp .ge off, 3)) (ht : (pc : Int) + off = (tgt : Int)) (kt : y2 ≤ x → wq p l e R s m args below meth c G A nL Q L E kc ks tgt lv st) (kf : ¬ y2 ≤ x → wq p l e R s m args below meth c G A nL Q L E kc ks (pc + 3) lv st) : wq p l e R s m args below meth c G A nL Q L E kc ks pc lv (.int y2 :: .int x :: st) := fun H locs ls hP hD hS hl => lv_icmp_ge C.1 C.2.1 d ht (fun h => kt h H locs ls hP hD hS hl) (fun h => kf h H locs ls hP hD hS hl)
theorem q_icmp_gt (C : Cq p s m args meth c cc y ret G A nL) {x y2 : Int32} {off : Int} {tgt : Nat} (d : decode cc pc = .ok (.if_icmp .gt off, 3)) (ht : (pc : Int) + off = (tgt : Int)) (kt : y2 < x → wq p l e R s m args below meth c G A nL Q L E kc ks tgt lv st) (kf : ¬ y2 < x → wq p l e R s m args below meth c G A nL Q L E kc ks (pc + 3) lv st) : wq p l e R s m args below meth c G A nL Q L E kc ks pc lv (.int y2 :: .int x :: st) := fun H locs ls hP hD hS hl => lv_icmp_gt C.1 C.2.1 d ht (fun h => kt h H locs ls hP hD hS hl) (fun h => kf h H locs ls hP hD hS hl)
theorem q_icmp_le (C : Cq p s m args meth c cc y ret G A nL) {x y2 : Int32} {off : Int} {tgt : Nat} (d : decode cc pc = .ok (.if_icmp .le off, 3)) (ht : (pc : Int) + off = (tgt : Int)) (kt : x ≤ y2 → wq p l e R s m args below meth c G A nL Q L E kc ks tgt lv st) (kf : ¬ x ≤ y2 → wq p l e R s m args below meth c G A nL Q L E kc ks (pc + 3) lv st) : wq p l e R s m args below meth c G A nL Q L E kc ks pc lv (.int y2 :: .int x :: st) := fun H locs ls hP hD hS hl => lv_icmp_le C.1 C.2.1 d ht (fun h => kt h H locs ls hP hD hS hl) (fun h => kf h H locs ls hP hD hS hl)
theorem q_acmp_eq (C : Cq p s m args meth c cc y ret G A nL) {rx ry : Option Nat} {off : Int} {tgt : Nat} (d : decode cc pc = .ok (.if_acmp .eq off, 3)) (ht : (pc : Int) + off = (tgt : Int)) (kt : rx = ry → wq p l e R s m args below meth c G A nL Q L E kc ks tgt lv st) (kf : ¬ rx = ry → wq p l e R s m args below meth c G A nL Q L E kc ks (pc + 3) lv st) : wq p l e R s m args below meth c G A nL Q L E kc ks pc lv (va_rf ry :: va_rf rx :: st) := fun H locs ls hP hD hS hl => lv_acmp_eq C.1 C.2.1 d ht (fun h => kt h H locs ls hP hD hS hl) (fun h => kf h H locs ls hP hD hS hl)
theorem q_acmp_ne (C : Cq p s m args meth c cc y ret G A nL) {rx ry : Option Nat} {off : Int} {tgt : Nat} (d : decode cc pc = .ok (.if_acmp .ne off, 3)) (ht : (pc : Int) + off = (tgt : Int)) (kt : ¬ rx = ry → wq p l e R s m args below meth c G A nL Q L E kc ks tgt lv st) (kf : rx = ry → wq p l e R s m args below meth c G A nL Q L E kc ks (pc + 3) lv st) : wq p l e R s m args below meth c G A nL Q L E kc ks pc lv (va_rf ry :: va_rf rx :: st) := fun H locs ls hP hD hS hl => lv_acmp_ne C.1 C.2.1 d ht (fun h => kt h H locs ls hP hD hS hl) (fun h => kf h H locs ls hP hD hS hl)
theorem q_goto (C : Cq p s m args meth c cc y ret G A nL) {off : Int} {tgt : Nat} (d : decode cc pc = .ok (.goto off, 3)) (ht : (pc : Int) + off = (tgt : Int)) (k : wq p l e R s m args below meth c G A nL Q L E kc ks tgt lv st) : wq p l e R s m args below meth c G A nL Q L E kc ks pc lv st := fun H locs ls hP hD hS hl => lv_goto C.1 C.2.1 d ht (k H locs ls hP hD hS hl)
theorem q_ifnonnull (C : Cq p s m args meth c cc y ret G A nL) {x : Nat} {off : Int} {tgt : Nat} (d : decode cc pc = .ok (.ifnonnull off, 3)) (ht : (pc : Int) + off = (tgt : Int)) (k : wq p l e R s m args below meth c G A nL Q L E kc ks tgt lv st) : wq p l e R s m args below meth c G A nL Q L E kc ks pc lv (.ref x :: st) := fun H locs ls hP hD hS hl => lv_ifnonnull C.1 C.2.1 d ht (k H locs ls hP hD hS hl)
theorem q_ifnonnullN (C : Cq p s m args meth c cc y ret G A nL) {off : Int} (d : decode cc pc = .ok (.ifnonnull off, 3))  (k : wq p l e R s m args below meth c G A nL Q L E kc ks (pc + 3) lv st) : wq p l e R s m args below meth c G A nL Q L E kc ks pc lv (.null :: st) := fun H locs ls hP hD hS hl => lv_ifnonnullN C.1 C.2.1 d (k H locs ls hP hD hS hl)
theorem q_ifnull (C : Cq p s m args meth c cc y ret G A nL) {x : Nat} {off : Int} (d : decode cc pc = .ok (.ifnull off, 3))  (k : wq p l e R s m args below meth c G A nL Q L E kc ks (pc + 3) lv st) : wq p l e R s m args below meth c G A nL Q L E kc ks pc lv (.ref x :: st) := fun H locs ls hP hD hS hl => lv_ifnull C.1 C.2.1 d (k H locs ls hP hD hS hl)
theorem q_ifnullN (C : Cq p s m args meth c cc y ret G A nL) {off : Int} {tgt : Nat} (d : decode cc pc = .ok (.ifnull off, 3)) (ht : (pc : Int) + off = (tgt : Int)) (k : wq p l e R s m args below meth c G A nL Q L E kc ks tgt lv st) : wq p l e R s m args below meth c G A nL Q L E kc ks pc lv (.null :: st) := fun H locs ls hP hD hS hl => lv_ifnullN C.1 C.2.1 d ht (k H locs ls hP hD hS hl)
theorem q_get (C : Cq p s m args meth c cc y ret G A nL) {a ci N k idx : Nat} {Cn : String} {T : u_T} {ty : Nat → FieldType} {f : Nat → Value} {v : Value} (ck : Ck ci Cn T N ty) (d : decode cc pc = .ok (.getfield idx, 3)) (lk : Cond.fieldLink y.cls idx (T k).1 (T k).2.1 (T k).2.2.1 ∈ lw_g) (hk : k < N) (ha : a ∈ L) (hE : E a = ob ci N f) (hv : f k = v) (kk : wq p l e R s m args below meth c G A nL Q L E kc ks (pc + 3) lv (v :: st)) : wq p l e R s m args below meth c G A nL Q L E kc ks pc lv (.ref a :: st) := by
  intro H locs ls hP hD hS hl
  obtain ⟨q0, hq⟩ := pl_at (E := E) ha
  exact va_get (D := G.1) C.1 C.2.1 C.2.2.2.2.1 ck.2.1 C.2.2.2.1 C.2.2.2.2.2.1 hP q0 (by rw [hq, hE]; rfl) ck.1 k hk (C.2.2.2.2.1 _ lk) (fun _ h => h) (by rw [ob_get hk, hv]) d (kk H locs ls hP hD hS hl)
theorem q_put (C : Cq p s m args meth c cc y ret G A nL) {a ci N k idx : Nat} {Cn : String} {T : u_T} {ty : Nat → FieldType} {f : Nat → Value} {v : Value} (ck : Ck ci Cn T N ty) (d : decode cc pc = .ok (.putfield idx, 3)) (lk : Cond.fieldLink y.cls idx (T k).1 (T k).2.1 (T k).2.2.1 ∈ lw_g) (hk : k < N) (hfin : (T k).2.2.2 = false) (ha : a ∈ L) (hE : E a = ob ci N f) (hn : narrow (ty k) v = v) (hfit : fits (ty k) v = true) (kk : wq p l e R s m args below meth c G A nL Q L (va_up E a (ob ci N (va_up f k v))) kc ks (pc + 3) lv st) : wq p l e R s m args below meth c G A nL Q L E kc ks pc lv (v :: .ref a :: st) := by
  intro H locs ls hP hD hS hl
  obtain ⟨q0, hq⟩ := pl_at (E := E) ha
  refine va_put (D := G.1) C.1 C.2.1 C.2.2.2.2.1 ck.2.1 ty ck.2.2.1 ck.2.2.2 C.2.2.2.1 C.2.2.2.2.2.1 hP hD hS q0 (by rw [hq, hE]; rfl) ck.1 k hk (C.2.2.2.2.1 _ lk) (fun _ h => h) hfin (ck.2.2.1 k hk) hn hfit (by simpa using hk) d (fun H1 locs1 hP1 hD1 hS1 => ?_)
  rw [ob_set hk, pl_set hD ha hq] at hP1 hD1
  exact kk H1 locs1 ls hP1 hD1 hS1 hl
theorem q_putF (C : Cq p s m args meth c cc y ret G A nL) {a ci N k idx : Nat} {Cn : String} {T : u_T} {ty : Nat → FieldType} {f : Nat → Value} {v : Value} (ck : Ck ci Cn T N ty) (d : decode cc pc = .ok (.putfield idx, 3)) (lk : Cond.fieldLink y.cls idx (T k).1 (T k).2.1 (T k).2.2.1 ∈ lw_g) (hk : k < N) (hfin : (T k).2.2.2 = true) (hi : y.name = "<init>") (hd : (T k).1 = y.cls) (ha : a ∈ L) (hE : E a = ob ci N f) (hn : narrow (ty k) v = v) (hfit : fits (ty k) v = true) (kk : wq p l e R s m args below meth c G A nL Q L (va_up E a (ob ci N (va_up f k v))) kc ks (pc + 3) lv st) : wq p l e R s m args below meth c G A nL Q L E kc ks pc lv (v :: .ref a :: st) := by
  intro H locs ls hP hD hS hl
  obtain ⟨q0, hq⟩ := pl_at (E := E) ha
  refine va_putF (D := G.1) C.1 C.2.1 C.2.2.2.2.1 ck.2.1 ty ck.2.2.1 ck.2.2.2 C.2.2.2.1 C.2.2.2.2.2.1 hP hD hS q0 (by rw [hq, hE]; rfl) ck.1 k hk (C.2.2.2.2.1 _ lk) (fun _ h => h) hfin (C.2.2.2.2.2.2.2.2.2.2.1.trans hi) hd (ck.2.2.1 k hk) hn hfit (by simpa using hk) d (fun H1 locs1 hP1 hD1 hS1 => ?_)
  rw [ob_set hk, pl_set hD ha hq] at hP1 hD1
  exact kk H1 locs1 ls hP1 hD1 hS1 hl
theorem q_getU (C : Cq p s m args meth c cc y ret G A nL) {ref : String} {a ci N k idx : Nat} {Cn : String} {T : u_T} {ty : Nat → FieldType} {f : Nat → Value} {v : Value} (ck : Ck ci Cn T N ty) (d : decode cc pc = .ok (.getfield idx, 3)) (lk : Cond.fieldLink y.cls idx ref (T k).2.1 (T k).2.2.1 ∈ lw_g) (hsm : Cond.sameField ref (T k).1 (T k).2.1 (T k).2.2.1 ∈ lw_g) (hk : k < N) (ha : a ∈ L) (hE : E a = ob ci N f) (hv : f k = v) (kk : wq p l e R s m args below meth c G A nL Q L E kc ks (pc + 3) lv (v :: st)) : wq p l e R s m args below meth c G A nL Q L E kc ks pc lv (.ref a :: st) := by
  intro H locs ls hP hD hS hl
  obtain ⟨q0, hq⟩ := pl_at (E := E) ha
  exact va_get (D := G.1) C.1 C.2.1 C.2.2.2.2.1 ck.2.1 C.2.2.2.1 C.2.2.2.2.2.1 hP q0 (by rw [hq, hE]; rfl) ck.1 k hk (C.2.2.2.2.1 _ lk) (fun x h => u_same (C.2.2.2.2.1 _ hsm) x h) (by rw [ob_get hk, hv]) d (kk H locs ls hP hD hS hl)
theorem q_putU (C : Cq p s m args meth c cc y ret G A nL) {ref : String} {a ci N k idx : Nat} {Cn : String} {T : u_T} {ty : Nat → FieldType} {f : Nat → Value} {v : Value} (ck : Ck ci Cn T N ty) (d : decode cc pc = .ok (.putfield idx, 3)) (lk : Cond.fieldLink y.cls idx ref (T k).2.1 (T k).2.2.1 ∈ lw_g) (hsm : Cond.sameField ref (T k).1 (T k).2.1 (T k).2.2.1 ∈ lw_g) (hk : k < N) (hfin : (T k).2.2.2 = false) (ha : a ∈ L) (hE : E a = ob ci N f) (hn : narrow (ty k) v = v) (hfit : fits (ty k) v = true) (kk : wq p l e R s m args below meth c G A nL Q L (va_up E a (ob ci N (va_up f k v))) kc ks (pc + 3) lv st) : wq p l e R s m args below meth c G A nL Q L E kc ks pc lv (v :: .ref a :: st) := by
  intro H locs ls hP hD hS hl
  obtain ⟨q0, hq⟩ := pl_at (E := E) ha
  refine va_put (D := G.1) C.1 C.2.1 C.2.2.2.2.1 ck.2.1 ty ck.2.2.1 ck.2.2.2 C.2.2.2.1 C.2.2.2.2.2.1 hP hD hS q0 (by rw [hq, hE]; rfl) ck.1 k hk (C.2.2.2.2.1 _ lk) (fun x h => u_same (C.2.2.2.2.1 _ hsm) x h) hfin (ck.2.2.1 k hk) hn hfit (by simpa using hk) d (fun H1 locs1 hP1 hD1 hS1 => ?_)
  rw [ob_set hk, pl_set hD ha hq] at hP1 hD1
  exact kk H1 locs1 ls hP1 hD1 hS1 hl
theorem q_iald (C : Cq p s m args meth c cc y ret G A nL) {a n : Nat} {f : Nat → Int32} {i v : Int32} (d : decode cc pc = .ok (.iaload, 1)) (ha : a ∈ L) (hE : E a = aI G n f) (hin : vp_in i n) (hv : f i.toNatClampNeg = v) (kk : wq p l e R s m args below meth c G A nL Q L E kc ks (pc + 1) lv (.int v :: st)) : wq p l e R s m args below meth c G A nL Q L E kc ks pc lv (.int i :: .ref a :: st) := by
  intro H locs ls hP hD hS hl
  obtain ⟨q0, hq⟩ := pl_at (E := E) ha
  exact va_iald C.1 C.2.1 C.2.2.2.2.2.1 hP q0 0 (by rw [hq, hE]; rfl) rfl hin d (hv ▸ kk H locs ls hP hD hS hl)
theorem q_zald (C : Cq p s m args meth c cc y ret G A nL) {a n : Nat} {f : Nat → Int32} {i v : Int32} (d : decode cc pc = .ok (.baload, 1)) (ha : a ∈ L) (hE : E a = aZ G n f) (hin : vp_in i n) (hv : f i.toNatClampNeg = v) (kk : wq p l e R s m args below meth c G A nL Q L E kc ks (pc + 1) lv (.int v :: st)) : wq p l e R s m args below meth c G A nL Q L E kc ks pc lv (.int i :: .ref a :: st) := by
  intro H locs ls hP hD hS hl
  obtain ⟨q0, hq⟩ := pl_at (E := E) ha
  exact va_zald C.1 C.2.1 C.2.2.2.2.2.1 hP q0 1 (by rw [hq, hE]; rfl) rfl hin d (hv ▸ kk H locs ls hP hD hS hl)
theorem q_iast (C : Cq p s m args meth c cc y ret G A nL) {a n : Nat} {f : Nat → Int32} {i x : Int32} (d : decode cc pc = .ok (.iastore, 1)) (ha : a ∈ L) (hE : E a = aI G n f) (hin : vp_in i n) (kk : wq p l e R s m args below meth c G A nL Q L (va_up E a (aI G n (upd f i.toNatClampNeg x))) kc ks (pc + 1) lv st) : wq p l e R s m args below meth c G A nL Q L E kc ks pc lv (.int x :: .int i :: .ref a :: st) := by
  intro H locs ls hP hD hS hl
  obtain ⟨q0, hq⟩ := pl_at (E := E) ha
  refine va_iast C.1 C.2.1 C.2.2.2.2.2.1 hP hD hS q0 0 (by rw [hq, hE]; rfl) rfl hin d (fun H1 locs1 hP1 hD1 hS1 => ?_)
  rw [pl_set hD ha hq] at hP1 hD1
  exact kk H1 locs1 ls hP1 hD1 hS1 hl
theorem q_alenI (C : Cq p s m args meth c cc y ret G A nL) {a n : Nat} {f : Nat → Int32} {v : Int32} (d : decode cc pc = .ok (.arraylength, 1)) (ha : a ∈ L) (hE : E a = aI G n f) (hv : Int32.ofNat n = v) (kk : wq p l e R s m args below meth c G A nL Q L E kc ks (pc + 1) lv (.int v :: st)) : wq p l e R s m args below meth c G A nL Q L E kc ks pc lv (.ref a :: st) := by
  intro H locs ls hP hD hS hl
  obtain ⟨q0, hq⟩ := pl_at (E := E) ha
  exact va_alen C.1 C.2.1 C.2.2.2.2.2.1 hP q0 0 (by rw [hq, hE]; rfl) rfl hv d (kk H locs ls hP hD hS hl)
theorem q_alenO (C : Cq p s m args meth c cc y ret G A nL) {a n : Nat} {f : Nat → Option Nat} {v : Int32} (d : decode cc pc = .ok (.arraylength, 1)) (ha : a ∈ L) (hE : E a = aO G n f) (hv : Int32.ofNat n = v) (kk : wq p l e R s m args below meth c G A nL Q L E kc ks (pc + 1) lv (.int v :: st)) : wq p l e R s m args below meth c G A nL Q L E kc ks pc lv (.ref a :: st) := by
  intro H locs ls hP hD hS hl
  obtain ⟨q0, hq⟩ := pl_at (E := E) ha
  exact va_alen C.1 C.2.1 C.2.2.2.2.2.1 hP q0 4 (by rw [hq, hE]; rfl) rfl hv d (kk H locs ls hP hD hS hl)
theorem q_aaldL (C : Cq p s m args meth c cc y ret G A nL) {a n : Nat} {f : Nat → Option Nat} {i : Int32} {v : Value} (d : decode cc pc = .ok (.aaload, 1)) (ha : a ∈ L) (hE : E a = aL G n f) (hin : vp_in i n) (hv : va_rf (f i.toNatClampNeg) = v) (kk : wq p l e R s m args below meth c G A nL Q L E kc ks (pc + 1) lv (v :: st)) : wq p l e R s m args below meth c G A nL Q L E kc ks pc lv (.int i :: .ref a :: st) := by
  intro H locs ls hP hD hS hl
  obtain ⟨q0, hq⟩ := pl_at (E := E) ha
  exact va_aldq C.1 C.2.1 C.2.2.2.2.2.1 hP q0 2 (by rw [hq, hE]; rfl) rfl hin d (hv ▸ kk H locs ls hP hD hS hl)
theorem q_aaldR (C : Cq p s m args meth c cc y ret G A nL) {a n : Nat} {f : Nat → Option Nat} {i : Int32} {v : Value} (d : decode cc pc = .ok (.aaload, 1)) (ha : a ∈ L) (hE : E a = aR G n f) (hin : vp_in i n) (hv : va_rf (f i.toNatClampNeg) = v) (kk : wq p l e R s m args below meth c G A nL Q L E kc ks (pc + 1) lv (v :: st)) : wq p l e R s m args below meth c G A nL Q L E kc ks pc lv (.int i :: .ref a :: st) := by
  intro H locs ls hP hD hS hl
  obtain ⟨q0, hq⟩ := pl_at (E := E) ha
  exact va_aldq C.1 C.2.1 C.2.2.2.2.2.1 hP q0 3 (by rw [hq, hE]; rfl) rfl hin d (hv ▸ kk H locs ls hP hD hS hl)
theorem q_aaldO (C : Cq p s m args meth c cc y ret G A nL) {a n : Nat} {f : Nat → Option Nat} {i : Int32} {v : Value} (d : decode cc pc = .ok (.aaload, 1)) (ha : a ∈ L) (hE : E a = aO G n f) (hin : vp_in i n) (hv : va_rf (f i.toNatClampNeg) = v) (kk : wq p l e R s m args below meth c G A nL Q L E kc ks (pc + 1) lv (v :: st)) : wq p l e R s m args below meth c G A nL Q L E kc ks pc lv (.int i :: .ref a :: st) := by
  intro H locs ls hP hD hS hl
  obtain ⟨q0, hq⟩ := pl_at (E := E) ha
  exact va_aldq C.1 C.2.1 C.2.2.2.2.2.1 hP q0 4 (by rw [hq, hE]; rfl) rfl hin d (hv ▸ kk H locs ls hP hD hS hl)
theorem q_aastO (C : Cq p s m args meth c cc y ret G A nL) {a b n ci N : Nat} {Cn : String} {T : u_T} {ty : Nat → FieldType} {f : Nat → Option Nat} {g : Nat → Value} {i : Int32} (ck : Ck ci Cn T N ty) (d : decode cc pc = .ok (.aastore, 1)) (hc : Cond.castable Cn "java/lang/Object" ∈ lw_tbl) (ha : a ∈ L) (hE : E a = aO G n f) (hb : b ∈ L) (hEb : E b = ob ci N g) (hin : vp_in i n) (kk : wq p l e R s m args below meth c G A nL Q L (va_up E a (aO G n (va_up f i.toNatClampNeg (some b)))) kc ks (pc + 1) lv st) : wq p l e R s m args below meth c G A nL Q L E kc ks pc lv (.ref b :: .int i :: .ref a :: st) := by
  intro H locs ls hP hD hS hl
  obtain ⟨q0, hq⟩ := pl_at (E := E) ha
  obtain ⟨q1, hq1⟩ := pl_at (E := E) hb
  refine va_astqO C.1 C.2.1 C.2.2.2.2.2.1 hP hD hS q0 4 q1 ci (r := (Cn, T, N)) (by rw [hq, hE]; rfl) rfl (C.2.2.2.2.2.2.2.2.2.2.2.2.1 _ _ hc) (by rw [hq1, hEb]; rfl) ck.1 hin d (fun H1 locs1 hP1 hD1 hS1 => ?_)
  rw [pl_set hD ha hq] at hP1 hD1
  exact kk H1 locs1 ls hP1 hD1 hS1 hl
theorem q_copyi (C : Cq p s m args meth c cc y ret G A nL) {a b n0 n1 idx : Nat} {f g : Nat → Int32} {sp dp n : Int32} (d : decode cc pc = .ok (.invokestatic idx, 3)) (lk : Cond.methodLink y.cls idx arraycopyName ∈ lw_g) (hn : Cond.native arraycopyName ∈ lw_g) (hs : Cond.static arraycopyName ∈ lw_g) (hi : Cond.initialized "java/lang/System" ∈ lw_g) (ha : a ∈ L) (hE : E a = aI G n0 f) (hb : b ∈ L) (hEb : E b = aI G n1 g) (h1 : ¬ sp < 0) (h2 : ¬ dp < 0) (h3 : ¬ n < 0) (h4 : sp.toNatClampNeg + n.toNatClampNeg ≤ n0) (h5 : dp.toNatClampNeg + n.toNatClampNeg ≤ n1) (hR : 1 ≤ R.frames ∧ 64 ≤ R.locals) (hst : (st.map fun v => v.category).sum ≤ 8) (kk : wq p l e R s m args below meth c G A nL Q L (va_up E b (aI G n1 (va_cpy f g sp.toNatClampNeg dp.toNatClampNeg n.toNatClampNeg))) kc ks (pc + 3) lv st) : wq p l e R s m args below meth c G A nL Q L E kc ks pc lv (.int n :: .int dp :: .ref b :: .int sp :: .ref a :: st) := by
  intro H locs ls hP hD hS hl
  obtain ⟨q0, hq⟩ := pl_at (E := E) ha
  obtain ⟨q1, hq1⟩ := pl_at (E := E) hb
  have hts := C.2.2.2.2.1
  refine va_copyi C.1 C.2.1 (C.2.2.1.trans hl.1.symm) C.2.2.2.1 (hts _ lk) (hts _ hn) (hts _ hs) (hts _ hi) C.2.2.2.2.2.1 hP hD hS q0 q1 0 0 (by rw [hq, hE]; rfl) (by rw [hq1, hEb]; rfl) rfl rfl rfl h1 h2 h3 h4 h5 (fun _ _ => rfl) hR.1 (Nat.le_trans (Nat.add_le_add_right hst _) (Nat.le_trans (by decide) hR.2)) d (fun H1 locs1 hP1 hD1 hS1 => ?_)
  rw [pl_set hD hb hq1] at hP1 hD1
  exact kk H1 locs1 ls hP1 hD1 hS1 hl
theorem q_new (C : Cq p s m args meth c cc y ret G A nL) {ci N idx : Nat} {Cn : String} {T : u_T} {ty : Nat → FieldType} (ck : Ck ci Cn T N ty) (d : decode cc pc = .ok (.new idx, 3)) (lk : Cond.classLink y.cls idx Cn ∈ lw_g) (hi : Cond.instantiable Cn N ∈ lw_g) (hn : Cond.initialized Cn ∈ lw_g) (hf : kc + 1 ≤ R.cells ∧ ks + N ≤ R.slots) (kk : ∀ q : Nat, q ∉ L → wq p l e R s m args below meth c G A nL Q (L ++ [q]) (va_up E q (ob ci N (fun j => defaultValue (ty j)))) (kc + 1) (ks + N) (pc + 3) lv (.ref q :: st)) : wq p l e R s m args below meth c G A nL Q L E kc ks pc lv st := by
  intro H locs ls hP hD hS hl
  refine va_new (ci := ci) (fs := (List.range N).map (fun j => defaultValue (ty j))) C.1 C.2.1 C.2.2.2.2.1 ck.2.1 ty ck.2.2.1 C.2.2.2.1 (C.2.2.2.2.1 _ lk) (C.2.2.2.2.1 _ hi) (C.2.2.2.2.1 _ hn) C.2.2.2.2.2.1 hP hD hS C.2.2.2.2.2.2.1 ck.1 (fun j hj => (ob_V (f := fun j => defaultValue (ty j)) hj).symm) hf.1 hf.2 d (fun q H1 hP1 hD1 hS1 => ?_)
  have hq : q ∉ L := by
    intro hm
    obtain ⟨k1, h1⟩ := pl_at (E := E) hm
    have hlt := (List.getElem?_eq_some_iff.mp h1).1
    have h2 : (va_pl L E ++ [(q, .inr (ci, (List.range N).map (fun j => defaultValue (ty j))))])[k1]? = some (q, E q) := by rw [List.getElem?_append_left hlt]; exact h1
    have h3 : (va_pl L E ++ [(q, .inr (ci, (List.range N).map (fun j => defaultValue (ty j))))])[(va_pl L E).length]? = some (q, .inr (ci, (List.range N).map (fun j => defaultValue (ty j)))) := by simp
    have := hD1.1 _ _ _ _ h2 h3 rfl
    omega
  rw [va_pl_push hq] at hP1 hD1
  exact kk q hq H1 locs ls hP1 hD1 hS1 hl
theorem pl_notin {A : Nat → Prop} {L : List Nat} {E : Nat → va_E} {q : Nat} {x : va_E} (hD : va_D A (va_pl L E ++ [(q, x)])) : q ∉ L := by
  intro hm
  obtain ⟨k1, h1⟩ := pl_at (E := E) hm
  have hlt := (List.getElem?_eq_some_iff.mp h1).1
  have h2 : (va_pl L E ++ [(q, x)])[k1]? = some (q, E q) := by rw [List.getElem?_append_left hlt]; exact h1
  have h3 : (va_pl L E ++ [(q, x)])[(va_pl L E).length]? = some (q, x) := by simp
  have := hD.1 _ _ _ _ h2 h3 rfl
  omega
theorem q_newaI (C : Cq p s m args meth c cc y ret G A nL) {n : Int32} {N : Nat} (d : decode cc pc = .ok (.newarray .int, 2)) (lk : Cond.arrayClass .int ∈ lw_g) (hn : ¬ n < 0) (hN : n.toNatClampNeg = N) (hb : N ≤ 100000) (hf : kc + 1 ≤ R.cells ∧ ks + N ≤ R.slots) (kk : ∀ q : Nat, q ∉ L → wq p l e R s m args below meth c G A nL Q (L ++ [q]) (va_up E q (aI G N (fun _ => 0))) (kc + 1) (ks + N) (pc + 2) lv (.ref q :: st)) : wq p l e R s m args below meth c G A nL Q L E kc ks pc lv (.int n :: st) := by
  intro H locs ls hP hD hS hl
  refine va_newa (atype := .int) (N' := N) (a0 := (N, .inl (fun _ => 0))) C.1 C.2.1 (C.2.2.2.2.1 _ lk) rfl C.2.2.2.2.2.1 hP hD hS C.2.2.2.2.2.2.1 (fun cA => rfl) hn hN (Nat.le_trans (Nat.mul_le_mul hb (show componentBytes .int ≤ 8 by decide)) (by decide)) hf.1 hf.2 d (fun q cA H1 hK1 hP1 hD1 hS1 => ?_)
  have hq := pl_notin hD1
  have hc : cA = G.2.1 := by
    refine hv2 (show va_RA s cA .int from (hK1.2 5 (cA, .int) rfl).2) (show va_RA s G.2.1 .int from (C.2.2.2.2.2.1.2 0 (G.2.1, .int) rfl).2) (fun h1 h2 => ?_)
    exact Option.some.inj (Eq.trans (Eq.symm h1) h2)
  subst hc
  rw [va_pl_push hq] at hP1 hD1
  exact kk q hq H1 locs ls hP1 hD1 hS1 hl
theorem q_newaZ (C : Cq p s m args meth c cc y ret G A nL) {n : Int32} {N : Nat} (d : decode cc pc = .ok (.newarray .boolean, 2)) (lk : Cond.arrayClass .boolean ∈ lw_g) (hn : ¬ n < 0) (hN : n.toNatClampNeg = N) (hb : N ≤ 100000) (hf : kc + 1 ≤ R.cells ∧ ks + N ≤ R.slots) (kk : ∀ q : Nat, q ∉ L → wq p l e R s m args below meth c G A nL Q (L ++ [q]) (va_up E q (aZ G N (fun _ => 0))) (kc + 1) (ks + N) (pc + 2) lv (.ref q :: st)) : wq p l e R s m args below meth c G A nL Q L E kc ks pc lv (.int n :: st) := by
  intro H locs ls hP hD hS hl
  refine va_newa (atype := .boolean) (N' := N) (a0 := (N, .inl (fun _ => 0))) C.1 C.2.1 (C.2.2.2.2.1 _ lk) rfl C.2.2.2.2.2.1 hP hD hS C.2.2.2.2.2.2.1 (fun cA => rfl) hn hN (Nat.le_trans (Nat.mul_le_mul hb (show componentBytes .boolean ≤ 8 by decide)) (by decide)) hf.1 hf.2 d (fun q cA H1 hK1 hP1 hD1 hS1 => ?_)
  have hq := pl_notin hD1
  have hc : cA = G.2.2.1 := by
    refine hv2 (show va_RA s cA .boolean from (hK1.2 5 (cA, .boolean) rfl).2) (show va_RA s G.2.2.1 .boolean from (C.2.2.2.2.2.1.2 1 (G.2.2.1, .boolean) rfl).2) (fun h1 h2 => ?_)
    exact Option.some.inj (Eq.trans (Eq.symm h1) h2)
  subst hc
  rw [va_pl_push hq] at hP1 hD1
  exact kk q hq H1 locs ls hP1 hD1 hS1 hl
theorem q_newqL (C : Cq p s m args meth c cc y ret G A nL) {n : Int32} {N idx : Nat} (d : decode cc pc = .ok (.anewarray idx, 3)) (lk : Cond.classLink y.cls idx RX2 ∈ lw_g) (lo : Cond.arrayOver (.object RX2) ∈ lw_tbl) (hn : ¬ n < 0) (hN : n.toNatClampNeg = N) (hb : N ≤ 100000) (hf : kc + 1 ≤ R.cells ∧ ks + N ≤ R.slots) (kk : ∀ q : Nat, q ∉ L → wq p l e R s m args below meth c G A nL Q (L ++ [q]) (va_up E q (aL G N (fun _ => none))) (kc + 1) (ks + N) (pc + 3) lv (.ref q :: st)) : wq p l e R s m args below meth c G A nL Q L E kc ks pc lv (.int n :: st) := by
  intro H locs ls hP hD hS hl
  refine va_newq (N' := N) C.1 C.2.1 C.2.2.2.1 (C.2.2.2.2.1 _ lk) (C.2.2.2.2.2.2.2.2.2.2.2.2.2 _ lo) C.2.2.2.2.2.1 hP hD hS C.2.2.2.2.2.2.1 hn hN (by omega) hf.1 hf.2 d (fun q cA H1 hK1 hP1 hD1 hS1 => ?_)
  have hq := pl_notin hD1
  have hc : cA = G.2.2.2.1 := by
    obtain ⟨_, _, _, _, _, h1⟩ := (hK1.2 5 (cA, .object RX2) rfl).2
    obtain ⟨_, _, _, _, _, h2⟩ := (C.2.2.2.2.2.1.2 2 (G.2.2.2.1, .object RX2) rfl).2
    exact Option.some.inj (h1.symm.trans h2)
  subst hc
  rw [va_pl_push hq] at hP1 hD1
  exact kk q hq H1 locs ls hP1 hD1 hS1 hl
theorem q_newqR (C : Cq p s m args meth c cc y ret G A nL) {n : Int32} {N idx : Nat} (d : decode cc pc = .ok (.anewarray idx, 3)) (lk : Cond.classLink y.cls idx RX5 ∈ lw_g) (lo : Cond.arrayOver (.object RX5) ∈ lw_tbl) (hn : ¬ n < 0) (hN : n.toNatClampNeg = N) (hb : N ≤ 100000) (hf : kc + 1 ≤ R.cells ∧ ks + N ≤ R.slots) (kk : ∀ q : Nat, q ∉ L → wq p l e R s m args below meth c G A nL Q (L ++ [q]) (va_up E q (aR G N (fun _ => none))) (kc + 1) (ks + N) (pc + 3) lv (.ref q :: st)) : wq p l e R s m args below meth c G A nL Q L E kc ks pc lv (.int n :: st) := by
  intro H locs ls hP hD hS hl
  refine va_newq (N' := N) C.1 C.2.1 C.2.2.2.1 (C.2.2.2.2.1 _ lk) (C.2.2.2.2.2.2.2.2.2.2.2.2.2 _ lo) C.2.2.2.2.2.1 hP hD hS C.2.2.2.2.2.2.1 hn hN (by omega) hf.1 hf.2 d (fun q cA H1 hK1 hP1 hD1 hS1 => ?_)
  have hq := pl_notin hD1
  have hc : cA = G.2.2.2.2.1 := by
    obtain ⟨_, _, _, _, _, h1⟩ := (hK1.2 5 (cA, .object RX5) rfl).2
    obtain ⟨_, _, _, _, _, h2⟩ := (C.2.2.2.2.2.1.2 3 (G.2.2.2.2.1, .object RX5) rfl).2
    exact Option.some.inj (h1.symm.trans h2)
  subst hc
  rw [va_pl_push hq] at hP1 hD1
  exact kk q hq H1 locs ls hP1 hD1 hS1 hl
theorem q_newqO (C : Cq p s m args meth c cc y ret G A nL) {n : Int32} {N idx : Nat} (d : decode cc pc = .ok (.anewarray idx, 3)) (lk : Cond.classLink y.cls idx "java/lang/Object" ∈ lw_g) (lo : Cond.arrayOver (.object "java/lang/Object") ∈ lw_tbl) (hn : ¬ n < 0) (hN : n.toNatClampNeg = N) (hb : N ≤ 100000) (hf : kc + 1 ≤ R.cells ∧ ks + N ≤ R.slots) (kk : ∀ q : Nat, q ∉ L → wq p l e R s m args below meth c G A nL Q (L ++ [q]) (va_up E q (aO G N (fun _ => none))) (kc + 1) (ks + N) (pc + 3) lv (.ref q :: st)) : wq p l e R s m args below meth c G A nL Q L E kc ks pc lv (.int n :: st) := by
  intro H locs ls hP hD hS hl
  refine va_newq (N' := N) C.1 C.2.1 C.2.2.2.1 (C.2.2.2.2.1 _ lk) (C.2.2.2.2.2.2.2.2.2.2.2.2.2 _ lo) C.2.2.2.2.2.1 hP hD hS C.2.2.2.2.2.2.1 hn hN (by omega) hf.1 hf.2 d (fun q cA H1 hK1 hP1 hD1 hS1 => ?_)
  have hq := pl_notin hD1
  have hc : cA = G.2.2.2.2.2.1 := by
    obtain ⟨_, _, _, _, _, h1⟩ := (hK1.2 5 (cA, .object "java/lang/Object") rfl).2
    obtain ⟨_, _, _, _, _, h2⟩ := (C.2.2.2.2.2.1.2 4 (G.2.2.2.2.2.1, .object "java/lang/Object") rfl).2
    exact Option.some.inj (h1.symm.trans h2)
  subst hc
  rw [va_pl_push hq] at hP1 hD1
  exact kk q hq H1 locs ls hP1 hD1 hS1 hl
theorem q_objInit (C : Cq p s m args meth c cc y ret G A nL) {idx a : Nat} (d : decode cc pc = .ok (.invokespecial idx, 3)) (lk : Cond.methodLink y.cls idx Lib.objectInit ∈ lw_g) (hi : Cond.instanceMethod Lib.objectInit ∈ lw_g) (hc : Cond.code Lib.objectInit ⟨#[0xb1]⟩ 1 none ∈ lw_g) (hR : 1 ≤ R.frames ∧ 20 ≤ R.locals) (hst : (st.map fun v => v.category).sum ≤ 8) (kk : wq p l e R s m args below meth c G A nL Q L E kc ks (pc + 3) lv st) : wq p l e R s m args below meth c G A nL Q L E kc ks pc lv (.ref a :: st) := by
  intro H locs ls hP hD hS hl
  refine W.objInit C.1 C.2.1 C.2.2.2.1 (C.2.2.2.2.1 _ lk) (C.2.2.2.2.1 _ hi) (C.2.2.2.2.1 _ hc) rfl (hl.1.trans C.2.2.1.symm) rfl d hR.1 ?_ (kk H locs ls hP hD hS hl)
  have h8 := lv_room (m := m) (pc := pc) (ls := ls) (rest := .ref a :: st) hst
  have := hR.2
  omega
def Wb (own : String) (idx : Nat) (y : MethodName) (cc : ByteArray) (n : Nat) (ret : Option FieldType) (k : Nat) : Prop := Cond.methodLink own idx y ∈ lw_g ∧ Cond.initialized y.cls ∈ lw_g ∧ Cond.code y cc n ret ∈ lw_g ∧ (y.cls ≠ "java/lang/invoke/MethodHandle" ∧ y.cls ≠ "java/lang/invoke/VarHandle" ∧ (parseMethodDescriptor y.desc).map (fun d => d.parameters.length) = some k)
def Wv (own : String) (idx : Nat) (y : MethodName) (cc : ByteArray) (n : Nat) (ret : Option FieldType) (k : Nat) : Prop := Wb own idx y cc n ret k ∧ Cond.instanceMethod y ∈ lw_g ∧ Cond.selects y.cls y y ∈ lw_g
def Ws (own : String) (idx : Nat) (y : MethodName) (cc : ByteArray) (n : Nat) (ret : Option FieldType) (k : Nat) : Prop := Wb own idx y cc n ret k ∧ Cond.static y ∈ lw_g
def Wi (own : String) (idx : Nat) (y : MethodName) (cc : ByteArray) (n : Nat) (k : Nat) : Prop := Wb own idx y cc n none k ∧ y.name = "<init>" ∧ Cond.instanceMethod y ∈ lw_g
theorem q_after (C : Cq p s m args meth c cc y ret G A nL) {mc2 ms2 : Nat} {a2 : Array Value} {st0 rest : List Value} {P2 : PT} {H : Heap} {locs : List Loc} {ls : Array Slot} (hD : va_D A (va_pl L E)) (hS : va_S A s.heap H locs) (hl : lv_has ls nL lv) (hr : va_Run p l e R s m args below meth c H locs kc ks mc2 ms2 (F0 m pc ls st0) rest (Qm G (va_A (va_pl L E) H.size) P2 a2) (va_A (va_pl L E) H.size)) (kk : ∀ (v : Option Value) (L2 : List Nat) (E2 : Nat → va_E), P2 v L2 E2 → wq p l e R s m args below meth c G A nL Q L2 E2 (kc + mc2) (ks + ms2) (pc + 3) lv (v.toList ++ rest)) : W p l e R s m args below meth c H locs kc ks Q (F0 m pc ls st0) := by
  have hF := pl_free hD hS C.2.2.2.2.2.2.1
  intro T hT X
  obtain ⟨v, st₀, t, T', Lc, h0, X', hL, e1, e2, ⟨⟨v', L', E', hv, hp, hP', hD'⟩, hz, hk⟩, stp⟩ := hr T hT X
  cases hv
  rw [h0] at hz hk
  have hS1 : va_S A s.heap T'.heap (locs ++ Lc) := ⟨Nat.le_trans hS.1 (by rw [e1]; exact hz), fun q h1 h2 => by rw [e1, hk q (Nat.lt_of_lt_of_le h1 hS.1) (fun z => h2 (hF q z))]; exact hS.2.1 q h1 h2, fun q hq => by
      rcases List.mem_append.mp hq with h | h
      · exact hS.2.2 q h
      · exact hF _ (hL q h)⟩
  obtain ⟨t2, a1, b1⟩ := kk v L' E' hp T'.heap (locs ++ Lc) ls (by rw [e1]; exact hP') (hD'.weaken (fun _ q _ h => hF q.1 h)) hS1 hl T' rfl X'
  exact ⟨t2, stp t2 a1, b1⟩
theorem q_callV (C : Cq p s m args meth c cc y ret G A nL) {y2 : MethodName} {cc2 : ByteArray} {n2 d2 mc2 ms2 idx b ci N k2 : Nat} {ret2 : Option FieldType} {P2 : PT} {As rest : List Value} {T : u_T} {ty : Nat → FieldType} {f : Nat → Value} (M : Mq l G y2 cc2 n2 ret2 d2 (.ref b :: As) L E mc2 ms2 P2) (d : decode cc pc = .ok (.invokevirtual idx, 3)) (hw : Wv y.cls idx y2 cc2 n2 ret2 k2) (hk : As.length = k2) (hb : b ∈ L) (hE : E b = ob ci N f) (ck : Ck ci y2.cls T N ty) (hst : st = As.reverse ++ .ref b :: rest) (hcat : (rest.map fun v => v.category).sum ≤ 8) (hR : d2 + 1 ≤ R.frames ∧ 8 + (n2 + 11) + 64 * d2 ≤ R.locals) (hf : kc + mc2 ≤ R.cells ∧ ks + ms2 ≤ R.slots) (kk : ∀ (v : Option Value) (L2 : List Nat) (E2 : Nat → va_E), P2 v L2 E2 → wq p l e R s m args below meth c G A nL Q L2 E2 (kc + mc2) (ks + ms2) (pc + 3) lv (v.toList ++ rest)) : wq p l e R s m args below meth c G A nL Q L E kc ks pc lv st := by
  intro H locs ls hP hD hS hl
  subst hst
  obtain ⟨q0, hq⟩ := pl_at (E := E) hb
  obtain ⟨⟨w1, w2, w3, w4⟩, w5, w6⟩ := hw
  have hts := C.2.2.2.2.1
  exact q_after C hD hS hl (va_runV (As := As) (rest := rest) (Ts := lw_g) ⟨C.1, C.2.1, C.2.2.1, C.2.2.2.1, hts⟩ (M H.size) ⟨callB_of k2 hts (lw_goodIn w3) rfl rfl rfl (hts _ w2) (hts _ w1) w4 hR, hts _ w5, hts _ w6⟩ ⟨Pcq.blind, va_recv C.2.2.2.2.2.1 hP (ci := ci) (q0 := q0) ck.1 (by rw [hq, hE]; rfl), fun U hU hW => ⟨rfl, by rw [hU], by rw [hU]; exact hP, va_K.moved hW.alike C.2.2.2.2.2.1, hD.weaken (fun _ _ _ _ => trivial), C.2.2.2.2.2.2.2.1.pass hS (pl_free hD hS C.2.2.2.2.2.2.1) hW.alike hU, C.2.2.2.2.2.2.2.2.2.2.2.warm hW⟩⟩ rfl hk hl.1 rfl (lv_room hcat) d hf) kk
theorem q_callS (C : Cq p s m args meth c cc y ret G A nL) {y2 : MethodName} {cc2 : ByteArray} {n2 d2 mc2 ms2 idx k2 : Nat} {ret2 : Option FieldType} {P2 : PT} {As rest : List Value} (M : Mq l G y2 cc2 n2 ret2 d2 As L E mc2 ms2 P2) (d : decode cc pc = .ok (.invokestatic idx, 3)) (hw : Ws y.cls idx y2 cc2 n2 ret2 k2) (hk : As.length = k2) (hst : st = As.reverse ++ rest) (hcat : (rest.map fun v => v.category).sum ≤ 8) (hR : d2 + 1 ≤ R.frames ∧ 8 + (n2 + 11) + 64 * d2 ≤ R.locals) (hf : kc + mc2 ≤ R.cells ∧ ks + ms2 ≤ R.slots) (kk : ∀ (v : Option Value) (L2 : List Nat) (E2 : Nat → va_E), P2 v L2 E2 → wq p l e R s m args below meth c G A nL Q L2 E2 (kc + mc2) (ks + ms2) (pc + 3) lv (v.toList ++ rest)) : wq p l e R s m args below meth c G A nL Q L E kc ks pc lv st := by
  intro H locs ls hP hD hS hl
  subst hst
  obtain ⟨⟨w1, w2, w3, w4⟩, w5⟩ := hw
  have hts := C.2.2.2.2.1
  exact q_after C hD hS hl (va_runS (As := As) (rest := rest) (Ts := lw_g) ⟨C.1, C.2.1, C.2.2.1, C.2.2.2.1, hts⟩ (M H.size) ⟨callB_of k2 hts (lw_goodIn w3) rfl rfl rfl (hts _ w2) (hts _ w1) w4 hR, hts _ w5⟩ ⟨Pcq.blind, fun U hU hW => ⟨rfl, by rw [hU], by rw [hU]; exact hP, va_K.moved hW.alike C.2.2.2.2.2.1, hD.weaken (fun _ _ _ _ => trivial), C.2.2.2.2.2.2.2.1.pass hS (pl_free hD hS C.2.2.2.2.2.2.1) hW.alike hU, C.2.2.2.2.2.2.2.2.2.2.2.warm hW⟩⟩ rfl hk hl.1 rfl (lv_room hcat) d hf) kk
def Wn (own : String) (idx : Nat) (y : MethodName) (host : String) (cc : ByteArray) (n : Nat) (k : Nat) : Prop := (Cond.methodLinkNest own idx y host ∈ lw_tbl ∧ Cond.initialized y.cls ∈ lw_g ∧ Cond.code y cc n none ∈ lw_g ∧ (y.cls ≠ "java/lang/invoke/MethodHandle" ∧ y.cls ≠ "java/lang/invoke/VarHandle" ∧ (parseMethodDescriptor y.desc).map (fun d => d.parameters.length) = some k)) ∧ y.name = "<init>" ∧ Cond.instanceMethod y ∈ lw_g
theorem q_sub (C : Cq p s m args meth c cc y ret G A nL) {mc2 ms2 : Nat} {a2 : Array Value} {st0 rest : List Value} {P2 : PT} {H : Heap} {locs : List Loc} {ls : Array Slot} {Lx Lm : List Nat} (hP : va_P G.1 vwCl (va_pl (Lm ++ Lx) E) H) (hD : va_D A (va_pl (Lm ++ Lx) E)) (hS : va_S A s.heap H locs) (hl : lv_has ls nL lv) (hr : va_Run p l e R s m args below meth c H locs kc ks mc2 ms2 (F0 m pc ls st0) rest (Qm G (va_A (va_pl Lx E) H.size) P2 a2) (va_A (va_pl Lx E) H.size)) (kk : ∀ (v : Option Value) (L2 : List Nat) (E2 : Nat → va_E) (E3 : Nat → va_E), P2 v L2 E2 → (∀ a ∈ Lm, E3 a = E a) → (∀ a ∈ L2, E3 a = E2 a) → (∀ a ∈ Lm, a ∉ L2) → wq p l e R s m args below meth c G A nL Q (Lm ++ L2) E3 (kc + mc2) (ks + ms2) (pc + 3) lv (v.toList ++ rest)) : W p l e R s m args below meth c H locs kc ks Q (F0 m pc ls st0) := by
  have hsp : va_pl (Lm ++ Lx) E = va_pl Lm E ++ va_pl Lx E := List.map_append
  rw [hsp] at hP hD
  have hlen : (va_pl Lm E).length = Lm.length := List.length_map _
  have pR : ∀ (j : Nat) (q : Nat × va_E), (va_pl Lx E)[j]? = some q → (va_pl Lm E ++ va_pl Lx E)[(va_pl Lm E).length + j]? = some q := fun j q h => by rw [List.getElem?_append_right (by omega), Nat.add_sub_cancel_left]; exact h
  have pL : ∀ (j : Nat) (q : Nat × va_E), (va_pl Lm E)[j]? = some q → (va_pl Lm E ++ va_pl Lx E)[j]? = some q := fun j q h => by rw [List.getElem?_append_left ((List.getElem?_eq_some_iff.mp h).1)]; exact h
  have hDx : va_D A (va_pl Lx E) := ⟨fun i j x y hi hj e => by have := hD.1 _ _ x y (pR i x hi) (pR j y hj) e; omega, fun k q hk => hD.2 _ q (pR k q hk)⟩
  have hF := pl_free hDx hS C.2.2.2.2.2.2.1
  intro T hT X
  obtain ⟨v, st₀, t, T', Lc, h0, X', hL, e1, e2, ⟨⟨v', L', E', hv, hp, hP', hD'⟩, hz, hk⟩, stp⟩ := hr T hT X
  cases hv
  rw [h0] at hz hk
  have hS1 : va_S A s.heap T'.heap (locs ++ Lc) := ⟨Nat.le_trans hS.1 (by rw [e1]; exact hz), fun q h1 h2 => by rw [e1, hk q (Nat.lt_of_lt_of_le h1 hS.1) (fun z => h2 (hF q z))]; exact hS.2.1 q h1 h2, fun q hq => by
      rcases List.mem_append.mp hq with h | h
      · exact hS.2.2 q h
      · exact hF _ (hL q h)⟩
  have apart : ∀ a ∈ Lm, a < H.size ∧ ¬ va_A (va_pl Lx E) H.size a := by
    intro a ha
    obtain ⟨j, hj⟩ := pl_at (E := E) ha
    have hlt := (hP _ _ (pL j _ hj)).lt
    refine ⟨hlt, fun z => ?_⟩
    rcases z with ⟨k, x, z⟩ | z
    · have := hD.1 _ _ _ _ (pL j _ hj) (pR k _ z) rfl
      have hjl := (List.getElem?_eq_some_iff.mp hj).1
      omega
    · omega
  have dis : ∀ a ∈ Lm, a ∉ L' := by
    intro a ha hb
    obtain ⟨j, hj⟩ := pl_at (E := E') hb
    exact (apart a ha).2 (hD'.2 j _ hj)
  refine hv2 (show ∀ a ∈ Lm, (fun a => if a ∈ Lm then E a else E' a) a = E a from fun a ha => if_pos ha) (show ∀ a ∈ L', (fun a => if a ∈ Lm then E a else E' a) a = E' a from fun a ha => if_neg (fun z => dis a z ha)) (fun e3a e3b => ?_)
  have hw : va_pl (Lm ++ L') (fun a => if a ∈ Lm then E a else E' a) = va_pl Lm E ++ va_pl L' E' := by
    show List.map _ (Lm ++ L') = _
    rw [List.map_append]
    congr 1
    · exact List.map_congr_left (fun a ha => by rw [e3a a ha])
    · exact List.map_congr_left (fun a ha => by rw [e3b a ha])
  have hPm : va_P G.1 vwCl (va_pl Lm E) T'.heap := by
    intro k q hq
    have hqm : q.1 ∈ Lm := by
      obtain ⟨a, ha, ea⟩ := List.mem_map.mp (List.mem_of_getElem? hq)
      rw [← ea]; exact ha
    exact (hP _ _ (pL k q hq)).kept (by rw [e1]; exact hk q.1 (apart _ hqm).1 (apart _ hqm).2)
  have hDm : va_D A (va_pl Lm E) := ⟨fun i j x y hi hj e => hD.1 _ _ x y (pL i x hi) (pL j y hj) e, fun k q hk => hD.2 _ q (pL k q hk)⟩
  obtain ⟨t2, a1, b1⟩ := kk v L' E' _ hp e3a e3b dis T'.heap (locs ++ Lc) ls (by rw [hw]; exact va_P.app hPm (by rw [e1]; exact hP')) (by
      rw [hw]
      refine va_D.app hDm (hD'.weaken (fun _ q _ h => hF q.1 h)) (fun i j x y hx hy hxy => ?_)
      have hxm : x.1 ∈ Lm := by
        obtain ⟨a, ha, ea⟩ := List.mem_map.mp (List.mem_of_getElem? hx)
        rw [← ea]; exact ha
      have hym : y.1 ∈ L' := by
        obtain ⟨a, ha, ea⟩ := List.mem_map.mp (List.mem_of_getElem? hy)
        rw [← ea]; exact ha
      exact dis _ hxm (hxy ▸ hym)) hS1 hl T' rfl X'
  exact ⟨t2, stp t2 a1, b1⟩
theorem pl_partP {D : va_G} {Lm Lx : List Nat} {E : Nat → va_E} {H : Heap} (h : va_P D vwCl (va_pl (Lm ++ Lx) E) H) : va_P D vwCl (va_pl Lx E) H := by
  rw [show va_pl (Lm ++ Lx) E = va_pl Lm E ++ va_pl Lx E from List.map_append] at h
  intro k q hk
  exact h ((va_pl Lm E).length + k) q (by rw [List.getElem?_append_right (by omega), Nat.add_sub_cancel_left]; exact hk)
theorem pl_partD {A : Nat → Prop} {Lm Lx : List Nat} {E : Nat → va_E} (h : va_D A (va_pl (Lm ++ Lx) E)) : va_D A (va_pl Lx E) := by
  rw [show va_pl (Lm ++ Lx) E = va_pl Lm E ++ va_pl Lx E from List.map_append] at h
  have pR : ∀ (j : Nat) (q : Nat × va_E), (va_pl Lx E)[j]? = some q → (va_pl Lm E ++ va_pl Lx E)[(va_pl Lm E).length + j]? = some q := fun j q h => by rw [List.getElem?_append_right (by omega), Nat.add_sub_cancel_left]; exact h
  exact ⟨fun i j x y hi hj e => by have := h.1 _ _ x y (pR i x hi) (pR j y hj) e; omega, fun k q hk => h.2 _ q (pR k q hk)⟩
theorem q_subV (C : Cq p s m args meth c cc y ret G A nL) {y2 : MethodName} {cc2 : ByteArray} {n2 d2 mc2 ms2 idx b ci N k2 : Nat} {ret2 : Option FieldType} {P2 : PT} {As rest : List Value} {T : u_T} {ty : Nat → FieldType} {f : Nat → Value} {Lm Lx : List Nat} (M : Mq l G y2 cc2 n2 ret2 d2 (.ref b :: As) Lx E mc2 ms2 P2) (d : decode cc pc = .ok (.invokevirtual idx, 3)) (hw : Wv y.cls idx y2 cc2 n2 ret2 k2) (hk : As.length = k2) (hb : b ∈ Lx) (hE : E b = ob ci N f) (ck : Ck ci y2.cls T N ty) (hst : st = As.reverse ++ .ref b :: rest) (hcat : (rest.map fun v => v.category).sum ≤ 8) (hR : d2 + 1 ≤ R.frames ∧ 8 + (n2 + 11) + 64 * d2 ≤ R.locals) (hf : kc + mc2 ≤ R.cells ∧ ks + ms2 ≤ R.slots) (kk : ∀ (v : Option Value) (L2 : List Nat) (E2 E3 : Nat → va_E), P2 v L2 E2 → (∀ a ∈ Lm, E3 a = E a) → (∀ a ∈ L2, E3 a = E2 a) → (∀ a ∈ Lm, a ∉ L2) → wq p l e R s m args below meth c G A nL Q (Lm ++ L2) E3 (kc + mc2) (ks + ms2) (pc + 3) lv (v.toList ++ rest)) : wq p l e R s m args below meth c G A nL Q (Lm ++ Lx) E kc ks pc lv st := by
  intro H locs ls hP hD hS hl
  subst hst
  obtain ⟨q0, hq⟩ := pl_at (E := E) hb
  obtain ⟨⟨w1, w2, w3, w4⟩, w5, w6⟩ := hw
  have hts := C.2.2.2.2.1
  exact q_sub C hP hD hS hl (va_runV (As := As) (rest := rest) (Ts := lw_g) ⟨C.1, C.2.1, C.2.2.1, C.2.2.2.1, hts⟩ (M H.size) ⟨callB_of k2 hts (lw_goodIn w3) rfl rfl rfl (hts _ w2) (hts _ w1) w4 hR, hts _ w5, hts _ w6⟩ ⟨Pcq.blind, va_recv C.2.2.2.2.2.1 (pl_partP hP) (ci := ci) (q0 := q0) ck.1 (by rw [hq, hE]; rfl), fun U hU hW => ⟨rfl, by rw [hU], by rw [hU]; exact pl_partP hP, va_K.moved hW.alike C.2.2.2.2.2.1, (pl_partD hD).weaken (fun _ _ _ _ => trivial), C.2.2.2.2.2.2.2.1.pass hS (pl_free (pl_partD hD) hS C.2.2.2.2.2.2.1) hW.alike hU, C.2.2.2.2.2.2.2.2.2.2.2.warm hW⟩⟩ rfl hk hl.1 rfl (lv_room hcat) d hf) kk
theorem q_subI (C : Cq p s m args meth c cc y ret G A nL) {y2 : MethodName} {cc2 : ByteArray} {n2 d2 mc2 ms2 idx b k2 : Nat} {P2 : PT} {As rest : List Value} {Lm Lx : List Nat} (M : Mq l G y2 cc2 n2 none d2 (.ref b :: As) Lx E mc2 ms2 P2) (d : decode cc pc = .ok (.invokespecial idx, 3)) (hw : Wi y.cls idx y2 cc2 n2 k2) (hk : As.length = k2) (hst : st = As.reverse ++ .ref b :: rest) (hcat : (rest.map fun v => v.category).sum ≤ 8) (hR : d2 + 1 ≤ R.frames ∧ 8 + (n2 + 11) + 64 * d2 ≤ R.locals) (hf : kc + mc2 ≤ R.cells ∧ ks + ms2 ≤ R.slots) (kk : ∀ (v : Option Value) (L2 : List Nat) (E2 E3 : Nat → va_E), P2 v L2 E2 → (∀ a ∈ Lm, E3 a = E a) → (∀ a ∈ L2, E3 a = E2 a) → (∀ a ∈ Lm, a ∉ L2) → wq p l e R s m args below meth c G A nL Q (Lm ++ L2) E3 (kc + mc2) (ks + ms2) (pc + 3) lv (v.toList ++ rest)) : wq p l e R s m args below meth c G A nL Q (Lm ++ Lx) E kc ks pc lv st := by
  intro H locs ls hP hD hS hl
  subst hst
  obtain ⟨⟨w1, w2, w3, w4⟩, w5, w6⟩ := hw
  have hts := C.2.2.2.2.1
  exact q_sub C hP hD hS hl (va_runI (As := As) (rest := rest) (Ts := lw_g) ⟨C.1, C.2.1, C.2.2.1, C.2.2.2.1, hts⟩ (M H.size) ⟨callB_of k2 hts (lw_goodIn w3) rfl rfl rfl (hts _ w2) (hts _ w1) w4 hR, w5, hts _ w6⟩ ⟨Pcq.blind, fun U hU hW => ⟨rfl, by rw [hU], by rw [hU]; exact pl_partP hP, va_K.moved hW.alike C.2.2.2.2.2.1, (pl_partD hD).weaken (fun _ _ _ _ => trivial), C.2.2.2.2.2.2.2.1.pass hS (pl_free (pl_partD hD) hS C.2.2.2.2.2.2.1) hW.alike hU, C.2.2.2.2.2.2.2.2.2.2.2.warm hW⟩⟩ rfl hk hl.1 rfl (lv_room hcat) d hf) kk
def Wns (own : String) (idx : Nat) (y : MethodName) (host : String) (cc : ByteArray) (n : Nat) (ret : Option FieldType) (k : Nat) : Prop := (Cond.methodLinkNest own idx y host ∈ lw_tbl ∧ Cond.initialized y.cls ∈ lw_g ∧ Cond.code y cc n ret ∈ lw_g ∧ (y.cls ≠ "java/lang/invoke/MethodHandle" ∧ y.cls ≠ "java/lang/invoke/VarHandle" ∧ (parseMethodDescriptor y.desc).map (fun d => d.parameters.length) = some k)) ∧ Cond.static y ∈ lw_g
theorem q_callSN (C : Cq p s m args meth c cc y ret G A nL) {y2 : MethodName} {host : String} {cc2 : ByteArray} {n2 d2 mc2 ms2 idx k2 : Nat} {ret2 : Option FieldType} {P2 : PT} {As rest : List Value} (M : Mq l G y2 cc2 n2 ret2 d2 As L E mc2 ms2 P2) (d : decode cc pc = .ok (.invokestatic idx, 3)) (hw : Wns y.cls idx y2 host cc2 n2 ret2 k2) (hk : As.length = k2) (hst : st = As.reverse ++ rest) (hcat : (rest.map fun v => v.category).sum ≤ 8) (hR : d2 + 1 ≤ R.frames ∧ 8 + (n2 + 11) + 64 * d2 ≤ R.locals) (hf : kc + mc2 ≤ R.cells ∧ ks + ms2 ≤ R.slots) (kk : ∀ (v : Option Value) (L2 : List Nat) (E2 : Nat → va_E), P2 v L2 E2 → wq p l e R s m args below meth c G A nL Q L2 E2 (kc + mc2) (ks + ms2) (pc + 3) lv (v.toList ++ rest)) : wq p l e R s m args below meth c G A nL Q L E kc ks pc lv st := by
  intro H locs ls hP hD hS hl
  subst hst
  obtain ⟨⟨w1, w2, w3, w4⟩, w5⟩ := hw
  have hts := C.2.2.2.2.1
  exact q_after C hD hS hl (va_runSN (As := As) (rest := rest) (Ts := lw_g) ⟨C.1, C.2.1, C.2.2.1, C.2.2.2.1, hts⟩ (M H.size) ⟨va_cnB k2 hts (lw_goodIn w3) rfl rfl rfl (C.2.2.2.2.2.2.2.2.2.2.2.1 _ _ _ _ w1) (hts _ w2) w4 hR, hts _ w5, trivial⟩ ⟨Pcq.blind, fun U hU hW => ⟨rfl, by rw [hU], by rw [hU]; exact hP, va_K.moved hW.alike C.2.2.2.2.2.1, hD.weaken (fun _ _ _ _ => trivial), C.2.2.2.2.2.2.2.1.pass hS (pl_free hD hS C.2.2.2.2.2.2.1) hW.alike hU, C.2.2.2.2.2.2.2.2.2.2.2.warm hW⟩⟩ rfl hk hl.1 rfl (lv_room hcat) d hf) kk
theorem q_mmax (C : Cq p s m args meth c cc y ret G A nL) {idx : Nat} {x y2 v : Int32} (d : decode cc pc = .ok (.invokestatic idx, 3)) (lk : Cond.methodLink y.cls idx Lib.Math.max.name ∈ lw_g) (h1 : Cond.static Lib.Math.max.name ∈ lw_g) (h2 : Cond.initialized "java/lang/Math" ∈ lw_g) (h3 : Cond.code Lib.Math.max.name Lib.Math.max.code 2 (some .int) ∈ lw_g) (hR : 1 ≤ R.frames ∧ 21 ≤ R.locals) (hf : kc ≤ R.cells ∧ ks ≤ R.slots) (hst : (st.map fun v => v.category).sum ≤ 8) (hv : (if x < y2 then y2 else x) = v) (kk : wq p l e R s m args below meth c G A nL Q L E kc ks (pc + 3) lv (.int v :: st)) : wq p l e R s m args below meth c G A nL Q L E kc ks pc lv (.int y2 :: .int x :: st) := by
  intro H locs ls hP hD hS hl
  subst hv
  have hts := C.2.2.2.2.1
  exact va_mmax C.1 C.2.1 (C.2.2.1.trans hl.1.symm) C.2.2.2.1 (hts _ lk) (hts _ h1) (hts _ h2) (hts _ h3) hR.1 (by have := hR.2; omega) hf.1 hf.2 d (kk H locs ls hP hD hS hl)
theorem q_mmin (C : Cq p s m args meth c cc y ret G A nL) {idx : Nat} {x y2 v : Int32} (d : decode cc pc = .ok (.invokestatic idx, 3)) (lk : Cond.methodLink y.cls idx Lib.Math.min.name ∈ lw_g) (h1 : Cond.static Lib.Math.min.name ∈ lw_g) (h2 : Cond.initialized "java/lang/Math" ∈ lw_g) (h3 : Cond.code Lib.Math.min.name Lib.Math.min.code 2 (some .int) ∈ lw_g) (hR : 1 ≤ R.frames ∧ 21 ≤ R.locals) (hf : kc ≤ R.cells ∧ ks ≤ R.slots) (hst : (st.map fun v => v.category).sum ≤ 8) (hv : (if y2 < x then y2 else x) = v) (kk : wq p l e R s m args below meth c G A nL Q L E kc ks (pc + 3) lv (.int v :: st)) : wq p l e R s m args below meth c G A nL Q L E kc ks pc lv (.int y2 :: .int x :: st) := by
  intro H locs ls hP hD hS hl
  subst hv
  have hts := C.2.2.2.2.1
  exact va_mmin C.1 C.2.1 (C.2.2.1.trans hl.1.symm) C.2.2.2.1 (hts _ lk) (hts _ h1) (hts _ h2) (hts _ h3) hR.1 (by have := hR.2; omega) hf.1 hf.2 d (kk H locs ls hP hD hS hl)
theorem q_gets (C : Cq p s m args meth c cc y ret G A nL) {idx : Nat} (d : decode cc pc = .ok (.getstatic idx, 3)) (lk : Cond.fieldLink y.cls idx "java/util/ArrayList" "DEFAULTCAPACITY_EMPTY_ELEMENTDATA" "[Ljava/lang/Object;" ∈ lw_g) (kk : wq p l e R s m args below meth c G A nL Q L E kc ks (pc + 3) lv (.ref (g0 G) :: st)) : wq p l e R s m args below meth c G A nL Q L E kc ks pc lv st := fun H locs ls hP hD hS hl => va_gets C.1 C.2.1 C.2.2.2.2.2.2.2.1.1 hS C.2.2.2.1 (C.2.2.2.2.1 _ lk) (fun _ h => h) d (kk H locs ls hP hD hS hl)
theorem q_tlen (C : Cq p s m args meth c cc y ret G A nL) (d : decode cc pc = .ok (.arraylength, 1)) (kk : wq p l e R s m args below meth c G A nL Q L E kc ks (pc + 1) lv (.int 0 :: st)) : wq p l e R s m args below meth c G A nL Q L E kc ks pc lv (.ref (g0 G) :: st) := fun H locs ls hP hD hS hl => va_tlen C.1 C.2.1 C.2.2.2.2.2.2.2.1.2 hS rfl d (kk H locs ls hP hD hS hl)
theorem q_iret (C : Cq p s m args meth c cc y ret G A nL) {v : Int32} (d : decode cc pc = .ok (.ireturn, 1)) (hr : ret = some .int) (h1 : kc ≤ mc) (h2 : ks ≤ ms) (hp : Post (some (.int v)) L E) : wq p l e R s m args below meth c G A nL (MQ below (Qm G A Post) args s mc ms A) L E kc ks pc lv [.int v] := by
  intro H locs ls hP hD hS hl
  refine W.widen h1 h2 ?_
  exact W.iret C.1 C.2.1 (C.2.2.2.2.2.2.2.2.1.trans hr) (fun t ht hW => ⟨⟨_, L, E, rfl, hp, by rw [ht]; exact hP, hD⟩, hS.F ht⟩) hS.2.2 d C.2.2.2.2.2.2.2.2.2.1
theorem q_zret (C : Cq p s m args meth c cc y ret G A nL) {v : Int32} (d : decode cc pc = .ok (.ireturn, 1)) (hr : ret = some .boolean) (hn : narrow .boolean (.int v) = .int v) (h1 : kc ≤ mc) (h2 : ks ≤ ms) (hp : Post (some (.int v)) L E) : wq p l e R s m args below meth c G A nL (MQ below (Qm G A Post) args s mc ms A) L E kc ks pc lv [.int v] := by
  intro H locs ls hP hD hS hl
  refine W.widen h1 h2 ?_
  exact W.zret C.1 C.2.1 (C.2.2.2.2.2.2.2.2.1.trans hr) hn (fun t ht hW => ⟨⟨_, L, E, rfl, hp, by rw [ht]; exact hP, hD⟩, hS.F ht⟩) hS.2.2 d C.2.2.2.2.2.2.2.2.2.1
theorem q_vret (C : Cq p s m args meth c cc y ret G A nL) (d : decode cc pc = .ok (.return_, 1)) (hr : ret = none) (h1 : kc ≤ mc) (h2 : ks ≤ ms) (hp : Post none L E) : wq p l e R s m args below meth c G A nL (MQ below (Qm G A Post) args s mc ms A) L E kc ks pc lv [] := by
  intro H locs ls hP hD hS hl
  refine W.widen h1 h2 ?_
  exact W.vret C.1 C.2.1 (C.2.2.2.2.2.2.2.2.1.trans hr) (fun t ht hW => ⟨⟨_, L, E, rfl, hp, by rw [ht]; exact hP, hD⟩, hS.F ht⟩) hS.2.2 d C.2.2.2.2.2.2.2.2.2.1
theorem q_st {st2 : List Value} (h : st = st2) (k : wq p l e R s m args below meth c G A nL Q L E kc ks pc lv st2) : wq p l e R s m args below meth c G A nL Q L E kc ks pc lv st := by subst h; exact k
theorem q_cut (k : ∀ (L1 : List Nat) (E1 : Nat → va_E), L1 = L → E1 = E → wq p l e R s m args below meth c G A nL Q L1 E1 kc ks pc lv st) : wq p l e R s m args below meth c G A nL Q L E kc ks pc lv st := k L E rfl rfl
end PQ
