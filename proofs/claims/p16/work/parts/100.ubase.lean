def hs (H : Heap) : Nat := (H.toList.map (fun c => c.slots.size)).sum
def mu (H : Heap) : Nat := 16 * H.size + hs H
theorem sbn_hs {s t : State} {locs : List Loc} {k n : Nat} (h : s.sameButNew t locs k n) : hs t.heap = hs s.heap + ((t.heap.toList.drop s.heap.size).map (·.slots.size)).sum := by
  obtain ⟨-, h2, -, -, -, h6⟩ := h
  have e : (t.heap.toList.take s.heap.size).map (fun c => c.slots.size) = s.heap.toList.map (fun c => c.slots.size) := by
    apply List.ext_getElem?
    intro i
    rw [List.getElem?_map, List.getElem?_map]
    by_cases hi : i < s.heap.size
    · rw [List.getElem?_take_of_lt hi]
      obtain ⟨c2, g1, -, g3, -⟩ := h6 i s.heap[i] (Array.getElem?_eq_getElem hi)
      rw [Array.getElem?_toList, Array.getElem?_toList, g1, Array.getElem?_eq_getElem hi]
      exact congrArg some g3
    · rw [List.getElem?_eq_none (by rw [List.length_take, Array.length_toList]; omega), List.getElem?_eq_none (by rw [Array.length_toList]; omega)]
  unfold hs
  rw [← e, ← List.sum_append, ← List.map_append, List.take_append_drop]
section MUS
variable {p : Program} {l : Launch} {e : Env} {R : Room} {s : State} {m : MethodId} {args : Array Value} {below : List Frame} {meth : Method} {c : Code} {T : State} {locs : List Loc} {kc ks : Nat}
theorem stand_mu (X : Stand p l e R s m args below meth c T locs kc ks) : mu T.heap ≤ mu s.heap + (16 * kc + ks) := by
  have h := X.same
  refine hv3 (show hs T.heap = hs s.heap + ((T.heap.toList.drop s.heap.size).map (·.slots.size)).sum from sbn_hs (t := T.setVm s.vm) h) (show T.heap.size ≤ s.heap.size + kc from h.2.2.1) (show ((T.heap.toList.drop s.heap.size).map (·.slots.size)).sum ≤ ks from h.2.2.2.2.1) (fun h1 h2 h3 => ?_)
  unfold mu
  rw [h1]
  omega
theorem stand_narrow (X : Stand p l e R s m args below meth c T locs kc ks) {u : Nat} (hu : mu T.heap ≤ mu s.heap + u) : ∃ kc2 ks2 : Nat, 16 * kc2 + ks2 ≤ u ∧ Stand p l e R s m args below meth c T locs kc2 ks2 := by
  have h := X.same
  refine hv2 (show hs T.heap = hs s.heap + ((T.heap.toList.drop s.heap.size).map (·.slots.size)).sum from sbn_hs (t := T.setVm s.vm) h) (show s.heap.size ≤ T.heap.size from h.2.1) (fun h1 h2 => ?_)
  refine ⟨T.heap.size - s.heap.size, ((T.heap.toList.drop s.heap.size).map (·.slots.size)).sum, ?_, { X with same := ⟨h.1, h.2.1, ?_, h.2.2.2.1, Nat.le_refl _, h.2.2.2.2.2⟩ }⟩
  · unfold mu at hu; omega
  · show T.heap.size ≤ s.heap.size + (T.heap.size - s.heap.size); omega
end MUS
abbrev PU : Type := Option Value → List Nat → (Nat → va_E) → Nat → Prop
def Qu (G : GT) (A : Nat → Prop) (Post : PU) : Array Value → State → Outcome → State → Prop := fun _ st oc t => (∃ (v : Option Value) (L2 : List Nat) (E2 : Nat → va_E) (u : Nat), oc = .returned v ∧ Post v L2 E2 u ∧ mu t.heap ≤ mu st.heap + u ∧ va_P G.1 vwCl (va_pl L2 E2) t.heap ∧ va_D A (va_pl L2 E2)) ∧ va_F A st t
abbrev rmu (d r : Nat) : Room := { frames := d, cells := r / 16, slots := r, locals := 64 * d }
def Mir (mi : Nat) (U : State) : Prop := va_Mi "[Ljava/lang/Object;" mi U ∧ va_Dc U
theorem Mir.warm {mi : Nat} {s U : State} (h : Mir mi s) (hW : s.WarmedH U.vm) : Mir mi U := ⟨va_Mi.moved hW.alike h.1, va_Dc.moved hW.alike h.2⟩
def Pcu (G : GT) (mi : Nat) (L : List Nat) (E : Nat → va_E) (sz : Nat) (U : State) : Prop := Pcq G L E sz U ∧ Mir mi U
def Mu (l : Launch) (G : GT) (mi : Nat) (y : MethodName) (cc : ByteArray) (n : Nat) (ret : Option FieldType) (d : Nat) (av : List Value) (L : List Nat) (E : Nat → va_E) (r : Nat) (Post : PU) : Prop :=
  ∀ sz : Nat, Met l y (.code y cc n ret :: lw_g) (rmu d r) (va_Pc av (Pcu G mi L E sz)) (Qu G (va_A (va_pl L E) sz) Post) (r / 16) r (va_A (va_pl L E) sz)

def wu (p : Program) (l : Launch) (e : Env) (d0 r0 : Nat) (s : State) (m : MethodId) (args : Array Value) (below : List Frame) (meth : Method) (c : Code) (G : GT) (A : Nat → Prop) (nL : Nat) (Q : State → Prop) (L : List Nat) (E : Nat → va_E) (u pc : Nat) (lv : List (Nat × Value)) (st : List Value) : Prop := ∀ kc ks : Nat, 16 * kc + ks ≤ u → wq p l e (rmu d0 r0) s m args below meth c G A nL Q L E kc ks pc lv st
theorem Pcu.blind {G : GT} {mi : Nat} {L : List Nat} {E : Nat → va_E} {sz : Nat} {av : List Value} : FrameBlind (va_Pc av (Pcu G mi L E sz)) := by
  intro a U g mk q
  have h1 := Pcq.blind (G := G) (L := L) (E := E) (sz := sz) (av := av) a U g mk ⟨q.1, q.2.1⟩
  exact ⟨h1.1, h1.2, va_Mi.moved (u := U) (U := U.calling g mk a) (Vm.Alike.refl U.vm) q.2.2.1, va_Dc.moved (u := U) (U := U.calling g mk a) (Vm.Alike.refl U.vm) q.2.2.2⟩
section UQ
variable {p : Program} {l : Launch} {e : Env} {d0 r0 : Nat} {s : State} {m : MethodId} {args : Array Value} {below : List Frame} {meth : Method} {c : Code} {cc : ByteArray} {y : MethodName} {ret : Option FieldType} {G : GT} {A : Nat → Prop} {nL mi : Nat} {Q : State → Prop} {L : List Nat} {E : Nat → va_E} {u pc : Nat} {lv : List (Nat × Value)} {st : List Value} {Post : PU}
theorem Mu.mk {n d r : Nat} {av : List Value} (hy : plainName y.cls = true) (hn : (lg_sl av).length ≤ n) (body : ∀ (p : Program) (e : Env) (s : State) (m : MethodId) (args : Array Value) (below : List Frame) (meth : Method) (c : Code) (A : Nat → Prop), Cq p s m args meth c cc y ret G A n → Mir mi s → wu p l e d r s m args below meth c G A n (MQ below (Qu G A Post) args s (r / 16) r A) L E 0 0 (lv_args 0 av) []) : Mu l G mi y cc n ret d av L E r Post := by
  intro sz
  refine Met.ofW (cc := cc) (maxL := n) (ret := ret) hy rfl ?_
  intro p e s m args below meth c s₁ B hml hv
  obtain ⟨rfl, ⟨hsz, hP, hK, hD0, hZ, hN⟩, hM⟩ := hv
  subst hsz
  refine hv2 (atoms_spec (ws := .code y cc n ret :: lw_g) B.pre) (lv_entry av (n := n) hn) (fun hts hl => ?_)
  rw [lg_entry_eq]
  have hown := findClass_of_methodNamed B.named
  exact body p e s m _ below meth c _ ⟨B.exec, B.bytes, hml, hown, fun w hw => hts w (List.mem_cons_of_mem _ hw), hK, fun q h => Or.inr h, hZ, B.returns, B.notSynchronized, (name_of_methodNamed B.named B.method).1, hN⟩ hM 0 0 (Nat.le_refl _) s.heap [] _ hP hD0.self va_S.rf hl
theorem u_after (C : Cq p s m args meth c cc y ret G A nL) {r2 kc ks : Nat} {a2 : Array Value} {st0 rest : List Value} {P2 : PU} {H : Heap} {locs : List Loc} {ls : Array Slot} (hu : 16 * kc + ks ≤ u) (hD : va_D A (va_pl L E)) (hS : va_S A s.heap H locs) (hl : lv_has ls nL lv) (hr : va_Run p l e (rmu d0 r0) s m args below meth c H locs kc ks (r2 / 16) r2 (F0 m pc ls st0) rest (Qu G (va_A (va_pl L E) H.size) P2 a2) (va_A (va_pl L E) H.size)) (kk : ∀ (v : Option Value) (L2 : List Nat) (E2 : Nat → va_E) (u2 : Nat), P2 v L2 E2 u2 → wu p l e d0 r0 s m args below meth c G A nL Q L2 E2 (u + u2) (pc + 3) lv (v.toList ++ rest)) : W p l e (rmu d0 r0) s m args below meth c H locs kc ks Q (F0 m pc ls st0) := by
  have hF := pl_free hD hS C.2.2.2.2.2.2.1
  intro T hT X
  obtain ⟨v, st₀, t, T', Lc, h0, X', hL, e1, e2, ⟨⟨v', L', E', u2, hv, hp, hm, hP', hD'⟩, hz, hk⟩, stp⟩ := hr T hT X
  cases hv
  have hmu := stand_mu X
  rw [hT] at hmu
  rw [h0] at hz hk hm
  obtain ⟨kc2, ks2, hn, X''⟩ := stand_narrow X' (u := u + u2) (by rw [e1]; omega)
  have hS1 : va_S A s.heap T'.heap (locs ++ Lc) := ⟨Nat.le_trans hS.1 (by rw [e1]; exact hz), fun q h1 h2 => by rw [e1, hk q (Nat.lt_of_lt_of_le h1 hS.1) (fun z => h2 (hF q z))]; exact hS.2.1 q h1 h2, fun q hq => by
      rcases List.mem_append.mp hq with h | h
      · exact hS.2.2 q h
      · exact hF _ (hL q h)⟩
  obtain ⟨t2, a1, b1⟩ := kk v L' E' u2 hp kc2 ks2 hn T'.heap (locs ++ Lc) ls (by rw [e1]; exact hP') (hD'.weaken (fun _ q _ h => hF q.1 h)) hS1 hl T' rfl X''
  exact ⟨t2, stp t2 a1, b1⟩
theorem u_room {kc ks u r2 r0 : Nat} (h : 16 * kc + ks ≤ u) (hr : u + r2 ≤ r0) : kc + r2 / 16 ≤ r0 / 16 ∧ ks + r2 ≤ r0 := ⟨by omega, by omega⟩
theorem u_callV (C : Cq p s m args meth c cc y ret G A nL) (hM : Mir mi s) {y2 : MethodName} {cc2 : ByteArray} {n2 d2 r2 idx k2 : Nat} {P2 : PU} {As rest : List Value} {b ci N : Nat} {ret2 : Option FieldType} {T : u_T} {ty : Nat → FieldType} {f : Nat → Value} (M : Mu l G mi y2 cc2 n2 ret2 d2 (.ref b :: As) L E r2 P2) (d : decode cc pc = .ok (.invokevirtual idx, 3)) (hw : Wv y.cls idx y2 cc2 n2 ret2 k2) (hk : As.length = k2) (hb : b ∈ L) (hE : E b = ob ci N f) (ck : Ck ci y2.cls T N ty) (hst : st = As.reverse ++ .ref b :: rest) (hcat : (rest.map fun v => v.category).sum ≤ 8) (hR : d2 + 1 ≤ d0 ∧ 8 + (n2 + 11) + 64 * d2 ≤ 64 * d0) (hf : u + r2 ≤ r0) (kk : ∀ (v : Option Value) (L2 : List Nat) (E2 : Nat → va_E) (u2 : Nat), P2 v L2 E2 u2 → wu p l e d0 r0 s m args below meth c G A nL Q L2 E2 (u + u2) (pc + 3) lv (v.toList ++ rest)) : wu p l e d0 r0 s m args below meth c G A nL Q L E u pc lv st := by
  intro kc ks hu H locs ls hP hD hS hl
  subst hst
  obtain ⟨q0, hq⟩ := pl_at (E := E) hb
  obtain ⟨⟨w1, w2, w3, w4⟩, w5, w6⟩ := hw
  have hts := C.2.2.2.2.1
  exact u_after C hu hD hS hl (va_runV (As := As) (rest := rest) (Ts := lw_g) ⟨C.1, C.2.1, C.2.2.1, C.2.2.2.1, hts⟩ (M H.size) ⟨callB_of k2 hts (lw_goodIn w3) rfl rfl rfl (hts _ w2) (hts _ w1) w4 hR, hts _ w5, hts _ w6⟩ ⟨Pcu.blind, va_recv C.2.2.2.2.2.1 hP (ci := ci) (q0 := q0) ck.1 (by rw [hq, hE]; rfl), fun U hU hW => ⟨rfl, ⟨by rw [hU], by rw [hU]; exact hP, va_K.moved hW.alike C.2.2.2.2.2.1, hD.weaken (fun _ _ _ _ => trivial), C.2.2.2.2.2.2.2.1.pass hS (pl_free hD hS C.2.2.2.2.2.2.1) hW.alike hU, C.2.2.2.2.2.2.2.2.2.2.2.warm hW⟩, hM.warm hW⟩⟩ rfl hk hl.1 rfl (lv_room hcat) d (u_room hu hf)) kk
theorem u_callI (C : Cq p s m args meth c cc y ret G A nL) (hM : Mir mi s) {y2 : MethodName} {cc2 : ByteArray} {n2 d2 r2 idx k2 : Nat} {P2 : PU} {As rest : List Value} {b : Nat} (M : Mu l G mi y2 cc2 n2 none d2 (.ref b :: As) L E r2 P2) (d : decode cc pc = .ok (.invokespecial idx, 3)) (hw : Wi y.cls idx y2 cc2 n2 k2) (hk : As.length = k2) (hst : st = As.reverse ++ .ref b :: rest) (hcat : (rest.map fun v => v.category).sum ≤ 8) (hR : d2 + 1 ≤ d0 ∧ 8 + (n2 + 11) + 64 * d2 ≤ 64 * d0) (hf : u + r2 ≤ r0) (kk : ∀ (v : Option Value) (L2 : List Nat) (E2 : Nat → va_E) (u2 : Nat), P2 v L2 E2 u2 → wu p l e d0 r0 s m args below meth c G A nL Q L2 E2 (u + u2) (pc + 3) lv (v.toList ++ rest)) : wu p l e d0 r0 s m args below meth c G A nL Q L E u pc lv st := by
  intro kc ks hu H locs ls hP hD hS hl
  subst hst
  obtain ⟨⟨w1, w2, w3, w4⟩, w5, w6⟩ := hw
  have hts := C.2.2.2.2.1
  exact u_after C hu hD hS hl (va_runI (As := As) (rest := rest) (Ts := lw_g) ⟨C.1, C.2.1, C.2.2.1, C.2.2.2.1, hts⟩ (M H.size) ⟨callB_of k2 hts (lw_goodIn w3) rfl rfl rfl (hts _ w2) (hts _ w1) w4 hR, w5, hts _ w6⟩ ⟨Pcu.blind, fun U hU hW => ⟨rfl, ⟨by rw [hU], by rw [hU]; exact hP, va_K.moved hW.alike C.2.2.2.2.2.1, hD.weaken (fun _ _ _ _ => trivial), C.2.2.2.2.2.2.2.1.pass hS (pl_free hD hS C.2.2.2.2.2.2.1) hW.alike hU, C.2.2.2.2.2.2.2.2.2.2.2.warm hW⟩, hM.warm hW⟩⟩ rfl hk hl.1 rfl (lv_room hcat) d (u_room hu hf)) kk
theorem u_callS (C : Cq p s m args meth c cc y ret G A nL) (hM : Mir mi s) {y2 : MethodName} {cc2 : ByteArray} {n2 d2 r2 idx k2 : Nat} {P2 : PU} {As rest : List Value} {ret2 : Option FieldType} (M : Mu l G mi y2 cc2 n2 ret2 d2 As L E r2 P2) (d : decode cc pc = .ok (.invokestatic idx, 3)) (hw : Ws y.cls idx y2 cc2 n2 ret2 k2) (hk : As.length = k2) (hst : st = As.reverse ++ rest) (hcat : (rest.map fun v => v.category).sum ≤ 8) (hR : d2 + 1 ≤ d0 ∧ 8 + (n2 + 11) + 64 * d2 ≤ 64 * d0) (hf : u + r2 ≤ r0) (kk : ∀ (v : Option Value) (L2 : List Nat) (E2 : Nat → va_E) (u2 : Nat), P2 v L2 E2 u2 → wu p l e d0 r0 s m args below meth c G A nL Q L2 E2 (u + u2) (pc + 3) lv (v.toList ++ rest)) : wu p l e d0 r0 s m args below meth c G A nL Q L E u pc lv st := by
  intro kc ks hu H locs ls hP hD hS hl
  subst hst
  obtain ⟨⟨w1, w2, w3, w4⟩, w5⟩ := hw
  have hts := C.2.2.2.2.1
  exact u_after C hu hD hS hl (va_runS (As := As) (rest := rest) (Ts := lw_g) ⟨C.1, C.2.1, C.2.2.1, C.2.2.2.1, hts⟩ (M H.size) ⟨callB_of k2 hts (lw_goodIn w3) rfl rfl rfl (hts _ w2) (hts _ w1) w4 hR, hts _ w5⟩ ⟨Pcu.blind, fun U hU hW => ⟨rfl, ⟨by rw [hU], by rw [hU]; exact hP, va_K.moved hW.alike C.2.2.2.2.2.1, hD.weaken (fun _ _ _ _ => trivial), C.2.2.2.2.2.2.2.1.pass hS (pl_free hD hS C.2.2.2.2.2.2.1) hW.alike hU, C.2.2.2.2.2.2.2.2.2.2.2.warm hW⟩, hM.warm hW⟩⟩ rfl hk hl.1 rfl (lv_room hcat) d (u_room hu hf)) kk
theorem u_callIN (C : Cq p s m args meth c cc y ret G A nL) (hM : Mir mi s) {y2 : MethodName} {cc2 : ByteArray} {n2 d2 r2 idx k2 : Nat} {P2 : PU} {As rest : List Value} {b : Nat} {host : String} (M : Mu l G mi y2 cc2 n2 none d2 (.ref b :: As) L E r2 P2) (d : decode cc pc = .ok (.invokespecial idx, 3)) (hw : Wn y.cls idx y2 host cc2 n2 k2) (hk : As.length = k2) (hst : st = As.reverse ++ .ref b :: rest) (hcat : (rest.map fun v => v.category).sum ≤ 8) (hR : d2 + 1 ≤ d0 ∧ 8 + (n2 + 11) + 64 * d2 ≤ 64 * d0) (hf : u + r2 ≤ r0) (kk : ∀ (v : Option Value) (L2 : List Nat) (E2 : Nat → va_E) (u2 : Nat), P2 v L2 E2 u2 → wu p l e d0 r0 s m args below meth c G A nL Q L2 E2 (u + u2) (pc + 3) lv (v.toList ++ rest)) : wu p l e d0 r0 s m args below meth c G A nL Q L E u pc lv st := by
  intro kc ks hu H locs ls hP hD hS hl
  subst hst
  obtain ⟨⟨w1, w2, w3, w4⟩, w5, w6⟩ := hw
  have hts := C.2.2.2.2.1
  exact u_after C hu hD hS hl (va_runIN (As := As) (rest := rest) (Ts := lw_g) ⟨C.1, C.2.1, C.2.2.1, C.2.2.2.1, hts⟩ (M H.size) ⟨va_cnB k2 hts (lw_goodIn w3) rfl rfl rfl (C.2.2.2.2.2.2.2.2.2.2.2.1 _ _ _ _ w1) (hts _ w2) w4 hR, w5, hts _ w6⟩ ⟨Pcu.blind, fun U hU hW => ⟨rfl, ⟨by rw [hU], by rw [hU]; exact hP, va_K.moved hW.alike C.2.2.2.2.2.1, hD.weaken (fun _ _ _ _ => trivial), C.2.2.2.2.2.2.2.1.pass hS (pl_free hD hS C.2.2.2.2.2.2.1) hW.alike hU, C.2.2.2.2.2.2.2.2.2.2.2.warm hW⟩, hM.warm hW⟩⟩ rfl hk hl.1 rfl (lv_room hcat) d (u_room hu hf)) kk
theorem u_wid {kc ks u r0 : Nat} (h : 16 * kc + ks ≤ u) (hr : u ≤ r0) : kc ≤ r0 / 16 ∧ ks ≤ r0 := ⟨by omega, by omega⟩
theorem u_iret (C : Cq p s m args meth c cc y ret G A nL) {v : Int32} (d : decode cc pc = .ok (.ireturn, 1)) (hr : ret = some .int) (hur : u ≤ r0) (hp : Post (some (.int v)) L E u) : wu p l e d0 r0 s m args below meth c G A nL (MQ below (Qu G A Post) args s (r0 / 16) r0 A) L E u pc lv [.int v] := by
  intro kc ks hu H locs ls hP hD hS hl T hT X
  have hmu := stand_mu X
  rw [hT] at hmu
  refine W.widen (u_wid hu hur).1 (u_wid hu hur).2 ?_ T hT X
  exact W.iret C.1 C.2.1 (C.2.2.2.2.2.2.2.2.1.trans hr) (fun t ht hW => ⟨⟨_, L, E, u, rfl, hp, by rw [ht]; omega, by rw [ht]; exact hP, hD⟩, hS.F ht⟩) hS.2.2 d C.2.2.2.2.2.2.2.2.2.1
theorem u_zret (C : Cq p s m args meth c cc y ret G A nL) {v : Int32} (d : decode cc pc = .ok (.ireturn, 1)) (hr : ret = some .boolean) (hn : narrow .boolean (.int v) = .int v) (hur : u ≤ r0) (hp : Post (some (.int v)) L E u) : wu p l e d0 r0 s m args below meth c G A nL (MQ below (Qu G A Post) args s (r0 / 16) r0 A) L E u pc lv [.int v] := by
  intro kc ks hu H locs ls hP hD hS hl T hT X
  have hmu := stand_mu X
  rw [hT] at hmu
  refine W.widen (u_wid hu hur).1 (u_wid hu hur).2 ?_ T hT X
  exact W.zret C.1 C.2.1 (C.2.2.2.2.2.2.2.2.1.trans hr) hn (fun t ht hW => ⟨⟨_, L, E, u, rfl, hp, by rw [ht]; omega, by rw [ht]; exact hP, hD⟩, hS.F ht⟩) hS.2.2 d C.2.2.2.2.2.2.2.2.2.1
theorem u_vret (C : Cq p s m args meth c cc y ret G A nL) (d : decode cc pc = .ok (.return_, 1)) (hr : ret = none) (hur : u ≤ r0) (hp : Post none L E u) : wu p l e d0 r0 s m args below meth c G A nL (MQ below (Qu G A Post) args s (r0 / 16) r0 A) L E u pc lv [] := by
  intro kc ks hu H locs ls hP hD hS hl T hT X
  have hmu := stand_mu X
  rw [hT] at hmu
  refine W.widen (u_wid hu hur).1 (u_wid hu hur).2 ?_ T hT X
  exact W.vret C.1 C.2.1 (C.2.2.2.2.2.2.2.2.1.trans hr) (fun t ht hW => ⟨⟨_, L, E, u, rfl, hp, by rw [ht]; omega, by rw [ht]; exact hP, hD⟩, hS.F ht⟩) hS.2.2 d C.2.2.2.2.2.2.2.2.2.1
theorem u_aret (C : Cq p s m args meth c cc y ret G A nL) {v : Value} {rt : FieldType} (d : decode cc pc = .ok (.areturn, 1)) (hr : ret = some rt) (hrt : (∃ n, rt = .object n) ∨ ∃ t, rt = .array t) (hv : v = .null ∨ ∃ a, v = .ref a) (hur : u ≤ r0) (hp : Post (some v) L E u) : wu p l e d0 r0 s m args below meth c G A nL (MQ below (Qu G A Post) args s (r0 / 16) r0 A) L E u pc lv [v] := by
  intro kc ks hu H locs ls hP hD hS hl T hT X
  have hmu := stand_mu X
  rw [hT] at hmu
  refine W.widen (u_wid hu hur).1 (u_wid hu hur).2 ?_ T hT X
  exact W.aret C.1 C.2.1 (C.2.2.2.2.2.2.2.2.1.trans hr) hrt hv (fun t ht hW => ⟨⟨_, L, E, u, rfl, hp, by rw [ht]; omega, by rw [ht]; exact hP, hD⟩, hS.F ht⟩) hS.2.2 d C.2.2.2.2.2.2.2.2.2.1
end UQ
