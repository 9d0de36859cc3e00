section LB
variable {p : Program} {l : Launch} {e : Env} {R : Room} {s : State} {m : MethodId} {args : Array Value} {below : List Frame} {meth : Method} {c : Code} {cc : ByteArray} {y : MethodName} {ret : Option FieldType} {G : GT} {A : Nat → Prop} {nL mi : Nat} {Q : State → Prop} {L : List Nat} {E : Nat → va_E} {kc ks u pc : Nat} {lv : List (Nat × Value)} {st : List Value}
theorem u_sub (C : Cq p s m args meth c cc y ret G A nL) (hu : 16 * kc + ks ≤ u) {mc2 ms2 : Nat} {a2 : Array Value} {st0 rest : List Value} {P2 : PU} {H : Heap} {locs : List Loc} {ls : Array Slot} {Lx Lm : List Nat} (hP : va_P G.1 vwCl (va_pl (Lm ++ Lx) E) H) (hD : va_D A (va_pl (Lm ++ Lx) E)) (hS : va_S A s.heap H locs) (hl : lv_has ls nL lv) (hr : va_Run p l e R s m args below meth c H locs kc ks mc2 ms2 (F0 m pc ls st0) rest (Qu G (va_A (va_pl Lx E) H.size) P2 a2) (va_A (va_pl Lx E) H.size)) (kk : ∀ (v : Option Value) (L2 : List Nat) (E2 : Nat → va_E) (E3 : Nat → va_E) (u2 : Nat), P2 v L2 E2 u2 → (∀ a ∈ Lm, E3 a = E a) → (∀ a ∈ L2, E3 a = E2 a) → (∀ a ∈ Lm, a ∉ L2) → ∀ kc2 ks2 : Nat, 16 * kc2 + ks2 ≤ u + u2 → wq p l e R s m args below meth c G A nL Q (Lm ++ L2) E3 kc2 ks2 (pc + 3) lv (v.toList ++ rest)) : W p l e R s m args below meth c H locs kc ks Q (F0 m pc ls st0) := by
  have hsp : va_pl (Lm ++ Lx) E = va_pl Lm E ++ va_pl Lx E := List.map_append
  rw [hsp] at hP hD
  have hlen : (va_pl Lm E).length = Lm.length := List.length_map _
  have pR : ∀ (j : Nat) (q : Nat × va_E), (va_pl Lx E)[j]? = some q → (va_pl Lm E ++ va_pl Lx E)[(va_pl Lm E).length + j]? = some q := fun j q h => by rw [List.getElem?_append_right (by omega), Nat.add_sub_cancel_left]; exact h
  have pL : ∀ (j : Nat) (q : Nat × va_E), (va_pl Lm E)[j]? = some q → (va_pl Lm E ++ va_pl Lx E)[j]? = some q := fun j q h => by rw [List.getElem?_append_left ((List.getElem?_eq_some_iff.mp h).1)]; exact h
  have hDx : va_D A (va_pl Lx E) := ⟨fun i j x y hi hj e => by have := hD.1 _ _ x y (pR i x hi) (pR j y hj) e; omega, fun k q hk => hD.2 _ q (pR k q hk)⟩
  have hF := pl_free hDx hS C.2.2.2.2.2.2.1
  intro T hT X
  obtain ⟨v, st₀, t, T', Lc, h0, X', hL, e1, e2, ⟨⟨v', L', E', u2, hv, hp, hm, hP', hD'⟩, hz, hk⟩, stp⟩ := hr T hT X
  cases hv
  have hmu := stand_mu X
  rw [hT] at hmu
  rw [h0] at hz hk hm
  obtain ⟨kc2, ks2, hn, X2⟩ := stand_narrow X' (u := u + u2) (by rw [e1]; omega)
  have hS1 : va_S A s.heap T'.heap (locs ++ Lc) := ⟨Nat.le_trans hS.1 (by rw [e1]; exact hz), fun q h1 h2 => by rw [e1, hk q (Nat.lt_of_lt_of_le h1 hS.1) (fun z => h2 (hF q z))]; exact hS.2.1 q h1 h2, fun q hq => by
      rcases List.mem_append.mp hq with h | h
      · exact hS.2.2 q h
      · exact hF _ (hL q h)⟩
  have apart : ∀ a ∈ Lm, a < H.size ∧ ¬ va_A (va_pl Lx E) H.size a := by
    intro a ha
    obtain ⟨j, hj⟩ := pl_at (E := E) ha
    have hlt := (hP _ _ (pL j _ hj)).lt
    refine ⟨hlt, fun z => ?_⟩
    rcases z with ⟨k, x, z⟩ | z
    · have := hD.1 _ _ _ _ (pL j _ hj) (pR k _ z) rfl
      have hjl := (List.getElem?_eq_some_iff.mp hj).1
      omega
    · omega
  have dis : ∀ a ∈ Lm, a ∉ L' := by
    intro a ha hb
    obtain ⟨j, hj⟩ := pl_at (E := E') hb
    exact (apart a ha).2 (hD'.2 j _ hj)
  refine hv2 (show ∀ a ∈ Lm, (fun a => if a ∈ Lm then E a else E' a) a = E a from fun a ha => if_pos ha) (show ∀ a ∈ L', (fun a => if a ∈ Lm then E a else E' a) a = E' a from fun a ha => if_neg (fun z => dis a z ha)) (fun e3a e3b => ?_)
  have hw : va_pl (Lm ++ L') (fun a => if a ∈ Lm then E a else E' a) = va_pl Lm E ++ va_pl L' E' := by
    show List.map _ (Lm ++ L') = _
    rw [List.map_append]
    congr 1
    · exact List.map_congr_left (fun a ha => by rw [e3a a ha])
    · exact List.map_congr_left (fun a ha => by rw [e3b a ha])
  have hPm : va_P G.1 vwCl (va_pl Lm E) T'.heap := by
    intro k q hq
    have hqm : q.1 ∈ Lm := by
      obtain ⟨a, ha, ea⟩ := List.mem_map.mp (List.mem_of_getElem? hq)
      rw [← ea]; exact ha
    exact (hP _ _ (pL k q hq)).kept (by rw [e1]; exact hk q.1 (apart _ hqm).1 (apart _ hqm).2)
  have hDm : va_D A (va_pl Lm E) := ⟨fun i j x y hi hj e => hD.1 _ _ x y (pL i x hi) (pL j y hj) e, fun k q hk => hD.2 _ q (pL k q hk)⟩
  obtain ⟨t2, a1, b1⟩ := kk v L' E' _ u2 hp e3a e3b dis kc2 ks2 hn T'.heap (locs ++ Lc) ls (by rw [hw]; exact va_P.app hPm (by rw [e1]; exact hP')) (by
      rw [hw]
      refine va_D.app hDm (hD'.weaken (fun _ q _ h => hF q.1 h)) (fun i j x y hx hy hxy => ?_)
      have hxm : x.1 ∈ Lm := by
        obtain ⟨a, ha, ea⟩ := List.mem_map.mp (List.mem_of_getElem? hx)
        rw [← ea]; exact ha
      have hym : y.1 ∈ L' := by
        obtain ⟨a, ha, ea⟩ := List.mem_map.mp (List.mem_of_getElem? hy)
        rw [← ea]; exact ha
      exact dis _ hxm (hxy ▸ hym)) hS1 hl T' rfl X2
  exact ⟨t2, stp t2 a1, b1⟩
theorem u_subV (C : Cq p s m args meth c cc y ret G A nL) (hM : Mir mi s) (hu : 16 * kc + ks ≤ u) {y2 : MethodName} {cc2 : ByteArray} {n2 d2 r2 idx b ci N k2 : Nat} {ret2 : Option FieldType} {P2 : PU} {As rest : List Value} {T : u_T} {ty : Nat → FieldType} {f : Nat → Value} {Lm Lx : List Nat} (M : Mu l G mi y2 cc2 n2 ret2 d2 (.ref b :: As) Lx E r2 P2) (d : decode cc pc = .ok (.invokevirtual idx, 3)) (hw : Wv y.cls idx y2 cc2 n2 ret2 k2) (hk : As.length = k2) (hb : b ∈ Lx) (hE : E b = ob ci N f) (ck : Ck ci y2.cls T N ty) (hst : st = As.reverse ++ .ref b :: rest) (hcat : (rest.map fun v => v.category).sum ≤ 8) (hR : d2 + 1 ≤ R.frames ∧ 8 + (n2 + 11) + 64 * d2 ≤ R.locals) (hf : kc + r2 / 16 ≤ R.cells ∧ ks + r2 ≤ R.slots) (kk : ∀ (v : Option Value) (L2 : List Nat) (E2 E3 : Nat → va_E) (u2 : Nat), P2 v L2 E2 u2 → (∀ a ∈ Lm, E3 a = E a) → (∀ a ∈ L2, E3 a = E2 a) → (∀ a ∈ Lm, a ∉ L2) → ∀ kc2 ks2 : Nat, 16 * kc2 + ks2 ≤ u + u2 → wq p l e R s m args below meth c G A nL Q (Lm ++ L2) E3 kc2 ks2 (pc + 3) lv (v.toList ++ rest)) : wq p l e R s m args below meth c G A nL Q (Lm ++ Lx) E kc ks pc lv st := by
  intro H locs ls hP hD hS hl
  subst hst
  obtain ⟨q0, hq⟩ := pl_at (E := E) hb
  obtain ⟨⟨w1, w2, w3, w4⟩, w5, w6⟩ := hw
  have hts := C.2.2.2.2.1
  exact u_sub C hu hP hD hS hl (va_runV (As := As) (rest := rest) (Ts := lw_g) ⟨C.1, C.2.1, C.2.2.1, C.2.2.2.1, hts⟩ (M H.size) ⟨callB_of k2 hts (lw_goodIn w3) rfl rfl rfl (hts _ w2) (hts _ w1) w4 hR, hts _ w5, hts _ w6⟩ ⟨Pcu.blind, va_recv C.2.2.2.2.2.1 (pl_partP hP) (ci := ci) (q0 := q0) ck.1 (by rw [hq, hE]; rfl), fun U hU hW => ⟨rfl, ⟨by rw [hU], by rw [hU]; exact pl_partP hP, va_K.moved hW.alike C.2.2.2.2.2.1, (pl_partD hD).weaken (fun _ _ _ _ => trivial), C.2.2.2.2.2.2.2.1.pass hS (pl_free (pl_partD hD) hS C.2.2.2.2.2.2.1) hW.alike hU, C.2.2.2.2.2.2.2.2.2.2.2.warm hW⟩, hM.warm hW⟩⟩ rfl hk hl.1 rfl (lv_room hcat) d hf) kk
theorem u_subI (C : Cq p s m args meth c cc y ret G A nL) (hM : Mir mi s) (hu : 16 * kc + ks ≤ u) {y2 : MethodName} {cc2 : ByteArray} {n2 d2 r2 idx b k2 : Nat} {P2 : PU} {As rest : List Value} {Lm Lx : List Nat} (M : Mu l G mi y2 cc2 n2 none d2 (.ref b :: As) Lx E r2 P2) (d : decode cc pc = .ok (.invokespecial idx, 3)) (hw : Wi y.cls idx y2 cc2 n2 k2) (hk : As.length = k2) (hst : st = As.reverse ++ .ref b :: rest) (hcat : (rest.map fun v => v.category).sum ≤ 8) (hR : d2 + 1 ≤ R.frames ∧ 8 + (n2 + 11) + 64 * d2 ≤ R.locals) (hf : kc + r2 / 16 ≤ R.cells ∧ ks + r2 ≤ R.slots) (kk : ∀ (v : Option Value) (L2 : List Nat) (E2 E3 : Nat → va_E) (u2 : Nat), P2 v L2 E2 u2 → (∀ a ∈ Lm, E3 a = E a) → (∀ a ∈ L2, E3 a = E2 a) → (∀ a ∈ Lm, a ∉ L2) → ∀ kc2 ks2 : Nat, 16 * kc2 + ks2 ≤ u + u2 → wq p l e R s m args below meth c G A nL Q (Lm ++ L2) E3 kc2 ks2 (pc + 3) lv (v.toList ++ rest)) : wq p l e R s m args below meth c G A nL Q (Lm ++ Lx) E kc ks pc lv st := by
  intro H locs ls hP hD hS hl
  subst hst
  obtain ⟨⟨w1, w2, w3, w4⟩, w5, w6⟩ := hw
  have hts := C.2.2.2.2.1
  exact u_sub C hu hP hD hS hl (va_runI (As := As) (rest := rest) (Ts := lw_g) ⟨C.1, C.2.1, C.2.2.1, C.2.2.2.1, hts⟩ (M H.size) ⟨callB_of k2 hts (lw_goodIn w3) rfl rfl rfl (hts _ w2) (hts _ w1) w4 hR, w5, hts _ w6⟩ ⟨Pcu.blind, fun U hU hW => ⟨rfl, ⟨by rw [hU], by rw [hU]; exact pl_partP hP, va_K.moved hW.alike C.2.2.2.2.2.1, (pl_partD hD).weaken (fun _ _ _ _ => trivial), C.2.2.2.2.2.2.2.1.pass hS (pl_free (pl_partD hD) hS C.2.2.2.2.2.2.1) hW.alike hU, C.2.2.2.2.2.2.2.2.2.2.2.warm hW⟩, hM.warm hW⟩⟩ rfl hk hl.1 rfl (lv_room hcat) d hf) kk
end LB
