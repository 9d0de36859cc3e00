section
theorem shr1 {x : Int} (h : R32 x) : iI x >>> (iI 1 &&& 31) = iI (x / 2) := by
  refine hv2 (h.1) (h.2) (fun h1 h2 => ?_)
  apply Int32.toInt_inj.mp
  rw [iI_int ⟨by omega, by omega⟩]
  have e : (iI 1 &&& 31 : Int32) = 1 := by decide
  rw [e]
  show (BitVec.sshiftRight' (iI x).toBitVec ((1 : Int32).toBitVec.smod 32)).toInt = x / 2
  have e2 : ((1 : Int32).toBitVec.smod 32) = 1#32 := by decide
  rw [e2]
  show ((iI x).toBitVec.sshiftRight 1).toInt = x / 2
  rw [BitVec.toInt_sshiftRight]
  show (iI x).toInt >>> 1 = x / 2
  rw [iI_int h, Int.shiftRight_eq_div_pow]
  rfl
section LST
variable {g : Nat} {sk : Nat → Nat} {L : List Nat} {cl ln : Nat → Nat} {iv iv2 : Nat → Nat → Int} {rv rv2 : Nat → Nat → Option Nat} {a b T TB k i x : Nat}
theorem lst_raw (h : lst T = true) : raw T = false := by unfold raw; unfold lst at h; simp at h ⊢; omega
theorem WT.edc (h : WT g sk L cl ln iv rv) (ha : ty L cl a T) (hl : lst T = true) (hn : nul T 1 = false) : (rv a 1 = some g ∧ iv a 2 = 0) ∨ ∃ b, rv a 1 = some b ∧ ty L cl b (1000 + (T - 22)) ∧ cl b = 1000 + 5 * a + (T - 22) ∧ iv a 2 ≤ ((ln b : Nat) : Int) := by
  refine hv2 (h.2.1 a ha.1 1 (by rw [ha.2]; exact lst_raw hl)) (h.2.2.2.1 a ha.1 (by rw [ha.2]; exact lst_szd hl)) (fun q q4 => ?_)
  cases e : rv a 1 with
  | none => have := q.1 e; rw [ha.2, hn] at this; cases this
  | some b =>
    rcases q.2 b e with w | w
    · refine Or.inr ⟨b, rfl, ⟨w.1, ?_⟩, ?_, ?_⟩
      · rw [w.2.1, ha.2, tgt_list hl]
      · have := w.2.2.2 (by rw [ha.2]; exact hl) rfl; rw [ha.2] at this; exact this
      · rcases q4 b e with z | z
        · exact absurd w.1 (by rw [z.1]; exact h.2.2.2.2.2.2)
        · exact z.2
    · refine Or.inl ⟨by rw [w.1], ?_⟩
      rcases q4 b e with z | z
      · exact z.2
      · exact absurd z.1 (by rw [w.1]; exact h.2.2.2.2.2.2)
theorem WT.ed2 (h : WT g sk L cl ln iv rv) (ha : ty L cl a T) (hl : lst T = true) (hn : nul T 1 = false) (hz : 0 < iv a 2) : ∃ b, rv a 1 = some b ∧ ty L cl b (1000 + (T - 22)) ∧ cl b = 1000 + 5 * a + (T - 22) ∧ iv a 2 ≤ ((ln b : Nat) : Int) := by
  rcases h.edc ha hl hn with w | w
  · omega
  · exact w
theorem WT.elem (h : WT g sk L cl ln iv rv) (ha : ty L cl a T) (hl : lst T = true) (hb : rv a 1 = some b) (tb : ty L cl b TB) (hr : raw TB = false) (hlb : lst TB = false) (hi : (i : Int) < iv a 2) : ∃ c, rv b i = some c ∧ ty L cl c (tgt TB i) := by
  rcases h.opt tb i hr (by rw [hlb]; rfl) with w | w
  · exact absurd w.1 (h.2.2.2.2.1 a ha.1 (by rw [ha.2]; exact hl) b hb i hi)
  · exact w
theorem WT.own (h : WT g sk L cl ln iv rv) {w : Nat} (hw : w ∈ L) (hl : lst (bt (cl w)) = true) (hb : rv w 1 = some b) (hbL : b ∈ L) (hc : cl b = 1000 + 5 * a + k) (hk : k < 5) : w = a := by
  rcases (h.2.1 w hw 1 (lst_raw hl)).2 b hb with q | q
  · have e := q.2.2.2 hl rfl
    unfold lst at hl
    simp at hl
    omega
  · exact absurd hbL (by rw [q.1]; exact h.2.2.2.2.2.2)
theorem WT.lset (h : WT g sk L cl ln iv rv) (he : rv2 = upr rv b i (some x)) (hb : ty L cl b TB) (hT : 1000 ≤ TB) (hx : ty L cl x (tgt TB i)) : WT g sk L cl ln iv rv2 := by
  subst he
  obtain ⟨h1, h2, h3, h4, h5, h6⟩ := id h
  have hs : szd TB = false := by unfold szd lst; simp; omega
  refine ⟨h1, fun w hw j => ?_, h3, fun w hw hz => ?_, fun w hw hz c hc j hj => ?_, h6⟩
  · by_cases e : w = b
    · subst e
      by_cases ej : j = i
      · subst ej
        rw [upr_s]
        intro _
        refine ⟨(fun q => by cases q), fun c hc => ?_⟩
        cases hc
        refine Or.inl ⟨hx.1, by rw [hx.2, hb.2], ?_, ?_⟩
        · intro q; rw [hb.2] at q; omega
        · intro q; rw [hb.2] at q; unfold lst at q; simp at q; omega
      · rw [upr_j ej]; exact h2 w hw j
    · rw [upr_a e]; exact h2 w hw j
  · have e : w ≠ b := fun e => by rw [e, hb.2, hs] at hz; cases hz
    rw [upr_a e]; exact h4 w hw hz
  · have e : w ≠ b := fun e => by rw [e, hb.2] at hz; rw [lst_szd hz] at hs; cases hs
    rw [upr_a e] at hc
    by_cases e2 : c = b
    · subst e2
      by_cases ej : j = i
      · subst ej; rw [upr_s]; exact fun q => by cases q
      · rw [upr_j ej]; exact h5 w hw hz c hc j hj
    · rw [upr_a e2]; exact h5 w hw hz c hc j hj
theorem WT.lnull (h : WT g sk L cl ln iv rv) (he : rv2 = upr rv b i none) (hb : ty L cl b TB) (hT : 1000 ≤ TB) (hn : nul TB i = true) (hc : cl b = 1000 + 5 * a + k) (hk : k < 5) (hi : iv a 2 ≤ (i : Int)) : WT g sk L cl ln iv rv2 := by
  subst he
  obtain ⟨h1, h2, h3, h4, h5, h6⟩ := id h
  have hs : szd TB = false := by unfold szd lst; simp; omega
  refine ⟨h1, fun w hw j => ?_, h3, fun w hw hz => ?_, fun w hw hz c hcc j hj => ?_, h6⟩
  · by_cases e : w = b
    · subst e
      by_cases ej : j = i
      · subst ej
        rw [upr_s]
        intro _
        exact ⟨fun _ => by rw [hb.2]; exact hn, fun c q => by cases q⟩
      · rw [upr_j ej]; exact h2 w hw j
    · rw [upr_a e]; exact h2 w hw j
  · have e : w ≠ b := fun e => by rw [e, hb.2, hs] at hz; cases hz
    rw [upr_a e]; exact h4 w hw hz
  · have e : w ≠ b := fun e => by rw [e, hb.2] at hz; rw [lst_szd hz] at hs; cases hs
    rw [upr_a e] at hcc
    by_cases e2 : c = b
    · subst e2
      have ea := h.own hw hz hcc hb.1 hc hk
      subst ea
      by_cases ej : j = i
      · subst ej; omega
      · rw [upr_j ej]; exact h5 w hw hz c hcc j hj
    · rw [upr_a e2]; exact h5 w hw hz c hcc j hj
theorem WT.led (h : WT g sk L cl ln iv rv) (he : rv2 = upr rv a 1 (some b)) (ha : ty L cl a T) (hl : lst T = true) (hb : b ∈ L) (hc : cl b = 1000 + 5 * a + (T - 22)) (hs : iv a 2 ≤ ((ln b : Nat) : Int)) (hn : ∀ i : Nat, (i : Int) < iv a 2 → rv b i ≠ none) : WT g sk L cl ln iv rv2 := by
  subst he
  have hl2 := hl
  unfold lst at hl2
  simp at hl2
  have hbt : bt (cl b) = 1000 + (T - 22) := by rw [hc]; exact bt_list (by omega)
  have hne : b ≠ a := fun e => by have := ha.2; rw [← e, hbt] at this; omega
  obtain ⟨h1, h2, h3, h4, h5, h6, h7⟩ := id h
  refine ⟨h1, fun w hw j => ?_, h3, fun w hw hz => ?_, fun w hw hz c hcc j hj => ?_, h6, h7⟩
  · by_cases e : w = a
    · subst e
      by_cases ej : j = 1
      · subst ej
        rw [upr_s]
        intro _
        refine ⟨(fun q => by cases q), fun c q => ?_⟩
        cases q
        refine Or.inl ⟨hb, by rw [hbt, ha.2, tgt_list hl], ?_, ?_⟩
        · intro q; rw [ha.2] at q; omega
        · intro _ _; rw [ha.2]; exact hc
      · rw [upr_j ej]; exact h2 w hw j
    · rw [upr_a e]; exact h2 w hw j
  · by_cases e : w = a
    · subst e
      intro c q
      rw [upr_s] at q; cases q
      exact Or.inr ⟨hb, hs⟩
    · rw [upr_a e]; exact h4 w hw hz
  · by_cases e : w = a
    · subst e
      rw [upr_s] at hcc; cases hcc
      rw [upr_a hne]; exact hn j hj
    · rw [upr_a e] at hcc
      have hca : c ≠ a := by
        intro e2
        subst e2
        rcases (h2 w hw 1 (lst_raw hz)).2 c hcc with q | q
        · rw [ha.2, tgt_list hz] at q; omega
        · exact h7 (q.1 ▸ ha.1)
      rw [upr_a hca]
      exact h5 w hw hz c hcc j hj
theorem uq_big {x : Nat} (h : 1000 ≤ bt x) : uq x = false := by
  have hx : 130 ≤ x := by
    unfold bt at h
    split at h
    · split at h
      · omega
      · split at h <;> omega
    · split at h
      · omega
      · omega
  unfold uq
  simp
  omega
theorem WT.lsz {z : Int} (h : WT g sk L cl ln iv rv) (he : iv2 = up2 iv a 2 z) (ha : ty L cl a T) (hl : lst T = true) (hz : 0 ≤ z ∧ z ≤ iv a 2) : WT g sk L cl ln iv2 rv := by
  have hb := h.int ha 2
  refine h.putsz he ha ⟨?_, Int.le_trans hz.2 hb.2⟩ (fun b hb2 => ?_) (fun _ b hb2 i hi => ?_)
  · have : ilo T 2 = 0 := by
      unfold lst at hl
      simp only [Bool.and_eq_true, decide_eq_true_eq] at hl
      have : T = 22 ∨ T = 23 ∨ T = 24 ∨ T = 25 ∨ T = 26 := by omega
      rcases this with rfl | rfl | rfl | rfl | rfl <;> rfl
    rw [this]; exact hz.1
  · rcases h.2.2.2.1 a ha.1 (by rw [ha.2]; exact lst_szd hl) b hb2 with q | q
    · exact Or.inl ⟨q.1, by omega⟩
    · exact Or.inr ⟨q.1, by omega⟩
  · exact h.2.2.2.2.1 a ha.1 (by rw [ha.2]; exact hl) b hb2 i (by omega)
theorem WT.lapp {z m : Int} (h : WT g sk L cl ln iv rv) (he : iv2 = up2 iv a 2 z) (ha : ty L cl a T) (hl : lst T = true) (hb : rv a 1 = some b) (tb : b ∈ L) (hx : rv b (iv a 2).toNat = some x) (hz : z = iv a 2 + 1) (hm : iv a 2 + 1 ≤ m) (hs : iv a 2 + 1 ≤ ((ln b : Nat) : Int)) (hi : ihi T 2 = m) : WT g sk L cl ln iv2 rv := by
  have hbx := h.int ha 2
  refine h.putsz he ha ⟨by omega, by omega⟩ (fun c hc => ?_) (fun _ c hc i hi2 => ?_)
  · rw [hb] at hc; cases hc
    exact Or.inr ⟨tb, by omega⟩
  · rw [hb] at hc; cases hc
    by_cases e : (i : Int) < iv a 2
    · exact h.2.2.2.2.1 a ha.1 (by rw [ha.2]; exact hl) b hb i e
    · have : i = (iv a 2).toNat := by omega
      rw [this, hx]; exact fun q => by cases q
theorem WT.copyr {q n TB2 : Nat} (h : WT g sk L cl ln iv rv) (he : rv2 = (fun w j => if w = q then (if j < n then rv a j else rv q j) else rv w j)) (hq : ty L cl q TB) (ha : ty L cl a TB) (hT : 1000 ≤ TB) (ht : ∀ i j, tgt TB i = tgt TB j) (hu : ∀ i, nul TB i = true) (hno : ∀ w ∈ L, lst (bt (cl w)) = true → rv w 1 ≠ some q) : WT g sk L cl ln iv rv2 := by
  subst he
  obtain ⟨h1, h2, h3, h4, h5, h6⟩ := id h
  have hs : szd TB = false := by unfold szd lst; simp; omega
  refine ⟨h1, fun w hw j => ?_, h3, fun w hw hz => ?_, fun w hw hz c hc j hj => ?_, h6⟩
  · by_cases e : w = q
    · subst e
      show rok L cl g w j (if w = w then (if j < n then rv a j else rv w j) else rv w j)
      rw [if_pos rfl]
      by_cases hp : j < n
      · rw [if_pos hp]
        intro _
        refine ⟨fun _ => by rw [hq.2]; exact hu j, fun c hc => ?_⟩
        have qa := (h2 a ha.1 j (by rw [ha.2]; unfold raw; simp; omega)).2 c hc
        rw [ha.2] at qa
        rcases qa with y | y
        · refine Or.inl ⟨y.1, by rw [hq.2]; exact y.2.1, ?_, ?_⟩
          · intro z; rw [hq.2] at z; omega
          · intro z; rw [hq.2] at z; unfold lst at z; simp at z; omega
        · have := y.2.1; unfold lst at this; simp at this; omega
      · rw [if_neg hp]; exact h2 w hw j
    · show rok L cl g w j (if w = q then (if j < n then rv a j else rv q j) else rv w j)
      rw [if_neg e]; exact h2 w hw j
  · have e : w ≠ q := fun e => by rw [e, hq.2, hs] at hz; cases hz
    dsimp only
    rw [if_neg e]; exact h4 w hw hz
  · have e : w ≠ q := fun e => by rw [e, hq.2] at hz; rw [lst_szd hz] at hs; cases hs
    dsimp only at hc ⊢
    rw [if_neg e] at hc
    have e2 : c ≠ q := fun e2 => hno w hw hz (by rw [← e2]; exact hc)
    rw [if_neg e2]; exact h5 w hw hz c hc j hj
end LST
section CQ5
variable {p : Program} {l : Launch} {e : Env} {d0 r0 : Nat} {s : State} {m : MethodId} {args : Array Value} {below : List Frame} {meth : Method} {c : Code} {cc : ByteArray} {y : MethodName} {ret : Option FieldType} {G : GT} {A : Nat → Prop} {nL mi : Nat} {Q : State → Prop} {Pf : PF} {ph : Nat} {L : List Nat} {cl ln : Nat → Nat} {iv : Nat → Nat → Int} {rv : Nat → Nat → Option Nat} {K pc : Nat} {lv : List (Nat × Value)} {st : List Value}
theorem c_getU (C : Cq p s m args meth c cc y ret G A nL) {ref : String} {a k idx ci N T : Nat} {Cn : String} {TT : u_T} {tyy : Nat → FieldType} (ck : Ck ci Cn TT N tyy) (d : decode cc pc = .ok (.getfield idx, 3)) (lk : Cond.fieldLink y.cls idx ref (TT k).2.1 (TT k).2.2.1 ∈ lw_g) (hsm : Cond.sameField ref (TT k).1 (TT k).2.1 (TT k).2.2.1 ∈ lw_g) (hk : k < N) (ha : ty L cl a T) (hT : kd T = ci) (hN : nf ci = N) (h13 : ci < 13) (hr : rf ci k = false) (kk : cw p l e d0 r0 s m args below meth c G A nL Q Pf ph L cl ln iv rv K (pc + 3) lv (.int (iI (iv a k)) :: st)) : cw p l e d0 r0 s m args below meth c G A nL Q Pf ph L cl ln iv rv K pc lv (.ref a :: st) := fun u hu kc ks hh => q_getU (k := k) C ck d lk hsm hk ha.1 (enc_ob ha hT hN h13) (ofv_i hr) (kk u hu kc ks hh)
theorem c_putU (C : Cq p s m args meth c cc y ret G A nL) {ref : String} {a k idx ci N T : Nat} {Cn : String} {TT : u_T} {tyy : Nat → FieldType} {z : Int} (ck : Ck ci Cn TT N tyy) (d : decode cc pc = .ok (.putfield idx, 3)) (lk : Cond.fieldLink y.cls idx ref (TT k).2.1 (TT k).2.2.1 ∈ lw_g) (hsm : Cond.sameField ref (TT k).1 (TT k).2.1 (TT k).2.2.1 ∈ lw_g) (hk : k < N) (hfin : (TT k).2.2.2 = false) (ha : ty L cl a T) (hT : kd T = ci) (hN : nf ci = N) (h13 : ci < 13) (hr : rf ci k = false) (hn : narrow (tyy k) (.int (iI z)) = .int (iI z)) (hfit : fits (tyy k) (.int (iI z)) = true) (kk : ∀ iv2, iv2 = up2 iv a k z → cw p l e d0 r0 s m args below meth c G A nL Q Pf ph L cl ln iv2 rv K (pc + 3) lv st) : cw p l e d0 r0 s m args below meth c G A nL Q Pf ph L cl ln iv rv K pc lv (.int (iI z) :: .ref a :: st) := fun u hu kc ks hh => q_putU (k := k) C ck d lk hsm hk hfin ha.1 (enc_ob ha hT hN h13) hn hfit (by rw [enc_put ha hT hN h13 hr]; exact kk _ rfl u hu kc ks hh)
theorem c_ldcM (C : Cq p s m args meth c cc y ret G A nL) (hM : Mir mi s) {idx : Nat} (d : decode cc pc = .ok (.ldc idx, 2)) (lk : Cond.classLink y.cls idx "[Ljava/lang/Object;" ∈ lw_g) (k : cw p l e d0 r0 s m args below meth c G A nL Q Pf ph L cl ln iv rv K (pc + 2) lv (.ref mi :: st)) : cw p l e d0 r0 s m args below meth c G A nL Q Pf ph L cl ln iv rv K pc lv st := fun u hu kc ks hk H locs ls hP hD hS hl => va_ldcM C.1 C.2.1 C.2.2.2.1 (C.2.2.2.2.1 _ lk) hM.1 d (k u hu kc ks hk H locs ls hP hD hS hl)
theorem c_getC (C : Cq p s m args meth c cc y ret G A nL) (hM : Mir mi s) {a T idx : Nat} (d : decode cc pc = .ok (.invokevirtual idx, 3)) (lk : Cond.methodLink y.cls idx ⟨"java/lang/Object", "getClass", "()Ljava/lang/Class;"⟩ ∈ lw_g) (hs : Cond.selects "[Ljava/lang/Object;" ⟨"java/lang/Object", "getClass", "()Ljava/lang/Class;"⟩ ⟨"java/lang/Object", "getClass", "()Ljava/lang/Class;"⟩ ∈ lw_g) (hi : Cond.instanceMethod ⟨"java/lang/Object", "getClass", "()Ljava/lang/Class;"⟩ ∈ lw_g) (hn : Cond.native ⟨"java/lang/Object", "getClass", "()Ljava/lang/Class;"⟩ ∈ lw_g) (ha : ty L cl a T) (hT : kd T = 24) (hd : 1 ≤ d0) (hst : (st.map fun v => v.category).sum ≤ 8) (k : cw p l e d0 r0 s m args below meth c G A nL Q Pf ph L cl ln iv rv K (pc + 3) lv (.ref mi :: st)) : cw p l e d0 r0 s m args below meth c G A nL Q Pf ph L cl ln iv rv K pc lv (.ref a :: st) := by
  intro u hu kc ks hk H locs ls hP hD hS hl
  obtain ⟨q0, hq⟩ := pl_at (E := enc G cl ln iv rv) ha.1
  refine hv2 (C.2.2.2.2.1) (hP q0 _ hq) (fun hts hcell => ?_)
  rw [enc_O ha hT] at hcell
  refine va_getC C.1 C.2.1 (C.2.2.1.trans hl.1.symm) C.2.2.2.1 (hts _ lk) (va_Dc.use hM.2) (hts _ hs) (hts _ hi) (hts _ hn) hM.1 ⟨_, hcell, rfl, ?_⟩ hd (by show _ ≤ 64 * d0; omega) d (k u hu kc ks hk H locs ls hP hD hS hl)
  exact va_nmO (C.2.2.2.2.2.1.2 4 (G.2.2.2.2.2.1, .object "java/lang/Object") rfl).2 rfl
theorem c_copyq (C : Cq p s m args meth c cc y ret G A nL) {a b T T2 TE ci N idx : Nat} {Cn : String} {TT : u_T} {tyy : Nat → FieldType} {n : Int} (ck : Ck ci Cn TT N tyy) (hca : Cond.castable Cn "java/lang/Object" ∈ lw_tbl) (d : decode cc pc = .ok (.invokestatic idx, 3)) (lk : Cond.methodLink y.cls idx arraycopyName ∈ lw_g) (hn : Cond.native arraycopyName ∈ lw_g) (hs : Cond.static arraycopyName ∈ lw_g) (hi : Cond.initialized "java/lang/System" ∈ lw_g) (ha : ty L cl a T) (hT : kd T = 24) (hb : ty L cl b T2) (hT2 : kd T2 = 24) (hE : ∀ i : Nat, ∀ y : Nat, rv a i = some y → ty L cl y TE) (hTE : kd TE = ci) (hN : nf ci = N) (h13 : ci < 13) (h3 : 0 ≤ n) (h4 : n ≤ (ln a : Nat)) (h5 : n ≤ (ln b : Nat)) (hla : ln a ≤ 1000000) (hd : 1 ≤ d0) (hst : (st.map fun v => v.category).sum ≤ 8) (kk : ∀ rv2, rv2 = (fun w j => if w = b then (if j < n.toNat then rv a j else rv b j) else rv w j) → ∃ K2 : Nat, Pf ln rv + K ≤ Pf ln rv2 + K2 ∧ cw p l e d0 r0 s m args below meth c G A nL Q Pf ph L cl ln iv rv2 K2 (pc + 3) lv st) : cw p l e d0 r0 s m args below meth c G A nL Q Pf ph L cl ln iv rv K pc lv (.int (iI n) :: .int (iI 0) :: .ref b :: .int (iI 0) :: .ref a :: st) := by
  intro u hu kc ks hh H locs ls hP hD hS hl
  obtain ⟨q0, hq0⟩ := pl_at (E := enc G cl ln iv rv) ha.1
  obtain ⟨q1, hq1⟩ := pl_at (E := enc G cl ln iv rv) hb.1
  refine hv2 (C.2.2.2.2.1) (show (iI 0).toNatClampNeg = 0 from rfl) (fun hts e0 => ?_)
  have r3 : R32 n := ⟨by omega, by omega⟩
  refine va_copyq (C := Cn) (E0 := "java/lang/Object") (E1 := "java/lang/Object") C.1 C.2.1 (C.2.2.1.trans hl.1.symm) C.2.2.2.1 (hts _ lk) (hts _ hn) (hts _ hs) (hts _ hi) C.2.2.2.2.2.1 hP hD hS q0 q1 4 4 (by rw [hq0, enc_O ha hT]; rfl) (by rw [hq1, enc_O hb hT2]; rfl) rfl rfl (by decide) (by decide) (by rw [show (0 : Int32) = iI 0 from rfl, iI_lt r3 R32_0]; omega) (by rw [e0, iI_cl r3]; omega) (by rw [e0, iI_cl r3]; omega) ?_ ?_ hd (Nat.le_trans (Nat.add_le_add_right hst _) (Nat.le_trans (by decide) (show 64 ≤ 64 * d0 by omega))) d (fun H1 locs1 hP1 hD1 hS1 => ?_)
  · intro i _ y hy
    have ty1 := hE _ _ hy
    obtain ⟨q2, hq2⟩ := pl_at (E := enc G cl ln iv rv) ty1.1
    exact va_recv C.2.2.2.2.2.1 hP (ci := ci) (q0 := q2) ck.1 (by rw [hq2, enc_ob ty1 hTE hN h13]; rfl)
  · intro comp c0 f1 f2
    obtain ⟨c1, t1, g1, g2, g3⟩ := Cond.castable_spec (va_Nw.use (A := args) rfl (C.2.2.2.2.2.2.2.2.2.2.2.2.1 _ _ hca))
    cases g1.symm.trans f2
    cases g2.symm.trans f1
    exact g3
  · obtain ⟨K2, g1, g2⟩ := kk _ rfl
    rw [e0, iI_cl r3] at hP1 hD1
    rw [pl_set hD hb.1 hq1] at hP1 hD1
    have e : va_up (enc G cl ln iv rv) b (Sum.inl (G.2.2.2.2.2.1, ln b, .inr (.inr (.inr (.inr (va_cpy (rv a) (rv b) 0 0 n.toNat)))))) = enc G cl ln iv (fun w j => if w = b then (if j < n.toNat then rv a j else rv b j) else rv w j) := by
      refine enc_up (fun w hw => ⟨rfl, rfl, rfl, by funext j; rw [if_neg hw]⟩) ?_
      rw [enc_O hb hT2]
      show Sum.inl (_, ln b, _) = _
      congr 7
      funext j
      unfold va_cpy
      by_cases q : j < n.toNat
      · simp [q]
      · simp [q]
    rw [e] at hP1 hD1
    exact g2 u (by omega) kc ks hh H1 locs1 ls hP1 hD1 hS1 hl
end CQ5
end
section
def el (rv : Nat → Nat → Option Nat) (a i : Nat) : Option Nat := match rv a 1 with
  | some b => rv b i
  | none => none
theorem el_of {rv : Nat → Nat → Option Nat} {a b i : Nat} (h : rv a 1 = some b) : el rv a i = rv b i := by unfold el; rw [h]
set_option maxHeartbeats 4000000 in
set_option maxRecDepth 100000 in
theorem C_checkIndex3 {l : Launch} {G : GT} {mi : Nat} {sk : Nat → Nat} {L : List Nat} {cl ln : Nat → Nat} {iv : Nat → Nat → Int} {rv : Nat → Nat → Option Nat}  {i : Int} {n : Int} {r : Option Nat} (hW : WT (g0 G) sk L cl ln iv rv) (hS : SKL sk L cl) (t_r : ∀ b, r = some b → ty L cl b 0) (h_i : -2147483648 ≤ i ∧ i ≤ 2147483647) (h_n : -2147483648 ≤ n ∧ n ≤ 2147483647) (hi : 0 ≤ i ∧ i < n) : Mc l G mi (Phi (g0 G) sk) PHM yJ3_checkIndex_8e157 cJ3_checkIndex_8e157 3 (some .int) 0 [.int (iI i), .int (iI n), va_rf r] L cl ln iv rv 0 (fun v L2 cl2 ln2 iv2 rv2 => ∃ f : Int, v = some (.int (iI f)) ∧ L = L2 ∧ cl = cl2 ∧ ln = ln2 ∧ iv = iv2 ∧ rv = rv2 ∧ (-2147483648 ≤ f ∧ f ≤ 2147483647) ∧ (f = i)) := by
  refine Mc.mk (by decide) (by cases r <;> exact Nat.le_of_ble_eq_true rfl) ?_
  intro p e s m args below meth c A C hM
  have hph := Phi.le hW hS
  refine c_lveq (show lv_args 0 [.int (iI i), .int (iI n), va_rf r] = [(0, .int (iI i)), (1, .int (iI n)), (2, (va_rf r))] from by cases r <;> rfl) ?_
  refine hv2 (show XT L cl ln L cl ln from XT.refl) (show fT [] L cl iv rv iv rv from fT.refl) (fun hX0 hF0 => ?_)
  refine c_iload_n (j := 0) C dJ3_checkIndex_8e157_0 rfl ?_
  refine c_if_lt (tgt := 9) C ⟨by omega, by omega⟩ dJ3_checkIndex_8e157_1 (by decide) (fun z => absurd z (by omega)) (fun _ => ?_)
  refine c_iload_n (j := 0) C dJ3_checkIndex_8e157_4 rfl ?_
  refine c_iload_n (j := 1) C dJ3_checkIndex_8e157_5 rfl ?_
  refine c_icmp_lt (tgt := 16) C ⟨by omega, by omega⟩ ⟨by omega, by omega⟩ dJ3_checkIndex_8e157_6 (by decide) (fun _ => ?_) (fun z => absurd z (by omega))
  refine c_iload_n (j := 0) C dJ3_checkIndex_8e157_16 rfl ?_
  exact c_iret C dJ3_checkIndex_8e157_17 rfl (by decide) (rom0 hph hph (by decide)) ⟨i, rfl, rfl, rfl, rfl, rfl, rfl, ⟨by omega, by omega⟩, (by omega)⟩
set_option maxHeartbeats 4000000 in
set_option maxRecDepth 100000 in
theorem C_checkIndex2 {l : Launch} {G : GT} {mi : Nat} {sk : Nat → Nat} {L : List Nat} {cl ln : Nat → Nat} {iv : Nat → Nat → Int} {rv : Nat → Nat → Option Nat}  {i : Int} {n : Int} (hW : WT (g0 G) sk L cl ln iv rv) (hS : SKL sk L cl) (h_i : -2147483648 ≤ i ∧ i ≤ 2147483647) (h_n : -2147483648 ≤ n ∧ n ≤ 2147483647) (hi : 0 ≤ i ∧ i < n) : Mc l G mi (Phi (g0 G) sk) PHM yJ15_checkIndex_7cf53 cJ15_checkIndex_7cf53 2 (some .int) 1 [.int (iI i), .int (iI n)] L cl ln iv rv 0 (fun v L2 cl2 ln2 iv2 rv2 => ∃ f : Int, v = some (.int (iI f)) ∧ L = L2 ∧ cl = cl2 ∧ ln = ln2 ∧ iv = iv2 ∧ rv = rv2 ∧ (-2147483648 ≤ f ∧ f ≤ 2147483647) ∧ (f = i)) := by
  refine Mc.mk (by decide) (Nat.le_of_ble_eq_true rfl) ?_
  intro p e s m args below meth c A C hM
  refine hv3 (Phi.le hW hS) (show XT L cl ln L cl ln from XT.refl) (show fT [] L cl iv rv iv rv from fT.refl) (fun hph hX0 hF0 => ?_)
  refine c_iload_n (j := 0) C dJ15_checkIndex_7cf53_0 rfl ?_
  refine c_iload_n (j := 1) C dJ15_checkIndex_7cf53_1 rfl ?_
  refine c_null C dJ15_checkIndex_7cf53_2 ?_
  refine d_callS (As := [.int (iI i), .int (iI n), .null]) (rest := []) C hM (C_checkIndex3 (i := i) (n := n) (r := none) hW hS (fun _ q => by cases q) (by omega) (by omega) (by show 0 ≤ i ∧ i < n; omega)) dJ15_checkIndex_7cf53_3 kS_J15_105 rfl rfl (Nat.le_of_ble_eq_true rfl) ⟨(Nat.le_of_ble_eq_true rfl), (Nat.le_of_ble_eq_true rfl)⟩ hph hph (show 0 + 0 = 0 from rfl) (by decide) (fun rh1 Lh1 clh1 lnh1 ivh1 rvh1 h1 => ?_)
  obtain ⟨f1, rfl, rfl, rfl, rfl, rfl, rfl, rgf1, exf1⟩ := h1
  refine c_st (st2 := [.int (iI f1)]) rfl ?_
  have gf1 : f1 = i := exf1
  exact c_iret C dJ15_checkIndex_7cf53_6 rfl (by decide) (rom0 hph hph (by decide)) ⟨f1, rfl, rfl, rfl, rfl, rfl, rfl, ⟨by omega, by omega⟩, (by omega)⟩
set_option maxHeartbeats 4000000 in
set_option maxRecDepth 100000 in
theorem C_newLength {l : Launch} {G : GT} {mi : Nat} {sk : Nat → Nat} {L : List Nat} {cl ln : Nat → Nat} {iv : Nat → Nat → Int} {rv : Nat → Nat → Option Nat}  {i : Int} {n : Int} {x : Int} (hW : WT (g0 G) sk L cl ln iv rv) (hS : SKL sk L cl) (h_i : -2147483648 ≤ i ∧ i ≤ 2147483647) (h_n : -2147483648 ≤ n ∧ n ≤ 2147483647) (h_x : -2147483648 ≤ x ∧ x ≤ 2147483647) (hi : 0 ≤ i ∧ i ≤ 100000 ∧ 1 ≤ n ∧ n ≤ 100000 ∧ 0 ≤ x ∧ x ≤ 100000) : Mc l G mi (Phi (g0 G) sk) PHM yJ8_newLength_cabcc cJ8_newLength_cabcc 4 (some .int) 1 [.int (iI i), .int (iI n), .int (iI x)] L cl ln iv rv 0 (fun v L2 cl2 ln2 iv2 rv2 => ∃ f : Int, v = some (.int (iI f)) ∧ L = L2 ∧ cl = cl2 ∧ ln = ln2 ∧ iv = iv2 ∧ rv = rv2 ∧ (-2147483648 ≤ f ∧ f ≤ 2147483647) ∧ ((n ≤ x ∧ f = i + x) ∨ (x < n ∧ f = i + n))) := by
  refine Mc.mk (by decide) (Nat.le_of_ble_eq_true rfl) ?_
  intro p e s m args below meth c A C hM
  refine hv3 (Phi.le hW hS) (show XT L cl ln L cl ln from XT.refl) (show fT [] L cl iv rv iv rv from fT.refl) (fun hph hX0 hF0 => ?_)
  refine c_iload_n (j := 0) C dJ8_newLength_cabcc_0 rfl ?_
  refine c_iload_n (j := 1) C dJ8_newLength_cabcc_1 rfl ?_
  refine c_iload_n (j := 2) C dJ8_newLength_cabcc_2 rfl ?_
  obtain ⟨mn1, hmn1, emn1⟩ := mmax_c (x := n) (y := x) ⟨by omega, by omega⟩ ⟨by omega, by omega⟩
  refine c_mmax (w := iI mn1) C dJ8_newLength_cabcc_3 w3_0 w2_148 w1_14 w2_149 (by decide) (rom0 hph hph (by decide)) (Nat.le_of_ble_eq_true rfl) emn1 ?_
  refine c_iadd C dJ8_newLength_cabcc_6 ?_
  refine c_istore_n (lv2 := [(3, .int (iI (i + mn1))), (0, .int (iI i)), (1, .int (iI n)), (2, .int (iI x))]) C dJ8_newLength_cabcc_7 (by decide) rfl ?_
  refine c_iconst C dJ8_newLength_cabcc_8 ?_
  refine c_iload_n (j := 0) C dJ8_newLength_cabcc_9 rfl ?_
  refine c_icmp_ge (tgt := 21) C ⟨by decide, by decide⟩ ⟨by omega, by omega⟩ dJ8_newLength_cabcc_10 (by decide) (fun z => absurd z (by omega)) (fun _ => ?_)
  refine c_iload_n (j := 0) C dJ8_newLength_cabcc_13 rfl ?_
  refine c_ldc (z := 2147483639) C dJ8_newLength_cabcc_14 w3_1 rfl ?_
  refine c_icmp_gt (tgt := 21) C ⟨by omega, by omega⟩ ⟨by decide, by decide⟩ dJ8_newLength_cabcc_16 (by decide) (fun z => absurd z (by omega)) (fun _ => ?_)
  refine c_iload_n (j := 0) C dJ8_newLength_cabcc_19 rfl ?_
  exact c_iret C dJ8_newLength_cabcc_20 rfl (by decide) (rom0 hph hph (by decide)) ⟨(i + mn1), rfl, rfl, rfl, rfl, rfl, rfl, ⟨by omega, by omega⟩, (by omega)⟩
set_option maxHeartbeats 4000000 in
set_option maxRecDepth 100000 in
theorem C_size_22 {l : Launch} {G : GT} {mi : Nat} {sk : Nat → Nat} {L : List Nat} {cl ln : Nat → Nat} {iv : Nat → Nat → Int} {rv : Nat → Nat → Option Nat}  {a0 : Nat} (hW : WT (g0 G) sk L cl ln iv rv) (hS : SKL sk L cl) (t_a0 : ty L cl a0 22)  : Mc l G mi (Phi (g0 G) sk) PHM yJx4a65c_size_8abf5 cJx4a65c_size_8abf5 1 (some .int) 0 [.ref a0] L cl ln iv rv 0 (fun v L2 cl2 ln2 iv2 rv2 => ∃ f : Int, v = some (.int (iI f)) ∧ L = L2 ∧ cl = cl2 ∧ ln = ln2 ∧ iv = iv2 ∧ rv = rv2 ∧ (-2147483648 ≤ f ∧ f ≤ 2147483647) ∧ (f = iv a0 2)) := by
  refine Mc.mk (by decide) (Nat.le_of_ble_eq_true rfl) ?_
  intro p e s m args below meth c A C hM
  refine hv3 (Phi.le hW hS) (show XT L cl ln L cl ln from XT.refl) (show fT [] L cl iv rv iv rv from fT.refl) (fun hph hX0 hF0 => ?_)
  refine c_aload_n (j := 0) (x := a0) C dJx4a65c_size_8abf5_0 rfl ?_
  have ri1 : 0 ≤ iv a0 2 ∧ iv a0 2 ≤ 30 := hW.int t_a0 2
  refine c_get (k := 2) C ck_0 dJx4a65c_size_8abf5_1 w1_79 (by decide) t_a0 rfl rfl (by decide) rfl ?_
  exact c_iret C dJx4a65c_size_8abf5_4 rfl (by decide) (rom0 hph hph (by decide)) ⟨(iv a0 2), rfl, rfl, rfl, rfl, rfl, rfl, ⟨by omega, by omega⟩, rfl⟩
set_option maxHeartbeats 4000000 in
set_option maxRecDepth 100000 in
theorem C_isEmpty_22 {l : Launch} {G : GT} {mi : Nat} {sk : Nat → Nat} {L : List Nat} {cl ln : Nat → Nat} {iv : Nat → Nat → Int} {rv : Nat → Nat → Option Nat}  {a0 : Nat} (hW : WT (g0 G) sk L cl ln iv rv) (hS : SKL sk L cl) (t_a0 : ty L cl a0 22)  : Mc l G mi (Phi (g0 G) sk) PHM yJx4a65c_isEmpty_aae02 cJx4a65c_isEmpty_aae02 1 (some .boolean) 0 [.ref a0] L cl ln iv rv 0 (fun v L2 cl2 ln2 iv2 rv2 => ∃ f : Int, v = some (.int (iI f)) ∧ L = L2 ∧ cl = cl2 ∧ ln = ln2 ∧ iv = iv2 ∧ rv = rv2 ∧ (f = 0 ∨ f = 1) ∧ ((f = 1 ∧ iv a0 2 = 0) ∨ (f = 0 ∧ iv a0 2 ≠ 0))) := by
  refine Mc.mk (by decide) (Nat.le_of_ble_eq_true rfl) ?_
  intro p e s m args below meth c A C hM
  refine hv3 (Phi.le hW hS) (show XT L cl ln L cl ln from XT.refl) (show fT [] L cl iv rv iv rv from fT.refl) (fun hph hX0 hF0 => ?_)
  refine c_aload_n (j := 0) (x := a0) C dJx4a65c_isEmpty_aae02_0 rfl ?_
  have ri1 : 0 ≤ iv a0 2 ∧ iv a0 2 ≤ 30 := hW.int t_a0 2
  refine c_get (k := 2) C ck_0 dJx4a65c_isEmpty_aae02_1 w1_79 (by decide) t_a0 rfl rfl (by decide) rfl ?_
  refine c_if_ne (tgt := 11) C (r32_c (lo := 0) (hi := 30) ri1.1 ri1.2 (by decide) (by decide)) dJx4a65c_isEmpty_aae02_4 (by decide) (fun c1 => ?_) (fun c1 => ?_)
  · refine c_iconst C dJx4a65c_isEmpty_aae02_11 ?_
    exact c_zret C dJx4a65c_isEmpty_aae02_12 rfl (Or.inl rfl) (by decide) (rom0 hph hph (by decide)) ⟨0, rfl, rfl, rfl, rfl, rfl, rfl, (Or.inl rfl), (by omega)⟩
  · refine c_iconst C dJx4a65c_isEmpty_aae02_7 ?_
    refine c_goto (tgt := 12) C dJx4a65c_isEmpty_aae02_8 (by decide) ?_
    exact c_zret C dJx4a65c_isEmpty_aae02_12 rfl (Or.inr rfl) (by decide) (rom0 hph hph (by decide)) ⟨1, rfl, rfl, rfl, rfl, rfl, rfl, (Or.inr rfl), (by omega)⟩
set_option maxHeartbeats 4000000 in
set_option maxRecDepth 100000 in
theorem C_ed_22 {l : Launch} {G : GT} {mi : Nat} {sk : Nat → Nat} {L : List Nat} {cl ln : Nat → Nat} {iv : Nat → Nat → Int} {rv : Nat → Nat → Option Nat}  {a0 : Nat} {i : Int} (hW : WT (g0 G) sk L cl ln iv rv) (hS : SKL sk L cl) (t_a0 : ty L cl a0 22) (h_i : -2147483648 ≤ i ∧ i ≤ 2147483647) (hi : 0 ≤ i ∧ i < iv a0 2) : Mc l G mi (Phi (g0 G) sk) PHM yJx4a65c_elementData_915e3 cJx4a65c_elementData_915e3 2 (some (.object "java/lang/Object")) 0 [.ref a0, .int (iI i)] L cl ln iv rv 0 (fun v L2 cl2 ln2 iv2 rv2 => ∃ f : Nat, v = some (.ref f) ∧ L = L2 ∧ cl = cl2 ∧ ln = ln2 ∧ iv = iv2 ∧ rv = rv2 ∧ ty L2 cl2 f 100 ∧ (el rv a0 i.toNat = some f)) := by
  refine Mc.mk (by decide) (Nat.le_of_ble_eq_true rfl) ?_
  intro p e s m args below meth c A C hM
  refine hv3 (Phi.le hW hS) (show XT L cl ln L cl ln from XT.refl) (show fT [] L cl iv rv iv rv from fT.refl) (fun hph hX0 hF0 => ?_)
  refine c_aload_n (j := 0) (x := a0) C dJx4a65c_elementData_915e3_0 rfl ?_
  have ri1 : 0 ≤ iv a0 2 ∧ iv a0 2 ≤ 30 := hW.int t_a0 2
  obtain ⟨eb1, eq1, teb1, ceb1, zeb1⟩ := hW.ed2 t_a0 rfl rfl (by omega)
  have lneb1 : 10 ≤ ln eb1 ∧ ln eb1 ≤ 60 := hW.len teb1 rfl
  refine c_getr (k := 1) C ck_0 dJx4a65c_elementData_915e3_1 w1_78 (by decide) t_a0 rfl rfl (by decide) rfl eq1 ?_
  refine c_st (st2 := [.ref eb1]) rfl ?_
  refine c_iload_n (j := 1) C dJx4a65c_elementData_915e3_4 rfl ?_
  have ll1 : 10 ≤ ln eb1 ∧ ln eb1 ≤ 60 := hW.len teb1 rfl
  obtain ⟨nb1, nq1, tnb1⟩ := hW.elem t_a0 rfl eq1 teb1 rfl rfl (i := i.toNat) (by omega)
  have tnb1 : ty L cl nb1 100 := tnb1
  refine c_aaldO C dJx4a65c_elementData_915e3_5 teb1 rfl (by omega) (by omega) (by omega) nq1 ?_
  refine c_st (st2 := [.ref nb1]) rfl ?_
  exact c_aret (x := some nb1) C dJx4a65c_elementData_915e3_6 rfl (Or.inl ⟨_, rfl⟩) (by decide) (rom0 hph hph (by decide)) ⟨nb1, rfl, rfl, rfl, rfl, rfl, rfl, tnb1, (by rw [el_of eq1]; exact nq1)⟩
set_option maxHeartbeats 4000000 in
set_option maxRecDepth 100000 in
theorem C_get_22 {l : Launch} {G : GT} {mi : Nat} {sk : Nat → Nat} {L : List Nat} {cl ln : Nat → Nat} {iv : Nat → Nat → Int} {rv : Nat → Nat → Option Nat}  {a0 : Nat} {i : Int} (hW : WT (g0 G) sk L cl ln iv rv) (hS : SKL sk L cl) (t_a0 : ty L cl a0 22) (h_i : -2147483648 ≤ i ∧ i ≤ 2147483647) (hi : 0 ≤ i ∧ i < iv a0 2) : Mc l G mi (Phi (g0 G) sk) PHM yJx4a65c_get_915e3 cJx4a65c_get_915e3 2 (some (.object "java/lang/Object")) 2 [.ref a0, .int (iI i)] L cl ln iv rv 0 (fun v L2 cl2 ln2 iv2 rv2 => ∃ f : Nat, v = some (.ref f) ∧ L = L2 ∧ cl = cl2 ∧ ln = ln2 ∧ iv = iv2 ∧ rv = rv2 ∧ ty L2 cl2 f 100 ∧ (el rv a0 i.toNat = some f)) := by
  refine Mc.mk (by decide) (Nat.le_of_ble_eq_true rfl) ?_
  intro p e s m args below meth c A C hM
  refine hv3 (Phi.le hW hS) (show XT L cl ln L cl ln from XT.refl) (show fT [] L cl iv rv iv rv from fT.refl) (fun hph hX0 hF0 => ?_)
  refine c_iload_n (j := 1) C dJx4a65c_get_915e3_0 rfl ?_
  refine c_aload_n (j := 0) (x := a0) C dJx4a65c_get_915e3_1 rfl ?_
  have ri1 : 0 ≤ iv a0 2 ∧ iv a0 2 ≤ 30 := hW.int t_a0 2
  refine c_get (k := 2) C ck_0 dJx4a65c_get_915e3_2 w1_79 (by decide) t_a0 rfl rfl (by decide) rfl ?_
  refine d_callS (As := [.int (iI i), .int (iI (iv a0 2))]) (rest := []) C hM (C_checkIndex2 (i := i) (n := iv a0 2) hW hS  (by omega) (by omega) (by show 0 ≤ i ∧ i < (iv a0 2); omega)) dJx4a65c_get_915e3_5 kS_Jx4a65c_118 rfl rfl (Nat.le_of_ble_eq_true rfl) ⟨(Nat.le_of_ble_eq_true rfl), (Nat.le_of_ble_eq_true rfl)⟩ hph hph (show 0 + 0 = 0 from rfl) (by decide) (fun rh1 Lh1 clh1 lnh1 ivh1 rvh1 h1 => ?_)
  obtain ⟨f1, rfl, rfl, rfl, rfl, rfl, rfl, rgf1, exf1⟩ := h1
  refine c_st (st2 := [.int (iI f1)]) rfl ?_
  have gf1 : f1 = i := exf1
  refine c_pop C dJx4a65c_get_915e3_8 rfl ?_
  refine c_aload_n (j := 0) (x := a0) C dJx4a65c_get_915e3_9 rfl ?_
  refine c_iload_n (j := 1) C dJx4a65c_get_915e3_10 rfl ?_
  refine d_callV (As := [.int (iI i)]) (rest := []) C hM (C_ed_22 (a0 := a0) (i := i) hW hS t_a0 (by omega) (by show 0 ≤ i ∧ i < iv a0 2; omega)) dJx4a65c_get_915e3_11 kV_Jx4a65c_123 rfl t_a0 rfl rfl (by decide) ck_0 rfl (Nat.le_of_ble_eq_true rfl) ⟨(Nat.le_of_ble_eq_true rfl), (Nat.le_of_ble_eq_true rfl)⟩ hph hph (show 0 + 0 = 0 from rfl) (by decide) (fun rh2 Lh2 clh2 lnh2 ivh2 rvh2 h2 => ?_)
  obtain ⟨f2, rfl, rfl, rfl, rfl, rfl, rfl, rgf2, exf2⟩ := h2
  refine c_st (st2 := [.ref f2]) rfl ?_
  have gf2 : el rv a0 i.toNat = some f2 := exf2
  exact c_aret (x := some f2) C dJx4a65c_get_915e3_14 rfl (Or.inl ⟨_, rfl⟩) (by decide) (rom0 hph hph (by decide)) ⟨f2, rfl, rfl, rfl, rfl, rfl, rfl, rgf2, exf2⟩
set_option maxHeartbeats 4000000 in
set_option maxRecDepth 100000 in
theorem C_size_23 {l : Launch} {G : GT} {mi : Nat} {sk : Nat → Nat} {L : List Nat} {cl ln : Nat → Nat} {iv : Nat → Nat → Int} {rv : Nat → Nat → Option Nat}  {a0 : Nat} (hW : WT (g0 G) sk L cl ln iv rv) (hS : SKL sk L cl) (t_a0 : ty L cl a0 23)  : Mc l G mi (Phi (g0 G) sk) PHM yJx4a65c_size_8abf5 cJx4a65c_size_8abf5 1 (some .int) 0 [.ref a0] L cl ln iv rv 0 (fun v L2 cl2 ln2 iv2 rv2 => ∃ f : Int, v = some (.int (iI f)) ∧ L = L2 ∧ cl = cl2 ∧ ln = ln2 ∧ iv = iv2 ∧ rv = rv2 ∧ (-2147483648 ≤ f ∧ f ≤ 2147483647) ∧ (f = iv a0 2)) := by
  refine Mc.mk (by decide) (Nat.le_of_ble_eq_true rfl) ?_
  intro p e s m args below meth c A C hM
  refine hv3 (Phi.le hW hS) (show XT L cl ln L cl ln from XT.refl) (show fT [] L cl iv rv iv rv from fT.refl) (fun hph hX0 hF0 => ?_)
  refine c_aload_n (j := 0) (x := a0) C dJx4a65c_size_8abf5_0 rfl ?_
  have ri1 : 0 ≤ iv a0 2 ∧ iv a0 2 ≤ 512 := hW.int t_a0 2
  refine c_get (k := 2) C ck_0 dJx4a65c_size_8abf5_1 w1_79 (by decide) t_a0 rfl rfl (by decide) rfl ?_
  exact c_iret C dJx4a65c_size_8abf5_4 rfl (by decide) (rom0 hph hph (by decide)) ⟨(iv a0 2), rfl, rfl, rfl, rfl, rfl, rfl, ⟨by omega, by omega⟩, rfl⟩
set_option maxHeartbeats 4000000 in
set_option maxRecDepth 100000 in
theorem C_isEmpty_23 {l : Launch} {G : GT} {mi : Nat} {sk : Nat → Nat} {L : List Nat} {cl ln : Nat → Nat} {iv : Nat → Nat → Int} {rv : Nat → Nat → Option Nat}  {a0 : Nat} (hW : WT (g0 G) sk L cl ln iv rv) (hS : SKL sk L cl) (t_a0 : ty L cl a0 23)  : Mc l G mi (Phi (g0 G) sk) PHM yJx4a65c_isEmpty_aae02 cJx4a65c_isEmpty_aae02 1 (some .boolean) 0 [.ref a0] L cl ln iv rv 0 (fun v L2 cl2 ln2 iv2 rv2 => ∃ f : Int, v = some (.int (iI f)) ∧ L = L2 ∧ cl = cl2 ∧ ln = ln2 ∧ iv = iv2 ∧ rv = rv2 ∧ (f = 0 ∨ f = 1) ∧ ((f = 1 ∧ iv a0 2 = 0) ∨ (f = 0 ∧ iv a0 2 ≠ 0))) := by
  refine Mc.mk (by decide) (Nat.le_of_ble_eq_true rfl) ?_
  intro p e s m args below meth c A C hM
  refine hv3 (Phi.le hW hS) (show XT L cl ln L cl ln from XT.refl) (show fT [] L cl iv rv iv rv from fT.refl) (fun hph hX0 hF0 => ?_)
  refine c_aload_n (j := 0) (x := a0) C dJx4a65c_isEmpty_aae02_0 rfl ?_
  have ri1 : 0 ≤ iv a0 2 ∧ iv a0 2 ≤ 512 := hW.int t_a0 2
  refine c_get (k := 2) C ck_0 dJx4a65c_isEmpty_aae02_1 w1_79 (by decide) t_a0 rfl rfl (by decide) rfl ?_
  refine c_if_ne (tgt := 11) C (r32_c (lo := 0) (hi := 512) ri1.1 ri1.2 (by decide) (by decide)) dJx4a65c_isEmpty_aae02_4 (by decide) (fun c1 => ?_) (fun c1 => ?_)
  · refine c_iconst C dJx4a65c_isEmpty_aae02_11 ?_
    exact c_zret C dJx4a65c_isEmpty_aae02_12 rfl (Or.inl rfl) (by decide) (rom0 hph hph (by decide)) ⟨0, rfl, rfl, rfl, rfl, rfl, rfl, (Or.inl rfl), (by omega)⟩
  · refine c_iconst C dJx4a65c_isEmpty_aae02_7 ?_
    refine c_goto (tgt := 12) C dJx4a65c_isEmpty_aae02_8 (by decide) ?_
    exact c_zret C dJx4a65c_isEmpty_aae02_12 rfl (Or.inr rfl) (by decide) (rom0 hph hph (by decide)) ⟨1, rfl, rfl, rfl, rfl, rfl, rfl, (Or.inr rfl), (by omega)⟩
set_option maxHeartbeats 4000000 in
set_option maxRecDepth 100000 in
theorem C_size_24 {l : Launch} {G : GT} {mi : Nat} {sk : Nat → Nat} {L : List Nat} {cl ln : Nat → Nat} {iv : Nat → Nat → Int} {rv : Nat → Nat → Option Nat}  {a0 : Nat} (hW : WT (g0 G) sk L cl ln iv rv) (hS : SKL sk L cl) (t_a0 : ty L cl a0 24)  : Mc l G mi (Phi (g0 G) sk) PHM yJx4a65c_size_8abf5 cJx4a65c_size_8abf5 1 (some .int) 0 [.ref a0] L cl ln iv rv 0 (fun v L2 cl2 ln2 iv2 rv2 => ∃ f : Int, v = some (.int (iI f)) ∧ L = L2 ∧ cl = cl2 ∧ ln = ln2 ∧ iv = iv2 ∧ rv = rv2 ∧ (-2147483648 ≤ f ∧ f ≤ 2147483647) ∧ (f = iv a0 2)) := by
  refine Mc.mk (by decide) (Nat.le_of_ble_eq_true rfl) ?_
  intro p e s m args below meth c A C hM
  refine hv3 (Phi.le hW hS) (show XT L cl ln L cl ln from XT.refl) (show fT [] L cl iv rv iv rv from fT.refl) (fun hph hX0 hF0 => ?_)
  refine c_aload_n (j := 0) (x := a0) C dJx4a65c_size_8abf5_0 rfl ?_
  have ri1 : 0 ≤ iv a0 2 ∧ iv a0 2 ≤ 6003 := hW.int t_a0 2
  refine c_get (k := 2) C ck_0 dJx4a65c_size_8abf5_1 w1_79 (by decide) t_a0 rfl rfl (by decide) rfl ?_
  exact c_iret C dJx4a65c_size_8abf5_4 rfl (by decide) (rom0 hph hph (by decide)) ⟨(iv a0 2), rfl, rfl, rfl, rfl, rfl, rfl, ⟨by omega, by omega⟩, rfl⟩
set_option maxHeartbeats 4000000 in
set_option maxRecDepth 100000 in
theorem C_ed_24 {l : Launch} {G : GT} {mi : Nat} {sk : Nat → Nat} {L : List Nat} {cl ln : Nat → Nat} {iv : Nat → Nat → Int} {rv : Nat → Nat → Option Nat}  {a0 : Nat} {i : Int} (hW : WT (g0 G) sk L cl ln iv rv) (hS : SKL sk L cl) (t_a0 : ty L cl a0 24) (h_i : -2147483648 ≤ i ∧ i ≤ 2147483647) (hi : 0 ≤ i ∧ i < iv a0 2) : Mc l G mi (Phi (g0 G) sk) PHM yJx4a65c_elementData_915e3 cJx4a65c_elementData_915e3 2 (some (.object "java/lang/Object")) 0 [.ref a0, .int (iI i)] L cl ln iv rv 0 (fun v L2 cl2 ln2 iv2 rv2 => ∃ f : Nat, v = some (.ref f) ∧ L = L2 ∧ cl = cl2 ∧ ln = ln2 ∧ iv = iv2 ∧ rv = rv2 ∧ ty L2 cl2 f 20 ∧ (el rv a0 i.toNat = some f)) := by
  refine Mc.mk (by decide) (Nat.le_of_ble_eq_true rfl) ?_
  intro p e s m args below meth c A C hM
  refine hv3 (Phi.le hW hS) (show XT L cl ln L cl ln from XT.refl) (show fT [] L cl iv rv iv rv from fT.refl) (fun hph hX0 hF0 => ?_)
  refine c_aload_n (j := 0) (x := a0) C dJx4a65c_elementData_915e3_0 rfl ?_
  have ri1 : 0 ≤ iv a0 2 ∧ iv a0 2 ≤ 6003 := hW.int t_a0 2
  obtain ⟨eb1, eq1, teb1, ceb1, zeb1⟩ := hW.ed2 t_a0 rfl rfl (by omega)
  have lneb1 : 10 ≤ ln eb1 ∧ ln eb1 ≤ 9100 := hW.len teb1 rfl
  refine c_getr (k := 1) C ck_0 dJx4a65c_elementData_915e3_1 w1_78 (by decide) t_a0 rfl rfl (by decide) rfl eq1 ?_
  refine c_st (st2 := [.ref eb1]) rfl ?_
  refine c_iload_n (j := 1) C dJx4a65c_elementData_915e3_4 rfl ?_
  have ll1 : 10 ≤ ln eb1 ∧ ln eb1 ≤ 9100 := hW.len teb1 rfl
  obtain ⟨nb1, nq1, tnb1⟩ := hW.elem t_a0 rfl eq1 teb1 rfl rfl (i := i.toNat) (by omega)
  have tnb1 : ty L cl nb1 20 := tnb1
  refine c_aaldO C dJx4a65c_elementData_915e3_5 teb1 rfl (by omega) (by omega) (by omega) nq1 ?_
  refine c_st (st2 := [.ref nb1]) rfl ?_
  exact c_aret (x := some nb1) C dJx4a65c_elementData_915e3_6 rfl (Or.inl ⟨_, rfl⟩) (by decide) (rom0 hph hph (by decide)) ⟨nb1, rfl, rfl, rfl, rfl, rfl, rfl, tnb1, (by rw [el_of eq1]; exact nq1)⟩
set_option maxHeartbeats 4000000 in
set_option maxRecDepth 100000 in
theorem C_get_24 {l : Launch} {G : GT} {mi : Nat} {sk : Nat → Nat} {L : List Nat} {cl ln : Nat → Nat} {iv : Nat → Nat → Int} {rv : Nat → Nat → Option Nat}  {a0 : Nat} {i : Int} (hW : WT (g0 G) sk L cl ln iv rv) (hS : SKL sk L cl) (t_a0 : ty L cl a0 24) (h_i : -2147483648 ≤ i ∧ i ≤ 2147483647) (hi : 0 ≤ i ∧ i < iv a0 2) : Mc l G mi (Phi (g0 G) sk) PHM yJx4a65c_get_915e3 cJx4a65c_get_915e3 2 (some (.object "java/lang/Object")) 2 [.ref a0, .int (iI i)] L cl ln iv rv 0 (fun v L2 cl2 ln2 iv2 rv2 => ∃ f : Nat, v = some (.ref f) ∧ L = L2 ∧ cl = cl2 ∧ ln = ln2 ∧ iv = iv2 ∧ rv = rv2 ∧ ty L2 cl2 f 20 ∧ (el rv a0 i.toNat = some f)) := by
  refine Mc.mk (by decide) (Nat.le_of_ble_eq_true rfl) ?_
  intro p e s m args below meth c A C hM
  refine hv3 (Phi.le hW hS) (show XT L cl ln L cl ln from XT.refl) (show fT [] L cl iv rv iv rv from fT.refl) (fun hph hX0 hF0 => ?_)
  refine c_iload_n (j := 1) C dJx4a65c_get_915e3_0 rfl ?_
  refine c_aload_n (j := 0) (x := a0) C dJx4a65c_get_915e3_1 rfl ?_
  have ri1 : 0 ≤ iv a0 2 ∧ iv a0 2 ≤ 6003 := hW.int t_a0 2
  refine c_get (k := 2) C ck_0 dJx4a65c_get_915e3_2 w1_79 (by decide) t_a0 rfl rfl (by decide) rfl ?_
  refine d_callS (As := [.int (iI i), .int (iI (iv a0 2))]) (rest := []) C hM (C_checkIndex2 (i := i) (n := iv a0 2) hW hS  (by omega) (by omega) (by show 0 ≤ i ∧ i < (iv a0 2); omega)) dJx4a65c_get_915e3_5 kS_Jx4a65c_118 rfl rfl (Nat.le_of_ble_eq_true rfl) ⟨(Nat.le_of_ble_eq_true rfl), (Nat.le_of_ble_eq_true rfl)⟩ hph hph (show 0 + 0 = 0 from rfl) (by decide) (fun rh1 Lh1 clh1 lnh1 ivh1 rvh1 h1 => ?_)
  obtain ⟨f1, rfl, rfl, rfl, rfl, rfl, rfl, rgf1, exf1⟩ := h1
  refine c_st (st2 := [.int (iI f1)]) rfl ?_
  have gf1 : f1 = i := exf1
  refine c_pop C dJx4a65c_get_915e3_8 rfl ?_
  refine c_aload_n (j := 0) (x := a0) C dJx4a65c_get_915e3_9 rfl ?_
  refine c_iload_n (j := 1) C dJx4a65c_get_915e3_10 rfl ?_
  refine d_callV (As := [.int (iI i)]) (rest := []) C hM (C_ed_24 (a0 := a0) (i := i) hW hS t_a0 (by omega) (by show 0 ≤ i ∧ i < iv a0 2; omega)) dJx4a65c_get_915e3_11 kV_Jx4a65c_123 rfl t_a0 rfl rfl (by decide) ck_0 rfl (Nat.le_of_ble_eq_true rfl) ⟨(Nat.le_of_ble_eq_true rfl), (Nat.le_of_ble_eq_true rfl)⟩ hph hph (show 0 + 0 = 0 from rfl) (by decide) (fun rh2 Lh2 clh2 lnh2 ivh2 rvh2 h2 => ?_)
  obtain ⟨f2, rfl, rfl, rfl, rfl, rfl, rfl, rgf2, exf2⟩ := h2
  refine c_st (st2 := [.ref f2]) rfl ?_
  have gf2 : el rv a0 i.toNat = some f2 := exf2
  exact c_aret (x := some f2) C dJx4a65c_get_915e3_14 rfl (Or.inl ⟨_, rfl⟩) (by decide) (rom0 hph hph (by decide)) ⟨f2, rfl, rfl, rfl, rfl, rfl, rfl, rgf2, exf2⟩
set_option maxHeartbeats 4000000 in
set_option maxRecDepth 100000 in
theorem C_size_25 {l : Launch} {G : GT} {mi : Nat} {sk : Nat → Nat} {L : List Nat} {cl ln : Nat → Nat} {iv : Nat → Nat → Int} {rv : Nat → Nat → Option Nat}  {a0 : Nat} (hW : WT (g0 G) sk L cl ln iv rv) (hS : SKL sk L cl) (t_a0 : ty L cl a0 25)  : Mc l G mi (Phi (g0 G) sk) PHM yJx4a65c_size_8abf5 cJx4a65c_size_8abf5 1 (some .int) 0 [.ref a0] L cl ln iv rv 0 (fun v L2 cl2 ln2 iv2 rv2 => ∃ f : Int, v = some (.int (iI f)) ∧ L = L2 ∧ cl = cl2 ∧ ln = ln2 ∧ iv = iv2 ∧ rv = rv2 ∧ (-2147483648 ≤ f ∧ f ≤ 2147483647) ∧ (f = iv a0 2)) := by
  refine Mc.mk (by decide) (Nat.le_of_ble_eq_true rfl) ?_
  intro p e s m args below meth c A C hM
  refine hv3 (Phi.le hW hS) (show XT L cl ln L cl ln from XT.refl) (show fT [] L cl iv rv iv rv from fT.refl) (fun hph hX0 hF0 => ?_)
  refine c_aload_n (j := 0) (x := a0) C dJx4a65c_size_8abf5_0 rfl ?_
  have ri1 : 0 ≤ iv a0 2 ∧ iv a0 2 ≤ 6003 := hW.int t_a0 2
  refine c_get (k := 2) C ck_0 dJx4a65c_size_8abf5_1 w1_79 (by decide) t_a0 rfl rfl (by decide) rfl ?_
  exact c_iret C dJx4a65c_size_8abf5_4 rfl (by decide) (rom0 hph hph (by decide)) ⟨(iv a0 2), rfl, rfl, rfl, rfl, rfl, rfl, ⟨by omega, by omega⟩, rfl⟩
set_option maxHeartbeats 4000000 in
set_option maxRecDepth 100000 in
theorem C_ed_25 {l : Launch} {G : GT} {mi : Nat} {sk : Nat → Nat} {L : List Nat} {cl ln : Nat → Nat} {iv : Nat → Nat → Int} {rv : Nat → Nat → Option Nat}  {a0 : Nat} {i : Int} (hW : WT (g0 G) sk L cl ln iv rv) (hS : SKL sk L cl) (t_a0 : ty L cl a0 25) (h_i : -2147483648 ≤ i ∧ i ≤ 2147483647) (hi : 0 ≤ i ∧ i < iv a0 2) : Mc l G mi (Phi (g0 G) sk) PHM yJx4a65c_elementData_915e3 cJx4a65c_elementData_915e3 2 (some (.object "java/lang/Object")) 0 [.ref a0, .int (iI i)] L cl ln iv rv 0 (fun v L2 cl2 ln2 iv2 rv2 => ∃ f : Nat, v = some (.ref f) ∧ L = L2 ∧ cl = cl2 ∧ ln = ln2 ∧ iv = iv2 ∧ rv = rv2 ∧ ty L2 cl2 f 20 ∧ (el rv a0 i.toNat = some f)) := by
  refine Mc.mk (by decide) (Nat.le_of_ble_eq_true rfl) ?_
  intro p e s m args below meth c A C hM
  refine hv3 (Phi.le hW hS) (show XT L cl ln L cl ln from XT.refl) (show fT [] L cl iv rv iv rv from fT.refl) (fun hph hX0 hF0 => ?_)
  refine c_aload_n (j := 0) (x := a0) C dJx4a65c_elementData_915e3_0 rfl ?_
  have ri1 : 0 ≤ iv a0 2 ∧ iv a0 2 ≤ 6003 := hW.int t_a0 2
  obtain ⟨eb1, eq1, teb1, ceb1, zeb1⟩ := hW.ed2 t_a0 rfl rfl (by omega)
  have lneb1 : 10 ≤ ln eb1 ∧ ln eb1 ≤ 9100 := hW.len teb1 rfl
  refine c_getr (k := 1) C ck_0 dJx4a65c_elementData_915e3_1 w1_78 (by decide) t_a0 rfl rfl (by decide) rfl eq1 ?_
  refine c_st (st2 := [.ref eb1]) rfl ?_
  refine c_iload_n (j := 1) C dJx4a65c_elementData_915e3_4 rfl ?_
  have ll1 : 10 ≤ ln eb1 ∧ ln eb1 ≤ 9100 := hW.len teb1 rfl
  obtain ⟨nb1, nq1, tnb1⟩ := hW.elem t_a0 rfl eq1 teb1 rfl rfl (i := i.toNat) (by omega)
  have tnb1 : ty L cl nb1 20 := tnb1
  refine c_aaldO C dJx4a65c_elementData_915e3_5 teb1 rfl (by omega) (by omega) (by omega) nq1 ?_
  refine c_st (st2 := [.ref nb1]) rfl ?_
  exact c_aret (x := some nb1) C dJx4a65c_elementData_915e3_6 rfl (Or.inl ⟨_, rfl⟩) (by decide) (rom0 hph hph (by decide)) ⟨nb1, rfl, rfl, rfl, rfl, rfl, rfl, tnb1, (by rw [el_of eq1]; exact nq1)⟩
set_option maxHeartbeats 4000000 in
set_option maxRecDepth 100000 in
theorem C_get_25 {l : Launch} {G : GT} {mi : Nat} {sk : Nat → Nat} {L : List Nat} {cl ln : Nat → Nat} {iv : Nat → Nat → Int} {rv : Nat → Nat → Option Nat}  {a0 : Nat} {i : Int} (hW : WT (g0 G) sk L cl ln iv rv) (hS : SKL sk L cl) (t_a0 : ty L cl a0 25) (h_i : -2147483648 ≤ i ∧ i ≤ 2147483647) (hi : 0 ≤ i ∧ i < iv a0 2) : Mc l G mi (Phi (g0 G) sk) PHM yJx4a65c_get_915e3 cJx4a65c_get_915e3 2 (some (.object "java/lang/Object")) 2 [.ref a0, .int (iI i)] L cl ln iv rv 0 (fun v L2 cl2 ln2 iv2 rv2 => ∃ f : Nat, v = some (.ref f) ∧ L = L2 ∧ cl = cl2 ∧ ln = ln2 ∧ iv = iv2 ∧ rv = rv2 ∧ ty L2 cl2 f 20 ∧ (el rv a0 i.toNat = some f)) := by
  refine Mc.mk (by decide) (Nat.le_of_ble_eq_true rfl) ?_
  intro p e s m args below meth c A C hM
  refine hv3 (Phi.le hW hS) (show XT L cl ln L cl ln from XT.refl) (show fT [] L cl iv rv iv rv from fT.refl) (fun hph hX0 hF0 => ?_)
  refine c_iload_n (j := 1) C dJx4a65c_get_915e3_0 rfl ?_
  refine c_aload_n (j := 0) (x := a0) C dJx4a65c_get_915e3_1 rfl ?_
  have ri1 : 0 ≤ iv a0 2 ∧ iv a0 2 ≤ 6003 := hW.int t_a0 2
  refine c_get (k := 2) C ck_0 dJx4a65c_get_915e3_2 w1_79 (by decide) t_a0 rfl rfl (by decide) rfl ?_
  refine d_callS (As := [.int (iI i), .int (iI (iv a0 2))]) (rest := []) C hM (C_checkIndex2 (i := i) (n := iv a0 2) hW hS  (by omega) (by omega) (by show 0 ≤ i ∧ i < (iv a0 2); omega)) dJx4a65c_get_915e3_5 kS_Jx4a65c_118 rfl rfl (Nat.le_of_ble_eq_true rfl) ⟨(Nat.le_of_ble_eq_true rfl), (Nat.le_of_ble_eq_true rfl)⟩ hph hph (show 0 + 0 = 0 from rfl) (by decide) (fun rh1 Lh1 clh1 lnh1 ivh1 rvh1 h1 => ?_)
  obtain ⟨f1, rfl, rfl, rfl, rfl, rfl, rfl, rgf1, exf1⟩ := h1
  refine c_st (st2 := [.int (iI f1)]) rfl ?_
  have gf1 : f1 = i := exf1
  refine c_pop C dJx4a65c_get_915e3_8 rfl ?_
  refine c_aload_n (j := 0) (x := a0) C dJx4a65c_get_915e3_9 rfl ?_
  refine c_iload_n (j := 1) C dJx4a65c_get_915e3_10 rfl ?_
  refine d_callV (As := [.int (iI i)]) (rest := []) C hM (C_ed_25 (a0 := a0) (i := i) hW hS t_a0 (by omega) (by show 0 ≤ i ∧ i < iv a0 2; omega)) dJx4a65c_get_915e3_11 kV_Jx4a65c_123 rfl t_a0 rfl rfl (by decide) ck_0 rfl (Nat.le_of_ble_eq_true rfl) ⟨(Nat.le_of_ble_eq_true rfl), (Nat.le_of_ble_eq_true rfl)⟩ hph hph (show 0 + 0 = 0 from rfl) (by decide) (fun rh2 Lh2 clh2 lnh2 ivh2 rvh2 h2 => ?_)
  obtain ⟨f2, rfl, rfl, rfl, rfl, rfl, rfl, rgf2, exf2⟩ := h2
  refine c_st (st2 := [.ref f2]) rfl ?_
  have gf2 : el rv a0 i.toNat = some f2 := exf2
  exact c_aret (x := some f2) C dJx4a65c_get_915e3_14 rfl (Or.inl ⟨_, rfl⟩) (by decide) (rom0 hph hph (by decide)) ⟨f2, rfl, rfl, rfl, rfl, rfl, rfl, rgf2, exf2⟩
set_option maxHeartbeats 4000000 in
set_option maxRecDepth 100000 in
theorem C_size_26 {l : Launch} {G : GT} {mi : Nat} {sk : Nat → Nat} {L : List Nat} {cl ln : Nat → Nat} {iv : Nat → Nat → Int} {rv : Nat → Nat → Option Nat}  {a0 : Nat} (hW : WT (g0 G) sk L cl ln iv rv) (hS : SKL sk L cl) (t_a0 : ty L cl a0 26)  : Mc l G mi (Phi (g0 G) sk) PHM yJx4a65c_size_8abf5 cJx4a65c_size_8abf5 1 (some .int) 0 [.ref a0] L cl ln iv rv 0 (fun v L2 cl2 ln2 iv2 rv2 => ∃ f : Int, v = some (.int (iI f)) ∧ L = L2 ∧ cl = cl2 ∧ ln = ln2 ∧ iv = iv2 ∧ rv = rv2 ∧ (-2147483648 ≤ f ∧ f ≤ 2147483647) ∧ (f = iv a0 2)) := by
  refine Mc.mk (by decide) (Nat.le_of_ble_eq_true rfl) ?_
  intro p e s m args below meth c A C hM
  refine hv3 (Phi.le hW hS) (show XT L cl ln L cl ln from XT.refl) (show fT [] L cl iv rv iv rv from fT.refl) (fun hph hX0 hF0 => ?_)
  refine c_aload_n (j := 0) (x := a0) C dJx4a65c_size_8abf5_0 rfl ?_
  have ri1 : 0 ≤ iv a0 2 ∧ iv a0 2 ≤ 200 := hW.int t_a0 2
  refine c_get (k := 2) C ck_0 dJx4a65c_size_8abf5_1 w1_79 (by decide) t_a0 rfl rfl (by decide) rfl ?_
  exact c_iret C dJx4a65c_size_8abf5_4 rfl (by decide) (rom0 hph hph (by decide)) ⟨(iv a0 2), rfl, rfl, rfl, rfl, rfl, rfl, ⟨by omega, by omega⟩, rfl⟩
set_option maxHeartbeats 4000000 in
set_option maxRecDepth 100000 in
theorem C_isEmpty_26 {l : Launch} {G : GT} {mi : Nat} {sk : Nat → Nat} {L : List Nat} {cl ln : Nat → Nat} {iv : Nat → Nat → Int} {rv : Nat → Nat → Option Nat}  {a0 : Nat} (hW : WT (g0 G) sk L cl ln iv rv) (hS : SKL sk L cl) (t_a0 : ty L cl a0 26)  : Mc l G mi (Phi (g0 G) sk) PHM yJx4a65c_isEmpty_aae02 cJx4a65c_isEmpty_aae02 1 (some .boolean) 0 [.ref a0] L cl ln iv rv 0 (fun v L2 cl2 ln2 iv2 rv2 => ∃ f : Int, v = some (.int (iI f)) ∧ L = L2 ∧ cl = cl2 ∧ ln = ln2 ∧ iv = iv2 ∧ rv = rv2 ∧ (f = 0 ∨ f = 1) ∧ ((f = 1 ∧ iv a0 2 = 0) ∨ (f = 0 ∧ iv a0 2 ≠ 0))) := by
  refine Mc.mk (by decide) (Nat.le_of_ble_eq_true rfl) ?_
  intro p e s m args below meth c A C hM
  refine hv3 (Phi.le hW hS) (show XT L cl ln L cl ln from XT.refl) (show fT [] L cl iv rv iv rv from fT.refl) (fun hph hX0 hF0 => ?_)
  refine c_aload_n (j := 0) (x := a0) C dJx4a65c_isEmpty_aae02_0 rfl ?_
  have ri1 : 0 ≤ iv a0 2 ∧ iv a0 2 ≤ 200 := hW.int t_a0 2
  refine c_get (k := 2) C ck_0 dJx4a65c_isEmpty_aae02_1 w1_79 (by decide) t_a0 rfl rfl (by decide) rfl ?_
  refine c_if_ne (tgt := 11) C (r32_c (lo := 0) (hi := 200) ri1.1 ri1.2 (by decide) (by decide)) dJx4a65c_isEmpty_aae02_4 (by decide) (fun c1 => ?_) (fun c1 => ?_)
  · refine c_iconst C dJx4a65c_isEmpty_aae02_11 ?_
    exact c_zret C dJx4a65c_isEmpty_aae02_12 rfl (Or.inl rfl) (by decide) (rom0 hph hph (by decide)) ⟨0, rfl, rfl, rfl, rfl, rfl, rfl, (Or.inl rfl), (by omega)⟩
  · refine c_iconst C dJx4a65c_isEmpty_aae02_7 ?_
    refine c_goto (tgt := 12) C dJx4a65c_isEmpty_aae02_8 (by decide) ?_
    exact c_zret C dJx4a65c_isEmpty_aae02_12 rfl (Or.inr rfl) (by decide) (rom0 hph hph (by decide)) ⟨1, rfl, rfl, rfl, rfl, rfl, rfl, (Or.inr rfl), (by omega)⟩
set_option maxHeartbeats 4000000 in
set_option maxRecDepth 100000 in
theorem C_ed_26 {l : Launch} {G : GT} {mi : Nat} {sk : Nat → Nat} {L : List Nat} {cl ln : Nat → Nat} {iv : Nat → Nat → Int} {rv : Nat → Nat → Option Nat}  {a0 : Nat} {i : Int} (hW : WT (g0 G) sk L cl ln iv rv) (hS : SKL sk L cl) (t_a0 : ty L cl a0 26) (h_i : -2147483648 ≤ i ∧ i ≤ 2147483647) (hi : 0 ≤ i ∧ i < iv a0 2) : Mc l G mi (Phi (g0 G) sk) PHM yJx4a65c_elementData_915e3 cJx4a65c_elementData_915e3 2 (some (.object "java/lang/Object")) 0 [.ref a0, .int (iI i)] L cl ln iv rv 0 (fun v L2 cl2 ln2 iv2 rv2 => ∃ f : Nat, v = some (.ref f) ∧ L = L2 ∧ cl = cl2 ∧ ln = ln2 ∧ iv = iv2 ∧ rv = rv2 ∧ ty L2 cl2 f 20 ∧ (el rv a0 i.toNat = some f)) := by
  refine Mc.mk (by decide) (Nat.le_of_ble_eq_true rfl) ?_
  intro p e s m args below meth c A C hM
  refine hv3 (Phi.le hW hS) (show XT L cl ln L cl ln from XT.refl) (show fT [] L cl iv rv iv rv from fT.refl) (fun hph hX0 hF0 => ?_)
  refine c_aload_n (j := 0) (x := a0) C dJx4a65c_elementData_915e3_0 rfl ?_
  have ri1 : 0 ≤ iv a0 2 ∧ iv a0 2 ≤ 200 := hW.int t_a0 2
  obtain ⟨eb1, eq1, teb1, ceb1, zeb1⟩ := hW.ed2 t_a0 rfl rfl (by omega)
  have lneb1 : 10 ≤ ln eb1 ∧ ln eb1 ≤ 400 := hW.len teb1 rfl
  refine c_getr (k := 1) C ck_0 dJx4a65c_elementData_915e3_1 w1_78 (by decide) t_a0 rfl rfl (by decide) rfl eq1 ?_
  refine c_st (st2 := [.ref eb1]) rfl ?_
  refine c_iload_n (j := 1) C dJx4a65c_elementData_915e3_4 rfl ?_
  have ll1 : 10 ≤ ln eb1 ∧ ln eb1 ≤ 400 := hW.len teb1 rfl
  obtain ⟨nb1, nq1, tnb1⟩ := hW.elem t_a0 rfl eq1 teb1 rfl rfl (i := i.toNat) (by omega)
  have tnb1 : ty L cl nb1 20 := tnb1
  refine c_aaldO C dJx4a65c_elementData_915e3_5 teb1 rfl (by omega) (by omega) (by omega) nq1 ?_
  refine c_st (st2 := [.ref nb1]) rfl ?_
  exact c_aret (x := some nb1) C dJx4a65c_elementData_915e3_6 rfl (Or.inl ⟨_, rfl⟩) (by decide) (rom0 hph hph (by decide)) ⟨nb1, rfl, rfl, rfl, rfl, rfl, rfl, tnb1, (by rw [el_of eq1]; exact nq1)⟩
set_option maxHeartbeats 4000000 in
set_option maxRecDepth 100000 in
theorem C_get_26 {l : Launch} {G : GT} {mi : Nat} {sk : Nat → Nat} {L : List Nat} {cl ln : Nat → Nat} {iv : Nat → Nat → Int} {rv : Nat → Nat → Option Nat}  {a0 : Nat} {i : Int} (hW : WT (g0 G) sk L cl ln iv rv) (hS : SKL sk L cl) (t_a0 : ty L cl a0 26) (h_i : -2147483648 ≤ i ∧ i ≤ 2147483647) (hi : 0 ≤ i ∧ i < iv a0 2) : Mc l G mi (Phi (g0 G) sk) PHM yJx4a65c_get_915e3 cJx4a65c_get_915e3 2 (some (.object "java/lang/Object")) 2 [.ref a0, .int (iI i)] L cl ln iv rv 0 (fun v L2 cl2 ln2 iv2 rv2 => ∃ f : Nat, v = some (.ref f) ∧ L = L2 ∧ cl = cl2 ∧ ln = ln2 ∧ iv = iv2 ∧ rv = rv2 ∧ ty L2 cl2 f 20 ∧ (el rv a0 i.toNat = some f)) := by
  refine Mc.mk (by decide) (Nat.le_of_ble_eq_true rfl) ?_
  intro p e s m args below meth c A C hM
  refine hv3 (Phi.le hW hS) (show XT L cl ln L cl ln from XT.refl) (show fT [] L cl iv rv iv rv from fT.refl) (fun hph hX0 hF0 => ?_)
  refine c_iload_n (j := 1) C dJx4a65c_get_915e3_0 rfl ?_
  refine c_aload_n (j := 0) (x := a0) C dJx4a65c_get_915e3_1 rfl ?_
  have ri1 : 0 ≤ iv a0 2 ∧ iv a0 2 ≤ 200 := hW.int t_a0 2
  refine c_get (k := 2) C ck_0 dJx4a65c_get_915e3_2 w1_79 (by decide) t_a0 rfl rfl (by decide) rfl ?_
  refine d_callS (As := [.int (iI i), .int (iI (iv a0 2))]) (rest := []) C hM (C_checkIndex2 (i := i) (n := iv a0 2) hW hS  (by omega) (by omega) (by show 0 ≤ i ∧ i < (iv a0 2); omega)) dJx4a65c_get_915e3_5 kS_Jx4a65c_118 rfl rfl (Nat.le_of_ble_eq_true rfl) ⟨(Nat.le_of_ble_eq_true rfl), (Nat.le_of_ble_eq_true rfl)⟩ hph hph (show 0 + 0 = 0 from rfl) (by decide) (fun rh1 Lh1 clh1 lnh1 ivh1 rvh1 h1 => ?_)
  obtain ⟨f1, rfl, rfl, rfl, rfl, rfl, rfl, rgf1, exf1⟩ := h1
  refine c_st (st2 := [.int (iI f1)]) rfl ?_
  have gf1 : f1 = i := exf1
  refine c_pop C dJx4a65c_get_915e3_8 rfl ?_
  refine c_aload_n (j := 0) (x := a0) C dJx4a65c_get_915e3_9 rfl ?_
  refine c_iload_n (j := 1) C dJx4a65c_get_915e3_10 rfl ?_
  refine d_callV (As := [.int (iI i)]) (rest := []) C hM (C_ed_26 (a0 := a0) (i := i) hW hS t_a0 (by omega) (by show 0 ≤ i ∧ i < iv a0 2; omega)) dJx4a65c_get_915e3_11 kV_Jx4a65c_123 rfl t_a0 rfl rfl (by decide) ck_0 rfl (Nat.le_of_ble_eq_true rfl) ⟨(Nat.le_of_ble_eq_true rfl), (Nat.le_of_ble_eq_true rfl)⟩ hph hph (show 0 + 0 = 0 from rfl) (by decide) (fun rh2 Lh2 clh2 lnh2 ivh2 rvh2 h2 => ?_)
  obtain ⟨f2, rfl, rfl, rfl, rfl, rfl, rfl, rgf2, exf2⟩ := h2
  refine c_st (st2 := [.ref f2]) rfl ?_
  have gf2 : el rv a0 i.toNat = some f2 := exf2
  exact c_aret (x := some f2) C dJx4a65c_get_915e3_14 rfl (Or.inl ⟨_, rfl⟩) (by decide) (rom0 hph hph (by decide)) ⟨f2, rfl, rfl, rfl, rfl, rfl, rfl, rgf2, exf2⟩
end
