def Mn (l : Launch) (G : GT) (y : MethodName) (cc : ByteArray) (n : Nat) (ret : Option FieldType) (d : Nat) (As : List Value) (h0 : Nat) (ad ln : Nat → Nat) (v : Nat → Int) (a : Nat → Nat → Int) (mc ms : Nat) (Post : Option Value → (Nat → Nat) → (Nat → Int) → (Nat → Nat → Int) → Prop) : Prop := ∀ (L : List Nat) (E : Nat → va_E), mI G h0 ad ln v a L E → Mq l G y cc n ret d (.ref h0 :: As) L E mc ms (fun r L2 E2 => ∃ (ad2 ln2 : Nat → Nat) (v2 : Nat → Int) (a2 : Nat → Nat → Int), mI G h0 ad2 ln2 v2 a2 L2 E2 ∧ Post r ln2 v2 a2)
section MQ4
variable {p : Program} {l : Launch} {e : Env} {R : Room} {s : State} {m : MethodId} {args : Array Value} {below : List Frame} {meth : Method} {c : Code} {cc : ByteArray} {y : MethodName} {ret : Option FieldType} {G : GT} {A : Nat → Prop} {nL mc ms : Nat} {Q : State → Prop} {Post : Option Value → (Nat → Nat) → (Nat → Int) → (Nat → Nat → Int) → Prop} {h0 : Nat} {ad ln : Nat → Nat} {v : Nat → Int} {a : Nat → Nat → Int} {kc ks pc : Nat} {lv : List (Nat × Value)} {st : List Value}
theorem n_iret (C : Cq p s m args meth c cc y ret G A nL) {z : Int} (d : decode cc pc = .ok (.ireturn, 1)) (hr : ret = some .int) (h1 : kc ≤ mc) (h2 : ks ≤ ms) (hp : Post (some (.int (iI z))) ln v a) : mw p l e R s m args below meth c G A nL (MQ below (Qm G A (fun r L2 E2 => ∃ (ad2 ln2 : Nat → Nat) (v2 : Nat → Int) (a2 : Nat → Nat → Int), mI G h0 ad2 ln2 v2 a2 L2 E2 ∧ Post r ln2 v2 a2)) args s mc ms A) h0 ad ln v a kc ks pc lv [.int (iI z)] := fun L E h => q_iret C d hr h1 h2 ⟨ad, ln, v, a, h, hp⟩
theorem n_vret (C : Cq p s m args meth c cc y ret G A nL) (d : decode cc pc = .ok (.return_, 1)) (hr : ret = none) (h1 : kc ≤ mc) (h2 : ks ≤ ms) (hp : Post none ln v a) : mw p l e R s m args below meth c G A nL (MQ below (Qm G A (fun r L2 E2 => ∃ (ad2 ln2 : Nat → Nat) (v2 : Nat → Int) (a2 : Nat → Nat → Int), mI G h0 ad2 ln2 v2 a2 L2 E2 ∧ Post r ln2 v2 a2)) args s mc ms A) h0 ad ln v a kc ks pc lv [] := fun L E h => q_vret C d hr h1 h2 ⟨ad, ln, v, a, h, hp⟩
theorem Mn.mk {n d : Nat} {As : List Value} (hy : plainName y.cls = true) (hn : (lg_sl (.ref h0 :: As)).length ≤ n) (body : ∀ (p : Program) (e : Env) (s : State) (m : MethodId) (args : Array Value) (below : List Frame) (meth : Method) (c : Code) (A : Nat → Prop), Cq p s m args meth c cc y ret G A n → mw p l e (rmq d mc ms) s m args below meth c G A n (MQ below (Qm G A (fun r L2 E2 => ∃ (ad2 ln2 : Nat → Nat) (v2 : Nat → Int) (a2 : Nat → Nat → Int), mI G h0 ad2 ln2 v2 a2 L2 E2 ∧ Post r ln2 v2 a2)) args s mc ms A) h0 ad ln v a 0 0 0 (lv_args 0 (.ref h0 :: As)) []) : Mn l G y cc n ret d As h0 ad ln v a mc ms Post := fun L E h => Mq.mk hy hn (fun p e s m args below meth c A C => body p e s m args below meth c A C L E h)
theorem n_call (C : Cq p s m args meth c cc y ret G A nL) {y2 : MethodName} {cc2 : ByteArray} {n2 d2 mc2 ms2 idx k2 : Nat} {ret2 : Option FieldType} {P2 : Option Value → (Nat → Nat) → (Nat → Int) → (Nat → Nat → Int) → Prop} {As rest : List Value} (M : Mn l G y2 cc2 n2 ret2 d2 As h0 ad ln v a mc2 ms2 P2) (d : decode cc pc = .ok (.invokevirtual idx, 3)) (hw : Wv y.cls idx y2 cc2 n2 ret2 k2) (hk : As.length = k2) (ck : Ck 13 y2.cls TX12 67 tyX12) (hst : st = As.reverse ++ .ref h0 :: rest) (hcat : (rest.map fun v => v.category).sum ≤ 8) (hR : d2 + 1 ≤ R.frames ∧ 8 + (n2 + 11) + 64 * d2 ≤ R.locals) (hf : kc + mc2 ≤ R.cells ∧ ks + ms2 ≤ R.slots) (kk : ∀ (r : Option Value) (ad2 ln2 : Nat → Nat) (v2 : Nat → Int) (a2 : Nat → Nat → Int), P2 r ln2 v2 a2 → mw p l e R s m args below meth c G A nL Q h0 ad2 ln2 v2 a2 (kc + mc2) (ks + ms2) (pc + 3) lv (r.toList ++ rest)) : mw p l e R s m args below meth c G A nL Q h0 ad ln v a kc ks pc lv st := fun L E h => q_callV C (M L E h) d hw hk h.1 h.2.1 ck hst hcat hR hf (fun r L2 E2 ⟨ad2, ln2, v2, a2, h2, hp⟩ => kk r ad2 ln2 v2 a2 hp L2 E2 h2)
end MQ4
theorem push4 {a : Nat → Nat → Int} {n x t y z : Int} (h : 0 ≤ n) : (∀ j : Nat, (j : Int) < n → up2 (up2 (up2 (up2 a 18 n.toNat x) 18 (n + 1).toNat t) 18 (n + 2).toNat y) 18 (n + 3).toNat z 18 j = a 18 j) ∧ up2 (up2 (up2 (up2 a 18 n.toNat x) 18 (n + 1).toNat t) 18 (n + 2).toNat y) 18 (n + 3).toNat z 18 n.toNat = x ∧ up2 (up2 (up2 (up2 a 18 n.toNat x) 18 (n + 1).toNat t) 18 (n + 2).toNat y) 18 (n + 3).toNat z 18 (n + 1).toNat = t ∧ up2 (up2 (up2 (up2 a 18 n.toNat x) 18 (n + 1).toNat t) 18 (n + 2).toNat y) 18 (n + 3).toNat z 18 (n + 2).toNat = y ∧ up2 (up2 (up2 (up2 a 18 n.toNat x) 18 (n + 1).toNat t) 18 (n + 2).toNat y) 18 (n + 3).toNat z 18 (n + 3).toNat = z := by
  refine ⟨fun j hj => ?_, ?_, ?_, ?_, up2_s⟩
  · rw [up2_j (by omega), up2_j (by omega), up2_j (by omega), up2_j (by omega)]
  · rw [up2_j (by omega), up2_j (by omega), up2_j (by omega), up2_s]
  · rw [up2_j (by omega), up2_j (by omega), up2_s]
  · rw [up2_j (by omega), up2_s]
def ent (k t y T : Int) (R : Nat → Int) (T0 : Int) (R0 : Nat → Int) : Prop := (k = 0 ∧ 1 ≤ T ∧ T0 = T - 1 ∧ R0 = R) ∨ (k = 1 ∧ (0 ≤ t ∧ t < T) ∧ T0 = T ∧ R0 = R) ∨ (k = 2 ∧ (0 ≤ t ∧ t < T) ∧ 1 ≤ R t.toNat ∧ T0 = T ∧ R0 = fun j => if j = t.toNat then R j - 1 else R j) ∨ (k = 3 ∧ (0 ≤ t ∧ t < T) ∧ (0 ≤ y ∧ y < R t.toNat) ∧ T0 = T ∧ R0 = R) ∨ (k = 4 ∧ (0 ≤ t ∧ t < 4 * T) ∧ (0 ≤ y ∧ y ≤ 4) ∧ T0 = T ∧ R0 = R)
theorem ent.e0 {k t y T T0 : Int} {R R0 : Nat → Int} (h : ent k t y T R T0 R0) (hk : k = 0) : 1 ≤ T ∧ T0 = T - 1 ∧ R0 = R := by rcases h with q | q | q | q | q <;> first | exact q.2 | exact absurd q.1 (by omega)
theorem ent.e1 {k t y T T0 : Int} {R R0 : Nat → Int} (h : ent k t y T R T0 R0) (hk : k = 1) : (0 ≤ t ∧ t < T) ∧ T0 = T ∧ R0 = R := by rcases h with q | q | q | q | q <;> first | exact q.2 | exact absurd q.1 (by omega)
theorem ent.e2 {k t y T T0 : Int} {R R0 : Nat → Int} (h : ent k t y T R T0 R0) (hk : k = 2) : (0 ≤ t ∧ t < T) ∧ 1 ≤ R t.toNat ∧ T0 = T ∧ R0 = fun j => if j = t.toNat then R j - 1 else R j := by rcases h with q | q | q | q | q <;> first | exact q.2 | exact absurd q.1 (by omega)
theorem ent.e3 {k t y T T0 : Int} {R R0 : Nat → Int} (h : ent k t y T R T0 R0) (hk : k = 3) : (0 ≤ t ∧ t < T) ∧ (0 ≤ y ∧ y < R t.toNat) ∧ T0 = T ∧ R0 = R := by rcases h with q | q | q | q | q <;> first | exact q.2 | exact absurd q.1 (by omega)
theorem ent.e4 {k t y T T0 : Int} {R R0 : Nat → Int} (h : ent k t y T R T0 R0) (hk : k < 0 ∨ 3 < k) : k = 4 ∧ (0 ≤ t ∧ t < 4 * T) ∧ (0 ≤ y ∧ y ≤ 4) ∧ T0 = T ∧ R0 = R := by rcases h with q | q | q | q | q <;> first | exact absurd q.1 (by omega) | exact q
def stk (s : Nat → Int) : Nat → Int → (Nat → Int) → Prop
  | 0, T, _ => T = 0
  | n + 1, T, R => ∃ (T0 : Int) (R0 : Nat → Int), ent (s (4 * n)) (s (4 * n + 1)) (s (4 * n + 2)) T R T0 R0 ∧ stk s n T0 R0
theorem stk_R {s : Nat → Int} : ∀ (n : Nat) (T : Int) (R R2 : Nat → Int), (∀ j : Nat, (j : Int) < T → R j = R2 j) → stk s n T R → stk s n T R2 := by
  intro n
  induction n with
  | zero => intro T R R2 _ h; exact h
  | succ n ih =>
    intro T R R2 hR h
    obtain ⟨T0, R0, he, hs⟩ := h
    rcases he with ⟨q1, q2, rfl, rfl⟩ | ⟨q1, q2, rfl, rfl⟩ | ⟨q1, q2, q3, rfl, rfl⟩ | ⟨q1, q2, q3, rfl, rfl⟩ | ⟨q1, q2, q3, rfl, rfl⟩
    · exact ⟨_, R2, Or.inl ⟨q1, q2, rfl, rfl⟩, ih _ _ _ (fun j hj => hR j (by omega)) hs⟩
    · exact ⟨_, R2, Or.inr (Or.inl ⟨q1, q2, rfl, rfl⟩), ih _ _ _ hR hs⟩
    · refine ⟨_, _, Or.inr (Or.inr (Or.inl ⟨q1, q2, ?_, rfl, rfl⟩)), ih _ _ _ (fun j hj => ?_) hs⟩
      · rw [← hR _ (by omega)]; exact q3
      · show (if _ then R j - 1 else R j) = (if _ then R2 j - 1 else R2 j)
        rw [hR j hj]
    · exact ⟨_, R2, Or.inr (Or.inr (Or.inr (Or.inl ⟨q1, q2, by rw [← hR _ (by omega)]; exact q3, rfl, rfl⟩))), ih _ _ _ hR hs⟩
    · exact ⟨_, R2, Or.inr (Or.inr (Or.inr (Or.inr ⟨q1, q2, q3, rfl, rfl⟩))), ih _ _ _ hR hs⟩
theorem stk_s {s s2 : Nat → Int} : ∀ (n : Nat) (T : Int) (R : Nat → Int), (∀ j : Nat, j < 4 * n → s2 j = s j) → stk s n T R → stk s2 n T R := by
  intro n
  induction n with
  | zero => intro T R _ h; exact h
  | succ n ih =>
    intro T R hs h
    obtain ⟨T0, R0, he, hk⟩ := h
    refine ⟨T0, R0, ?_, ih _ _ (fun j hj => hs j (by omega)) hk⟩
    rw [hs (4 * n) (by omega), hs (4 * n + 1) (by omega), hs (4 * n + 2) (by omega)]
    exact he
def STK (ln : Nat → Nat) (v : Nat → Int) (a : Nat → Nat → Int) : Prop := v 19 ≤ (ln 18 : Nat) ∧ (64 ≤ ln 18 ∧ ln 18 ≤ 8192) ∧ ∃ n : Nat, v 19 = 4 * (n : Int) ∧ stk (a 18) n (v 4) (a 10)
theorem STK.of {ln : Nat → Nat} {v v2 : Nat → Int} {a a2 : Nat → Nat → Int} (h : STK ln v a) (h1 : v2 19 = v 19) (h2 : v2 4 = v 4) (h3 : a2 18 = a 18) (h4 : a2 10 = a 10) : STK ln v2 a2 := by unfold STK at h ⊢; rw [h1, h2, h3, h4]; exact h
theorem STK.put {ln : Nat → Nat} {v : Nat → Int} {a : Nat → Nat → Int} (h : STK ln v a) {k : Nat} {z : Int} (hk : ([4, 19] : List Nat).contains k = false) : STK ln (va_up v k z) a := h.of (va_up_ne _ _ (fun e => by subst e; exact absurd hk (by decide))) (va_up_ne _ _ (fun e => by subst e; exact absurd hk (by decide))) rfl rfl
theorem STK.set {ln : Nat → Nat} {v : Nat → Int} {a : Nat → Nat → Int} (h : STK ln v a) {k i : Nat} {z : Int} (hk : ([10, 18] : List Nat).contains k = false) : STK ln v (up2 a k i z) := h.of rfl rfl (funext fun _ => up2_k (fun e => by subst e; exact absurd hk (by decide))) (funext fun _ => up2_k (fun e => by subst e; exact absurd hk (by decide)))
theorem STK.fr {ln : Nat → Nat} {V A : List Nat} {v v2 : Nat → Int} {a a2 : Nat → Nat → Int} (h : STK ln v a) (f : fr V A v a v2 a2) (h1 : (!V.contains 4 && !V.contains 19) = true) (h2 : (!A.contains 10 && !A.contains 18) = true) : STK ln v2 a2 := by
  rw [Bool.and_eq_true] at h1 h2
  exact h.of (f.1 19 (by simpa using h1.2)) (f.1 4 (by simpa using h1.1)) (f.2 18 (by simpa using h2.2)) (f.2 10 (by simpa using h2.1))
theorem TBL.put {v : Nat → Int} {a : Nat → Nat → Int} (h : TBL v a) {k : Nat} {z : Int} (hk : k ≠ 4) : TBL (va_up v k z) a := by
  have e : va_up v k z 4 = v 4 := va_up_ne _ _ (Ne.symm hk)
  unfold TBL; rw [e]; exact h
theorem TBL.set {v : Nat → Int} {a : Nat → Nat → Int} (h : TBL v a) {k i : Nat} {z : Int} (hk : tbA.contains k = false) : TBL v (up2 a k i z) := by
  have g : ∀ j, tbA.contains j = true → up2 a k i z j = a j := fun j hj => funext fun q => up2_k (fun e => by rw [e, hk] at hj; cases hj)
  unfold TBL; rw [g 6 rfl, g 8 rfl, g 9 rfl, g 10 rfl, g 12 rfl, g 13 rfl]; exact h
def KS (v : Nat → Int) (a : Nat → Nat → Int) (v2 : Nat → Int) (a2 : Nat → Nat → Int) : Prop := v2 19 = v 19 ∧ a2 18 = a 18
def PSH (v : Nat → Int) (a : Nat → Nat → Int) (v2 : Nat → Int) (a2 : Nat → Nat → Int) (w t c d : Int) : Prop := v2 19 = v 19 + 4 ∧ (∀ j : Nat, (j : Int) < v 19 → a2 18 j = a 18 j) ∧ a2 18 (v 19).toNat = w ∧ a2 18 (v 19 + 1).toNat = t ∧ a2 18 (v 19 + 2).toNat = c ∧ a2 18 (v 19 + 3).toNat = d
theorem PSH.put {v v2 : Nat → Int} {a a2 : Nat → Nat → Int} {w t c d : Int} (h : PSH v a v2 a2 w t c d) {k : Nat} {z : Int} (hk : k ≠ 19) : PSH v a (va_up v2 k z) a2 w t c d := ⟨by rw [va_up_ne _ _ (Ne.symm hk)]; exact h.1, h.2⟩
theorem PSH.set {v v2 : Nat → Int} {a a2 : Nat → Nat → Int} {w t c d : Int} (h : PSH v a v2 a2 w t c d) {k i : Nat} {z : Int} (hk : k ≠ 18) : PSH v a v2 (up2 a2 k i z) w t c d := by
  have e : up2 a2 k i z 18 = a2 18 := funext fun _ => up2_k (Ne.symm hk)
  exact ⟨h.1, by rw [e]; exact h.2⟩
theorem PSH.fr {v v2 v3 : Nat → Int} {a a2 a3 : Nat → Nat → Int} {V A : List Nat} {w t c d : Int} (h : PSH v a v2 a2 w t c d) (f : fr V A v2 a2 v3 a3) (h1 : V.contains 19 = false) (h2 : A.contains 18 = false) : PSH v a v3 a3 w t c d := by
  have e := f.2 18 h2
  exact ⟨(f.1 19 h1).trans h.1, by rw [e]; exact h.2⟩
theorem up2_va {a : Nat → Nat → Int} {k i : Nat} {z : Int} : up2 a k i z k = va_up (a k) i z := by
  funext j; unfold up2 va_up; rw [if_pos rfl]
def ARS (a a2 : Nat → Nat → Int) : Prop := a2 8 = a 8 ∧ a2 9 = a 9 ∧ a2 12 = a 12 ∧ a2 13 = a 13 ∧ a2 14 = a 14 ∧ a2 15 = a 15 ∧ a2 16 = a 16 ∧ a2 17 = a 17
def FIL (x x0 : Nat → Int) (b n w : Nat) (y : Nat → Int) : Prop := (∀ k : Nat, k < n → x (b + k) = y k) ∧ ∀ j : Nat, (j < b ∨ b + w ≤ j) → x j = x0 j
theorem FIL.zero {x x0 y : Nat → Int} {b n w : Nat} (h : x = x0) (hn : n = 0) : FIL x x0 b n w y := ⟨fun k hk => absurd hk (by omega), fun j _ => by rw [h]⟩
theorem FIL.cg {x x2 x0 y : Nat → Int} {b n w : Nat} (h : FIL x x0 b n w y) (e : x2 = x) : FIL x2 x0 b n w y := by rw [e]; exact h
theorem FIL.n {x x0 y : Nat → Int} {b n m w : Nat} (h : FIL x x0 b n w y) (e : m = n) : FIL x x0 b m w y := by rw [e]; exact h
theorem FIL.b {x x0 y : Nat → Int} {b b2 n w : Nat} (h : FIL x x0 b n w y) (e : b2 = b) : FIL x x0 b2 n w y := by rw [e]; exact h
theorem FIL.step {x x0 y : Nat → Int} {b n m w i : Nat} {z : Int} (h : FIL x x0 b n w y) (hi : i = b + n) (hz : z = y n) (hn : n < w) (hm : m = n + 1) : FIL (va_up x i z) x0 b m w y := by
  subst hm
  refine ⟨fun k hk => ?_, fun j hj => ?_⟩
  · by_cases e : k = n
    · subst e; rw [← hi, va_up_self]; exact hz
    · rw [va_up_ne _ _ (by omega)]; exact h.1 k (by omega)
  · rw [va_up_ne _ _ (by omega)]; exact h.2 j hj
theorem vupS {x r : Nat → Int} {t : Nat} {z : Int} (h : ∀ j, x j = if j = t then z else r j) : x = va_up r t z := by
  funext j
  rw [h j]
  unfold va_up
  rfl
def PKB (ss : Nat → Int) (b : Nat) : Nat → Int
  | 0 => 0
  | n + 1 => ((iI (PKB ss b n) <<< (iI 8 &&& 31)) ||| iI (ss (b + n))).toInt
def UPK (d c k : Int) : Int := ((iI d >>> (iI (8 * ((c - 1) - k)) &&& 31)) &&& iI 255).toInt
theorem PKB.step {ss : Nat → Int} {b n m : Nat} {bf z1 z2 y : Int} (h : bf = PKB ss b n) (e1 : iI bf <<< (iI 8 &&& 31) = iI z1) (e2 : iI z1 ||| iI y = iI z2) (h2 : R32 z2) (hy : y = ss (b + n)) (hm : m = n + 1) : z2 = PKB ss b m := by
  subst hm
  show z2 = ((iI (PKB ss b n) <<< (iI 8 &&& 31)) ||| iI (ss (b + n))).toInt
  rw [← h, e1, ← hy, e2]
  exact (iI_int h2).symm
theorem UPK.of {d s c k z1 z2 : Int} (e1 : iI d >>> (iI s &&& 31) = iI z1) (e2 : iI z1 &&& iI 255 = iI z2) (h2 : R32 z2) (hs : s = 8 * ((c - 1) - k)) : z2 = UPK d c k := by
  unfold UPK
  rw [← hs, e1, e2]
  exact (iI_int h2).symm
theorem PSH.cg {v v2 : Nat → Int} {a a2 : Nat → Nat → Int} {w t c d c2 d2 : Int} (h : PSH v a v2 a2 w t c d) (hc : c = c2) (hd : d = d2) : PSH v a v2 a2 w t c2 d2 := by subst hc; subst hd; exact h
def TSAME (v : Nat → Int) (a : Nat → Nat → Int) (v2 : Nat → Int) (a2 : Nat → Nat → Int) : Prop := v2 4 = v 4 ∧ a2 5 = a 5 ∧ a2 6 = a 6 ∧ a2 7 = a 7 ∧ a2 10 = a 10 ∧ v2 19 = v 19 ∧ a2 18 = a 18 ∧ a2 11 = a 11 ∧ ARS a a2
def TNEW (k d b s : Int) (v : Nat → Int) (a : Nat → Nat → Int) (v2 : Nat → Int) (a2 : Nat → Nat → Int) : Prop := v2 4 = v 4 + 1 ∧ a2 5 = va_up (a 5) (v 4).toNat 1 ∧ a2 6 = va_up (a 6) (v 4).toNat k ∧ a2 7 = va_up (a 7) (v 4).toNat d ∧ a2 10 = va_up (a 10) (v 4).toNat 0 ∧ PSH v a v2 a2 0 (v 4) 0 0 ∧ a2 11 = a 11 ∧ a2 8 = va_up (a 8) (v 4).toNat b ∧ a2 9 = va_up (a 9) (v 4).toNat s ∧ a2 12 = a 12 ∧ a2 13 = a 13 ∧ a2 14 = a 14 ∧ a2 15 = a 15 ∧ a2 17 = a 17 ∧ FIL (a2 16) (a 16) (4 * v 4).toNat 4 4 (fun _ => 0)
def TDRP (t : Int) (v : Nat → Int) (a : Nat → Nat → Int) (v2 : Nat → Int) (a2 : Nat → Nat → Int) : Prop := v2 4 = v 4 ∧ a2 5 = va_up (a 5) t.toNat 0 ∧ a2 6 = a 6 ∧ a2 7 = a 7 ∧ a2 10 = a 10 ∧ PSH v a v2 a2 1 t 0 0 ∧ a2 11 = a 11 ∧ ARS a a2
def TRUL (t x n : Int) (v : Nat → Int) (a : Nat → Nat → Int) (v2 : Nat → Int) (a2 : Nat → Nat → Int) : Prop := v2 4 = v 4 ∧ a2 5 = a 5 ∧ a2 6 = a 6 ∧ a2 7 = a 7 ∧ a2 10 = va_up (a 10) t.toNat (a 10 t.toNat + 1) ∧ PSH v a v2 a2 2 t 0 0 ∧ a2 11 = va_up (a 11) (200 * t + a 10 t.toNat).toNat x ∧ a2 8 = a 8 ∧ a2 9 = a 9 ∧ a2 16 = a 16 ∧ a2 17 = a 17 ∧ a2 12 = va_up (a 12) (200 * t + a 10 t.toNat).toNat n ∧ a2 13 = va_up (a 13) (200 * t + a 10 t.toNat).toNat (v 3 - n) ∧ FIL (a2 14) (a 14) (8 * (200 * t + a 10 t.toNat)).toNat n.toNat 8 (a 2) ∧ FIL (a2 15) (a 15) (4 * (200 * t + a 10 t.toNat)).toNat (v 3 - n).toNat 4 (fun k => a 2 (n.toNat + k))
def TOTH (w t c d : Int) (v : Nat → Int) (a : Nat → Nat → Int) (v2 : Nat → Int) (a2 : Nat → Nat → Int) : Prop := v2 4 = v 4 ∧ a2 5 = a 5 ∧ a2 6 = a 6 ∧ a2 7 = a 7 ∧ a2 10 = a 10 ∧ PSH v a v2 a2 w t c d
def TCND (t r x : Int) (v : Nat → Int) (a : Nat → Nat → Int) (v2 : Nat → Int) (a2 : Nat → Nat → Int) : Prop := TOTH 3 t r (a 11 (200 * t + r).toNat) v a v2 a2 ∧ a2 11 = va_up (a 11) (200 * t + r).toNat x ∧ ARS a a2
def TIND (t x : Int) (v : Nat → Int) (a : Nat → Nat → Int) (v2 : Nat → Int) (a2 : Nat → Nat → Int) : Prop := TOTH 4 (4 * t + x) (a 16 (4 * t + x).toNat) (PKB (a 17) (4 * (4 * t + x)).toNat (a 16 (4 * t + x).toNat).toNat) v a v2 a2 ∧ a2 11 = a 11 ∧ a2 8 = a 8 ∧ a2 9 = a 9 ∧ a2 12 = a 12 ∧ a2 13 = a 13 ∧ a2 14 = a 14 ∧ a2 15 = a 15 ∧ a2 16 = va_up (a 16) (4 * t + x).toNat (v 3) ∧ FIL (a2 17) (a 17) (4 * (4 * t + x)).toNat (v 3).toNat 4 (a 2)
def TUND (v : Nat → Int) (a : Nat → Nat → Int) (v2 : Nat → Int) (a2 : Nat → Nat → Int) : Prop := v2 19 = v 19 - 4 ∧ a2 18 = a 18 ∧ a2 6 = a 6 ∧ a2 7 = a 7 ∧ (a2 8 = a 8 ∧ a2 9 = a 9 ∧ a2 12 = a 12 ∧ a2 13 = a 13 ∧ a2 14 = a 14 ∧ a2 15 = a 15) ∧ ((a 18 (v 19 - 4).toNat = 0 ∧ v2 4 = v 4 - 1 ∧ a2 5 = a 5 ∧ a2 10 = a 10 ∧ a2 11 = a 11 ∧ a2 16 = a 16 ∧ a2 17 = a 17) ∨ (a 18 (v 19 - 4).toNat = 1 ∧ v2 4 = v 4 ∧ a2 5 = va_up (a 5) (a 18 (v 19 - 4 + 1).toNat).toNat 1 ∧ a2 10 = a 10 ∧ a2 11 = a 11 ∧ a2 16 = a 16 ∧ a2 17 = a 17) ∨ (a 18 (v 19 - 4).toNat = 2 ∧ v2 4 = v 4 ∧ a2 5 = a 5 ∧ a2 10 = va_up (a 10) (a 18 (v 19 - 4 + 1).toNat).toNat (a 10 (a 18 (v 19 - 4 + 1).toNat).toNat - 1) ∧ a2 11 = a 11 ∧ a2 16 = a 16 ∧ a2 17 = a 17) ∨ (a 18 (v 19 - 4).toNat = 3 ∧ v2 4 = v 4 ∧ a2 5 = a 5 ∧ a2 10 = a 10 ∧ a2 11 = va_up (a 11) (200 * a 18 (v 19 - 4 + 1).toNat + a 18 (v 19 - 4 + 2).toNat).toNat (a 18 (v 19 - 4 + 3).toNat) ∧ a2 16 = a 16 ∧ a2 17 = a 17) ∨ (a 18 (v 19 - 4).toNat = 4 ∧ v2 4 = v 4 ∧ a2 5 = a 5 ∧ a2 10 = a 10 ∧ a2 11 = a 11 ∧ a2 16 = va_up (a 16) (a 18 (v 19 - 4 + 1).toNat).toNat (a 18 (v 19 - 4 + 2).toNat) ∧ FIL (a2 17) (a 17) (4 * a 18 (v 19 - 4 + 1).toNat).toNat (a 18 (v 19 - 4 + 2).toNat).toNat 4 (fun k => UPK (a 18 (v 19 - 4 + 3).toNat) (a 18 (v 19 - 4 + 2).toNat) (k : Int))))
def NA (a : Nat → Nat → Int) (T : Nat) (k d b s : Int) : Nat → Nat → Int := up2 (up2 (up2 (up2 (up2 (up2 a 5 T 1) 6 T k) 7 T d) 8 T b) 9 T s) 10 T 0
theorem NA_5 {a : Nat → Nat → Int} {T : Nat} {k d b s : Int} : NA a T k d b s 5 = va_up (a 5) T 1 ∧ NA a T k d b s 6 = va_up (a 6) T k ∧ NA a T k d b s 7 = va_up (a 7) T d ∧ NA a T k d b s 10 = va_up (a 10) T 0 ∧ NA a T k d b s 8 = va_up (a 8) T b ∧ NA a T k d b s 9 = va_up (a 9) T s ∧ (∀ q, 11 ≤ q → NA a T k d b s q = a q) := by
  refine ⟨?_, ?_, ?_, ?_, ?_, ?_, ?_⟩
  case refine_7 => intro q hq; funext j; unfold NA; rw [up2_k (by omega), up2_k (by omega), up2_k (by omega), up2_k (by omega), up2_k (by omega), up2_k (by omega)]
  all_goals funext j <;> simp [NA, up2, va_up]
theorem con2 {j x y : Nat} (h1 : j ≠ x) (h2 : j ≠ y) : ([x, y] : List Nat).contains j = false := by
  rw [List.contains_cons, List.contains_cons, beq_false_of_ne h1, beq_false_of_ne h2]; rfl
theorem vupR {x r : Nat → Int} {t : Nat} (h : ∀ j, x j = if j = t then r j + 1 else r j) : x = va_up r t (r t + 1) := by
  funext j
  rw [h j]
  unfold va_up
  by_cases e : j = t
  · rw [if_pos e, if_pos e, e]
  · rw [if_neg e, if_neg e]
def DC (x : Int) : Int := if x = 6 then 63 else 255
theorem dcf (x : Int) : (x = 6 ∧ DC x = 63) ∨ (x ≠ 6 ∧ DC x = 255) := by
  unfold DC
  by_cases h : x = 6
  · rw [if_pos h]; exact Or.inl ⟨h, rfl⟩
  · rw [if_neg h]; exact Or.inr ⟨h, rfl⟩
def ACL (ss : Nat → Int) (q u d : Int) : Prop := ∀ j : Nat, q ≤ (j : Int) → (j : Int) < q + u → 1 ≤ ss j ∧ ss j ≤ d
theorem ACL.zero {ss : Nat → Int} {q d : Int} : ACL ss q (q - q) d := fun j h1 h2 => absurd h2 (by omega)
theorem ACL.step {ss : Nat → Int} {q d g g2 k : Int} (h : g = 1 ↔ ACL ss q (k - q) d) (hk : 0 ≤ q ∧ q ≤ k) (e : g2 = 1 ↔ (g = 1 ∧ 1 ≤ ss k.toNat ∧ ss k.toNat ≤ d)) : g2 = 1 ↔ ACL ss q (k + 1 - q) d := by
  constructor
  · intro q2 j h1 h2
    by_cases e2 : (j : Int) < k
    · exact h.mp (e.mp q2).1 j h1 (by omega)
    · rw [show j = k.toNat by omega]; exact (e.mp q2).2
  · intro q2
    exact e.mpr ⟨h.mpr (fun j h1 h2 => q2 j h1 (by omega)), q2 k.toNat (by omega) (by omega)⟩
def LTK (ss : Nat → Int) (n : Int) : Prop := ∀ j : Nat, (j : Int) < n → 33 ≤ ss j ∧ ss j ≤ 125
theorem LTK.zero {ss : Nat → Int} : LTK ss 0 := fun j hj => absurd hj (by omega)
theorem LTK.step {ss : Nat → Int} {g g2 k : Int} (h : g = 1 ↔ LTK ss k) (hk : 0 ≤ k) (e : g2 = 1 ↔ (g = 1 ∧ 33 ≤ ss k.toNat ∧ ss k.toNat ≤ 125)) : g2 = 1 ↔ LTK ss (k + 1) := by
  constructor
  · intro q2 j h1
    by_cases e2 : (j : Int) < k
    · exact h.mp (e.mp q2).1 j e2
    · rw [show j = k.toNat by omega]; exact (e.mp q2).2
  · intro q2
    exact e.mpr ⟨h.mpr (fun j h1 => q2 j (by omega)), q2 k.toNat (by omega)⟩
theorem KS.put {v v2 : Nat → Int} {a a2 : Nat → Nat → Int} (h : KS v a v2 a2) {k : Nat} {z : Int} (hk : k ≠ 19) : KS v a (va_up v2 k z) a2 := ⟨by rw [va_up_ne _ _ (Ne.symm hk)]; exact h.1, h.2⟩
theorem KS.set {v v2 : Nat → Int} {a a2 : Nat → Nat → Int} (h : KS v a v2 a2) {k i : Nat} {z : Int} (hk : k ≠ 18) : KS v a v2 (up2 a2 k i z) := ⟨h.1, by rw [← h.2]; exact funext fun _ => up2_k (Ne.symm hk)⟩
theorem KS.fr {v v2 v3 : Nat → Int} {a a2 a3 : Nat → Nat → Int} {V A : List Nat} (h : KS v a v2 a2) (f : fr V A v2 a2 v3 a3) (h1 : V.contains 19 = false) (h2 : A.contains 18 = false) : KS v a v3 a3 := ⟨(f.1 19 h1).trans h.1, (f.2 18 h2).trans h.2⟩
theorem STK.push {ln ln2 : Nat → Nat} {v v2 : Nat → Int} {a a2 : Nat → Nat → Int} {x t y T0 : Int} {R0 : Nat → Int} (hS : STK ln v a) (h1 : v2 19 = v 19 + 4) (h2 : v2 19 ≤ (ln2 18 : Nat)) (h3 : 64 ≤ ln2 18 ∧ ln2 18 ≤ 8192) (h4 : ∀ j : Nat, (j : Int) < v 19 → a2 18 j = a 18 j) (hx : a2 18 (v 19).toNat = x) (ht : a2 18 (v 19 + 1).toNat = t) (hy : a2 18 (v 19 + 2).toNat = y) (he : ent x t y (v2 4) (a2 10) T0 R0) (hT : T0 = v 4) (hR : ∀ j : Nat, (j : Int) < v 4 → R0 j = a 10 j) : STK ln2 v2 a2 := by
  obtain ⟨_, _, n, hn, hk⟩ := hS
  refine ⟨h2, h3, n + 1, by omega, T0, R0, ?_, ?_⟩
  · rw [show 4 * n = (v 19).toNat by omega, show (v 19).toNat + 1 = (v 19 + 1).toNat by omega, show (v 19).toNat + 2 = (v 19 + 2).toNat by omega, hx, ht, hy]; exact he
  · subst hT
    exact stk_R n _ _ _ (fun j hj => (hR j hj).symm) (stk_s n _ _ (fun j hj => h4 j (by omega)) hk)
theorem STK.pop {ln : Nat → Nat} {v : Nat → Int} {a : Nat → Nat → Int} (hS : STK ln v a) (h0 : v 19 ≠ 0) : 4 ≤ v 19 ∧ ∃ (T0 : Int) (R0 : Nat → Int), ent (a 18 (v 19 - 4).toNat) (a 18 (v 19 - 4 + 1).toNat) (a 18 (v 19 - 4 + 2).toNat) (v 4) (a 10) T0 R0 ∧ ∀ (v2 : Nat → Int) (a2 : Nat → Nat → Int), v2 19 = v 19 - 4 → a2 18 = a 18 → v2 4 = T0 → (∀ j : Nat, (j : Int) < T0 → a2 10 j = R0 j) → STK ln v2 a2 := by
  obtain ⟨hl, hl2, n, hn, hk⟩ := hS
  cases n with
  | zero => exact absurd hn h0
  | succ n =>
    obtain ⟨T0, R0, he, hs⟩ := hk
    refine ⟨by omega, T0, R0, ?_, fun v2 a2 h1 h2 h3 h4 => ⟨by omega, hl2, n, by omega, ?_⟩⟩
    · rw [show (v 19 - 4).toNat = 4 * n by omega, show (v 19 - 4 + 1).toNat = 4 * n + 1 by omega, show (v 19 - 4 + 2).toNat = 4 * n + 2 by omega]; exact he
    · rw [h2, h3]; exact stk_R n _ _ _ (fun j hj => (h4 j hj).symm) hs
theorem TBL.le {v v2 : Nat → Int} {a a2 : Nat → Nat → Int} (h : TBL v a) (h4 : v2 4 ≤ v 4) (h6 : a2 6 = a 6) (h8 : a2 8 = a 8) (h9 : a2 9 = a 9) (h12 : a2 12 = a 12) (h13 : a2 13 = a 13) (h10 : ∀ j, a2 10 j ≤ a 10 j) : TBL v2 a2 := by
  unfold TBL at h ⊢
  rw [h6, h8, h9, h12, h13]
  exact ⟨fun t h1 h2 => h.1 t h1 (by omega), fun t r h1 h2 h3 h5 => h.2 t r h1 (by omega) h3 (by have := h10 t.toNat; omega)⟩
def NewT (T : Nat) (a : Nat → Nat → Int) (k b s : Int) (a2 : Nat → Nat → Int) : Prop := (∀ j, a2 6 j = if j = T then k else a 6 j) ∧ (∀ j, a2 8 j = if j = T then b else a 8 j) ∧ (∀ j, a2 9 j = if j = T then s else a 9 j) ∧ (∀ j, a2 10 j = if j = T then 0 else a 10 j)
theorem NewT.set {T : Nat} {a a2 : Nat → Nat → Int} {k1 b s1 : Int} (h : NewT T a k1 b s1 a2) {k i : Nat} {z : Int} (hk : ([6, 8, 9, 10] : List Nat).contains k = false) : NewT T a k1 b s1 (up2 a2 k i z) := by
  have g : ∀ j q, ([6, 8, 9, 10] : List Nat).contains j = true → up2 a2 k i z j q = a2 j q := fun j q hj => up2_k (fun e => by rw [e, hk] at hj; cases hj)
  exact ⟨fun j => by rw [g _ _ rfl]; exact h.1 j, fun j => by rw [g _ _ rfl]; exact h.2.1 j, fun j => by rw [g _ _ rfl]; exact h.2.2.1 j, fun j => by rw [g _ _ rfl]; exact h.2.2.2 j⟩
theorem TBL.new {v v2 : Nat → Int} {a a2 : Nat → Nat → Int} {k b s : Int} (h : TBL v a) (hN : NewT (v 4).toNat a k b s a2) (h0 : 0 ≤ v 4) (h4 : v2 4 = v 4 + 1) (h12 : a2 12 = a 12) (h13 : a2 13 = a 13) (hk : ((k = 0 ∨ k = 4) ∧ b = -1) ∨ (1 ≤ k ∧ k ≤ 3 ∧ 0 ≤ b ∧ b < v 4 ∧ a 6 b.toNat ≤ 3) ∨ (k = 5 ∧ 0 ≤ b ∧ b < v 4 ∧ a 6 b.toNat ≤ 3 ∧ 0 ≤ s ∧ s < v 4 ∧ a 6 s.toNat ≤ 3)) : TBL v2 a2 := by
  obtain ⟨n6, n8, n9, n10⟩ := hN
  refine ⟨fun t h1 h2 => ?_, fun t r h1 h2 h3 h5 => ?_⟩
  · by_cases e : t = v 4
    · subst e
      rw [n6, n8, n9, if_pos rfl, if_pos rfl, if_pos rfl]
      rcases hk with q | q | q
      · exact Or.inl q
      · refine Or.inr (Or.inl ⟨q.1, q.2.1, q.2.2.1, q.2.2.2.1, ?_⟩)
        rw [n6, if_neg (by omega)]; exact q.2.2.2.2
      · refine Or.inr (Or.inr ⟨q.1, q.2.1, q.2.2.1, ?_, q.2.2.2.2.1, q.2.2.2.2.2.1, ?_⟩)
        · rw [n6, if_neg (by omega)]; exact q.2.2.2.1
        · rw [n6, if_neg (by omega)]; exact q.2.2.2.2.2.2
    · have g := h.1 t h1 (by omega)
      have hne : ¬ t.toNat = (v 4).toNat := by omega
      rw [n6, n8, n9, if_neg hne, if_neg hne, if_neg hne]
      rcases g with q | q | q
      · exact Or.inl q
      · refine Or.inr (Or.inl ⟨q.1, q.2.1, q.2.2.1, q.2.2.2.1, ?_⟩)
        rw [n6, if_neg (by omega)]; exact q.2.2.2.2
      · refine Or.inr (Or.inr ⟨q.1, q.2.1, q.2.2.1, ?_, q.2.2.2.2.1, q.2.2.2.2.2.1, ?_⟩)
        · rw [n6, if_neg (by omega)]; exact q.2.2.2.1
        · rw [n6, if_neg (by omega)]; exact q.2.2.2.2.2.2
  · rw [h12, h13]
    rw [n10] at h5
    by_cases e : t = v 4
    · rw [if_pos (by rw [e])] at h5; omega
    · rw [if_neg (by omega)] at h5
      exact h.2 t r h1 (by omega) h3 h5
def RUL (a : Nat → Nat → Int) (r m c : Int) (a2 : Nat → Nat → Int) : Prop := (∀ j, a2 12 j = if j = r.toNat then m else a 12 j) ∧ (∀ j, a2 13 j = if j = r.toNat then c else a 13 j) ∧ a2 10 = a 10
theorem RUL.set {a a2 : Nat → Nat → Int} {r m c : Int} (h : RUL a r m c a2) {k i : Nat} {z : Int} (hk : ([10, 12, 13] : List Nat).contains k = false) : RUL a r m c (up2 a2 k i z) := by
  have g : ∀ j q, ([10, 12, 13] : List Nat).contains j = true → up2 a2 k i z j q = a2 j q := fun j q hj => up2_k (fun e => by rw [e, hk] at hj; cases hj)
  exact ⟨fun j => by rw [g _ _ rfl]; exact h.1 j, fun j => by rw [g _ _ rfl]; exact h.2.1 j, by rw [← h.2.2]; exact funext fun q => g _ _ rfl⟩
theorem TBL.rule {v v2 : Nat → Int} {a a2 : Nat → Nat → Int} {t r m c : Int} (h : TBL v a) (hB : BX v a) (ht : 0 ≤ t ∧ t < v 4) (hr : r = 200 * t + a 10 t.toNat) (h200 : a 10 t.toNat < 200) (hm : 1 ≤ m ∧ m ≤ 8) (hc : 1 ≤ c ∧ c ≤ 4) (h4 : v2 4 = v 4) (h6 : a2 6 = a 6) (h8 : a2 8 = a 8) (h9 : a2 9 = a 9) (h12 : ∀ j, a2 12 j = if j = r.toNat then m else a 12 j) (h13 : ∀ j, a2 13 j = if j = r.toNat then c else a 13 j) (h10 : ∀ j, a2 10 j = if j = t.toNat then a 10 j + 1 else a 10 j) : TBL v2 a2 := by
  unfold TBL at h ⊢
  rw [h4, h6, h8, h9]
  refine ⟨h.1, fun t2 r2 h1 h2 h3 h5 => ?_⟩
  refine hv2 (show 0 ≤ a 10 t2.toNat ∧ a 10 t2.toNat ≤ 200 from hB.2 10 _) (show 0 ≤ a 10 t.toNat from (hB.2 10 _).1) (fun b bt => ?_)
  rw [h12, h13]
  rw [h10] at h5
  by_cases e : r2 = r
  · rw [if_pos (by rw [e]), if_pos (by rw [e])]; exact ⟨hm, hc⟩
  · rw [if_neg (by omega), if_neg (by omega)]
    by_cases e2 : t2 = t
    · subst e2; rw [if_pos rfl] at h5; exact h.2 t2 r2 h1 h2 h3 (by omega)
    · rw [if_neg (by omega)] at h5; exact h.2 t2 r2 h1 h2 h3 h5
