abbrev iI (z : Int) : Int32 := Int32.ofInt z
abbrev R32 (z : Int) : Prop := -2147483648 ≤ z ∧ z < 2147483648
theorem r32_c {x lo hi : Int} (h1 : lo ≤ x) (h2 : x ≤ hi) (h3 : -2147483648 ≤ lo) (h4 : hi < 2147483648) : R32 x := ⟨Int.le_trans h3 h1, Int.lt_of_le_of_lt h2 h4⟩
theorem r32_01 {f : Int} (h : f = 0 ∨ f = 1) : R32 f := by
  rcases h with rfl | rfl <;> exact ⟨by decide, by decide⟩
theorem r32_067 {f : Int} (h : f = 0 ∨ f = 6 ∨ f = 7) : R32 f := by
  rcases h with rfl | rfl | rfl <;> exact ⟨by decide, by decide⟩
theorem r32_0p {f : Int} {p : Prop} (h : f = 0 ∨ (f = 1 ∧ p)) : R32 f := r32_01 (h.imp id And.left)
theorem r32_p0 {f : Int} {p : Prop} (h : (f = 1 ∧ p) ∨ f = 0) : R32 f := r32_01 (h.elim (fun q => Or.inr q.1) Or.inl)
theorem r32_pq {f : Int} {p q : Prop} (h : (f = 0 ∧ p) ∨ (f = 1 ∧ q)) : R32 f := r32_01 (h.imp And.left And.left)
theorem r32_qp {f : Int} {p q : Prop} (h : (f = 1 ∧ p) ∨ (f = 0 ∧ q)) : R32 f := r32_01 (h.elim (fun q => Or.inr q.1) (fun q => Or.inl q.1))
theorem iI_int {z : Int} (h : R32 z) : (iI z).toInt = z := Int32.toInt_ofInt_of_le h.1 h.2
theorem iI_of (x : Int32) : ∃ z : Int, R32 z ∧ x = iI z := ⟨x.toInt, ⟨Int32.le_toInt x, Int32.toInt_lt x⟩, (Int32.ofInt_toInt x).symm⟩
theorem iI_cl {z : Int} (h : R32 z) : (iI z).toNatClampNeg = z.toNat := by rw [← Int32.toNat_toInt, iI_int h]
theorem iI_lt {a b : Int} (ha : R32 a) (hb : R32 b) : iI a < iI b ↔ a < b := by rw [Int32.lt_iff_toInt_lt, iI_int ha, iI_int hb]
theorem iI_le {a b : Int} (ha : R32 a) (hb : R32 b) : iI a ≤ iI b ↔ a ≤ b := by rw [Int32.le_iff_toInt_le, iI_int ha, iI_int hb]
theorem iI_eq {a b : Int} (ha : R32 a) (hb : R32 b) : iI a = iI b ↔ a = b := by rw [← Int32.toInt_inj, iI_int ha, iI_int hb]
theorem iI_in {z : Int} {n : Nat} (h : R32 z) (h0 : 0 ≤ z) (hn : z < n) : vp_in (iI z) n := by rw [vp_in_iff, iI_int h]; exact ⟨h0, hn⟩
theorem R32_0 : R32 0 := ⟨by decide, by decide⟩
def mA (k : Nat) : Bool := [2, 5, 6, 7, 8, 9, 10, 11, 12, 13, 14, 15, 16, 17, 18, 20, 21, 22, 24, 26, 27, 29, 34, 35, 37, 38, 40, 44, 45, 46, 47, 48, 49, 51, 54, 57, 58, 59, 62, 65].contains k
def mZ (k : Nat) : Bool := [5, 22, 57].contains k
def mlen : Nat → Nat := fun k => match k with
  | 2 => 3000
  | 5 => 30
  | 6 => 30
  | 7 => 30
  | 8 => 30
  | 9 => 30
  | 10 => 30
  | 11 => 6000
  | 12 => 6000
  | 13 => 6000
  | 14 => 48000
  | 15 => 24000
  | 16 => 120
  | 17 => 480
  | 18 => 64
  | 20 => 512
  | 21 => 512
  | 22 => 513
  | 24 => 6144
  | 26 => 513
  | 27 => 5
  | 29 => 500
  | 34 => 200
  | 35 => 40000
  | 37 => 200
  | 38 => 40000
  | 40 => 200
  | 44 => 12016
  | 45 => 12016
  | 46 => 12016
  | 47 => 2
  | 48 => 40200
  | 49 => 40200
  | 51 => 4000
  | 54 => 4000
  | 57 => 404
  | 58 => 40400
  | 59 => 50
  | 62 => 1000
  | 65 => 256
  | _ => 0
def mfv (ad : Nat → Nat) (v : Nat → Int) : Nat → Value := fun k => if mA k = true then .ref (ad k) else .int (iI (v k))
def mar (G : GT) (n k : Nat) (c : Nat → Int) : va_E := if mZ k = true then aZ G n (fun j => iI (c j)) else aI G n (fun j => iI (c j))
def up2 (a : Nat → Nat → Int) (k i : Nat) (z : Int) : Nat → Nat → Int := fun k2 j => if k2 = k then (if j = i then z else a k2 j) else a k2 j
def mI (G : GT) (h0 : Nat) (ad ln : Nat → Nat) (v : Nat → Int) (a : Nat → Nat → Int) (L : List Nat) (E : Nat → va_E) : Prop := h0 ∈ L ∧ E h0 = ob 13 67 (mfv ad v) ∧ (∀ k, mA k = true → ad k ∈ L ∧ E (ad k) = mar G (ln k) k (a k)) ∧ (∀ k, mA k = true → h0 ≠ ad k) ∧ (∀ i j, mA i = true → mA j = true → ad i = ad j → i = j) ∧ (∀ k, k ≠ 18 → ln k = mlen k) ∧ (64 ≤ ln 18 ∧ ln 18 ≤ 8192)
theorem mfv_i {ad : Nat → Nat} {v : Nat → Int} {k : Nat} (h : mA k = false) : mfv ad v k = .int (iI (v k)) := by unfold mfv; rw [h]; rfl
theorem mfv_a {ad : Nat → Nat} {v : Nat → Int} {k : Nat} (h : mA k = true) : mfv ad v k = .ref (ad k) := by unfold mfv; rw [h]; rfl
theorem mfv_put {ad : Nat → Nat} {v : Nat → Int} {k : Nat} {z : Int} (h : mA k = false) : va_up (mfv ad v) k (.int (iI z)) = mfv ad (va_up v k z) := by
  funext j
  by_cases e : j = k
  · subst e; rw [va_up_self, mfv_i h, va_up_self]
  · rw [va_up_ne _ _ e]; unfold mfv; rw [va_up_ne _ _ e]
theorem mI.put {G : GT} {h0 : Nat} {ad ln : Nat → Nat} {v : Nat → Int} {a : Nat → Nat → Int} {L : List Nat} {E : Nat → va_E} {k : Nat} {z : Int} (h : mI G h0 ad ln v a L E) (hk : mA k = false) : mI G h0 ad ln (va_up v k z) a L (va_up E h0 (ob 13 67 (va_up (mfv ad v) k (.int (iI z))))) := by
  obtain ⟨h1, h2, h3, h4, h5, h6⟩ := h
  refine ⟨h1, by rw [va_up_self, mfv_put hk], fun j hj => ⟨(h3 j hj).1, ?_⟩, h4, h5, h6⟩
  rw [va_up_ne _ _ (Ne.symm (h4 j hj))]; exact (h3 j hj).2
theorem mI.set {G : GT} {h0 : Nat} {ad ln : Nat → Nat} {v : Nat → Int} {a : Nat → Nat → Int} {L : List Nat} {E : Nat → va_E} {k i : Nat} {z : Int} (h : mI G h0 ad ln v a L E) (hk : mA k = true) {x : va_E} (hx : x = mar G (ln k) k (up2 a k i z k)) : mI G h0 ad ln v (up2 a k i z) L (va_up E (ad k) x) := by
  obtain ⟨h1, h2, h3, h4, h5, h6⟩ := h
  refine ⟨h1, by rw [va_up_ne _ _ (h4 k hk)]; exact h2, fun j hj => ⟨(h3 j hj).1, ?_⟩, h4, h5, h6⟩
  by_cases e : j = k
  · subst e; rw [va_up_self, hx]
  · rw [va_up_ne _ _ (fun q => e (h5 j k hj hk q)), (h3 j hj).2]
    have : up2 a k i z j = a j := by funext q; unfold up2; rw [if_neg e]
    rw [this]
theorem up2_s {a : Nat → Nat → Int} {k i : Nat} {z : Int} : up2 a k i z k i = z := by unfold up2; rw [if_pos rfl, if_pos rfl]
theorem up2_k {a : Nat → Nat → Int} {k i k2 j : Nat} {z : Int} (h : k2 ≠ k) : up2 a k i z k2 j = a k2 j := by unfold up2; rw [if_neg h]
theorem up2_j {a : Nat → Nat → Int} {k i k2 j : Nat} {z : Int} (h : j ≠ i) : up2 a k i z k2 j = a k2 j := by
  unfold up2; simp [h]
def mw (p : Program) (l : Launch) (e : Env) (R : Room) (s : State) (m : MethodId) (args : Array Value) (below : List Frame) (meth : Method) (c : Code) (G : GT) (A : Nat → Prop) (nL : Nat) (Q : State → Prop) (h0 : Nat) (ad ln : Nat → Nat) (v : Nat → Int) (a : Nat → Nat → Int) (kc ks pc : Nat) (lv : List (Nat × Value)) (st : List Value) : Prop := ∀ (L : List Nat) (E : Nat → va_E), mI G h0 ad ln v a L E → wq p l e R s m args below meth c G A nL Q L E kc ks pc lv st
def Mm (l : Launch) (G : GT) (y : MethodName) (cc : ByteArray) (n : Nat) (ret : Option FieldType) (d : Nat) (As : List Value) (h0 : Nat) (ad ln : Nat → Nat) (v : Nat → Int) (a : Nat → Nat → Int) (mc ms : Nat) (Post : Option Value → (Nat → Int) → (Nat → Nat → Int) → Prop) : Prop := ∀ (L : List Nat) (E : Nat → va_E), mI G h0 ad ln v a L E → Mq l G y cc n ret d (.ref h0 :: As) L E mc ms (fun r L2 E2 => ∃ (v2 : Nat → Int) (a2 : Nat → Nat → Int), mI G h0 ad ln v2 a2 L2 E2 ∧ Post r v2 a2)
section MQ2
variable {p : Program} {l : Launch} {e : Env} {R : Room} {s : State} {m : MethodId} {args : Array Value} {below : List Frame} {meth : Method} {c : Code} {cc : ByteArray} {y : MethodName} {ret : Option FieldType} {G : GT} {A : Nat → Prop} {nL mc ms : Nat} {Q : State → Prop} {Post : Option Value → (Nat → Int) → (Nat → Nat → Int) → Prop} {h0 : Nat} {ad ln : Nat → Nat} {v : Nat → Int} {a : Nat → Nat → Int} {kc ks pc : Nat} {lv : List (Nat × Value)} {st : List Value}
theorem m_iconst (C : Cq p s m args meth c cc y ret G A nL) {n : Int} (d : decode cc pc = .ok (.iconst n, 1))  (k : mw p l e R s m args below meth c G A nL Q h0 ad ln v a kc ks (pc + 1) lv (.int (iI n) :: st)) : mw p l e R s m args below meth c G A nL Q h0 ad ln v a kc ks pc lv st := fun L E h => q_iconst C d rfl (k L E h)
theorem m_bipush (C : Cq p s m args meth c cc y ret G A nL) {n z : Int} (d : decode cc pc = .ok (.bipush n, 2)) (hz : (Int8.ofInt n).toInt32 = iI z) (k : mw p l e R s m args below meth c G A nL Q h0 ad ln v a kc ks (pc + 2) lv (.int (iI z) :: st)) : mw p l e R s m args below meth c G A nL Q h0 ad ln v a kc ks pc lv st := fun L E h => q_bipush C d hz (k L E h)
theorem m_sipush (C : Cq p s m args meth c cc y ret G A nL) {n z : Int} (d : decode cc pc = .ok (.sipush n, 3)) (hz : (Int16.ofInt n).toInt32 = iI z) (k : mw p l e R s m args below meth c G A nL Q h0 ad ln v a kc ks (pc + 3) lv (.int (iI z) :: st)) : mw p l e R s m args below meth c G A nL Q h0 ad ln v a kc ks pc lv st := fun L E h => q_sipush C d hz (k L E h)
theorem m_iload_n (C : Cq p s m args meth c cc y ret G A nL) {i : Fin 4} {j : Nat} {x : Int32} (d : decode cc pc = .ok (.iload_n i, 1)) (hj : lv[j]? = some ((i : Nat), .int x)) (k : mw p l e R s m args below meth c G A nL Q h0 ad ln v a kc ks (pc + 1) lv (.int x :: st)) : mw p l e R s m args below meth c G A nL Q h0 ad ln v a kc ks pc lv st := fun L E h => q_iload_n C d hj (k L E h)
theorem m_iload (C : Cq p s m args meth c cc y ret G A nL) {i j : Nat} {x : Int32} (d : decode cc pc = .ok (.iload i, 2)) (hj : lv[j]? = some (i, .int x)) (k : mw p l e R s m args below meth c G A nL Q h0 ad ln v a kc ks (pc + 2) lv (.int x :: st)) : mw p l e R s m args below meth c G A nL Q h0 ad ln v a kc ks pc lv st := fun L E h => q_iload C d hj (k L E h)
theorem m_aload_n (C : Cq p s m args meth c cc y ret G A nL) {i : Fin 4} {j : Nat} {x : Nat} (d : decode cc pc = .ok (.aload_n i, 1)) (hj : lv[j]? = some ((i : Nat), .ref x)) (k : mw p l e R s m args below meth c G A nL Q h0 ad ln v a kc ks (pc + 1) lv (.ref x :: st)) : mw p l e R s m args below meth c G A nL Q h0 ad ln v a kc ks pc lv st := fun L E h => q_aload_n C d hj (k L E h)
theorem m_lload (C : Cq p s m args meth c cc y ret G A nL) {i j : Nat} {x : Int64} (d : decode cc pc = .ok (.lload i, 2)) (hj : lv[j]? = some (i, .long x)) (k : mw p l e R s m args below meth c G A nL Q h0 ad ln v a kc ks (pc + 2) lv (.long x :: st)) : mw p l e R s m args below meth c G A nL Q h0 ad ln v a kc ks pc lv st := fun L E h => q_lload C d hj (k L E h)
theorem m_istore_n (C : Cq p s m args meth c cc y ret G A nL) {i : Fin 4} {x : Int32} {lv2 : List (Nat × Value)} (d : decode cc pc = .ok (.istore_n i, 1)) (hn : (i : Nat) < nL) (hl : ((i : Nat), Value.int x) :: lv.filter (fun q => !(q.1 == (i : Nat)) && !(q.1 + 1 == (i : Nat) && q.2.category == 2)) = lv2) (k : mw p l e R s m args below meth c G A nL Q h0 ad ln v a kc ks (pc + 1) lv2 st) : mw p l e R s m args below meth c G A nL Q h0 ad ln v a kc ks pc lv (Value.int x :: st) := fun L E h => q_istore_n C d hn hl (k L E h)
theorem m_istore (C : Cq p s m args meth c cc y ret G A nL) {i : Nat} {x : Int32} {lv2 : List (Nat × Value)} (d : decode cc pc = .ok (.istore i, 2)) (hn : i < nL) (hl : (i, Value.int x) :: lv.filter (fun q => !(q.1 == i) && !(q.1 + 1 == i && q.2.category == 2)) = lv2) (k : mw p l e R s m args below meth c G A nL Q h0 ad ln v a kc ks (pc + 2) lv2 st) : mw p l e R s m args below meth c G A nL Q h0 ad ln v a kc ks pc lv (Value.int x :: st) := fun L E h => q_istore C d hn hl (k L E h)
theorem m_lstore (C : Cq p s m args meth c cc y ret G A nL) {i : Nat} {x : Int64} {lv2 : List (Nat × Value)} (d : decode cc pc = .ok (.lstore i, 2)) (hn : i + 1 < nL) (hl : (i, Value.long x) :: lv.filter (fun q => !(q.1 == i) && (!(q.1 == i + 1) && !(q.1 + 1 == i && q.2.category == 2))) = lv2) (k : mw p l e R s m args below meth c G A nL Q h0 ad ln v a kc ks (pc + 2) lv2 st) : mw p l e R s m args below meth c G A nL Q h0 ad ln v a kc ks pc lv (Value.long x :: st) := fun L E h => q_lstore C d hn hl (k L E h)
theorem m_iinc (C : Cq p s m args meth c cc y ret G A nL) {i j : Nat} {n z : Int} {lv2 : List (Nat × Value)} (d : decode cc pc = .ok (.iinc i n, 3)) (hj : lv[j]? = some (i, .int (iI z))) (hn : i < nL) (hl : (i, Value.int (iI (z + n))) :: lv.filter (fun q => !(q.1 == i) && !(q.1 + 1 == i && q.2.category == 2)) = lv2) (k : mw p l e R s m args below meth c G A nL Q h0 ad ln v a kc ks (pc + 3) lv2 st) : mw p l e R s m args below meth c G A nL Q h0 ad ln v a kc ks pc lv st := fun L E h => q_iinc C d hj (Int32.ofInt_add z n).symm hn hl (k L E h)
theorem m_iadd (C : Cq p s m args meth c cc y ret G A nL) {x z : Int} (d : decode cc pc = .ok (.iadd, 1))  (k : mw p l e R s m args below meth c G A nL Q h0 ad ln v a kc ks (pc + 1) lv (.int (iI (x + z)) :: st)) : mw p l e R s m args below meth c G A nL Q h0 ad ln v a kc ks pc lv (.int (iI z) :: .int (iI x) :: st) := fun L E h => q_iadd C d (Int32.ofInt_add x z).symm (k L E h)
theorem m_isub (C : Cq p s m args meth c cc y ret G A nL) {x z : Int} (d : decode cc pc = .ok (.isub, 1))  (k : mw p l e R s m args below meth c G A nL Q h0 ad ln v a kc ks (pc + 1) lv (.int (iI (x - z)) :: st)) : mw p l e R s m args below meth c G A nL Q h0 ad ln v a kc ks pc lv (.int (iI z) :: .int (iI x) :: st) := fun L E h => q_isub C d (Int32.ofInt_sub x z).symm (k L E h)
theorem m_imul (C : Cq p s m args meth c cc y ret G A nL) {x z : Int} (d : decode cc pc = .ok (.imul, 1))  (k : mw p l e R s m args below meth c G A nL Q h0 ad ln v a kc ks (pc + 1) lv (.int (iI (x * z)) :: st)) : mw p l e R s m args below meth c G A nL Q h0 ad ln v a kc ks pc lv (.int (iI z) :: .int (iI x) :: st) := fun L E h => q_imul C d (Int32.ofInt_mul x z).symm (k L E h)
theorem m_iand (C : Cq p s m args meth c cc y ret G A nL) {x y2 w : Int32} (d : decode cc pc = .ok (.iand, 1)) (hv : x &&& y2 = w) (k : mw p l e R s m args below meth c G A nL Q h0 ad ln v a kc ks (pc + 1) lv (.int w :: st)) : mw p l e R s m args below meth c G A nL Q h0 ad ln v a kc ks pc lv (.int y2 :: .int x :: st) := fun L E h => q_iand C d hv (k L E h)
theorem m_ior (C : Cq p s m args meth c cc y ret G A nL) {x y2 w : Int32} (d : decode cc pc = .ok (.ior, 1)) (hv : x ||| y2 = w) (k : mw p l e R s m args below meth c G A nL Q h0 ad ln v a kc ks (pc + 1) lv (.int w :: st)) : mw p l e R s m args below meth c G A nL Q h0 ad ln v a kc ks pc lv (.int y2 :: .int x :: st) := fun L E h => q_ior C d hv (k L E h)
theorem m_ixor (C : Cq p s m args meth c cc y ret G A nL) {x y2 w : Int32} (d : decode cc pc = .ok (.ixor, 1)) (hv : x ^^^ y2 = w) (k : mw p l e R s m args below meth c G A nL Q h0 ad ln v a kc ks (pc + 1) lv (.int w :: st)) : mw p l e R s m args below meth c G A nL Q h0 ad ln v a kc ks pc lv (.int y2 :: .int x :: st) := fun L E h => q_ixor C d hv (k L E h)
theorem m_ishl (C : Cq p s m args meth c cc y ret G A nL) {x y2 w : Int32} (d : decode cc pc = .ok (.ishl, 1)) (hv : x <<< (y2 &&& 31) = w) (k : mw p l e R s m args below meth c G A nL Q h0 ad ln v a kc ks (pc + 1) lv (.int w :: st)) : mw p l e R s m args below meth c G A nL Q h0 ad ln v a kc ks pc lv (.int y2 :: .int x :: st) := fun L E h => q_ishl C d hv (k L E h)
theorem m_ishr (C : Cq p s m args meth c cc y ret G A nL) {x y2 w : Int32} (d : decode cc pc = .ok (.ishr, 1)) (hv : x >>> (y2 &&& 31) = w) (k : mw p l e R s m args below meth c G A nL Q h0 ad ln v a kc ks (pc + 1) lv (.int w :: st)) : mw p l e R s m args below meth c G A nL Q h0 ad ln v a kc ks pc lv (.int y2 :: .int x :: st) := fun L E h => q_ishr C d hv (k L E h)
theorem m_idiv (C : Cq p s m args meth c cc y ret G A nL) {x y2 w : Int32} (d : decode cc pc = .ok (.idiv, 1)) (hne : ¬ y2 = 0) (hv : x / y2 = w) (k : mw p l e R s m args below meth c G A nL Q h0 ad ln v a kc ks (pc + 1) lv (.int w :: st)) : mw p l e R s m args below meth c G A nL Q h0 ad ln v a kc ks pc lv (.int y2 :: .int x :: st) := fun L E h => q_idiv C d hne hv (k L E h)
theorem m_ineg (C : Cq p s m args meth c cc y ret G A nL) {z : Int} (d : decode cc pc = .ok (.ineg, 1))  (k : mw p l e R s m args below meth c G A nL Q h0 ad ln v a kc ks (pc + 1) lv (.int (iI (-z)) :: st)) : mw p l e R s m args below meth c G A nL Q h0 ad ln v a kc ks pc lv (.int (iI z) :: st) := fun L E h => q_ineg C d (Int32.ofInt_neg z).symm (k L E h)
theorem m_dup (C : Cq p s m args meth c cc y ret G A nL) {u : Value} (d : decode cc pc = .ok (.dup, 1)) (hu : u.category = 1) (k : mw p l e R s m args below meth c G A nL Q h0 ad ln v a kc ks (pc + 1) lv (u :: u :: st)) : mw p l e R s m args below meth c G A nL Q h0 ad ln v a kc ks pc lv (u :: st) := fun L E h => q_dup C d hu (k L E h)
theorem m_dup2 (C : Cq p s m args meth c cc y ret G A nL) {u w : Value} (d : decode cc pc = .ok (.dup2, 1)) (hu : u.category = 1) (hw : w.category = 1) (k : mw p l e R s m args below meth c G A nL Q h0 ad ln v a kc ks (pc + 1) lv (u :: w :: u :: w :: st)) : mw p l e R s m args below meth c G A nL Q h0 ad ln v a kc ks pc lv (u :: w :: st) := fun L E h => q_dup2 C d hu hw (k L E h)
theorem m_i2l (C : Cq p s m args meth c cc y ret G A nL) {x : Int32} {w : Int64} (d : decode cc pc = .ok (.i2l, 1)) (hv : x.toInt64 = w) (k : mw p l e R s m args below meth c G A nL Q h0 ad ln v a kc ks (pc + 1) lv (.long w :: st)) : mw p l e R s m args below meth c G A nL Q h0 ad ln v a kc ks pc lv (.int x :: st) := fun L E h => q_i2l C d hv (k L E h)
theorem m_l2i (C : Cq p s m args meth c cc y ret G A nL) {x : Int64} {w : Int32} (d : decode cc pc = .ok (.l2i, 1)) (hv : x.toInt32 = w) (k : mw p l e R s m args below meth c G A nL Q h0 ad ln v a kc ks (pc + 1) lv (.int w :: st)) : mw p l e R s m args below meth c G A nL Q h0 ad ln v a kc ks pc lv (.long x :: st) := fun L E h => q_l2i C d hv (k L E h)
theorem m_ladd (C : Cq p s m args meth c cc y ret G A nL) {x y2 w : Int64} (d : decode cc pc = .ok (.ladd, 1)) (hv : x + y2 = w) (k : mw p l e R s m args below meth c G A nL Q h0 ad ln v a kc ks (pc + 1) lv (.long w :: st)) : mw p l e R s m args below meth c G A nL Q h0 ad ln v a kc ks pc lv (.long y2 :: .long x :: st) := fun L E h => q_ladd C d hv (k L E h)
theorem m_lconst (C : Cq p s m args meth c cc y ret G A nL) {n : Fin 2} {w : Int64} (d : decode cc pc = .ok (.lconst n, 1)) (hv : Int64.ofNat (n : Nat) = w) (k : mw p l e R s m args below meth c G A nL Q h0 ad ln v a kc ks (pc + 1) lv (.long w :: st)) : mw p l e R s m args below meth c G A nL Q h0 ad ln v a kc ks pc lv st := fun L E h => q_lconst C d hv (k L E h)
theorem m_lcmp (C : Cq p s m args meth c cc y ret G A nL) {x y2 : Int64} {w : Int32} (d : decode cc pc = .ok (.lcmp, 1)) (hv : lg_cmp x y2 = w) (k : mw p l e R s m args below meth c G A nL Q h0 ad ln v a kc ks (pc + 1) lv (.int w :: st)) : mw p l e R s m args below meth c G A nL Q h0 ad ln v a kc ks pc lv (.long y2 :: .long x :: st) := fun L E h => q_lcmp C d hv (k L E h)
theorem m_goto (C : Cq p s m args meth c cc y ret G A nL) {off : Int} {tgt : Nat} (d : decode cc pc = .ok (.goto off, 3)) (ht : (pc : Int) + off = (tgt : Int)) (k : mw p l e R s m args below meth c G A nL Q h0 ad ln v a kc ks tgt lv st) : mw p l e R s m args below meth c G A nL Q h0 ad ln v a kc ks pc lv st := fun L E h => q_goto C d ht (k L E h)
theorem m_icmp_eq (C : Cq p s m args meth c cc y ret G A nL) {x z off : Int} {tgt : Nat} (hx : R32 x) (hz : R32 z) (d : decode cc pc = .ok (.if_icmp .eq off, 3)) (ht : (pc : Int) + off = (tgt : Int)) (kt : x = z → mw p l e R s m args below meth c G A nL Q h0 ad ln v a kc ks tgt lv st) (kf : ¬ x = z → mw p l e R s m args below meth c G A nL Q h0 ad ln v a kc ks (pc + 3) lv st) : mw p l e R s m args below meth c G A nL Q h0 ad ln v a kc ks pc lv (.int (iI z) :: .int (iI x) :: st) := fun L E h => q_icmp_eq C d ht (fun q => kt ((iI_eq hx hz).mp q) L E h) (fun q => kf (fun r => q ((iI_eq hx hz).mpr r)) L E h)
theorem m_if_eq (C : Cq p s m args meth c cc y ret G A nL) {x off : Int} {tgt : Nat} (hx : R32 x) (d : decode cc pc = .ok (.ifCond .eq off, 3)) (ht : (pc : Int) + off = (tgt : Int)) (kt : x = 0 → mw p l e R s m args below meth c G A nL Q h0 ad ln v a kc ks tgt lv st) (kf : ¬ x = 0 → mw p l e R s m args below meth c G A nL Q h0 ad ln v a kc ks (pc + 3) lv st) : mw p l e R s m args below meth c G A nL Q h0 ad ln v a kc ks pc lv (.int (iI x) :: st) := fun L E h => q_if_eq C d ht (fun q => kt ((iI_eq hx R32_0).mp q) L E h) (fun q => kf (fun r => q ((iI_eq hx R32_0).mpr r)) L E h)
theorem m_icmp_ne (C : Cq p s m args meth c cc y ret G A nL) {x z off : Int} {tgt : Nat} (hx : R32 x) (hz : R32 z) (d : decode cc pc = .ok (.if_icmp .ne off, 3)) (ht : (pc : Int) + off = (tgt : Int)) (kt : ¬ x = z → mw p l e R s m args below meth c G A nL Q h0 ad ln v a kc ks tgt lv st) (kf : x = z → mw p l e R s m args below meth c G A nL Q h0 ad ln v a kc ks (pc + 3) lv st) : mw p l e R s m args below meth c G A nL Q h0 ad ln v a kc ks pc lv (.int (iI z) :: .int (iI x) :: st) := fun L E h => q_icmp_ne C d ht (fun q => kt (fun r => q ((iI_eq hx hz).mpr r)) L E h) (fun q => kf ((iI_eq hx hz).mp q) L E h)
theorem m_if_ne (C : Cq p s m args meth c cc y ret G A nL) {x off : Int} {tgt : Nat} (hx : R32 x) (d : decode cc pc = .ok (.ifCond .ne off, 3)) (ht : (pc : Int) + off = (tgt : Int)) (kt : ¬ x = 0 → mw p l e R s m args below meth c G A nL Q h0 ad ln v a kc ks tgt lv st) (kf : x = 0 → mw p l e R s m args below meth c G A nL Q h0 ad ln v a kc ks (pc + 3) lv st) : mw p l e R s m args below meth c G A nL Q h0 ad ln v a kc ks pc lv (.int (iI x) :: st) := fun L E h => q_if_ne C d ht (fun q => kt (fun r => q ((iI_eq hx R32_0).mpr r)) L E h) (fun q => kf ((iI_eq hx R32_0).mp q) L E h)
theorem m_icmp_lt (C : Cq p s m args meth c cc y ret G A nL) {x z off : Int} {tgt : Nat} (hx : R32 x) (hz : R32 z) (d : decode cc pc = .ok (.if_icmp .lt off, 3)) (ht : (pc : Int) + off = (tgt : Int)) (kt : x < z → mw p l e R s m args below meth c G A nL Q h0 ad ln v a kc ks tgt lv st) (kf : ¬ x < z → mw p l e R s m args below meth c G A nL Q h0 ad ln v a kc ks (pc + 3) lv st) : mw p l e R s m args below meth c G A nL Q h0 ad ln v a kc ks pc lv (.int (iI z) :: .int (iI x) :: st) := fun L E h => q_icmp_lt C d ht (fun q => kt ((iI_lt hx hz).mp q) L E h) (fun q => kf (fun r => q ((iI_lt hx hz).mpr r)) L E h)
theorem m_if_lt (C : Cq p s m args meth c cc y ret G A nL) {x off : Int} {tgt : Nat} (hx : R32 x) (d : decode cc pc = .ok (.ifCond .lt off, 3)) (ht : (pc : Int) + off = (tgt : Int)) (kt : x < 0 → mw p l e R s m args below meth c G A nL Q h0 ad ln v a kc ks tgt lv st) (kf : ¬ x < 0 → mw p l e R s m args below meth c G A nL Q h0 ad ln v a kc ks (pc + 3) lv st) : mw p l e R s m args below meth c G A nL Q h0 ad ln v a kc ks pc lv (.int (iI x) :: st) := fun L E h => q_if_lt C d ht (fun q => kt ((iI_lt hx R32_0).mp q) L E h) (fun q => kf (fun r => q ((iI_lt hx R32_0).mpr r)) L E h)
theorem m_icmp_ge (C : Cq p s m args meth c cc y ret G A nL) {x z off : Int} {tgt : Nat} (hx : R32 x) (hz : R32 z) (d : decode cc pc = .ok (.if_icmp .ge off, 3)) (ht : (pc : Int) + off = (tgt : Int)) (kt : z ≤ x → mw p l e R s m args below meth c G A nL Q h0 ad ln v a kc ks tgt lv st) (kf : ¬ z ≤ x → mw p l e R s m args below meth c G A nL Q h0 ad ln v a kc ks (pc + 3) lv st) : mw p l e R s m args below meth c G A nL Q h0 ad ln v a kc ks pc lv (.int (iI z) :: .int (iI x) :: st) := fun L E h => q_icmp_ge C d ht (fun q => kt ((iI_le hz hx).mp q) L E h) (fun q => kf (fun r => q ((iI_le hz hx).mpr r)) L E h)
theorem m_if_ge (C : Cq p s m args meth c cc y ret G A nL) {x off : Int} {tgt : Nat} (hx : R32 x) (d : decode cc pc = .ok (.ifCond .ge off, 3)) (ht : (pc : Int) + off = (tgt : Int)) (kt : 0 ≤ x → mw p l e R s m args below meth c G A nL Q h0 ad ln v a kc ks tgt lv st) (kf : ¬ 0 ≤ x → mw p l e R s m args below meth c G A nL Q h0 ad ln v a kc ks (pc + 3) lv st) : mw p l e R s m args below meth c G A nL Q h0 ad ln v a kc ks pc lv (.int (iI x) :: st) := fun L E h => q_if_ge C d ht (fun q => kt ((iI_le R32_0 hx).mp q) L E h) (fun q => kf (fun r => q ((iI_le R32_0 hx).mpr r)) L E h)
theorem m_icmp_gt (C : Cq p s m args meth c cc y ret G A nL) {x z off : Int} {tgt : Nat} (hx : R32 x) (hz : R32 z) (d : decode cc pc = .ok (.if_icmp .gt off, 3)) (ht : (pc : Int) + off = (tgt : Int)) (kt : z < x → mw p l e R s m args below meth c G A nL Q h0 ad ln v a kc ks tgt lv st) (kf : ¬ z < x → mw p l e R s m args below meth c G A nL Q h0 ad ln v a kc ks (pc + 3) lv st) : mw p l e R s m args below meth c G A nL Q h0 ad ln v a kc ks pc lv (.int (iI z) :: .int (iI x) :: st) := fun L E h => q_icmp_gt C d ht (fun q => kt ((iI_lt hz hx).mp q) L E h) (fun q => kf (fun r => q ((iI_lt hz hx).mpr r)) L E h)
theorem m_icmp_le (C : Cq p s m args meth c cc y ret G A nL) {x z off : Int} {tgt : Nat} (hx : R32 x) (hz : R32 z) (d : decode cc pc = .ok (.if_icmp .le off, 3)) (ht : (pc : Int) + off = (tgt : Int)) (kt : x ≤ z → mw p l e R s m args below meth c G A nL Q h0 ad ln v a kc ks tgt lv st) (kf : ¬ x ≤ z → mw p l e R s m args below meth c G A nL Q h0 ad ln v a kc ks (pc + 3) lv st) : mw p l e R s m args below meth c G A nL Q h0 ad ln v a kc ks pc lv (.int (iI z) :: .int (iI x) :: st) := fun L E h => q_icmp_le C d ht (fun q => kt ((iI_le hx hz).mp q) L E h) (fun q => kf (fun r => q ((iI_le hx hz).mpr r)) L E h)
theorem m_if_le (C : Cq p s m args meth c cc y ret G A nL) {x off : Int} {tgt : Nat} (hx : R32 x) (d : decode cc pc = .ok (.ifCond .le off, 3)) (ht : (pc : Int) + off = (tgt : Int)) (kt : x ≤ 0 → mw p l e R s m args below meth c G A nL Q h0 ad ln v a kc ks tgt lv st) (kf : ¬ x ≤ 0 → mw p l e R s m args below meth c G A nL Q h0 ad ln v a kc ks (pc + 3) lv st) : mw p l e R s m args below meth c G A nL Q h0 ad ln v a kc ks pc lv (.int (iI x) :: st) := fun L E h => q_if_le C d ht (fun q => kt ((iI_le hx R32_0).mp q) L E h) (fun q => kf (fun r => q ((iI_le hx R32_0).mpr r)) L E h)
theorem m_get (C : Cq p s m args meth c cc y ret G A nL) {k idx : Nat} (d : decode cc pc = .ok (.getfield idx, 3)) (lk : Cond.fieldLink y.cls idx (TX12 k).1 (TX12 k).2.1 (TX12 k).2.2.1 ∈ lw_g) (hk : k < 67) (hA : mA k = false) (kk : mw p l e R s m args below meth c G A nL Q h0 ad ln v a kc ks (pc + 3) lv (.int (iI (v k)) :: st)) : mw p l e R s m args below meth c G A nL Q h0 ad ln v a kc ks pc lv (.ref h0 :: st) := fun L E h => q_get (k := k) C ck_13 d lk hk h.1 h.2.1 (mfv_i hA) (kk L E h)
theorem m_geta (C : Cq p s m args meth c cc y ret G A nL) {k idx : Nat} (d : decode cc pc = .ok (.getfield idx, 3)) (lk : Cond.fieldLink y.cls idx (TX12 k).1 (TX12 k).2.1 (TX12 k).2.2.1 ∈ lw_g) (hk : k < 67) (hA : mA k = true) (kk : mw p l e R s m args below meth c G A nL Q h0 ad ln v a kc ks (pc + 3) lv (.ref (ad k) :: st)) : mw p l e R s m args below meth c G A nL Q h0 ad ln v a kc ks pc lv (.ref h0 :: st) := fun L E h => q_get (k := k) C ck_13 d lk hk h.1 h.2.1 (mfv_a hA) (kk L E h)
theorem m_put (C : Cq p s m args meth c cc y ret G A nL) {k idx : Nat} {z : Int} (d : decode cc pc = .ok (.putfield idx, 3)) (lk : Cond.fieldLink y.cls idx (TX12 k).1 (TX12 k).2.1 (TX12 k).2.2.1 ∈ lw_g) (hk : k < 67) (hA : mA k = false) (hf : (TX12 k).2.2.2 = false) (ht : tyX12 k = .int) (kk : mw p l e R s m args below meth c G A nL Q h0 ad ln (va_up v k z) a kc ks (pc + 3) lv st) : mw p l e R s m args below meth c G A nL Q h0 ad ln v a kc ks pc lv (.int (iI z) :: .ref h0 :: st) := fun L E h => q_put (k := k) C ck_13 d lk hk hf h.1 h.2.1 (by rw [ht]; rfl) (by rw [ht]; rfl) (kk L _ (h.put hA))
theorem m_ald (C : Cq p s m args meth c cc y ret G A nL) {k : Nat} {z : Int} (d : decode cc pc = .ok (.iaload, 1)) (hA : mA k = true) (hZ : mZ k = false) (h18 : k ≠ 18) (h1 : 0 ≤ z) (h2 : z < (mlen k : Nat)) (hm : mlen k ≤ 100000) (kk : mw p l e R s m args below meth c G A nL Q h0 ad ln v a kc ks (pc + 1) lv (.int (iI (a k z.toNat)) :: st)) : mw p l e R s m args below meth c G A nL Q h0 ad ln v a kc ks pc lv (.int (iI z) :: .ref (ad k) :: st) := by
  intro L E h
  refine hv2 (show R32 z from ⟨by omega, by omega⟩) ((h.2.2.1 k hA).2) (fun hr hE => ?_)
  unfold mar at hE
  rw [hZ, if_neg (by decide), h.2.2.2.2.2.1 k h18] at hE
  exact q_iald C d (h.2.2.1 k hA).1 hE (iI_in hr h1 h2) (by rw [iI_cl hr]) (kk L E h)
theorem m_zald (C : Cq p s m args meth c cc y ret G A nL) {k : Nat} {z : Int} (d : decode cc pc = .ok (.baload, 1)) (hA : mA k = true) (hZ : mZ k = true) (h18 : k ≠ 18) (h1 : 0 ≤ z) (h2 : z < (mlen k : Nat)) (hm : mlen k ≤ 100000) (kk : mw p l e R s m args below meth c G A nL Q h0 ad ln v a kc ks (pc + 1) lv (.int (iI (a k z.toNat)) :: st)) : mw p l e R s m args below meth c G A nL Q h0 ad ln v a kc ks pc lv (.int (iI z) :: .ref (ad k) :: st) := by
  intro L E h
  refine hv2 (show R32 z from ⟨by omega, by omega⟩) ((h.2.2.1 k hA).2) (fun hr hE => ?_)
  unfold mar at hE
  rw [hZ, if_pos rfl, h.2.2.2.2.2.1 k h18] at hE
  exact q_zald C d (h.2.2.1 k hA).1 hE (iI_in hr h1 h2) (by rw [iI_cl hr]) (kk L E h)
theorem m_ast (C : Cq p s m args meth c cc y ret G A nL) {k : Nat} {z w : Int} (d : decode cc pc = .ok (.iastore, 1)) (hA : mA k = true) (hZ : mZ k = false) (h18 : k ≠ 18) (h1 : 0 ≤ z) (h2 : z < (mlen k : Nat)) (hm : mlen k ≤ 100000) (kk : mw p l e R s m args below meth c G A nL Q h0 ad ln v (up2 a k z.toNat w) kc ks (pc + 1) lv st) : mw p l e R s m args below meth c G A nL Q h0 ad ln v a kc ks pc lv (.int (iI w) :: .int (iI z) :: .ref (ad k) :: st) := by
  intro L E h
  refine hv2 (show R32 z from ⟨by omega, by omega⟩) ((h.2.2.1 k hA).2) (fun hr hE => ?_)
  have hE2 := hE
  unfold mar at hE
  rw [hZ, if_neg (by decide)] at hE
  refine q_iast C d (h.2.2.1 k hA).1 hE (by rw [h.2.2.2.2.2.1 k h18]; exact iI_in hr h1 h2) (kk L _ (h.set hA ?_))
  unfold mar
  rw [hZ, if_neg (by decide), iI_cl hr]
  congr 1
  funext j
  unfold upd up2
  rw [if_pos rfl]
  split <;> rfl
theorem m_st {st2 : List Value} (h : st = st2) (k : mw p l e R s m args below meth c G A nL Q h0 ad ln v a kc ks pc lv st2) : mw p l e R s m args below meth c G A nL Q h0 ad ln v a kc ks pc lv st := by subst h; exact k
theorem m_iret (C : Cq p s m args meth c cc y ret G A nL) {z : Int} (d : decode cc pc = .ok (.ireturn, 1)) (hr : ret = some .int) (h1 : kc ≤ mc) (h2 : ks ≤ ms) (hp : Post (some (.int (iI z))) v a) : mw p l e R s m args below meth c G A nL (MQ below (Qm G A (fun r L2 E2 => ∃ (v2 : Nat → Int) (a2 : Nat → Nat → Int), mI G h0 ad ln v2 a2 L2 E2 ∧ Post r v2 a2)) args s mc ms A) h0 ad ln v a kc ks pc lv [.int (iI z)] := fun L E h => q_iret C d hr h1 h2 ⟨v, a, h, hp⟩
theorem m_zret (C : Cq p s m args meth c cc y ret G A nL) {z : Int} (d : decode cc pc = .ok (.ireturn, 1)) (hr : ret = some .boolean) (hz : z = 0 ∨ z = 1) (h1 : kc ≤ mc) (h2 : ks ≤ ms) (hp : Post (some (.int (iI z))) v a) : mw p l e R s m args below meth c G A nL (MQ below (Qm G A (fun r L2 E2 => ∃ (v2 : Nat → Int) (a2 : Nat → Nat → Int), mI G h0 ad ln v2 a2 L2 E2 ∧ Post r v2 a2)) args s mc ms A) h0 ad ln v a kc ks pc lv [.int (iI z)] := fun L E h => q_zret C d hr (by rcases hz with rfl | rfl <;> decide) h1 h2 ⟨v, a, h, hp⟩
theorem m_vret (C : Cq p s m args meth c cc y ret G A nL) (d : decode cc pc = .ok (.return_, 1)) (hr : ret = none) (h1 : kc ≤ mc) (h2 : ks ≤ ms) (hp : Post none v a) : mw p l e R s m args below meth c G A nL (MQ below (Qm G A (fun r L2 E2 => ∃ (v2 : Nat → Int) (a2 : Nat → Nat → Int), mI G h0 ad ln v2 a2 L2 E2 ∧ Post r v2 a2)) args s mc ms A) h0 ad ln v a kc ks pc lv [] := fun L E h => q_vret C d hr h1 h2 ⟨v, a, h, hp⟩
theorem Mm.mk {n d : Nat} {As : List Value} (hy : plainName y.cls = true) (hn : (lg_sl (.ref h0 :: As)).length ≤ n) (body : ∀ (p : Program) (e : Env) (s : State) (m : MethodId) (args : Array Value) (below : List Frame) (meth : Method) (c : Code) (A : Nat → Prop), Cq p s m args meth c cc y ret G A n → mw p l e (rmq d mc ms) s m args below meth c G A n (MQ below (Qm G A (fun r L2 E2 => ∃ (v2 : Nat → Int) (a2 : Nat → Nat → Int), mI G h0 ad ln v2 a2 L2 E2 ∧ Post r v2 a2)) args s mc ms A) h0 ad ln v a 0 0 0 (lv_args 0 (.ref h0 :: As)) []) : Mm l G y cc n ret d As h0 ad ln v a mc ms Post := fun L E h => Mq.mk hy hn (fun p e s m args below meth c A C => body p e s m args below meth c A C L E h)
theorem m_call (C : Cq p s m args meth c cc y ret G A nL) {y2 : MethodName} {cc2 : ByteArray} {n2 d2 mc2 ms2 idx k2 : Nat} {ret2 : Option FieldType} {P2 : Option Value → (Nat → Int) → (Nat → Nat → Int) → Prop} {As rest : List Value} (M : Mm l G y2 cc2 n2 ret2 d2 As h0 ad ln v a mc2 ms2 P2) (d : decode cc pc = .ok (.invokevirtual idx, 3)) (hw : Wv y.cls idx y2 cc2 n2 ret2 k2) (hk : As.length = k2) (ck : Ck 13 y2.cls TX12 67 tyX12) (hst : st = As.reverse ++ .ref h0 :: rest) (hcat : (rest.map fun v => v.category).sum ≤ 8) (hR : d2 + 1 ≤ R.frames ∧ 8 + (n2 + 11) + 64 * d2 ≤ R.locals) (hf : kc + mc2 ≤ R.cells ∧ ks + ms2 ≤ R.slots) (kk : ∀ (r : Option Value) (v2 : Nat → Int) (a2 : Nat → Nat → Int), P2 r v2 a2 → mw p l e R s m args below meth c G A nL Q h0 ad ln v2 a2 (kc + mc2) (ks + ms2) (pc + 3) lv (r.toList ++ rest)) : mw p l e R s m args below meth c G A nL Q h0 ad ln v a kc ks pc lv st := fun L E h => q_callV C (M L E h) d hw hk h.1 h.2.1 ck hst hcat hR hf (fun r L2 E2 ⟨v2, a2, h2, hp⟩ => kk r v2 a2 hp L2 E2 h2)
theorem m_callS (C : Cq p s m args meth c cc y ret G A nL) {y2 : MethodName} {cc2 : ByteArray} {n2 d2 idx k2 : Nat} {ret2 : Option FieldType} {r2 : Value} {As rest : List Value} (M : ∀ (L : List Nat) (E : Nat → va_E), Mq l G y2 cc2 n2 ret2 d2 As L E 0 0 (fun r L2 E2 => r = some r2 ∧ L2 = L ∧ E2 = E)) (d : decode cc pc = .ok (.invokestatic idx, 3)) (hw : Ws y.cls idx y2 cc2 n2 ret2 k2) (hk : As.length = k2) (hst : st = As.reverse ++ rest) (hcat : (rest.map fun v => v.category).sum ≤ 8) (hR : d2 + 1 ≤ R.frames ∧ 8 + (n2 + 11) + 64 * d2 ≤ R.locals) (hf : kc ≤ R.cells ∧ ks ≤ R.slots) (kk : mw p l e R s m args below meth c G A nL Q h0 ad ln v a kc ks (pc + 3) lv (r2 :: rest)) : mw p l e R s m args below meth c G A nL Q h0 ad ln v a kc ks pc lv st := fun L E h => q_callS C (M L E) d hw hk hst hcat hR hf (fun r L2 E2 ⟨h1, h2, h3⟩ => by subst h1; subst h2; subst h3; exact kk _ _ h)
theorem m_lv {lv2 : List (Nat × Value)} (ps : List Nat) (hl : lv_pick lv ps = lv2) (k : mw p l e R s m args below meth c G A nL Q h0 ad ln v a kc ks pc lv2 st) : mw p l e R s m args below meth c G A nL Q h0 ad ln v a kc ks pc lv st := fun L E h H locs ls hP hD hS hv => k L E h H locs ls hP hD hS (lv_sub hv ps hl)
end MQ2
