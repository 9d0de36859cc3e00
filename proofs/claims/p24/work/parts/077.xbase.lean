section
def xar (G : GT) (n : Nat) (zb : Bool) (c : Nat → Int) : va_E := if zb = true then aZ G n (fun j => iI (c j)) else aI G n (fun j => iI (c j))
def mIx (G : GT) (h0 : Nat) (ad ln : Nat → Nat) (bb nb : Nat) (zb : Bool) (v : Nat → Int) (a : Nat → Nat → Int) (L : List Nat) (E : Nat → va_E) : Prop := mI G h0 ad ln v a L E ∧ bb ∉ L ∧ E bb = xar G nb zb (a 70)
theorem mI.congr {G : GT} {h0 : Nat} {ad ln : Nat → Nat} {v : Nat → Int} {a a2 : Nat → Nat → Int} {L : List Nat} {E E2 : Nat → va_E} (h : mI G h0 ad ln v a L E) (hE : ∀ q, q ∈ L → E2 q = E q) (ha : ∀ k, mA k = true → a2 k = a k) : mI G h0 ad ln v a2 L E2 := by
  obtain ⟨h1, h2, h3, h4, h5, h6⟩ := h
  refine ⟨h1, by rw [hE _ h1]; exact h2, fun j hj => ⟨(h3 j hj).1, ?_⟩, h4, h5, h6⟩
  rw [hE _ (h3 j hj).1, ha j hj]; exact (h3 j hj).2
theorem mI.cons {G : GT} {h0 : Nat} {ad ln : Nat → Nat} {v : Nat → Int} {a : Nat → Nat → Int} {L : List Nat} {E : Nat → va_E} (bb : Nat) (h : mI G h0 ad ln v a L E) : mI G h0 ad ln v a (bb :: L) E := by
  obtain ⟨h1, h2, h3, h4, h5, h6⟩ := h
  exact ⟨List.mem_cons_of_mem _ h1, h2, fun j hj => ⟨List.mem_cons_of_mem _ (h3 j hj).1, (h3 j hj).2⟩, h4, h5, h6⟩
theorem mIx.put {G : GT} {h0 : Nat} {ad ln : Nat → Nat} {bb nb : Nat} {zb : Bool} {v : Nat → Int} {a : Nat → Nat → Int} {L : List Nat} {E : Nat → va_E} {k : Nat} {z : Int} (h : mIx G h0 ad ln bb nb zb v a L E) (hk : mA k = false) : mIx G h0 ad ln bb nb zb (va_up v k z) a L (va_up E h0 (ob 13 67 (va_up (mfv ad v) k (.int (iI z))))) :=
  ⟨h.1.put hk, h.2.1, by rw [va_up_ne _ _ (fun q => h.2.1 (by rw [q]; exact h.1.1))]; exact h.2.2⟩
theorem mIx.set {G : GT} {h0 : Nat} {ad ln : Nat → Nat} {bb nb : Nat} {zb : Bool} {v : Nat → Int} {a : Nat → Nat → Int} {L : List Nat} {E : Nat → va_E} {k i : Nat} {z : Int} (h : mIx G h0 ad ln bb nb zb v a L E) (hk : mA k = true) {x : va_E} (hx : x = mar G (ln k) k (up2 a k i z k)) : mIx G h0 ad ln bb nb zb v (up2 a k i z) L (va_up E (ad k) x) :=
  ⟨h.1.set hk hx, h.2.1, by
    rw [va_up_ne _ _ (fun q => h.2.1 (by rw [q]; exact (h.1.2.2.1 k hk).1))]
    rw [show up2 a k i z 70 = a 70 from funext fun _ => up2_k (fun q => by subst q; exact absurd hk (by decide))]
    exact h.2.2⟩
theorem mIx.loc {G : GT} {h0 : Nat} {ad ln : Nat → Nat} {bb nb : Nat} {zb : Bool} {v : Nat → Int} {a : Nat → Nat → Int} {L : List Nat} {E : Nat → va_E} {i : Nat} {z : Int} (h : mIx G h0 ad ln bb nb zb v a L E) {x : va_E} (hx : x = xar G nb zb (up2 a 70 i z 70)) : mIx G h0 ad ln bb nb zb v (up2 a 70 i z) L (va_up E bb x) :=
  ⟨h.1.congr (fun q hq => va_up_ne _ _ (fun e => h.2.1 (by rw [← e]; exact hq))) (fun k hk => funext fun _ => up2_k (fun q => by subst q; exact absurd hk (by decide))), h.2.1, by rw [va_up_self, hx]⟩
def mx (p : Program) (l : Launch) (e : Env) (R : Room) (s : State) (m : MethodId) (args : Array Value) (below : List Frame) (meth : Method) (c : Code) (G : GT) (A : Nat → Prop) (nL : Nat) (Q : State → Prop) (bb nb : Nat) (zb : Bool) (h0 : Nat) (ad ln : Nat → Nat) (v : Nat → Int) (a : Nat → Nat → Int) (kc ks pc : Nat) (lv : List (Nat × Value)) (st : List Value) : Prop := ∀ (L : List Nat) (E : Nat → va_E), mIx G h0 ad ln bb nb zb v a L E → wq p l e R s m args below meth c G A nL Q (bb :: L) E kc ks pc lv st
section MQ3
variable {p : Program} {l : Launch} {e : Env} {R : Room} {s : State} {m : MethodId} {args : Array Value} {below : List Frame} {meth : Method} {c : Code} {cc : ByteArray} {y : MethodName} {ret : Option FieldType} {G : GT} {A : Nat → Prop} {nL mc ms : Nat} {Q : State → Prop} {Post : Option Value → (Nat → Int) → (Nat → Nat → Int) → Prop} {h0 : Nat} {ad ln : Nat → Nat} {v : Nat → Int} {a : Nat → Nat → Int} {kc ks pc : Nat} {lv : List (Nat × Value)} {st : List Value} {bb nb : Nat} {zb : Bool}
theorem x_iconst (C : Cq p s m args meth c cc y ret G A nL) {n : Int} (d : decode cc pc = .ok (.iconst n, 1))  (k : mx p l e R s m args below meth c G A nL Q bb nb zb h0 ad ln v a kc ks (pc + 1) lv (.int (iI n) :: st)) : mx p l e R s m args below meth c G A nL Q bb nb zb h0 ad ln v a kc ks pc lv st := fun L E h => q_iconst C d rfl (k L E h)
theorem x_bipush (C : Cq p s m args meth c cc y ret G A nL) {n z : Int} (d : decode cc pc = .ok (.bipush n, 2)) (hz : (Int8.ofInt n).toInt32 = iI z) (k : mx p l e R s m args below meth c G A nL Q bb nb zb h0 ad ln v a kc ks (pc + 2) lv (.int (iI z) :: st)) : mx p l e R s m args below meth c G A nL Q bb nb zb h0 ad ln v a kc ks pc lv st := fun L E h => q_bipush C d hz (k L E h)
theorem x_sipush (C : Cq p s m args meth c cc y ret G A nL) {n z : Int} (d : decode cc pc = .ok (.sipush n, 3)) (hz : (Int16.ofInt n).toInt32 = iI z) (k : mx p l e R s m args below meth c G A nL Q bb nb zb h0 ad ln v a kc ks (pc + 3) lv (.int (iI z) :: st)) : mx p l e R s m args below meth c G A nL Q bb nb zb h0 ad ln v a kc ks pc lv st := fun L E h => q_sipush C d hz (k L E h)
theorem x_iload_n (C : Cq p s m args meth c cc y ret G A nL) {i : Fin 4} {j : Nat} {x : Int32} (d : decode cc pc = .ok (.iload_n i, 1)) (hj : lv[j]? = some ((i : Nat), .int x)) (k : mx p l e R s m args below meth c G A nL Q bb nb zb h0 ad ln v a kc ks (pc + 1) lv (.int x :: st)) : mx p l e R s m args below meth c G A nL Q bb nb zb h0 ad ln v a kc ks pc lv st := fun L E h => q_iload_n C d hj (k L E h)
theorem x_iload (C : Cq p s m args meth c cc y ret G A nL) {i j : Nat} {x : Int32} (d : decode cc pc = .ok (.iload i, 2)) (hj : lv[j]? = some (i, .int x)) (k : mx p l e R s m args below meth c G A nL Q bb nb zb h0 ad ln v a kc ks (pc + 2) lv (.int x :: st)) : mx p l e R s m args below meth c G A nL Q bb nb zb h0 ad ln v a kc ks pc lv st := fun L E h => q_iload C d hj (k L E h)
theorem x_aload_n (C : Cq p s m args meth c cc y ret G A nL) {i : Fin 4} {j : Nat} {x : Nat} (d : decode cc pc = .ok (.aload_n i, 1)) (hj : lv[j]? = some ((i : Nat), .ref x)) (k : mx p l e R s m args below meth c G A nL Q bb nb zb h0 ad ln v a kc ks (pc + 1) lv (.ref x :: st)) : mx p l e R s m args below meth c G A nL Q bb nb zb h0 ad ln v a kc ks pc lv st := fun L E h => q_aload_n C d hj (k L E h)
theorem x_aload (C : Cq p s m args meth c cc y ret G A nL) {i j : Nat} {x : Nat} (d : decode cc pc = .ok (.aload i, 2)) (hj : lv[j]? = some (i, .ref x)) (k : mx p l e R s m args below meth c G A nL Q bb nb zb h0 ad ln v a kc ks (pc + 2) lv (.ref x :: st)) : mx p l e R s m args below meth c G A nL Q bb nb zb h0 ad ln v a kc ks pc lv st := fun L E h => q_aload C d hj (k L E h)
theorem x_istore_n (C : Cq p s m args meth c cc y ret G A nL) {i : Fin 4} {x : Int32} {lv2 : List (Nat × Value)} (d : decode cc pc = .ok (.istore_n i, 1)) (hn : (i : Nat) < nL) (hl : ((i : Nat), Value.int x) :: lv.filter (fun q => !(q.1 == (i : Nat)) && !(q.1 + 1 == (i : Nat) && q.2.category == 2)) = lv2) (k : mx p l e R s m args below meth c G A nL Q bb nb zb h0 ad ln v a kc ks (pc + 1) lv2 st) : mx p l e R s m args below meth c G A nL Q bb nb zb h0 ad ln v a kc ks pc lv (Value.int x :: st) := fun L E h => q_istore_n C d hn hl (k L E h)
theorem x_istore (C : Cq p s m args meth c cc y ret G A nL) {i : Nat} {x : Int32} {lv2 : List (Nat × Value)} (d : decode cc pc = .ok (.istore i, 2)) (hn : i < nL) (hl : (i, Value.int x) :: lv.filter (fun q => !(q.1 == i) && !(q.1 + 1 == i && q.2.category == 2)) = lv2) (k : mx p l e R s m args below meth c G A nL Q bb nb zb h0 ad ln v a kc ks (pc + 2) lv2 st) : mx p l e R s m args below meth c G A nL Q bb nb zb h0 ad ln v a kc ks pc lv (Value.int x :: st) := fun L E h => q_istore C d hn hl (k L E h)
theorem x_astore_n (C : Cq p s m args meth c cc y ret G A nL) {i : Fin 4} {x : Nat} {lv2 : List (Nat × Value)} (d : decode cc pc = .ok (.astore_n i, 1)) (hn : (i : Nat) < nL) (hl : ((i : Nat), Value.ref x) :: lv.filter (fun q => !(q.1 == (i : Nat)) && !(q.1 + 1 == (i : Nat) && q.2.category == 2)) = lv2) (k : mx p l e R s m args below meth c G A nL Q bb nb zb h0 ad ln v a kc ks (pc + 1) lv2 st) : mx p l e R s m args below meth c G A nL Q bb nb zb h0 ad ln v a kc ks pc lv (Value.ref x :: st) := fun L E h => q_astore_n C d hn hl (k L E h)
theorem x_astore (C : Cq p s m args meth c cc y ret G A nL) {i : Nat} {x : Nat} {lv2 : List (Nat × Value)} (d : decode cc pc = .ok (.astore i, 2)) (hn : i < nL) (hl : (i, Value.ref x) :: lv.filter (fun q => !(q.1 == i) && !(q.1 + 1 == i && q.2.category == 2)) = lv2) (k : mx p l e R s m args below meth c G A nL Q bb nb zb h0 ad ln v a kc ks (pc + 2) lv2 st) : mx p l e R s m args below meth c G A nL Q bb nb zb h0 ad ln v a kc ks pc lv (Value.ref x :: st) := fun L E h => q_astore C d hn hl (k L E h)
theorem x_iinc (C : Cq p s m args meth c cc y ret G A nL) {i j : Nat} {n z : Int} {lv2 : List (Nat × Value)} (d : decode cc pc = .ok (.iinc i n, 3)) (hj : lv[j]? = some (i, .int (iI z))) (hn : i < nL) (hl : (i, Value.int (iI (z + n))) :: lv.filter (fun q => !(q.1 == i) && !(q.1 + 1 == i && q.2.category == 2)) = lv2) (k : mx p l e R s m args below meth c G A nL Q bb nb zb h0 ad ln v a kc ks (pc + 3) lv2 st) : mx p l e R s m args below meth c G A nL Q bb nb zb h0 ad ln v a kc ks pc lv st := fun L E h => q_iinc C d hj (Int32.ofInt_add z n).symm hn hl (k L E h)
theorem x_iadd (C : Cq p s m args meth c cc y ret G A nL) {x z : Int} (d : decode cc pc = .ok (.iadd, 1))  (k : mx p l e R s m args below meth c G A nL Q bb nb zb h0 ad ln v a kc ks (pc + 1) lv (.int (iI (x + z)) :: st)) : mx p l e R s m args below meth c G A nL Q bb nb zb h0 ad ln v a kc ks pc lv (.int (iI z) :: .int (iI x) :: st) := fun L E h => q_iadd C d (Int32.ofInt_add x z).symm (k L E h)
theorem x_isub (C : Cq p s m args meth c cc y ret G A nL) {x z : Int} (d : decode cc pc = .ok (.isub, 1))  (k : mx p l e R s m args below meth c G A nL Q bb nb zb h0 ad ln v a kc ks (pc + 1) lv (.int (iI (x - z)) :: st)) : mx p l e R s m args below meth c G A nL Q bb nb zb h0 ad ln v a kc ks pc lv (.int (iI z) :: .int (iI x) :: st) := fun L E h => q_isub C d (Int32.ofInt_sub x z).symm (k L E h)
theorem x_imul (C : Cq p s m args meth c cc y ret G A nL) {x z : Int} (d : decode cc pc = .ok (.imul, 1))  (k : mx p l e R s m args below meth c G A nL Q bb nb zb h0 ad ln v a kc ks (pc + 1) lv (.int (iI (x * z)) :: st)) : mx p l e R s m args below meth c G A nL Q bb nb zb h0 ad ln v a kc ks pc lv (.int (iI z) :: .int (iI x) :: st) := fun L E h => q_imul C d (Int32.ofInt_mul x z).symm (k L E h)
theorem x_dup (C : Cq p s m args meth c cc y ret G A nL) {u : Value} (d : decode cc pc = .ok (.dup, 1)) (hu : u.category = 1) (k : mx p l e R s m args below meth c G A nL Q bb nb zb h0 ad ln v a kc ks (pc + 1) lv (u :: u :: st)) : mx p l e R s m args below meth c G A nL Q bb nb zb h0 ad ln v a kc ks pc lv (u :: st) := fun L E h => q_dup C d hu (k L E h)
theorem x_dup2 (C : Cq p s m args meth c cc y ret G A nL) {u w : Value} (d : decode cc pc = .ok (.dup2, 1)) (hu : u.category = 1) (hw : w.category = 1) (k : mx p l e R s m args below meth c G A nL Q bb nb zb h0 ad ln v a kc ks (pc + 1) lv (u :: w :: u :: w :: st)) : mx p l e R s m args below meth c G A nL Q bb nb zb h0 ad ln v a kc ks pc lv (u :: w :: st) := fun L E h => q_dup2 C d hu hw (k L E h)
theorem x_goto (C : Cq p s m args meth c cc y ret G A nL) {off : Int} {tgt : Nat} (d : decode cc pc = .ok (.goto off, 3)) (ht : (pc : Int) + off = (tgt : Int)) (k : mx p l e R s m args below meth c G A nL Q bb nb zb h0 ad ln v a kc ks tgt lv st) : mx p l e R s m args below meth c G A nL Q bb nb zb h0 ad ln v a kc ks pc lv st := fun L E h => q_goto C d ht (k L E h)
theorem x_if_eq (C : Cq p s m args meth c cc y ret G A nL) {x off : Int} {tgt : Nat} (hx : R32 x) (d : decode cc pc = .ok (.ifCond .eq off, 3)) (ht : (pc : Int) + off = (tgt : Int)) (kt : x = 0 → mx p l e R s m args below meth c G A nL Q bb nb zb h0 ad ln v a kc ks tgt lv st) (kf : ¬ x = 0 → mx p l e R s m args below meth c G A nL Q bb nb zb h0 ad ln v a kc ks (pc + 3) lv st) : mx p l e R s m args below meth c G A nL Q bb nb zb h0 ad ln v a kc ks pc lv (.int (iI x) :: st) := fun L E h => q_if_eq C d ht (fun q => kt ((iI_eq hx R32_0).mp q) L E h) (fun q => kf (fun r => q ((iI_eq hx R32_0).mpr r)) L E h)
theorem x_icmp_ne (C : Cq p s m args meth c cc y ret G A nL) {x z off : Int} {tgt : Nat} (hx : R32 x) (hz : R32 z) (d : decode cc pc = .ok (.if_icmp .ne off, 3)) (ht : (pc : Int) + off = (tgt : Int)) (kt : ¬ x = z → mx p l e R s m args below meth c G A nL Q bb nb zb h0 ad ln v a kc ks tgt lv st) (kf : x = z → mx p l e R s m args below meth c G A nL Q bb nb zb h0 ad ln v a kc ks (pc + 3) lv st) : mx p l e R s m args below meth c G A nL Q bb nb zb h0 ad ln v a kc ks pc lv (.int (iI z) :: .int (iI x) :: st) := fun L E h => q_icmp_ne C d ht (fun q => kt (fun r => q ((iI_eq hx hz).mpr r)) L E h) (fun q => kf ((iI_eq hx hz).mp q) L E h)
theorem x_if_ne (C : Cq p s m args meth c cc y ret G A nL) {x off : Int} {tgt : Nat} (hx : R32 x) (d : decode cc pc = .ok (.ifCond .ne off, 3)) (ht : (pc : Int) + off = (tgt : Int)) (kt : ¬ x = 0 → mx p l e R s m args below meth c G A nL Q bb nb zb h0 ad ln v a kc ks tgt lv st) (kf : x = 0 → mx p l e R s m args below meth c G A nL Q bb nb zb h0 ad ln v a kc ks (pc + 3) lv st) : mx p l e R s m args below meth c G A nL Q bb nb zb h0 ad ln v a kc ks pc lv (.int (iI x) :: st) := fun L E h => q_if_ne C d ht (fun q => kt (fun r => q ((iI_eq hx R32_0).mpr r)) L E h) (fun q => kf ((iI_eq hx R32_0).mp q) L E h)
theorem x_if_lt (C : Cq p s m args meth c cc y ret G A nL) {x off : Int} {tgt : Nat} (hx : R32 x) (d : decode cc pc = .ok (.ifCond .lt off, 3)) (ht : (pc : Int) + off = (tgt : Int)) (kt : x < 0 → mx p l e R s m args below meth c G A nL Q bb nb zb h0 ad ln v a kc ks tgt lv st) (kf : ¬ x < 0 → mx p l e R s m args below meth c G A nL Q bb nb zb h0 ad ln v a kc ks (pc + 3) lv st) : mx p l e R s m args below meth c G A nL Q bb nb zb h0 ad ln v a kc ks pc lv (.int (iI x) :: st) := fun L E h => q_if_lt C d ht (fun q => kt ((iI_lt hx R32_0).mp q) L E h) (fun q => kf (fun r => q ((iI_lt hx R32_0).mpr r)) L E h)
theorem x_icmp_ge (C : Cq p s m args meth c cc y ret G A nL) {x z off : Int} {tgt : Nat} (hx : R32 x) (hz : R32 z) (d : decode cc pc = .ok (.if_icmp .ge off, 3)) (ht : (pc : Int) + off = (tgt : Int)) (kt : z ≤ x → mx p l e R s m args below meth c G A nL Q bb nb zb h0 ad ln v a kc ks tgt lv st) (kf : ¬ z ≤ x → mx p l e R s m args below meth c G A nL Q bb nb zb h0 ad ln v a kc ks (pc + 3) lv st) : mx p l e R s m args below meth c G A nL Q bb nb zb h0 ad ln v a kc ks pc lv (.int (iI z) :: .int (iI x) :: st) := fun L E h => q_icmp_ge C d ht (fun q => kt ((iI_le hz hx).mp q) L E h) (fun q => kf (fun r => q ((iI_le hz hx).mpr r)) L E h)
theorem x_icmp_gt (C : Cq p s m args meth c cc y ret G A nL) {x z off : Int} {tgt : Nat} (hx : R32 x) (hz : R32 z) (d : decode cc pc = .ok (.if_icmp .gt off, 3)) (ht : (pc : Int) + off = (tgt : Int)) (kt : z < x → mx p l e R s m args below meth c G A nL Q bb nb zb h0 ad ln v a kc ks tgt lv st) (kf : ¬ z < x → mx p l e R s m args below meth c G A nL Q bb nb zb h0 ad ln v a kc ks (pc + 3) lv st) : mx p l e R s m args below meth c G A nL Q bb nb zb h0 ad ln v a kc ks pc lv (.int (iI z) :: .int (iI x) :: st) := fun L E h => q_icmp_gt C d ht (fun q => kt ((iI_lt hz hx).mp q) L E h) (fun q => kf (fun r => q ((iI_lt hz hx).mpr r)) L E h)
theorem x_if_le (C : Cq p s m args meth c cc y ret G A nL) {x off : Int} {tgt : Nat} (hx : R32 x) (d : decode cc pc = .ok (.ifCond .le off, 3)) (ht : (pc : Int) + off = (tgt : Int)) (kt : x ≤ 0 → mx p l e R s m args below meth c G A nL Q bb nb zb h0 ad ln v a kc ks tgt lv st) (kf : ¬ x ≤ 0 → mx p l e R s m args below meth c G A nL Q bb nb zb h0 ad ln v a kc ks (pc + 3) lv st) : mx p l e R s m args below meth c G A nL Q bb nb zb h0 ad ln v a kc ks pc lv (.int (iI x) :: st) := fun L E h => q_if_le C d ht (fun q => kt ((iI_le hx R32_0).mp q) L E h) (fun q => kf (fun r => q ((iI_le hx R32_0).mpr r)) L E h)
theorem x_lv {lv2 : List (Nat × Value)} (ps : List Nat) (hl : lv_pick lv ps = lv2) (k : mx p l e R s m args below meth c G A nL Q bb nb zb h0 ad ln v a kc ks pc lv2 st) : mx p l e R s m args below meth c G A nL Q bb nb zb h0 ad ln v a kc ks pc lv st := fun L E h H locs ls hP hD hS hv => k L E h H locs ls hP hD hS (lv_sub hv ps hl)
theorem x_st {st2 : List Value} (h : st = st2) (k : mx p l e R s m args below meth c G A nL Q bb nb zb h0 ad ln v a kc ks pc lv st2) : mx p l e R s m args below meth c G A nL Q bb nb zb h0 ad ln v a kc ks pc lv st := by subst h; exact k
theorem x_get (C : Cq p s m args meth c cc y ret G A nL) {k idx : Nat} (d : decode cc pc = .ok (.getfield idx, 3)) (lk : Cond.fieldLink y.cls idx (TX12 k).1 (TX12 k).2.1 (TX12 k).2.2.1 ∈ lw_g) (hk : k < 67) (hA : mA k = false) (kk : mx p l e R s m args below meth c G A nL Q bb nb zb h0 ad ln v a kc ks (pc + 3) lv (.int (iI (v k)) :: st)) : mx p l e R s m args below meth c G A nL Q bb nb zb h0 ad ln v a kc ks pc lv (.ref h0 :: st) := fun L E h => q_get (k := k) C ck_13 d lk hk (List.mem_cons_of_mem _ h.1.1) h.1.2.1 (mfv_i hA) (kk L E h)
theorem x_geta (C : Cq p s m args meth c cc y ret G A nL) {k idx : Nat} (d : decode cc pc = .ok (.getfield idx, 3)) (lk : Cond.fieldLink y.cls idx (TX12 k).1 (TX12 k).2.1 (TX12 k).2.2.1 ∈ lw_g) (hk : k < 67) (hA : mA k = true) (kk : mx p l e R s m args below meth c G A nL Q bb nb zb h0 ad ln v a kc ks (pc + 3) lv (.ref (ad k) :: st)) : mx p l e R s m args below meth c G A nL Q bb nb zb h0 ad ln v a kc ks pc lv (.ref h0 :: st) := fun L E h => q_get (k := k) C ck_13 d lk hk (List.mem_cons_of_mem _ h.1.1) h.1.2.1 (mfv_a hA) (kk L E h)
theorem x_put (C : Cq p s m args meth c cc y ret G A nL) {k idx : Nat} {z : Int} (d : decode cc pc = .ok (.putfield idx, 3)) (lk : Cond.fieldLink y.cls idx (TX12 k).1 (TX12 k).2.1 (TX12 k).2.2.1 ∈ lw_g) (hk : k < 67) (hA : mA k = false) (hf : (TX12 k).2.2.2 = false) (ht : tyX12 k = .int) (kk : mx p l e R s m args below meth c G A nL Q bb nb zb h0 ad ln (va_up v k z) a kc ks (pc + 3) lv st) : mx p l e R s m args below meth c G A nL Q bb nb zb h0 ad ln v a kc ks pc lv (.int (iI z) :: .ref h0 :: st) := fun L E h => q_put (k := k) C ck_13 d lk hk hf (List.mem_cons_of_mem _ h.1.1) h.1.2.1 (by rw [ht]; rfl) (by rw [ht]; rfl) (kk L _ (h.put hA))
theorem x_ald (C : Cq p s m args meth c cc y ret G A nL) {k : Nat} {z : Int} (d : decode cc pc = .ok (.iaload, 1)) (hA : mA k = true) (hZ : mZ k = false) (h18 : k ≠ 18) (h1 : 0 ≤ z) (h2 : z < (mlen k : Nat)) (hm : mlen k ≤ 100000) (kk : mx p l e R s m args below meth c G A nL Q bb nb zb h0 ad ln v a kc ks (pc + 1) lv (.int (iI (a k z.toNat)) :: st)) : mx p l e R s m args below meth c G A nL Q bb nb zb h0 ad ln v a kc ks pc lv (.int (iI z) :: .ref (ad k) :: st) := by
  intro L E h
  refine hv2 (show R32 z from ⟨by omega, by omega⟩) ((h.1.2.2.1 k hA).2) (fun hr hE => ?_)
  unfold mar at hE
  rw [hZ, if_neg (by decide), h.1.2.2.2.2.2.1 k h18] at hE
  exact q_iald C d (List.mem_cons_of_mem _ (h.1.2.2.1 k hA).1) hE (iI_in hr h1 h2) (by rw [iI_cl hr]) (kk L E h)
theorem x_ald18 (C : Cq p s m args meth c cc y ret G A nL) {z : Int} (d : decode cc pc = .ok (.iaload, 1)) (h1 : 0 ≤ z) (h2 : z < (ln 18 : Nat)) (hm : ln 18 ≤ 100000) (kk : mx p l e R s m args below meth c G A nL Q bb nb zb h0 ad ln v a kc ks (pc + 1) lv (.int (iI (a 18 z.toNat)) :: st)) : mx p l e R s m args below meth c G A nL Q bb nb zb h0 ad ln v a kc ks pc lv (.int (iI z) :: .ref (ad 18) :: st) := by
  intro L E h
  refine hv2 (show R32 z from ⟨by omega, by omega⟩) ((h.1.2.2.1 18 rfl).2) (fun hr hE => ?_)
  unfold mar at hE
  rw [if_neg (by decide)] at hE
  exact q_iald C d (List.mem_cons_of_mem _ (h.1.2.2.1 18 rfl).1) hE (iI_in hr h1 h2) (by rw [iI_cl hr]) (kk L E h)
theorem m_ald18 (C : Cq p s m args meth c cc y ret G A nL) {z : Int} (d : decode cc pc = .ok (.iaload, 1)) (h1 : 0 ≤ z) (h2 : z < (ln 18 : Nat)) (hm : ln 18 ≤ 100000) (kk : mw p l e R s m args below meth c G A nL Q h0 ad ln v a kc ks (pc + 1) lv (.int (iI (a 18 z.toNat)) :: st)) : mw p l e R s m args below meth c G A nL Q h0 ad ln v a kc ks pc lv (.int (iI z) :: .ref (ad 18) :: st) := by
  intro L E h
  refine hv2 (show R32 z from ⟨by omega, by omega⟩) ((h.2.2.1 18 rfl).2) (fun hr hE => ?_)
  unfold mar at hE
  rw [if_neg (by decide)] at hE
  exact q_iald C d (h.2.2.1 18 rfl).1 hE (iI_in hr h1 h2) (by rw [iI_cl hr]) (kk L E h)
theorem m_ast18 (C : Cq p s m args meth c cc y ret G A nL) {z w : Int} (d : decode cc pc = .ok (.iastore, 1)) (h1 : 0 ≤ z) (h2 : z < (ln 18 : Nat)) (hm : ln 18 ≤ 100000) (kk : mw p l e R s m args below meth c G A nL Q h0 ad ln v (up2 a 18 z.toNat w) kc ks (pc + 1) lv st) : mw p l e R s m args below meth c G A nL Q h0 ad ln v a kc ks pc lv (.int (iI w) :: .int (iI z) :: .ref (ad 18) :: st) := by
  intro L E h
  refine hv2 (show R32 z from ⟨by omega, by omega⟩) ((h.2.2.1 18 rfl).2) (fun hr hE => ?_)
  unfold mar at hE
  rw [if_neg (by decide)] at hE
  refine q_iast C d (h.2.2.1 18 rfl).1 hE (iI_in hr h1 h2) (kk L _ (h.set (k := 18) rfl ?_))
  unfold mar
  rw [if_neg (by decide), iI_cl hr]
  congr 1
  funext j
  unfold upd up2
  rw [if_pos rfl]
  split <;> rfl
theorem m_alen18 (C : Cq p s m args meth c cc y ret G A nL) (d : decode cc pc = .ok (.arraylength, 1)) (kk : mw p l e R s m args below meth c G A nL Q h0 ad ln v a kc ks (pc + 1) lv (.int (iI (ln 18 : Nat)) :: st)) : mw p l e R s m args below meth c G A nL Q h0 ad ln v a kc ks pc lv (.ref (ad 18) :: st) := by
  intro L E h
  have hE := (h.2.2.1 18 rfl).2
  unfold mar at hE
  rw [if_neg (by decide)] at hE
  exact q_alenI C d (h.2.2.1 18 rfl).1 hE Int32.ofInt_eq_ofNat.symm (kk L E h)
theorem x_ast (C : Cq p s m args meth c cc y ret G A nL) {k : Nat} {z w : Int} (d : decode cc pc = .ok (.iastore, 1)) (hA : mA k = true) (hZ : mZ k = false) (h18 : k ≠ 18) (h1 : 0 ≤ z) (h2 : z < (mlen k : Nat)) (hm : mlen k ≤ 100000) (kk : mx p l e R s m args below meth c G A nL Q bb nb zb h0 ad ln v (up2 a k z.toNat w) kc ks (pc + 1) lv st) : mx p l e R s m args below meth c G A nL Q bb nb zb h0 ad ln v a kc ks pc lv (.int (iI w) :: .int (iI z) :: .ref (ad k) :: st) := by
  intro L E h
  refine hv2 (show R32 z from ⟨by omega, by omega⟩) ((h.1.2.2.1 k hA).2) (fun hr hE => ?_)
  unfold mar at hE
  rw [hZ, if_neg (by decide)] at hE
  refine q_iast C d (List.mem_cons_of_mem _ (h.1.2.2.1 k hA).1) hE (by rw [h.1.2.2.2.2.2.1 k h18]; exact iI_in hr h1 h2) (kk L _ (h.set hA ?_))
  unfold mar
  rw [hZ, if_neg (by decide), iI_cl hr]
  congr 1
  funext j
  unfold upd up2
  rw [if_pos rfl]
  split <;> rfl
theorem x_lald (C : Cq p s m args meth c cc y ret G A nL) {z : Int} (d : decode cc pc = .ok (.iaload, 1)) (hz : zb = false) (h1 : 0 ≤ z) (h2 : z < (nb : Nat)) (hm : nb ≤ 100000) (kk : mx p l e R s m args below meth c G A nL Q bb nb zb h0 ad ln v a kc ks (pc + 1) lv (.int (iI (a 70 z.toNat)) :: st)) : mx p l e R s m args below meth c G A nL Q bb nb zb h0 ad ln v a kc ks pc lv (.int (iI z) :: .ref bb :: st) := by
  intro L E h
  refine hv2 (show R32 z from ⟨by omega, by omega⟩) (h.2.2) (fun hr hE => ?_)
  unfold xar at hE
  rw [hz, if_neg (by decide)] at hE
  exact q_iald C d List.mem_cons_self hE (iI_in hr h1 h2) (by rw [iI_cl hr]) (kk L E h)
theorem x_lzald (C : Cq p s m args meth c cc y ret G A nL) {z : Int} (d : decode cc pc = .ok (.baload, 1)) (hz : zb = true) (h1 : 0 ≤ z) (h2 : z < (nb : Nat)) (hm : nb ≤ 100000) (kk : mx p l e R s m args below meth c G A nL Q bb nb zb h0 ad ln v a kc ks (pc + 1) lv (.int (iI (a 70 z.toNat)) :: st)) : mx p l e R s m args below meth c G A nL Q bb nb zb h0 ad ln v a kc ks pc lv (.int (iI z) :: .ref bb :: st) := by
  intro L E h
  refine hv2 (show R32 z from ⟨by omega, by omega⟩) (h.2.2) (fun hr hE => ?_)
  unfold xar at hE
  rw [hz, if_pos rfl] at hE
  exact q_zald C d List.mem_cons_self hE (iI_in hr h1 h2) (by rw [iI_cl hr]) (kk L E h)
theorem x_last (C : Cq p s m args meth c cc y ret G A nL) {z w : Int} (d : decode cc pc = .ok (.iastore, 1)) (hz : zb = false) (h1 : 0 ≤ z) (h2 : z < (nb : Nat)) (hm : nb ≤ 100000) (kk : mx p l e R s m args below meth c G A nL Q bb nb zb h0 ad ln v (up2 a 70 z.toNat w) kc ks (pc + 1) lv st) : mx p l e R s m args below meth c G A nL Q bb nb zb h0 ad ln v a kc ks pc lv (.int (iI w) :: .int (iI z) :: .ref bb :: st) := by
  intro L E h
  refine hv2 (show R32 z from ⟨by omega, by omega⟩) (h.2.2) (fun hr hE => ?_)
  unfold xar at hE
  rw [hz, if_neg (by decide)] at hE
  refine q_iast C d List.mem_cons_self hE (iI_in hr h1 h2) (kk L _ (h.loc ?_))
  unfold xar
  rw [hz, if_neg (by decide), iI_cl hr]
  congr 1
  funext j
  unfold upd up2
  rw [if_pos rfl]
  split <;> rfl
theorem x_lzast (C : Cq p s m args meth c cc y ret G A nL) {z w : Int} (d : decode cc pc = .ok (.bastore, 1)) (hz : zb = true) (h1 : 0 ≤ z) (h2 : z < (nb : Nat)) (hm : nb ≤ 100000) (hw : w = 0 ∨ w = 1) (kk : mx p l e R s m args below meth c G A nL Q bb nb zb h0 ad ln v (up2 a 70 z.toNat w) kc ks (pc + 1) lv st) : mx p l e R s m args below meth c G A nL Q bb nb zb h0 ad ln v a kc ks pc lv (.int (iI w) :: .int (iI z) :: .ref bb :: st) := by
  intro L E h
  refine hv2 (show R32 z from ⟨by omega, by omega⟩) (h.2.2) (fun hr hE => ?_)
  unfold xar at hE
  rw [hz, if_pos rfl] at hE
  refine q_zast2 C d List.mem_cons_self hE (iI_in hr h1 h2) (kk L _ (h.loc ?_))
  unfold xar
  rw [hz, if_pos rfl, iI_cl hr, nar_b hw]
  congr 1
  funext j
  unfold upd up2
  rw [if_pos rfl]
  split <;> rfl
theorem x_iret (C : Cq p s m args meth c cc y ret G A nL) {z : Int} (d : decode cc pc = .ok (.ireturn, 1)) (hr : ret = some .int) (h1 : kc ≤ mc) (h2 : ks ≤ ms) (hp : Post (some (.int (iI z))) v a) : mx p l e R s m args below meth c G A nL (MQ below (Qm G A (fun r L2 E2 => ∃ (v2 : Nat → Int) (a2 : Nat → Nat → Int), mI G h0 ad ln v2 a2 L2 E2 ∧ Post r v2 a2)) args s mc ms A) bb nb zb h0 ad ln v a kc ks pc lv [.int (iI z)] := fun L E h => q_iret C d hr h1 h2 ⟨v, a, h.1.cons bb, hp⟩
theorem x_vret (C : Cq p s m args meth c cc y ret G A nL) (d : decode cc pc = .ok (.return_, 1)) (hr : ret = none) (h1 : kc ≤ mc) (h2 : ks ≤ ms) (hp : Post none v a) : mx p l e R s m args below meth c G A nL (MQ below (Qm G A (fun r L2 E2 => ∃ (v2 : Nat → Int) (a2 : Nat → Nat → Int), mI G h0 ad ln v2 a2 L2 E2 ∧ Post r v2 a2)) args s mc ms A) bb nb zb h0 ad ln v a kc ks pc lv [] := fun L E h => q_vret C d hr h1 h2 ⟨v, a, h.1.cons bb, hp⟩
theorem x_call (C : Cq p s m args meth c cc y ret G A nL) {y2 : MethodName} {cc2 : ByteArray} {n2 d2 mc2 ms2 idx k2 : Nat} {ret2 : Option FieldType} {P2 : Option Value → (Nat → Int) → (Nat → Nat → Int) → Prop} {As rest : List Value} (M : Mm l G y2 cc2 n2 ret2 d2 As h0 ad ln v a mc2 ms2 P2) (h70 : ∀ (r : Option Value) (v2 : Nat → Int) (a2 : Nat → Nat → Int), P2 r v2 a2 → a2 70 = a 70) (d : decode cc pc = .ok (.invokevirtual idx, 3)) (hw : Wv y.cls idx y2 cc2 n2 ret2 k2) (hk : As.length = k2) (ck : Ck 13 y2.cls TX12 67 tyX12) (hst : st = As.reverse ++ .ref h0 :: rest) (hcat : (rest.map fun v => v.category).sum ≤ 8) (hR : d2 + 1 ≤ R.frames ∧ 8 + (n2 + 11) + 64 * d2 ≤ R.locals) (hf : kc + mc2 ≤ R.cells ∧ ks + ms2 ≤ R.slots) (kk : ∀ (r : Option Value) (v2 : Nat → Int) (a2 : Nat → Nat → Int), P2 r v2 a2 → mx p l e R s m args below meth c G A nL Q bb nb zb h0 ad ln v2 a2 (kc + mc2) (ks + ms2) (pc + 3) lv (r.toList ++ rest)) : mx p l e R s m args below meth c G A nL Q bb nb zb h0 ad ln v a kc ks pc lv st := fun L E h => q_subV (Lm := [bb]) C (M L E h.1) d hw hk h.1.1 h.1.2.1 ck hst hcat hR hf (fun r L2 E2 E3 ⟨v2, a2, h2, hp⟩ e1 e2 e3 => kk r v2 a2 hp L2 E3 ⟨h2.congr e2 (fun _ _ => rfl), e3 bb List.mem_cons_self, by rw [e1 bb List.mem_cons_self, h70 r v2 a2 hp]; exact h.2.2⟩)
theorem x_callS (C : Cq p s m args meth c cc y ret G A nL) {y2 : MethodName} {cc2 : ByteArray} {n2 d2 idx k2 : Nat} {ret2 : Option FieldType} {r2 : Value} {As rest : List Value} (M : ∀ (L : List Nat) (E : Nat → va_E), Mq l G y2 cc2 n2 ret2 d2 As L E 0 0 (fun r L2 E2 => r = some r2 ∧ L2 = L ∧ E2 = E)) (d : decode cc pc = .ok (.invokestatic idx, 3)) (hw : Ws y.cls idx y2 cc2 n2 ret2 k2) (hk : As.length = k2) (hst : st = As.reverse ++ rest) (hcat : (rest.map fun v => v.category).sum ≤ 8) (hR : d2 + 1 ≤ R.frames ∧ 8 + (n2 + 11) + 64 * d2 ≤ R.locals) (hf : kc ≤ R.cells ∧ ks ≤ R.slots) (kk : mx p l e R s m args below meth c G A nL Q bb nb zb h0 ad ln v a kc ks (pc + 3) lv (r2 :: rest)) : mx p l e R s m args below meth c G A nL Q bb nb zb h0 ad ln v a kc ks pc lv st := fun L E h => q_callS C (M (bb :: L) E) d hw hk hst hcat hR hf (fun r L2 E2 ⟨h1, h2, h3⟩ => by subst h1; subst h2; subst h3; exact kk _ _ h)
theorem q_pool {L L2 : List Nat} {E E2 : Nat → va_E} (h : ∀ q, q ∈ L2 → q ∈ L ∧ E2 q = E q) (hn : L.Nodup → L2.Nodup) (k : wq p l e R s m args below meth c G A nL Q L2 E2 kc ks pc lv st) : wq p l e R s m args below meth c G A nL Q L E kc ks pc lv st := by
  intro H locs ls hP hD hS hl
  have hnd : L.Nodup := by
    unfold List.Nodup
    rw [List.pairwise_iff_getElem]
    intro i j hi hj hij he
    have e1 : (va_pl L E)[i]? = some (L[i], E L[i]) := by unfold va_pl; rw [List.getElem?_map, List.getElem?_eq_getElem hi]; rfl
    have e2 : (va_pl L E)[j]? = some (L[i], E L[i]) := by unfold va_pl; rw [List.getElem?_map, List.getElem?_eq_getElem hj, ← he]; rfl
    have := hD.1 i j _ _ e1 e2 rfl
    omega
  have hn2 := hn hnd
  have key : ∀ (k : Nat) (q : Nat × va_E), (va_pl L2 E2)[k]? = some q → ∃ k2 : Nat, (va_pl L E)[k2]? = some q ∧ L2[k]? = some q.1 := by
    intro k q hq
    unfold va_pl at hq
    rw [List.getElem?_map] at hq
    cases e : L2[k]? with
    | none => rw [e] at hq; cases hq
    | some b =>
      rw [e] at hq
      refine hv2 (show b ∈ L2 from List.mem_of_getElem? e) (show q = (b, E2 b) from (Option.some.inj hq).symm) (fun hb hqe => ?_)
      obtain ⟨k2, hk2⟩ := pl_at (E := E) (h b hb).1
      exact ⟨k2, by rw [hk2, hqe, (h b hb).2], by rw [hqe]⟩
  refine k H locs ls (fun k q hq => ?_) ⟨fun i j a b hi hj hab => ?_, fun k q hq => ?_⟩ hS hl
  · obtain ⟨k2, h2, _⟩ := key k q hq; exact hP k2 q h2
  · obtain ⟨_, _, h1⟩ := key i a hi
    obtain ⟨_, _, h2⟩ := key j b hj
    exact (List.getElem?_inj (List.getElem?_eq_some_iff.mp h1).1 hn2).mp (by rw [h1, h2, hab])
  · obtain ⟨k2, h2, _⟩ := key k q hq; exact hD.2 k2 q h2
theorem nod_c {L : List Nat} {q : Nat} (h : (L ++ [q]).Nodup) : (q :: L).Nodup := by
  rw [List.nodup_append] at h
  exact List.nodup_cons.mpr ⟨fun hq => h.2.2 q hq q List.mem_cons_self rfl, h.1⟩
theorem nod_m {L : List Nat} {q : Nat} : ∀ x, x ∈ q :: L → x ∈ L ++ [q] := by
  intro x hx
  rcases List.mem_cons.mp hx with e | e
  · exact List.mem_append_right _ (by rw [e]; exact List.mem_cons_self)
  · exact List.mem_append_left _ e
def zer70 (a : Nat → Nat → Int) : Nat → Nat → Int := fun k j => if k = 70 then 0 else a k j
theorem zer_fr {v : Nat → Int} {a : Nat → Nat → Int} : fr [] [70] v a v (zer70 a) := ⟨fun _ _ => rfl, fun j hj => funext fun q => by unfold zer70; rw [if_neg (fun e => by subst e; exact absurd hj (by decide))]⟩
theorem zer_bx {v : Nat → Int} {a : Nat → Nat → Int} (h : BX v a) : BX v (zer70 a) := ⟨h.1, fun k j => by unfold zer70; split; rename_i e; subst e; exact ⟨by decide, by decide⟩; exact h.2 k j⟩
theorem new_x {G : GT} {h0 : Nat} {ad ln : Nat → Nat} {v : Nat → Int} {a : Nat → Nat → Int} {L : List Nat} {E : Nat → va_E} {q n : Nat} {zb : Bool} (h : mI G h0 ad ln v a L E) (hq : q ∉ L) : mIx G h0 ad ln q n zb v (zer70 a) L (va_up E q (xar G n zb (fun _ => 0))) :=
  ⟨h.congr (fun x hx => va_up_ne _ _ (fun e => hq (by rw [← e]; exact hx))) (fun k hk => funext fun j => by unfold zer70; rw [if_neg (fun e => by subst e; exact absurd hk (by decide))]), hq, by rw [va_up_self]; rfl⟩
theorem m_newI (C : Cq p s m args meth c cc y ret G A nL) {z : Int} {nb : Nat} (d : decode cc pc = .ok (.newarray .int, 2)) (lk : Cond.arrayClass .int ∈ lw_g) (hz : 0 ≤ z ∧ z ≤ 100000) (hn : nb = z.toNat) (hf : kc + 1 ≤ R.cells ∧ ks + nb ≤ R.slots) (hB : BX v a) (kk : ∀ (bb : Nat) (v2 : Nat → Int) (a2 : Nat → Nat → Int), fr [] [70] v a v2 a2 → BX v2 a2 → (∀ j, a2 70 j = 0) → mx p l e R s m args below meth c G A nL Q bb nb false h0 ad ln v2 a2 (kc + 1) (ks + nb) (pc + 2) lv (.ref bb :: st)) : mw p l e R s m args below meth c G A nL Q h0 ad ln v a kc ks pc lv (.int (iI z) :: st) := by
  intro L E h
  have hr : R32 z := ⟨by omega, by omega⟩
  refine q_newaI (N := nb) C d lk (fun q => by have := (iI_lt hr R32_0).mp q; omega) (by rw [iI_cl hr, hn]) (by omega) hf (fun q hq => ?_)
  refine q_pool (L2 := q :: L) (fun x hx => ⟨nod_m x hx, rfl⟩) nod_c ?_
  exact kk q v (zer70 a) zer_fr (zer_bx hB) (fun j => rfl) L _ (new_x (zb := false) h hq)
theorem m_newZ (C : Cq p s m args meth c cc y ret G A nL) {z : Int} {nb : Nat} (d : decode cc pc = .ok (.newarray .boolean, 2)) (lk : Cond.arrayClass .boolean ∈ lw_g) (hz : 0 ≤ z ∧ z ≤ 100000) (hn : nb = z.toNat) (hf : kc + 1 ≤ R.cells ∧ ks + nb ≤ R.slots) (hB : BX v a) (kk : ∀ (bb : Nat) (v2 : Nat → Int) (a2 : Nat → Nat → Int), fr [] [70] v a v2 a2 → BX v2 a2 → (∀ j, a2 70 j = 0) → mx p l e R s m args below meth c G A nL Q bb nb true h0 ad ln v2 a2 (kc + 1) (ks + nb) (pc + 2) lv (.ref bb :: st)) : mw p l e R s m args below meth c G A nL Q h0 ad ln v a kc ks pc lv (.int (iI z) :: st) := by
  intro L E h
  have hr : R32 z := ⟨by omega, by omega⟩
  refine q_newaZ (N := nb) C d lk (fun q => by have := (iI_lt hr R32_0).mp q; omega) (by rw [iI_cl hr, hn]) (by omega) hf (fun q hq => ?_)
  refine q_pool (L2 := q :: L) (fun x hx => ⟨nod_m x hx, rfl⟩) nod_c ?_
  exact kk q v (zer70 a) zer_fr (zer_bx hB) (fun j => rfl) L _ (new_x (zb := true) h hq)
def sw18 (a : Nat → Nat → Int) : Nat → Nat → Int := fun k => if k = 18 then a 70 else a k
theorem mI.sw {L : List Nat} {E : Nat → va_E} (h : mIx G h0 ad ln bb nb false v a L E) (hn : 64 ≤ nb ∧ nb ≤ 8192) : mI G h0 (va_up ad 18 bb) (va_up ln 18 nb) v (sw18 a) (bb :: L) (va_up E h0 (ob 13 67 (va_up (mfv ad v) 18 (.ref bb)))) := by
  obtain ⟨⟨h1, h2, h3, h4, h5, h6, h7⟩, hb, hE⟩ := h
  have hbh : bb ≠ h0 := fun e => hb (by rw [e]; exact h1)
  refine ⟨List.mem_cons_of_mem _ h1, ?_, fun j hj => ?_, fun k hk => ?_, fun i j hi hj hij => ?_, fun k hk => ?_, ?_⟩
  · rw [va_up_self]
    congr 1
    funext j
    by_cases e : j = 18
    · subst e; rw [va_up_self]; unfold mfv; rw [if_pos (show mA 18 = true from rfl), va_up_self]
    · rw [va_up_ne _ _ e]; unfold mfv; rw [va_up_ne _ _ e]
  · by_cases e : j = 18
    · subst e
      rw [va_up_self, va_up_self, va_up_ne _ _ hbh, hE]
      exact ⟨List.mem_cons_self, rfl⟩
    · rw [va_up_ne _ _ e, va_up_ne _ _ e, va_up_ne _ _ (Ne.symm (h4 j hj)), show sw18 a j = a j from if_neg e]
      exact ⟨List.mem_cons_of_mem _ (h3 j hj).1, (h3 j hj).2⟩
  · by_cases e : k = 18
    · subst e; rw [va_up_self]; exact hbh.symm
    · rw [va_up_ne _ _ e]; exact h4 k hk
  · by_cases e1 : i = 18
    · by_cases e2 : j = 18
      · rw [e1, e2]
      · subst e1; rw [va_up_self, va_up_ne _ _ e2] at hij
        exact absurd (h3 j hj).1 (by rw [← hij]; exact hb)
    · by_cases e2 : j = 18
      · subst e2; rw [va_up_self, va_up_ne _ _ e1] at hij
        exact absurd (h3 i hi).1 (by rw [hij]; exact hb)
      · rw [va_up_ne _ _ e1, va_up_ne _ _ e2] at hij; exact h5 i j hi hj hij
  · rw [va_up_ne _ _ hk]; exact h6 k hk
  · rw [va_up_self]; exact hn
theorem x_sw (C : Cq p s m args meth c cc y ret G A nL) {idx : Nat} (d : decode cc pc = .ok (.putfield idx, 3)) (lk : Cond.fieldLink y.cls idx (TX12 18).1 (TX12 18).2.1 (TX12 18).2.2.1 ∈ lw_g) (hz : zb = false) (hn : 64 ≤ nb ∧ nb ≤ 8192) (kk : ∀ (ad2 ln2 : Nat → Nat) (a2 : Nat → Nat → Int), ln2 18 = nb → a2 18 = a 70 → (∀ k, k ≠ 18 → a2 k = a k) → mw p l e R s m args below meth c G A nL Q h0 ad2 ln2 v a2 kc ks (pc + 3) lv st) : mx p l e R s m args below meth c G A nL Q bb nb zb h0 ad ln v a kc ks pc lv (.ref bb :: .ref h0 :: st) := by
  subst hz
  intro L E h
  exact q_put (k := 18) C ck_13 d lk (by decide) rfl (List.mem_cons_of_mem _ h.1.1) h.1.2.1 rfl rfl (kk (va_up ad 18 bb) (va_up ln 18 nb) (sw18 a) (va_up_self _ _ _) rfl (fun k hk => if_neg hk) _ _ (mI.sw h hn))
end MQ3
end
section
def ATS (v : Nat → Int) (a : Nat → Nat → Int) : Prop := ∀ j : Nat, 0 ≤ a 70 j ∧ (a 70 j = 0 ∨ a 70 j < v 66)
theorem ATS.put {v : Nat → Int} {a : Nat → Nat → Int} (h : ATS v a) {k : Nat} {z : Int} (hk : k ≠ 66) : ATS (va_up v k z) a := fun j => by rw [va_up_ne _ _ (Ne.symm hk)]; exact h j
theorem ATS.set {v : Nat → Int} {a : Nat → Nat → Int} (h : ATS v a) {k i : Nat} {z : Int} (hk : k ≠ 70) : ATS v (up2 a k i z) := fun j => by rw [up2_k (Ne.symm hk)]; exact h j
theorem ATS.sto {v : Nat → Int} {a : Nat → Nat → Int} (h : ATS v a) {i : Nat} {z : Int} (hz : 0 ≤ z ∧ (z = 0 ∨ z < v 66)) : ATS v (up2 a 70 i z) := fun j => by
  by_cases e : j = i
  · subst e; rw [up2_s]; exact hz
  · rw [up2_j e]; exact h j
theorem ATS.fr {V A : List Nat} {v v2 : Nat → Int} {a a2 : Nat → Nat → Int} (h : ATS v a) (f : fr V A v a v2 a2) (h1 : V.contains 66 = false) (h2 : A.contains 70 = false) : ATS v2 a2 := fun j => by rw [f.1 66 h1, f.2 70 h2]; exact h j
set_option maxHeartbeats 4000000 in
set_option maxRecDepth 100000 in
theorem M_gatherSigns {l : Launch} {G : GT} {h0 : Nat} {ad ln : Nat → Nat} {v : Nat → Int} {a : Nat → Nat → Int} {t : Int} (hB : BX v a) (ht : 0 ≤ t ∧ t < 30) : Mm l G yX12_gatherSigns cX12_gatherSigns 8 none 1 [.int (iI t)] h0 ad ln v a 1 256 (fun r v2 a2 => r = none ∧ fr [66] [65, 70] v a v2 a2 ∧ BX v2 a2 ∧ (True)) := by
  refine Mm.mk (by decide) (Nat.le_of_ble_eq_true rfl) ?_
  intro p e s m args below meth c A C
  have fp0 : fr [66] [65, 70] v a v a := fr.refl
  refine m_sipush (z := 256) C dX12_gatherSigns_0 (by decide) ?_
  refine m_newZ (z := 256) (nb := 256) C dX12_gatherSigns_3 w1_129 ⟨by omega, by omega⟩ rfl ⟨Nat.le_of_ble_eq_true rfl, Nat.le_of_ble_eq_true rfl⟩ hB (fun bb vw1 aw1 fnw1 bnw1 znw1 => ?_)
  have fqw1 := fp0.call fnw1 rfl rfl
  refine x_astore_n (lv2 := [(2, .ref bb), (0, .ref h0), (1, .int (iI t))]) C dX12_gatherSigns_5 (by decide) rfl ?_
  refine x_iconst C dX12_gatherSigns_6 ?_
  refine x_istore_n (lv2 := [(3, .int (iI 0)), (2, .ref bb), (0, .ref h0), (1, .int (iI t))]) C dX12_gatherSigns_7 (by decide) rfl ?_
  have Lp1 : ∀ (nn : Nat) (pt : Int) (vb1 : Nat → Int) (ab1 : Nat → Nat → Int), 3 - pt < (nn : Int) → BX vb1 ab1 → fr [66] [65, 70] v a vb1 ab1 → (0 ≤ pt ∧ pt ≤ 2) → mx p l e (rmq 1 1 256) s m args below meth c G A 8 (MQ below (Qm G A (fun rq Lq Eq => ∃ (vq : Nat → Int) (aq : Nat → Nat → Int), mI G h0 ad ln vq aq Lq Eq ∧ (fun r v2 a2 => r = none ∧ fr [66] [65, 70] v a v2 a2 ∧ BX v2 a2 ∧ (True)) rq vq aq)) args s 1 256 A) bb 256 true h0 ad ln vb1 ab1 (0 + 1) (0 + 256) 8 [(3, .int (iI pt)), (2, .ref bb), (0, .ref h0), (1, .int (iI t))] [] := by
    intro nn
    induction nn with
    | zero =>
      intro pt vb1 ab1 hm bxb1 fpb1 hp
      exact absurd hm (by omega)
    | succ nn ih1 =>
      intro pt vb1 ab1 hm bxb1 fpb1 hp
      refine x_iload_n (j := 0) C dX12_gatherSigns_8 rfl ?_
      refine x_iconst C dX12_gatherSigns_9 ?_
      refine x_icmp_ge (tgt := 120) C (r32_c (lo := 0) (hi := 2) hp.1 hp.2 (by decide) (by decide)) ⟨by decide, by decide⟩ dX12_gatherSigns_10 (by decide) (fun c1 => ?_) (fun c1 => ?_)
      · refine x_aload_n (j := 2) C dX12_gatherSigns_120 rfl ?_
        refine x_geta (k := 6) C dX12_gatherSigns_121 w6_65 (by decide) rfl ?_
        refine x_iload_n (j := 3) C dX12_gatherSigns_124 rfl ?_
        refine x_ald (k := 6) C dX12_gatherSigns_125 rfl rfl (by decide) (by omega) (by show _ < ((_ : Nat) : Int); simp only [mlen]; omega) (by decide) ?_
        refine hv2 (show 0 ≤ ab1 6 t.toNat ∧ ab1 6 t.toNat ≤ 5 from bxb1.2 6 (t.toNat)) (show ab1 6 (t.toNat) = a 6 (t.toNat) from congrFun (fpb1.2 6 rfl) (t.toNat)) (fun ra1 ae1 => ?_)
        refine x_st (st2 := [.int (iI (a 6 t.toNat))]) (congrArg (fun z => Value.int (iI z) :: []) (congrFun (fpb1.2 6 rfl) (t.toNat))) ?_
        refine x_iconst C dX12_gatherSigns_126 ?_
        have J1 : ∀ (vb2 : Nat → Int) (ab2 : Nat → Nat → Int), BX vb2 ab2 → fr [66] [65, 70] v a vb2 ab2 → mx p l e (rmq 1 1 256) s m args below meth c G A 8 (MQ below (Qm G A (fun rq Lq Eq => ∃ (vq : Nat → Int) (aq : Nat → Nat → Int), mI G h0 ad ln vq aq Lq Eq ∧ (fun r v2 a2 => r = none ∧ fr [66] [65, 70] v a v2 a2 ∧ BX v2 a2 ∧ (True)) rq vq aq)) args s 1 256 A) bb 256 true h0 ad ln vb2 ab2 (0 + 1) (0 + 256) 140 [(3, .int (iI pt)), (2, .ref bb), (0, .ref h0), (1, .int (iI t))] [] := by
          intro  vb2 ab2 bxb2 fpb2 
          refine x_aload_n (j := 2) C dX12_gatherSigns_140 rfl ?_
          refine x_iconst C dX12_gatherSigns_141 ?_
          refine x_put (k := 66) (z := 0) C dX12_gatherSigns_142 w6_125 (by decide) rfl rfl rfl ?_
          refine hv2 (show BX (va_up vb2 66 0) ab2 from bxb2.put (k := 66) (z := 0) ⟨by decide, by decide⟩) (fpb2.put (k := 66) (z := 0) rfl) (fun bq1 fq1 => ?_)
          refine x_iconst C dX12_gatherSigns_145 ?_
          refine x_istore_n (lv2 := [(3, .int (iI 0)), (2, .ref bb), (0, .ref h0), (1, .int (iI t))]) C dX12_gatherSigns_146 (by decide) rfl ?_
          have Lp2 : ∀ (nn : Nat) (k1 : Int) (vb3 : Nat → Int) (ab3 : Nat → Nat → Int), 257 - k1 < (nn : Int) → BX vb3 ab3 → fr [66] [65, 70] v a vb3 ab3 → (0 ≤ k1 ∧ k1 ≤ 256) → (vb3 66 ≤ k1) → mx p l e (rmq 1 1 256) s m args below meth c G A 8 (MQ below (Qm G A (fun rq Lq Eq => ∃ (vq : Nat → Int) (aq : Nat → Nat → Int), mI G h0 ad ln vq aq Lq Eq ∧ (fun r v2 a2 => r = none ∧ fr [66] [65, 70] v a v2 a2 ∧ BX v2 a2 ∧ (True)) rq vq aq)) args s 1 256 A) bb 256 true h0 ad ln vb3 ab3 (0 + 1) (0 + 256) 147 [(3, .int (iI k1)), (2, .ref bb), (0, .ref h0), (1, .int (iI t))] [] := by
            intro nn
            induction nn with
            | zero =>
              intro k1 vb3 ab3 hm bxb3 fpb3 hk1 h66
              exact absurd hm (by omega)
            | succ nn ih2 =>
              intro k1 vb3 ab3 hm bxb3 fpb3 hk1 h66
              refine x_iload_n (j := 0) C dX12_gatherSigns_147 rfl ?_
              refine x_sipush (z := 256) C dX12_gatherSigns_148 (by decide) ?_
              refine x_icmp_ge (tgt := 189) C (r32_c (lo := 0) (hi := 256) hk1.1 hk1.2 (by decide) (by decide)) ⟨by decide, by decide⟩ dX12_gatherSigns_151 (by decide) (fun c2 => ?_) (fun c2 => ?_)
              · exact x_vret C dX12_gatherSigns_189 rfl (Nat.le_of_ble_eq_true rfl) (Nat.le_of_ble_eq_true rfl) ⟨rfl, fpb3, bxb3, trivial⟩
              · refine x_aload_n (j := 1) C dX12_gatherSigns_154 rfl ?_
                refine x_iload_n (j := 0) C dX12_gatherSigns_155 rfl ?_
                refine x_lzald C dX12_gatherSigns_156 rfl (by omega) (by omega) (by decide) ?_
                have ra2 : (-2147483648) ≤ ab3 70 k1.toNat ∧ ab3 70 k1.toNat ≤ 2147483647 := bxb3.2 70 (k1.toNat)
                refine x_if_ne (tgt := 163) C (r32_c (lo := (-2147483648)) (hi := 2147483647) ra2.1 ra2.2 (by decide) (by decide)) dX12_gatherSigns_157 (by decide) (fun c3 => ?_) (fun c3 => ?_)
                · refine x_aload_n (j := 2) C dX12_gatherSigns_163 rfl ?_
                  refine x_geta (k := 65) C dX12_gatherSigns_164 w6_124 (by decide) rfl ?_
                  refine x_aload_n (j := 2) C dX12_gatherSigns_167 rfl ?_
                  have rv1 : 0 ≤ vb3 66 ∧ vb3 66 ≤ 256 := bxb3.1 66
                  refine x_get (k := 66) C dX12_gatherSigns_168 w6_125 (by decide) rfl ?_
                  refine x_iload_n (j := 0) C dX12_gatherSigns_171 rfl ?_
                  refine x_ast (k := 65) C dX12_gatherSigns_172 rfl rfl (by decide) (by omega) (by show _ < ((_ : Nat) : Int); simp only [mlen]; omega) (by decide) ?_
                  refine hv2 (show BX vb3 (up2 ab3 65 (vb3 66).toNat k1) from bxb3.set (k := 65) (i := (vb3 66).toNat) (z := k1) (show 0 ≤ k1 ∧ k1 ≤ 255 by omega)) (fpb3.set (k := 65) (i := (vb3 66).toNat) (z := k1) rfl) (fun bq2 fq2 => ?_)
                  refine x_aload_n (j := 2) C dX12_gatherSigns_173 rfl ?_
                  refine x_dup C dX12_gatherSigns_174 rfl ?_
                  refine x_get (k := 66) C dX12_gatherSigns_175 w6_125 (by decide) rfl ?_
                  refine x_iconst C dX12_gatherSigns_178 ?_
                  refine x_iadd C dX12_gatherSigns_179 ?_
                  refine x_put (k := 66) (z := (vb3 66) + 1) C dX12_gatherSigns_180 w6_125 (by decide) rfl rfl rfl ?_
                  refine hv2 (show BX (va_up vb3 66 ((vb3 66) + 1)) (up2 ab3 65 (vb3 66).toNat k1) from bq2.put (k := 66) (z := (vb3 66) + 1) (show 0 ≤ ((vb3 66) + 1) ∧ ((vb3 66) + 1) ≤ 256 by omega)) (fq2.put (k := 66) (z := (vb3 66) + 1) rfl) (fun bq3 fq3 => ?_)
                  refine x_iinc (z := k1) (j := 0) (lv2 := [(3, .int (iI (k1 + 1))), (2, .ref bb), (0, .ref h0), (1, .int (iI t))]) C dX12_gatherSigns_183 rfl (by decide) rfl ?_
                  refine x_goto (tgt := 147) C dX12_gatherSigns_186 (by decide) ?_
                  refine x_lv (lv2 := [(3, .int (iI (k1 + 1))), (2, .ref bb), (0, .ref h0), (1, .int (iI t))]) [0, 1, 2, 3] rfl ?_
                  exact ih2  (k1 + 1) _ _ (by omega) bq3 fq3 (by omega) (by show ((vb3 66) + 1) ≤ (k1 + 1); omega)
                · refine x_goto (tgt := 183) C dX12_gatherSigns_160 (by decide) ?_
                  refine x_iinc (z := k1) (j := 0) (lv2 := [(3, .int (iI (k1 + 1))), (2, .ref bb), (0, .ref h0), (1, .int (iI t))]) C dX12_gatherSigns_183 rfl (by decide) rfl ?_
                  refine x_goto (tgt := 147) C dX12_gatherSigns_186 (by decide) ?_
                  have rv2 : 0 ≤ vb3 66 ∧ vb3 66 ≤ 256 := bxb3.1 66
                  refine x_lv (lv2 := [(3, .int (iI (k1 + 1))), (2, .ref bb), (0, .ref h0), (1, .int (iI t))]) [0, 1, 2, 3] rfl ?_
                  exact ih2  (k1 + 1) _ _ (by omega) bxb3 fpb3 (by omega) (by show (vb3 66) ≤ (k1 + 1); omega)
          refine x_lv (lv2 := [(3, .int (iI 0)), (2, .ref bb), (0, .ref h0), (1, .int (iI t))]) [0, 1, 2, 3] rfl ?_
          exact Lp2 258 0 _ _ (by omega) bq1 fq1 (by omega) (by show 0 ≤ 0; omega)
        refine x_icmp_ne (tgt := 140) C ⟨by omega, by omega⟩ ⟨by decide, by decide⟩ dX12_gatherSigns_127 (by decide) (fun c4 => ?_) (fun c4 => ?_)
        · refine x_lv (lv2 := [(3, .int (iI pt)), (2, .ref bb), (0, .ref h0), (1, .int (iI t))]) [0, 1, 2, 3] rfl ?_
          exact J1   _ _  bxb1 fpb1 
        · refine x_aload_n (j := 1) C dX12_gatherSigns_130 rfl ?_
          refine x_bipush (z := 60) C dX12_gatherSigns_131 (by decide) ?_
          refine x_iconst C dX12_gatherSigns_133 ?_
          refine x_lzast (w := 1) C dX12_gatherSigns_134 rfl (by omega) (by omega) (by decide) (by omega) ?_
          refine hv2 (show BX vb1 (up2 ab1 70 (60 : Int).toNat 1) from bxb1.set (k := 70) (i := (60 : Int).toNat) (z := 1) ⟨by decide, by decide⟩) (fpb1.set (k := 70) (i := (60 : Int).toNat) (z := 1) rfl) (fun bq4 fq4 => ?_)
          refine x_aload_n (j := 1) C dX12_gatherSigns_135 rfl ?_
          refine x_bipush (z := 62) C dX12_gatherSigns_136 (by decide) ?_
          refine x_iconst C dX12_gatherSigns_138 ?_
          refine x_lzast (w := 1) C dX12_gatherSigns_139 rfl (by omega) (by omega) (by decide) (by omega) ?_
          refine hv2 (show BX vb1 (up2 (up2 ab1 70 (60 : Int).toNat 1) 70 (62 : Int).toNat 1) from bq4.set (k := 70) (i := (62 : Int).toNat) (z := 1) ⟨by decide, by decide⟩) (fq4.set (k := 70) (i := (62 : Int).toNat) (z := 1) rfl) (fun bq5 fq5 => ?_)
          refine x_lv (lv2 := [(3, .int (iI pt)), (2, .ref bb), (0, .ref h0), (1, .int (iI t))]) [0, 1, 2, 3] rfl ?_
          exact J1   _ _  bq5 fq5 
      · refine x_sipush (z := 6008) C dX12_gatherSigns_13 (by decide) ?_
        refine x_iload_n (j := 0) C dX12_gatherSigns_16 rfl ?_
        refine x_imul C dX12_gatherSigns_17 ?_
        refine x_istore (lv2 := [(4, .int (iI (6008 * pt))), (3, .int (iI pt)), (2, .ref bb), (0, .ref h0), (1, .int (iI t))]) C dX12_gatherSigns_18 (by decide) rfl ?_
        have Lp3 : ∀ (nn : Nat) (r : Int) (vb4 : Nat → Int) (ab4 : Nat → Nat → Int), 6008 * pt + 6009 - r < (nn : Int) → BX vb4 ab4 → fr [66] [65, 70] v a vb4 ab4 → (6008 * pt ≤ r ∧ r ≤ 6008 * pt + 6008) → mx p l e (rmq 1 1 256) s m args below meth c G A 8 (MQ below (Qm G A (fun rq Lq Eq => ∃ (vq : Nat → Int) (aq : Nat → Nat → Int), mI G h0 ad ln vq aq Lq Eq ∧ (fun r v2 a2 => r = none ∧ fr [66] [65, 70] v a v2 a2 ∧ BX v2 a2 ∧ (True)) rq vq aq)) args s 1 256 A) bb 256 true h0 ad ln vb4 ab4 (0 + 1) (0 + 256) 20 [(4, .int (iI r)), (3, .int (iI pt)), (2, .ref bb), (0, .ref h0), (1, .int (iI t))] [] := by
          intro nn
          induction nn with
          | zero =>
            intro r vb4 ab4 hm bxb4 fpb4 hr
            exact absurd hm (by omega)
          | succ nn ih3 =>
            intro r vb4 ab4 hm bxb4 fpb4 hr
            refine x_iload (j := 0) C dX12_gatherSigns_20 rfl ?_
            refine x_sipush (z := 6008) C dX12_gatherSigns_22 (by decide) ?_
            refine x_iload_n (j := 1) C dX12_gatherSigns_25 rfl ?_
            refine x_imul C dX12_gatherSigns_26 ?_
            refine x_aload_n (j := 3) C dX12_gatherSigns_27 rfl ?_
            refine x_geta (k := 47) C dX12_gatherSigns_28 w6_106 (by decide) rfl ?_
            refine x_iload_n (j := 1) C dX12_gatherSigns_31 rfl ?_
            refine x_ald (k := 47) C dX12_gatherSigns_32 rfl rfl (by decide) (by omega) (by show _ < ((_ : Nat) : Int); simp only [mlen]; omega) (by decide) ?_
            refine hv2 (show 0 ≤ ab4 47 pt.toNat ∧ ab4 47 pt.toNat ≤ 6008 from bxb4.2 47 (pt.toNat)) (show ab4 47 (pt.toNat) = a 47 (pt.toNat) from congrFun (fpb4.2 47 rfl) (pt.toNat)) (fun ra3 ae2 => ?_)
            refine x_st (st2 := [.int (iI (a 47 pt.toNat)), .int (iI (6008 * pt)), .int (iI r)]) (congrArg (fun z => Value.int (iI z) :: [.int (iI (6008 * pt)), .int (iI r)]) (congrFun (fpb4.2 47 rfl) (pt.toNat))) ?_
            refine x_iadd C dX12_gatherSigns_33 ?_
            refine x_icmp_ge (tgt := 114) C ⟨by omega, by omega⟩ ⟨by omega, by omega⟩ dX12_gatherSigns_34 (by decide) (fun c5 => ?_) (fun c5 => ?_)
            · refine x_iinc (z := pt) (j := 1) (lv2 := [(3, .int (iI (pt + 1))), (4, .int (iI r)), (2, .ref bb), (0, .ref h0), (1, .int (iI t))]) C dX12_gatherSigns_114 rfl (by decide) rfl ?_
              refine x_goto (tgt := 8) C dX12_gatherSigns_117 (by decide) ?_
              refine x_lv (lv2 := [(3, .int (iI (pt + 1))), (2, .ref bb), (0, .ref h0), (1, .int (iI t))]) [0, 2, 3, 4] rfl ?_
              exact ih1  (pt + 1) _ _ (by omega) bxb4 fpb4 (by omega)
            · refine x_aload_n (j := 3) C dX12_gatherSigns_37 rfl ?_
              refine x_geta (k := 44) C dX12_gatherSigns_38 w6_103 (by decide) rfl ?_
              refine x_iload (j := 0) C dX12_gatherSigns_41 rfl ?_
              refine x_ald (k := 44) C dX12_gatherSigns_43 rfl rfl (by decide) (by omega) (by show _ < ((_ : Nat) : Int); simp only [mlen]; omega) (by decide) ?_
              refine hv2 (show (-4) ≤ ab4 44 r.toNat ∧ ab4 44 r.toNat ≤ 5999 from bxb4.2 44 (r.toNat)) (show ab4 44 (r.toNat) = a 44 (r.toNat) from congrFun (fpb4.2 44 rfl) (r.toNat)) (fun ra4 ae3 => ?_)
              refine x_st (st2 := [.int (iI (a 44 r.toNat))]) (congrArg (fun z => Value.int (iI z) :: []) (congrFun (fpb4.2 44 rfl) (r.toNat))) ?_
              refine x_istore (lv2 := [(5, .int (iI (a 44 r.toNat))), (4, .int (iI r)), (3, .int (iI pt)), (2, .ref bb), (0, .ref h0), (1, .int (iI t))]) C dX12_gatherSigns_44 (by decide) rfl ?_
              refine x_iconst C dX12_gatherSigns_46 ?_
              refine x_istore (lv2 := [(6, .int (iI 0)), (5, .int (iI (a 44 r.toNat))), (4, .int (iI r)), (3, .int (iI pt)), (2, .ref bb), (0, .ref h0), (1, .int (iI t))]) C dX12_gatherSigns_47 (by decide) rfl ?_
              have Lp4 : ∀ (nn : Nat) (k : Int) (vb5 : Nat → Int) (ab5 : Nat → Nat → Int), 9 - k < (nn : Int) → BX vb5 ab5 → fr [66] [65, 70] v a vb5 ab5 → (0 ≤ k ∧ k ≤ 8) → mx p l e (rmq 1 1 256) s m args below meth c G A 8 (MQ below (Qm G A (fun rq Lq Eq => ∃ (vq : Nat → Int) (aq : Nat → Nat → Int), mI G h0 ad ln vq aq Lq Eq ∧ (fun r v2 a2 => r = none ∧ fr [66] [65, 70] v a v2 a2 ∧ BX v2 a2 ∧ (True)) rq vq aq)) args s 1 256 A) bb 256 true h0 ad ln vb5 ab5 (0 + 1) (0 + 256) 49 [(6, .int (iI k)), (5, .int (iI (a 44 r.toNat))), (4, .int (iI r)), (3, .int (iI pt)), (2, .ref bb), (0, .ref h0), (1, .int (iI t))] [] := by
                intro nn
                induction nn with
                | zero =>
                  intro k vb5 ab5 hm bxb5 fpb5 hk
                  exact absurd hm (by omega)
                | succ nn ih4 =>
                  intro k vb5 ab5 hm bxb5 fpb5 hk
                  refine x_iload (j := 1) C dX12_gatherSigns_49 rfl ?_
                  refine x_if_lt (tgt := 108) C ⟨by omega, by omega⟩ dX12_gatherSigns_51 (by decide) (fun c6 => ?_) (fun c6 => ?_)
                  · refine x_iinc (z := r) (j := 2) (lv2 := [(4, .int (iI (r + 1))), (6, .int (iI k)), (5, .int (iI (a 44 r.toNat))), (3, .int (iI pt)), (2, .ref bb), (0, .ref h0), (1, .int (iI t))]) C dX12_gatherSigns_108 rfl (by decide) rfl ?_
                    refine x_goto (tgt := 20) C dX12_gatherSigns_111 (by decide) ?_
                    refine x_lv (lv2 := [(4, .int (iI (r + 1))), (3, .int (iI pt)), (2, .ref bb), (0, .ref h0), (1, .int (iI t))]) [0, 3, 4, 5, 6] rfl ?_
                    exact ih3  (r + 1) _ _ (by omega) bxb5 fpb5 (by omega)
                  · refine x_iload (j := 0) C dX12_gatherSigns_54 rfl ?_
                    refine x_aload_n (j := 5) C dX12_gatherSigns_56 rfl ?_
                    refine x_geta (k := 12) C dX12_gatherSigns_57 w6_71 (by decide) rfl ?_
                    refine x_iload (j := 1) C dX12_gatherSigns_60 rfl ?_
                    refine x_ald (k := 12) C dX12_gatherSigns_62 rfl rfl (by decide) (by omega) (by show _ < ((_ : Nat) : Int); simp only [mlen]; omega) (by decide) ?_
                    refine hv2 (show 0 ≤ ab5 12 (a 44 r.toNat).toNat ∧ ab5 12 (a 44 r.toNat).toNat ≤ 8 from bxb5.2 12 ((a 44 r.toNat).toNat)) (show ab5 12 ((a 44 r.toNat).toNat) = a 12 ((a 44 r.toNat).toNat) from congrFun (fpb5.2 12 rfl) ((a 44 r.toNat).toNat)) (fun ra5 ae4 => ?_)
                    refine x_st (st2 := [.int (iI (a 12 (a 44 r.toNat).toNat)), .int (iI k)]) (congrArg (fun z => Value.int (iI z) :: [.int (iI k)]) (congrFun (fpb5.2 12 rfl) ((a 44 r.toNat).toNat))) ?_
                    refine x_icmp_ge (tgt := 108) C (r32_c (lo := 0) (hi := 8) hk.1 hk.2 (by decide) (by decide)) ⟨by omega, by omega⟩ dX12_gatherSigns_63 (by decide) (fun c7 => ?_) (fun c7 => ?_)
                    · refine x_iinc (z := r) (j := 2) (lv2 := [(4, .int (iI (r + 1))), (6, .int (iI k)), (5, .int (iI (a 44 r.toNat))), (3, .int (iI pt)), (2, .ref bb), (0, .ref h0), (1, .int (iI t))]) C dX12_gatherSigns_108 rfl (by decide) rfl ?_
                      refine x_goto (tgt := 20) C dX12_gatherSigns_111 (by decide) ?_
                      refine x_lv (lv2 := [(4, .int (iI (r + 1))), (3, .int (iI pt)), (2, .ref bb), (0, .ref h0), (1, .int (iI t))]) [0, 3, 4, 5, 6] rfl ?_
                      exact ih3  (r + 1) _ _ (by omega) bxb5 fpb5 (by omega)
                    · refine x_aload_n (j := 5) C dX12_gatherSigns_66 rfl ?_
                      refine x_geta (k := 14) C dX12_gatherSigns_67 w6_73 (by decide) rfl ?_
                      refine x_bipush (z := 8) C dX12_gatherSigns_70 (by decide) ?_
                      refine x_iload (j := 1) C dX12_gatherSigns_72 rfl ?_
                      refine x_imul C dX12_gatherSigns_74 ?_
                      refine x_iload (j := 0) C dX12_gatherSigns_75 rfl ?_
                      refine x_iadd C dX12_gatherSigns_77 ?_
                      refine x_ald (k := 14) C dX12_gatherSigns_78 rfl rfl (by decide) (by omega) (by show _ < ((_ : Nat) : Int); simp only [mlen]; omega) (by decide) ?_
                      refine hv2 (show 0 ≤ ab5 14 ((8 * (a 44 r.toNat)) + k).toNat ∧ ab5 14 ((8 * (a 44 r.toNat)) + k).toNat ≤ 125 from bxb5.2 14 (((8 * (a 44 r.toNat)) + k).toNat)) (show ab5 14 (((8 * (a 44 r.toNat)) + k).toNat) = a 14 (((8 * (a 44 r.toNat)) + k).toNat) from congrFun (fpb5.2 14 rfl) (((8 * (a 44 r.toNat)) + k).toNat)) (fun ra6 ae5 => ?_)
                      refine x_st (st2 := [.int (iI (a 14 ((8 * (a 44 r.toNat)) + k).toNat))]) (congrArg (fun z => Value.int (iI z) :: []) (congrFun (fpb5.2 14 rfl) (((8 * (a 44 r.toNat)) + k).toNat))) ?_
                      refine x_istore (lv2 := [(7, .int (iI (a 14 ((8 * (a 44 r.toNat)) + k).toNat))), (6, .int (iI k)), (5, .int (iI (a 44 r.toNat))), (4, .int (iI r)), (3, .int (iI pt)), (2, .ref bb), (0, .ref h0), (1, .int (iI t))]) C dX12_gatherSigns_79 (by decide) rfl ?_
                      refine x_aload_n (j := 5) C dX12_gatherSigns_81 rfl ?_
                      refine x_iload (j := 0) C dX12_gatherSigns_82 rfl ?_
                      refine x_iconst C dX12_gatherSigns_84 ?_
                      refine x_lzast (w := 1) C dX12_gatherSigns_85 rfl (by omega) (by omega) (by decide) (by omega) ?_
                      refine hv2 (show BX vb5 (up2 ab5 70 (a 14 ((8 * (a 44 r.toNat)) + k).toNat).toNat 1) from bxb5.set (k := 70) (i := (a 14 ((8 * (a 44 r.toNat)) + k).toNat).toNat) (z := 1) ⟨by decide, by decide⟩) (fpb5.set (k := 70) (i := (a 14 ((8 * (a 44 r.toNat)) + k).toNat).toNat) (z := 1) rfl) (fun bq6 fq6 => ?_)
                      refine x_iload (j := 0) C dX12_gatherSigns_86 rfl ?_
                      refine x_callS (As := [.int (iI (a 14 ((8 * (a 44 r.toNat)) + k).toNat))]) (rest := []) C (fun L E => s_isSmall (iI (a 14 ((8 * (a 44 r.toNat)) + k).toNat))) dX12_gatherSigns_88 kS_X12_208 rfl rfl (Nat.le_of_ble_eq_true rfl) ⟨Nat.le_of_ble_eq_true rfl, Nat.le_of_ble_eq_true rfl⟩ ⟨Nat.le_of_ble_eq_true rfl, Nat.le_of_ble_eq_true rfl⟩ ?_
                      rcases inn_c (x := a 14 ((8 * (a 44 r.toNat)) + k).toNat) (lo := 97) (hi := 122) ⟨by omega, by omega⟩ ⟨by decide, by decide⟩ ⟨by decide, by decide⟩ with ⟨h1a, h1b, h1e⟩ | ⟨h1a, h1e⟩
                      · refine x_st (st2 := [.int (iI 1)]) (by rw [show inn (iI (a 14 ((8 * (a 44 r.toNat)) + k).toNat)) 97 122 = iI 1 from h1e]) ?_
                        refine x_if_eq (tgt := 102) C ⟨by decide, by decide⟩ dX12_gatherSigns_91 (by decide) (fun z => absurd z (by omega)) (fun _ => ?_)
                        refine x_aload_n (j := 5) C dX12_gatherSigns_94 rfl ?_
                        refine x_iload (j := 0) C dX12_gatherSigns_95 rfl ?_
                        refine x_bipush (z := 32) C dX12_gatherSigns_97 (by decide) ?_
                        refine x_isub C dX12_gatherSigns_99 ?_
                        refine x_iconst C dX12_gatherSigns_100 ?_
                        refine x_lzast (w := 1) C dX12_gatherSigns_101 rfl (by omega) (by omega) (by decide) (by omega) ?_
                        refine hv2 (show BX vb5 (up2 (up2 ab5 70 (a 14 ((8 * (a 44 r.toNat)) + k).toNat).toNat 1) 70 ((a 14 ((8 * (a 44 r.toNat)) + k).toNat) - 32).toNat 1) from bq6.set (k := 70) (i := ((a 14 ((8 * (a 44 r.toNat)) + k).toNat) - 32).toNat) (z := 1) ⟨by decide, by decide⟩) (fq6.set (k := 70) (i := ((a 14 ((8 * (a 44 r.toNat)) + k).toNat) - 32).toNat) (z := 1) rfl) (fun bq7 fq7 => ?_)
                        refine x_iinc (z := k) (j := 1) (lv2 := [(6, .int (iI (k + 1))), (7, .int (iI (a 14 ((8 * (a 44 r.toNat)) + k).toNat))), (5, .int (iI (a 44 r.toNat))), (4, .int (iI r)), (3, .int (iI pt)), (2, .ref bb), (0, .ref h0), (1, .int (iI t))]) C dX12_gatherSigns_102 rfl (by decide) rfl ?_
                        refine x_goto (tgt := 49) C dX12_gatherSigns_105 (by decide) ?_
                        refine x_lv (lv2 := [(6, .int (iI (k + 1))), (5, .int (iI (a 44 r.toNat))), (4, .int (iI r)), (3, .int (iI pt)), (2, .ref bb), (0, .ref h0), (1, .int (iI t))]) [0, 2, 3, 4, 5, 6, 7] rfl ?_
                        exact ih4  (k + 1) _ _ (by omega) bq7 fq7 (by omega)
                      · refine x_st (st2 := [.int (iI 0)]) (by rw [show inn (iI (a 14 ((8 * (a 44 r.toNat)) + k).toNat)) 97 122 = iI 0 from h1e]) ?_
                        refine x_if_eq (tgt := 102) C ⟨by decide, by decide⟩ dX12_gatherSigns_91 (by decide) (fun _ => ?_) (fun z => absurd z (by omega))
                        refine x_iinc (z := k) (j := 1) (lv2 := [(6, .int (iI (k + 1))), (7, .int (iI (a 14 ((8 * (a 44 r.toNat)) + k).toNat))), (5, .int (iI (a 44 r.toNat))), (4, .int (iI r)), (3, .int (iI pt)), (2, .ref bb), (0, .ref h0), (1, .int (iI t))]) C dX12_gatherSigns_102 rfl (by decide) rfl ?_
                        refine x_goto (tgt := 49) C dX12_gatherSigns_105 (by decide) ?_
                        refine x_lv (lv2 := [(6, .int (iI (k + 1))), (5, .int (iI (a 44 r.toNat))), (4, .int (iI r)), (3, .int (iI pt)), (2, .ref bb), (0, .ref h0), (1, .int (iI t))]) [0, 2, 3, 4, 5, 6, 7] rfl ?_
                        exact ih4  (k + 1) _ _ (by omega) bq6 fq6 (by omega)
              refine x_lv (lv2 := [(6, .int (iI 0)), (5, .int (iI (a 44 r.toNat))), (4, .int (iI r)), (3, .int (iI pt)), (2, .ref bb), (0, .ref h0), (1, .int (iI t))]) [0, 1, 2, 3, 4, 5, 6] rfl ?_
              exact Lp4 10 0 _ _ (by omega) bxb4 fpb4 (by omega)
        refine x_lv (lv2 := [(4, .int (iI (6008 * pt))), (3, .int (iI pt)), (2, .ref bb), (0, .ref h0), (1, .int (iI t))]) [0, 1, 2, 3, 4] rfl ?_
        exact Lp3 6010 (6008 * pt) _ _ (by omega) bxb1 fpb1 (by omega)
  refine x_lv (lv2 := [(3, .int (iI 0)), (2, .ref bb), (0, .ref h0), (1, .int (iI t))]) [0, 1, 2, 3] rfl ?_
  exact Lp1 4 0 _ _ (by omega) bnw1 fqw1 (by omega)
end
section
def Mn (l : Launch) (G : GT) (y : MethodName) (cc : ByteArray) (n : Nat) (ret : Option FieldType) (d : Nat) (As : List Value) (h0 : Nat) (ad ln : Nat → Nat) (v : Nat → Int) (a : Nat → Nat → Int) (mc ms : Nat) (Post : Option Value → (Nat → Nat) → (Nat → Int) → (Nat → Nat → Int) → Prop) : Prop := ∀ (L : List Nat) (E : Nat → va_E), mI G h0 ad ln v a L E → Mq l G y cc n ret d (.ref h0 :: As) L E mc ms (fun r L2 E2 => ∃ (ad2 ln2 : Nat → Nat) (v2 : Nat → Int) (a2 : Nat → Nat → Int), mI G h0 ad2 ln2 v2 a2 L2 E2 ∧ Post r ln2 v2 a2)
section MQ4
variable {p : Program} {l : Launch} {e : Env} {R : Room} {s : State} {m : MethodId} {args : Array Value} {below : List Frame} {meth : Method} {c : Code} {cc : ByteArray} {y : MethodName} {ret : Option FieldType} {G : GT} {A : Nat → Prop} {nL mc ms : Nat} {Q : State → Prop} {Post : Option Value → (Nat → Nat) → (Nat → Int) → (Nat → Nat → Int) → Prop} {h0 : Nat} {ad ln : Nat → Nat} {v : Nat → Int} {a : Nat → Nat → Int} {kc ks pc : Nat} {lv : List (Nat × Value)} {st : List Value}
theorem n_iret (C : Cq p s m args meth c cc y ret G A nL) {z : Int} (d : decode cc pc = .ok (.ireturn, 1)) (hr : ret = some .int) (h1 : kc ≤ mc) (h2 : ks ≤ ms) (hp : Post (some (.int (iI z))) ln v a) : mw p l e R s m args below meth c G A nL (MQ below (Qm G A (fun r L2 E2 => ∃ (ad2 ln2 : Nat → Nat) (v2 : Nat → Int) (a2 : Nat → Nat → Int), mI G h0 ad2 ln2 v2 a2 L2 E2 ∧ Post r ln2 v2 a2)) args s mc ms A) h0 ad ln v a kc ks pc lv [.int (iI z)] := fun L E h => q_iret C d hr h1 h2 ⟨ad, ln, v, a, h, hp⟩
theorem n_vret (C : Cq p s m args meth c cc y ret G A nL) (d : decode cc pc = .ok (.return_, 1)) (hr : ret = none) (h1 : kc ≤ mc) (h2 : ks ≤ ms) (hp : Post none ln v a) : mw p l e R s m args below meth c G A nL (MQ below (Qm G A (fun r L2 E2 => ∃ (ad2 ln2 : Nat → Nat) (v2 : Nat → Int) (a2 : Nat → Nat → Int), mI G h0 ad2 ln2 v2 a2 L2 E2 ∧ Post r ln2 v2 a2)) args s mc ms A) h0 ad ln v a kc ks pc lv [] := fun L E h => q_vret C d hr h1 h2 ⟨ad, ln, v, a, h, hp⟩
theorem Mn.mk {n d : Nat} {As : List Value} (hy : plainName y.cls = true) (hn : (lg_sl (.ref h0 :: As)).length ≤ n) (body : ∀ (p : Program) (e : Env) (s : State) (m : MethodId) (args : Array Value) (below : List Frame) (meth : Method) (c : Code) (A : Nat → Prop), Cq p s m args meth c cc y ret G A n → mw p l e (rmq d mc ms) s m args below meth c G A n (MQ below (Qm G A (fun r L2 E2 => ∃ (ad2 ln2 : Nat → Nat) (v2 : Nat → Int) (a2 : Nat → Nat → Int), mI G h0 ad2 ln2 v2 a2 L2 E2 ∧ Post r ln2 v2 a2)) args s mc ms A) h0 ad ln v a 0 0 0 (lv_args 0 (.ref h0 :: As)) []) : Mn l G y cc n ret d As h0 ad ln v a mc ms Post := fun L E h => Mq.mk hy hn (fun p e s m args below meth c A C => body p e s m args below meth c A C L E h)
theorem n_call (C : Cq p s m args meth c cc y ret G A nL) {y2 : MethodName} {cc2 : ByteArray} {n2 d2 mc2 ms2 idx k2 : Nat} {ret2 : Option FieldType} {P2 : Option Value → (Nat → Nat) → (Nat → Int) → (Nat → Nat → Int) → Prop} {As rest : List Value} (M : Mn l G y2 cc2 n2 ret2 d2 As h0 ad ln v a mc2 ms2 P2) (d : decode cc pc = .ok (.invokevirtual idx, 3)) (hw : Wv y.cls idx y2 cc2 n2 ret2 k2) (hk : As.length = k2) (ck : Ck 13 y2.cls TX12 67 tyX12) (hst : st = As.reverse ++ .ref h0 :: rest) (hcat : (rest.map fun v => v.category).sum ≤ 8) (hR : d2 + 1 ≤ R.frames ∧ 8 + (n2 + 11) + 64 * d2 ≤ R.locals) (hf : kc + mc2 ≤ R.cells ∧ ks + ms2 ≤ R.slots) (kk : ∀ (r : Option Value) (ad2 ln2 : Nat → Nat) (v2 : Nat → Int) (a2 : Nat → Nat → Int), P2 r ln2 v2 a2 → mw p l e R s m args below meth c G A nL Q h0 ad2 ln2 v2 a2 (kc + mc2) (ks + ms2) (pc + 3) lv (r.toList ++ rest)) : mw p l e R s m args below meth c G A nL Q h0 ad ln v a kc ks pc lv st := fun L E h => q_callV C (M L E h) d hw hk h.1 h.2.1 ck hst hcat hR hf (fun r L2 E2 ⟨ad2, ln2, v2, a2, h2, hp⟩ => kk r ad2 ln2 v2 a2 hp L2 E2 h2)
end MQ4
theorem push4 {a : Nat → Nat → Int} {n x t y z : Int} (h : 0 ≤ n) : (∀ j : Nat, (j : Int) < n → up2 (up2 (up2 (up2 a 18 n.toNat x) 18 (n + 1).toNat t) 18 (n + 2).toNat y) 18 (n + 3).toNat z 18 j = a 18 j) ∧ up2 (up2 (up2 (up2 a 18 n.toNat x) 18 (n + 1).toNat t) 18 (n + 2).toNat y) 18 (n + 3).toNat z 18 n.toNat = x ∧ up2 (up2 (up2 (up2 a 18 n.toNat x) 18 (n + 1).toNat t) 18 (n + 2).toNat y) 18 (n + 3).toNat z 18 (n + 1).toNat = t ∧ up2 (up2 (up2 (up2 a 18 n.toNat x) 18 (n + 1).toNat t) 18 (n + 2).toNat y) 18 (n + 3).toNat z 18 (n + 2).toNat = y ∧ up2 (up2 (up2 (up2 a 18 n.toNat x) 18 (n + 1).toNat t) 18 (n + 2).toNat y) 18 (n + 3).toNat z 18 (n + 3).toNat = z := by
  refine ⟨fun j hj => ?_, ?_, ?_, ?_, up2_s⟩
  · rw [up2_j (by omega), up2_j (by omega), up2_j (by omega), up2_j (by omega)]
  · rw [up2_j (by omega), up2_j (by omega), up2_j (by omega), up2_s]
  · rw [up2_j (by omega), up2_j (by omega), up2_s]
  · rw [up2_j (by omega), up2_s]
def ent (k t y T : Int) (R : Nat → Int) (T0 : Int) (R0 : Nat → Int) : Prop := (k = 0 ∧ 1 ≤ T ∧ T0 = T - 1 ∧ R0 = R) ∨ (k = 1 ∧ (0 ≤ t ∧ t < T) ∧ T0 = T ∧ R0 = R) ∨ (k = 2 ∧ (0 ≤ t ∧ t < T) ∧ 1 ≤ R t.toNat ∧ T0 = T ∧ R0 = fun j => if j = t.toNat then R j - 1 else R j) ∨ (k = 3 ∧ (0 ≤ t ∧ t < T) ∧ (0 ≤ y ∧ y < R t.toNat) ∧ T0 = T ∧ R0 = R) ∨ (k = 4 ∧ (0 ≤ t ∧ t < 4 * T) ∧ (0 ≤ y ∧ y ≤ 4) ∧ T0 = T ∧ R0 = R)
theorem ent.e0 {k t y T T0 : Int} {R R0 : Nat → Int} (h : ent k t y T R T0 R0) (hk : k = 0) : 1 ≤ T ∧ T0 = T - 1 ∧ R0 = R := by rcases h with q | q | q | q | q <;> first | exact q.2 | exact absurd q.1 (by omega)
theorem ent.e1 {k t y T T0 : Int} {R R0 : Nat → Int} (h : ent k t y T R T0 R0) (hk : k = 1) : (0 ≤ t ∧ t < T) ∧ T0 = T ∧ R0 = R := by rcases h with q | q | q | q | q <;> first | exact q.2 | exact absurd q.1 (by omega)
theorem ent.e2 {k t y T T0 : Int} {R R0 : Nat → Int} (h : ent k t y T R T0 R0) (hk : k = 2) : (0 ≤ t ∧ t < T) ∧ 1 ≤ R t.toNat ∧ T0 = T ∧ R0 = fun j => if j = t.toNat then R j - 1 else R j := by rcases h with q | q | q | q | q <;> first | exact q.2 | exact absurd q.1 (by omega)
theorem ent.e3 {k t y T T0 : Int} {R R0 : Nat → Int} (h : ent k t y T R T0 R0) (hk : k = 3) : (0 ≤ t ∧ t < T) ∧ (0 ≤ y ∧ y < R t.toNat) ∧ T0 = T ∧ R0 = R := by rcases h with q | q | q | q | q <;> first | exact q.2 | exact absurd q.1 (by omega)
theorem ent.e4 {k t y T T0 : Int} {R R0 : Nat → Int} (h : ent k t y T R T0 R0) (hk : k < 0 ∨ 3 < k) : k = 4 ∧ (0 ≤ t ∧ t < 4 * T) ∧ (0 ≤ y ∧ y ≤ 4) ∧ T0 = T ∧ R0 = R := by rcases h with q | q | q | q | q <;> first | exact absurd q.1 (by omega) | exact q
def stk (s : Nat → Int) : Nat → Int → (Nat → Int) → Prop
  | 0, T, _ => T = 0
  | n + 1, T, R => ∃ (T0 : Int) (R0 : Nat → Int), ent (s (4 * n)) (s (4 * n + 1)) (s (4 * n + 2)) T R T0 R0 ∧ stk s n T0 R0
theorem stk_R {s : Nat → Int} : ∀ (n : Nat) (T : Int) (R R2 : Nat → Int), (∀ j : Nat, (j : Int) < T → R j = R2 j) → stk s n T R → stk s n T R2 := by
  intro n
  induction n with
  | zero => intro T R R2 _ h; exact h
  | succ n ih =>
    intro T R R2 hR h
    obtain ⟨T0, R0, he, hs⟩ := h
    rcases he with ⟨q1, q2, rfl, rfl⟩ | ⟨q1, q2, rfl, rfl⟩ | ⟨q1, q2, q3, rfl, rfl⟩ | ⟨q1, q2, q3, rfl, rfl⟩ | ⟨q1, q2, q3, rfl, rfl⟩
    · exact ⟨_, R2, Or.inl ⟨q1, q2, rfl, rfl⟩, ih _ _ _ (fun j hj => hR j (by omega)) hs⟩
    · exact ⟨_, R2, Or.inr (Or.inl ⟨q1, q2, rfl, rfl⟩), ih _ _ _ hR hs⟩
    · refine ⟨_, _, Or.inr (Or.inr (Or.inl ⟨q1, q2, ?_, rfl, rfl⟩)), ih _ _ _ (fun j hj => ?_) hs⟩
      · rw [← hR _ (by omega)]; exact q3
      · show (if _ then R j - 1 else R j) = (if _ then R2 j - 1 else R2 j)
        rw [hR j hj]
    · exact ⟨_, R2, Or.inr (Or.inr (Or.inr (Or.inl ⟨q1, q2, by rw [← hR _ (by omega)]; exact q3, rfl, rfl⟩))), ih _ _ _ hR hs⟩
    · exact ⟨_, R2, Or.inr (Or.inr (Or.inr (Or.inr ⟨q1, q2, q3, rfl, rfl⟩))), ih _ _ _ hR hs⟩
theorem stk_s {s s2 : Nat → Int} : ∀ (n : Nat) (T : Int) (R : Nat → Int), (∀ j : Nat, j < 4 * n → s2 j = s j) → stk s n T R → stk s2 n T R := by
  intro n
  induction n with
  | zero => intro T R _ h; exact h
  | succ n ih =>
    intro T R hs h
    obtain ⟨T0, R0, he, hk⟩ := h
    refine ⟨T0, R0, ?_, ih _ _ (fun j hj => hs j (by omega)) hk⟩
    rw [hs (4 * n) (by omega), hs (4 * n + 1) (by omega), hs (4 * n + 2) (by omega)]
    exact he
def STK (ln : Nat → Nat) (v : Nat → Int) (a : Nat → Nat → Int) : Prop := v 19 ≤ (ln 18 : Nat) ∧ (64 ≤ ln 18 ∧ ln 18 ≤ 8192) ∧ ∃ n : Nat, v 19 = 4 * (n : Int) ∧ stk (a 18) n (v 4) (a 10)
theorem STK.of {ln : Nat → Nat} {v v2 : Nat → Int} {a a2 : Nat → Nat → Int} (h : STK ln v a) (h1 : v2 19 = v 19) (h2 : v2 4 = v 4) (h3 : a2 18 = a 18) (h4 : a2 10 = a 10) : STK ln v2 a2 := by unfold STK at h ⊢; rw [h1, h2, h3, h4]; exact h
theorem STK.put {ln : Nat → Nat} {v : Nat → Int} {a : Nat → Nat → Int} (h : STK ln v a) {k : Nat} {z : Int} (hk : ([4, 19] : List Nat).contains k = false) : STK ln (va_up v k z) a := h.of (va_up_ne _ _ (fun e => by subst e; exact absurd hk (by decide))) (va_up_ne _ _ (fun e => by subst e; exact absurd hk (by decide))) rfl rfl
theorem STK.set {ln : Nat → Nat} {v : Nat → Int} {a : Nat → Nat → Int} (h : STK ln v a) {k i : Nat} {z : Int} (hk : ([10, 18] : List Nat).contains k = false) : STK ln v (up2 a k i z) := h.of rfl rfl (funext fun _ => up2_k (fun e => by subst e; exact absurd hk (by decide))) (funext fun _ => up2_k (fun e => by subst e; exact absurd hk (by decide)))
theorem STK.fr {ln : Nat → Nat} {V A : List Nat} {v v2 : Nat → Int} {a a2 : Nat → Nat → Int} (h : STK ln v a) (f : fr V A v a v2 a2) (h1 : (!V.contains 4 && !V.contains 19) = true) (h2 : (!A.contains 10 && !A.contains 18) = true) : STK ln v2 a2 := by
  rw [Bool.and_eq_true] at h1 h2
  exact h.of (f.1 19 (by simpa using h1.2)) (f.1 4 (by simpa using h1.1)) (f.2 18 (by simpa using h2.2)) (f.2 10 (by simpa using h2.1))
theorem TBL.put {v : Nat → Int} {a : Nat → Nat → Int} (h : TBL v a) {k : Nat} {z : Int} (hk : k ≠ 4) : TBL (va_up v k z) a := by
  have e : va_up v k z 4 = v 4 := va_up_ne _ _ (Ne.symm hk)
  unfold TBL; rw [e]; exact h
theorem TBL.set {v : Nat → Int} {a : Nat → Nat → Int} (h : TBL v a) {k i : Nat} {z : Int} (hk : tbA.contains k = false) : TBL v (up2 a k i z) := by
  have g : ∀ j, tbA.contains j = true → up2 a k i z j = a j := fun j hj => funext fun q => up2_k (fun e => by rw [e, hk] at hj; cases hj)
  unfold TBL; rw [g 6 rfl, g 8 rfl, g 9 rfl, g 10 rfl, g 12 rfl, g 13 rfl]; exact h
def KS (v : Nat → Int) (a : Nat → Nat → Int) (v2 : Nat → Int) (a2 : Nat → Nat → Int) : Prop := v2 19 = v 19 ∧ a2 18 = a 18
def PSH (v : Nat → Int) (a : Nat → Nat → Int) (v2 : Nat → Int) (a2 : Nat → Nat → Int) (w t c d : Int) : Prop := v2 19 = v 19 + 4 ∧ (∀ j : Nat, (j : Int) < v 19 → a2 18 j = a 18 j) ∧ a2 18 (v 19).toNat = w ∧ a2 18 (v 19 + 1).toNat = t ∧ a2 18 (v 19 + 2).toNat = c ∧ a2 18 (v 19 + 3).toNat = d
theorem PSH.put {v v2 : Nat → Int} {a a2 : Nat → Nat → Int} {w t c d : Int} (h : PSH v a v2 a2 w t c d) {k : Nat} {z : Int} (hk : k ≠ 19) : PSH v a (va_up v2 k z) a2 w t c d := ⟨by rw [va_up_ne _ _ (Ne.symm hk)]; exact h.1, h.2⟩
theorem PSH.set {v v2 : Nat → Int} {a a2 : Nat → Nat → Int} {w t c d : Int} (h : PSH v a v2 a2 w t c d) {k i : Nat} {z : Int} (hk : k ≠ 18) : PSH v a v2 (up2 a2 k i z) w t c d := by
  have e : up2 a2 k i z 18 = a2 18 := funext fun _ => up2_k (Ne.symm hk)
  exact ⟨h.1, by rw [e]; exact h.2⟩
theorem PSH.fr {v v2 v3 : Nat → Int} {a a2 a3 : Nat → Nat → Int} {V A : List Nat} {w t c d : Int} (h : PSH v a v2 a2 w t c d) (f : fr V A v2 a2 v3 a3) (h1 : V.contains 19 = false) (h2 : A.contains 18 = false) : PSH v a v3 a3 w t c d := by
  have e := f.2 18 h2
  exact ⟨(f.1 19 h1).trans h.1, by rw [e]; exact h.2⟩
theorem up2_va {a : Nat → Nat → Int} {k i : Nat} {z : Int} : up2 a k i z k = va_up (a k) i z := by
  funext j; unfold up2 va_up; rw [if_pos rfl]
def ARS (a a2 : Nat → Nat → Int) : Prop := a2 8 = a 8 ∧ a2 9 = a 9 ∧ a2 12 = a 12 ∧ a2 13 = a 13 ∧ a2 14 = a 14 ∧ a2 15 = a 15 ∧ a2 16 = a 16 ∧ a2 17 = a 17
def FIL (x x0 : Nat → Int) (b n w : Nat) (y : Nat → Int) : Prop := (∀ k : Nat, k < n → x (b + k) = y k) ∧ ∀ j : Nat, (j < b ∨ b + w ≤ j) → x j = x0 j
theorem FIL.zero {x x0 y : Nat → Int} {b n w : Nat} (h : x = x0) (hn : n = 0) : FIL x x0 b n w y := ⟨fun k hk => absurd hk (by omega), fun j _ => by rw [h]⟩
theorem FIL.cg {x x2 x0 y : Nat → Int} {b n w : Nat} (h : FIL x x0 b n w y) (e : x2 = x) : FIL x2 x0 b n w y := by rw [e]; exact h
theorem FIL.n {x x0 y : Nat → Int} {b n m w : Nat} (h : FIL x x0 b n w y) (e : m = n) : FIL x x0 b m w y := by rw [e]; exact h
theorem FIL.b {x x0 y : Nat → Int} {b b2 n w : Nat} (h : FIL x x0 b n w y) (e : b2 = b) : FIL x x0 b2 n w y := by rw [e]; exact h
theorem FIL.step {x x0 y : Nat → Int} {b n m w i : Nat} {z : Int} (h : FIL x x0 b n w y) (hi : i = b + n) (hz : z = y n) (hn : n < w) (hm : m = n + 1) : FIL (va_up x i z) x0 b m w y := by
  subst hm
  refine ⟨fun k hk => ?_, fun j hj => ?_⟩
  · by_cases e : k = n
    · subst e; rw [← hi, va_up_self]; exact hz
    · rw [va_up_ne _ _ (by omega)]; exact h.1 k (by omega)
  · rw [va_up_ne _ _ (by omega)]; exact h.2 j hj
theorem vupS {x r : Nat → Int} {t : Nat} {z : Int} (h : ∀ j, x j = if j = t then z else r j) : x = va_up r t z := by
  funext j
  rw [h j]
  unfold va_up
  rfl
def PKB (ss : Nat → Int) (b : Nat) : Nat → Int
  | 0 => 0
  | n + 1 => ((iI (PKB ss b n) <<< (iI 8 &&& 31)) ||| iI (ss (b + n))).toInt
def UPK (d c k : Int) : Int := ((iI d >>> (iI (8 * ((c - 1) - k)) &&& 31)) &&& iI 255).toInt
theorem PKB.step {ss : Nat → Int} {b n m : Nat} {bf z1 z2 y : Int} (h : bf = PKB ss b n) (e1 : iI bf <<< (iI 8 &&& 31) = iI z1) (e2 : iI z1 ||| iI y = iI z2) (h2 : R32 z2) (hy : y = ss (b + n)) (hm : m = n + 1) : z2 = PKB ss b m := by
  subst hm
  show z2 = ((iI (PKB ss b n) <<< (iI 8 &&& 31)) ||| iI (ss (b + n))).toInt
  rw [← h, e1, ← hy, e2]
  exact (iI_int h2).symm
theorem UPK.of {d s c k z1 z2 : Int} (e1 : iI d >>> (iI s &&& 31) = iI z1) (e2 : iI z1 &&& iI 255 = iI z2) (h2 : R32 z2) (hs : s = 8 * ((c - 1) - k)) : z2 = UPK d c k := by
  unfold UPK
  rw [← hs, e1, e2]
  exact (iI_int h2).symm
theorem PSH.cg {v v2 : Nat → Int} {a a2 : Nat → Nat → Int} {w t c d c2 d2 : Int} (h : PSH v a v2 a2 w t c d) (hc : c = c2) (hd : d = d2) : PSH v a v2 a2 w t c2 d2 := by subst hc; subst hd; exact h
def TSAME (v : Nat → Int) (a : Nat → Nat → Int) (v2 : Nat → Int) (a2 : Nat → Nat → Int) : Prop := v2 4 = v 4 ∧ a2 5 = a 5 ∧ a2 6 = a 6 ∧ a2 7 = a 7 ∧ a2 10 = a 10 ∧ v2 19 = v 19 ∧ a2 18 = a 18 ∧ a2 11 = a 11 ∧ ARS a a2
def TNEW (k d b s : Int) (v : Nat → Int) (a : Nat → Nat → Int) (v2 : Nat → Int) (a2 : Nat → Nat → Int) : Prop := v2 4 = v 4 + 1 ∧ a2 5 = va_up (a 5) (v 4).toNat 1 ∧ a2 6 = va_up (a 6) (v 4).toNat k ∧ a2 7 = va_up (a 7) (v 4).toNat d ∧ a2 10 = va_up (a 10) (v 4).toNat 0 ∧ PSH v a v2 a2 0 (v 4) 0 0 ∧ a2 11 = a 11 ∧ a2 8 = va_up (a 8) (v 4).toNat b ∧ a2 9 = va_up (a 9) (v 4).toNat s ∧ a2 12 = a 12 ∧ a2 13 = a 13 ∧ a2 14 = a 14 ∧ a2 15 = a 15 ∧ a2 17 = a 17 ∧ FIL (a2 16) (a 16) (4 * v 4).toNat 4 4 (fun _ => 0)
def TDRP (t : Int) (v : Nat → Int) (a : Nat → Nat → Int) (v2 : Nat → Int) (a2 : Nat → Nat → Int) : Prop := v2 4 = v 4 ∧ a2 5 = va_up (a 5) t.toNat 0 ∧ a2 6 = a 6 ∧ a2 7 = a 7 ∧ a2 10 = a 10 ∧ PSH v a v2 a2 1 t 0 0 ∧ a2 11 = a 11 ∧ ARS a a2
def TRUL (t x n : Int) (v : Nat → Int) (a : Nat → Nat → Int) (v2 : Nat → Int) (a2 : Nat → Nat → Int) : Prop := v2 4 = v 4 ∧ a2 5 = a 5 ∧ a2 6 = a 6 ∧ a2 7 = a 7 ∧ a2 10 = va_up (a 10) t.toNat (a 10 t.toNat + 1) ∧ PSH v a v2 a2 2 t 0 0 ∧ a2 11 = va_up (a 11) (200 * t + a 10 t.toNat).toNat x ∧ a2 8 = a 8 ∧ a2 9 = a 9 ∧ a2 16 = a 16 ∧ a2 17 = a 17 ∧ a2 12 = va_up (a 12) (200 * t + a 10 t.toNat).toNat n ∧ a2 13 = va_up (a 13) (200 * t + a 10 t.toNat).toNat (v 3 - n) ∧ FIL (a2 14) (a 14) (8 * (200 * t + a 10 t.toNat)).toNat n.toNat 8 (a 2) ∧ FIL (a2 15) (a 15) (4 * (200 * t + a 10 t.toNat)).toNat (v 3 - n).toNat 4 (fun k => a 2 (n.toNat + k))
def TOTH (w t c d : Int) (v : Nat → Int) (a : Nat → Nat → Int) (v2 : Nat → Int) (a2 : Nat → Nat → Int) : Prop := v2 4 = v 4 ∧ a2 5 = a 5 ∧ a2 6 = a 6 ∧ a2 7 = a 7 ∧ a2 10 = a 10 ∧ PSH v a v2 a2 w t c d
def TCND (t r x : Int) (v : Nat → Int) (a : Nat → Nat → Int) (v2 : Nat → Int) (a2 : Nat → Nat → Int) : Prop := TOTH 3 t r (a 11 (200 * t + r).toNat) v a v2 a2 ∧ a2 11 = va_up (a 11) (200 * t + r).toNat x ∧ ARS a a2
def TIND (t x : Int) (v : Nat → Int) (a : Nat → Nat → Int) (v2 : Nat → Int) (a2 : Nat → Nat → Int) : Prop := TOTH 4 (4 * t + x) (a 16 (4 * t + x).toNat) (PKB (a 17) (4 * (4 * t + x)).toNat (a 16 (4 * t + x).toNat).toNat) v a v2 a2 ∧ a2 11 = a 11 ∧ a2 8 = a 8 ∧ a2 9 = a 9 ∧ a2 12 = a 12 ∧ a2 13 = a 13 ∧ a2 14 = a 14 ∧ a2 15 = a 15 ∧ a2 16 = va_up (a 16) (4 * t + x).toNat (v 3) ∧ FIL (a2 17) (a 17) (4 * (4 * t + x)).toNat (v 3).toNat 4 (a 2)
def TUND (v : Nat → Int) (a : Nat → Nat → Int) (v2 : Nat → Int) (a2 : Nat → Nat → Int) : Prop := v2 19 = v 19 - 4 ∧ a2 18 = a 18 ∧ a2 6 = a 6 ∧ a2 7 = a 7 ∧ (a2 8 = a 8 ∧ a2 9 = a 9 ∧ a2 12 = a 12 ∧ a2 13 = a 13 ∧ a2 14 = a 14 ∧ a2 15 = a 15) ∧ ((a 18 (v 19 - 4).toNat = 0 ∧ v2 4 = v 4 - 1 ∧ a2 5 = a 5 ∧ a2 10 = a 10 ∧ a2 11 = a 11 ∧ a2 16 = a 16 ∧ a2 17 = a 17) ∨ (a 18 (v 19 - 4).toNat = 1 ∧ v2 4 = v 4 ∧ a2 5 = va_up (a 5) (a 18 (v 19 - 4 + 1).toNat).toNat 1 ∧ a2 10 = a 10 ∧ a2 11 = a 11 ∧ a2 16 = a 16 ∧ a2 17 = a 17) ∨ (a 18 (v 19 - 4).toNat = 2 ∧ v2 4 = v 4 ∧ a2 5 = a 5 ∧ a2 10 = va_up (a 10) (a 18 (v 19 - 4 + 1).toNat).toNat (a 10 (a 18 (v 19 - 4 + 1).toNat).toNat - 1) ∧ a2 11 = a 11 ∧ a2 16 = a 16 ∧ a2 17 = a 17) ∨ (a 18 (v 19 - 4).toNat = 3 ∧ v2 4 = v 4 ∧ a2 5 = a 5 ∧ a2 10 = a 10 ∧ a2 11 = va_up (a 11) (200 * a 18 (v 19 - 4 + 1).toNat + a 18 (v 19 - 4 + 2).toNat).toNat (a 18 (v 19 - 4 + 3).toNat) ∧ a2 16 = a 16 ∧ a2 17 = a 17) ∨ (a 18 (v 19 - 4).toNat = 4 ∧ v2 4 = v 4 ∧ a2 5 = a 5 ∧ a2 10 = a 10 ∧ a2 11 = a 11 ∧ a2 16 = va_up (a 16) (a 18 (v 19 - 4 + 1).toNat).toNat (a 18 (v 19 - 4 + 2).toNat) ∧ FIL (a2 17) (a 17) (4 * a 18 (v 19 - 4 + 1).toNat).toNat (a 18 (v 19 - 4 + 2).toNat).toNat 4 (fun k => UPK (a 18 (v 19 - 4 + 3).toNat) (a 18 (v 19 - 4 + 2).toNat) (k : Int))))
def NA (a : Nat → Nat → Int) (T : Nat) (k d b s : Int) : Nat → Nat → Int := up2 (up2 (up2 (up2 (up2 (up2 a 5 T 1) 6 T k) 7 T d) 8 T b) 9 T s) 10 T 0
theorem NA_5 {a : Nat → Nat → Int} {T : Nat} {k d b s : Int} : NA a T k d b s 5 = va_up (a 5) T 1 ∧ NA a T k d b s 6 = va_up (a 6) T k ∧ NA a T k d b s 7 = va_up (a 7) T d ∧ NA a T k d b s 10 = va_up (a 10) T 0 ∧ NA a T k d b s 8 = va_up (a 8) T b ∧ NA a T k d b s 9 = va_up (a 9) T s ∧ (∀ q, 11 ≤ q → NA a T k d b s q = a q) := by
  refine ⟨?_, ?_, ?_, ?_, ?_, ?_, ?_⟩
  case refine_7 => intro q hq; funext j; unfold NA; rw [up2_k (by omega), up2_k (by omega), up2_k (by omega), up2_k (by omega), up2_k (by omega), up2_k (by omega)]
  all_goals funext j <;> simp [NA, up2, va_up]
theorem con2 {j x y : Nat} (h1 : j ≠ x) (h2 : j ≠ y) : ([x, y] : List Nat).contains j = false := by
  rw [List.contains_cons, List.contains_cons, beq_false_of_ne h1, beq_false_of_ne h2]; rfl
theorem vupR {x r : Nat → Int} {t : Nat} (h : ∀ j, x j = if j = t then r j + 1 else r j) : x = va_up r t (r t + 1) := by
  funext j
  rw [h j]
  unfold va_up
  by_cases e : j = t
  · rw [if_pos e, if_pos e, e]
  · rw [if_neg e, if_neg e]
def DC (x : Int) : Int := if x = 6 then 63 else 255
theorem dcf (x : Int) : (x = 6 ∧ DC x = 63) ∨ (x ≠ 6 ∧ DC x = 255) := by
  unfold DC
  by_cases h : x = 6
  · rw [if_pos h]; exact Or.inl ⟨h, rfl⟩
  · rw [if_neg h]; exact Or.inr ⟨h, rfl⟩
def ACL (ss : Nat → Int) (q u d : Int) : Prop := ∀ j : Nat, q ≤ (j : Int) → (j : Int) < q + u → 1 ≤ ss j ∧ ss j ≤ d
theorem ACL.zero {ss : Nat → Int} {q d : Int} : ACL ss q (q - q) d := fun j h1 h2 => absurd h2 (by omega)
theorem ACL.step {ss : Nat → Int} {q d g g2 k : Int} (h : g = 1 ↔ ACL ss q (k - q) d) (hk : 0 ≤ q ∧ q ≤ k) (e : g2 = 1 ↔ (g = 1 ∧ 1 ≤ ss k.toNat ∧ ss k.toNat ≤ d)) : g2 = 1 ↔ ACL ss q (k + 1 - q) d := by
  constructor
  · intro q2 j h1 h2
    by_cases e2 : (j : Int) < k
    · exact h.mp (e.mp q2).1 j h1 (by omega)
    · rw [show j = k.toNat by omega]; exact (e.mp q2).2
  · intro q2
    exact e.mpr ⟨h.mpr (fun j h1 h2 => q2 j h1 (by omega)), q2 k.toNat (by omega) (by omega)⟩
def LTK (ss : Nat → Int) (n : Int) : Prop := ∀ j : Nat, (j : Int) < n → 33 ≤ ss j ∧ ss j ≤ 125
theorem LTK.zero {ss : Nat → Int} : LTK ss 0 := fun j hj => absurd hj (by omega)
theorem LTK.step {ss : Nat → Int} {g g2 k : Int} (h : g = 1 ↔ LTK ss k) (hk : 0 ≤ k) (e : g2 = 1 ↔ (g = 1 ∧ 33 ≤ ss k.toNat ∧ ss k.toNat ≤ 125)) : g2 = 1 ↔ LTK ss (k + 1) := by
  constructor
  · intro q2 j h1
    by_cases e2 : (j : Int) < k
    · exact h.mp (e.mp q2).1 j e2
    · rw [show j = k.toNat by omega]; exact (e.mp q2).2
  · intro q2
    exact e.mpr ⟨h.mpr (fun j h1 => q2 j (by omega)), q2 k.toNat (by omega)⟩
theorem KS.put {v v2 : Nat → Int} {a a2 : Nat → Nat → Int} (h : KS v a v2 a2) {k : Nat} {z : Int} (hk : k ≠ 19) : KS v a (va_up v2 k z) a2 := ⟨by rw [va_up_ne _ _ (Ne.symm hk)]; exact h.1, h.2⟩
theorem KS.set {v v2 : Nat → Int} {a a2 : Nat → Nat → Int} (h : KS v a v2 a2) {k i : Nat} {z : Int} (hk : k ≠ 18) : KS v a v2 (up2 a2 k i z) := ⟨h.1, by rw [← h.2]; exact funext fun _ => up2_k (Ne.symm hk)⟩
theorem KS.fr {v v2 v3 : Nat → Int} {a a2 a3 : Nat → Nat → Int} {V A : List Nat} (h : KS v a v2 a2) (f : fr V A v2 a2 v3 a3) (h1 : V.contains 19 = false) (h2 : A.contains 18 = false) : KS v a v3 a3 := ⟨(f.1 19 h1).trans h.1, (f.2 18 h2).trans h.2⟩
theorem STK.push {ln ln2 : Nat → Nat} {v v2 : Nat → Int} {a a2 : Nat → Nat → Int} {x t y T0 : Int} {R0 : Nat → Int} (hS : STK ln v a) (h1 : v2 19 = v 19 + 4) (h2 : v2 19 ≤ (ln2 18 : Nat)) (h3 : 64 ≤ ln2 18 ∧ ln2 18 ≤ 8192) (h4 : ∀ j : Nat, (j : Int) < v 19 → a2 18 j = a 18 j) (hx : a2 18 (v 19).toNat = x) (ht : a2 18 (v 19 + 1).toNat = t) (hy : a2 18 (v 19 + 2).toNat = y) (he : ent x t y (v2 4) (a2 10) T0 R0) (hT : T0 = v 4) (hR : ∀ j : Nat, (j : Int) < v 4 → R0 j = a 10 j) : STK ln2 v2 a2 := by
  obtain ⟨_, _, n, hn, hk⟩ := hS
  refine ⟨h2, h3, n + 1, by omega, T0, R0, ?_, ?_⟩
  · rw [show 4 * n = (v 19).toNat by omega, show (v 19).toNat + 1 = (v 19 + 1).toNat by omega, show (v 19).toNat + 2 = (v 19 + 2).toNat by omega, hx, ht, hy]; exact he
  · subst hT
    exact stk_R n _ _ _ (fun j hj => (hR j hj).symm) (stk_s n _ _ (fun j hj => h4 j (by omega)) hk)
theorem STK.pop {ln : Nat → Nat} {v : Nat → Int} {a : Nat → Nat → Int} (hS : STK ln v a) (h0 : v 19 ≠ 0) : 4 ≤ v 19 ∧ ∃ (T0 : Int) (R0 : Nat → Int), ent (a 18 (v 19 - 4).toNat) (a 18 (v 19 - 4 + 1).toNat) (a 18 (v 19 - 4 + 2).toNat) (v 4) (a 10) T0 R0 ∧ ∀ (v2 : Nat → Int) (a2 : Nat → Nat → Int), v2 19 = v 19 - 4 → a2 18 = a 18 → v2 4 = T0 → (∀ j : Nat, (j : Int) < T0 → a2 10 j = R0 j) → STK ln v2 a2 := by
  obtain ⟨hl, hl2, n, hn, hk⟩ := hS
  cases n with
  | zero => exact absurd hn h0
  | succ n =>
    obtain ⟨T0, R0, he, hs⟩ := hk
    refine ⟨by omega, T0, R0, ?_, fun v2 a2 h1 h2 h3 h4 => ⟨by omega, hl2, n, by omega, ?_⟩⟩
    · rw [show (v 19 - 4).toNat = 4 * n by omega, show (v 19 - 4 + 1).toNat = 4 * n + 1 by omega, show (v 19 - 4 + 2).toNat = 4 * n + 2 by omega]; exact he
    · rw [h2, h3]; exact stk_R n _ _ _ (fun j hj => (h4 j hj).symm) hs
theorem TBL.le {v v2 : Nat → Int} {a a2 : Nat → Nat → Int} (h : TBL v a) (h4 : v2 4 ≤ v 4) (h6 : a2 6 = a 6) (h8 : a2 8 = a 8) (h9 : a2 9 = a 9) (h12 : a2 12 = a 12) (h13 : a2 13 = a 13) (h10 : ∀ j, a2 10 j ≤ a 10 j) : TBL v2 a2 := by
  unfold TBL at h ⊢
  rw [h6, h8, h9, h12, h13]
  exact ⟨fun t h1 h2 => h.1 t h1 (by omega), fun t r h1 h2 h3 h5 => h.2 t r h1 (by omega) h3 (by have := h10 t.toNat; omega)⟩
def NewT (T : Nat) (a : Nat → Nat → Int) (k b s : Int) (a2 : Nat → Nat → Int) : Prop := (∀ j, a2 6 j = if j = T then k else a 6 j) ∧ (∀ j, a2 8 j = if j = T then b else a 8 j) ∧ (∀ j, a2 9 j = if j = T then s else a 9 j) ∧ (∀ j, a2 10 j = if j = T then 0 else a 10 j)
theorem NewT.set {T : Nat} {a a2 : Nat → Nat → Int} {k1 b s1 : Int} (h : NewT T a k1 b s1 a2) {k i : Nat} {z : Int} (hk : ([6, 8, 9, 10] : List Nat).contains k = false) : NewT T a k1 b s1 (up2 a2 k i z) := by
  have g : ∀ j q, ([6, 8, 9, 10] : List Nat).contains j = true → up2 a2 k i z j q = a2 j q := fun j q hj => up2_k (fun e => by rw [e, hk] at hj; cases hj)
  exact ⟨fun j => by rw [g _ _ rfl]; exact h.1 j, fun j => by rw [g _ _ rfl]; exact h.2.1 j, fun j => by rw [g _ _ rfl]; exact h.2.2.1 j, fun j => by rw [g _ _ rfl]; exact h.2.2.2 j⟩
theorem TBL.new {v v2 : Nat → Int} {a a2 : Nat → Nat → Int} {k b s : Int} (h : TBL v a) (hN : NewT (v 4).toNat a k b s a2) (h0 : 0 ≤ v 4) (h4 : v2 4 = v 4 + 1) (h12 : a2 12 = a 12) (h13 : a2 13 = a 13) (hk : ((k = 0 ∨ k = 4) ∧ b = -1) ∨ (1 ≤ k ∧ k ≤ 3 ∧ 0 ≤ b ∧ b < v 4 ∧ a 6 b.toNat ≤ 3) ∨ (k = 5 ∧ 0 ≤ b ∧ b < v 4 ∧ a 6 b.toNat ≤ 3 ∧ 0 ≤ s ∧ s < v 4 ∧ a 6 s.toNat ≤ 3)) : TBL v2 a2 := by
  obtain ⟨n6, n8, n9, n10⟩ := hN
  refine ⟨fun t h1 h2 => ?_, fun t r h1 h2 h3 h5 => ?_⟩
  · by_cases e : t = v 4
    · subst e
      rw [n6, n8, n9, if_pos rfl, if_pos rfl, if_pos rfl]
      rcases hk with q | q | q
      · exact Or.inl q
      · refine Or.inr (Or.inl ⟨q.1, q.2.1, q.2.2.1, q.2.2.2.1, ?_⟩)
        rw [n6, if_neg (by omega)]; exact q.2.2.2.2
      · refine Or.inr (Or.inr ⟨q.1, q.2.1, q.2.2.1, ?_, q.2.2.2.2.1, q.2.2.2.2.2.1, ?_⟩)
        · rw [n6, if_neg (by omega)]; exact q.2.2.2.1
        · rw [n6, if_neg (by omega)]; exact q.2.2.2.2.2.2
    · have g := h.1 t h1 (by omega)
      have hne : ¬ t.toNat = (v 4).toNat := by omega
      rw [n6, n8, n9, if_neg hne, if_neg hne, if_neg hne]
      rcases g with q | q | q
      · exact Or.inl q
      · refine Or.inr (Or.inl ⟨q.1, q.2.1, q.2.2.1, q.2.2.2.1, ?_⟩)
        rw [n6, if_neg (by omega)]; exact q.2.2.2.2
      · refine Or.inr (Or.inr ⟨q.1, q.2.1, q.2.2.1, ?_, q.2.2.2.2.1, q.2.2.2.2.2.1, ?_⟩)
        · rw [n6, if_neg (by omega)]; exact q.2.2.2.1
        · rw [n6, if_neg (by omega)]; exact q.2.2.2.2.2.2
  · rw [h12, h13]
    rw [n10] at h5
    by_cases e : t = v 4
    · rw [if_pos (by rw [e])] at h5; omega
    · rw [if_neg (by omega)] at h5
      exact h.2 t r h1 (by omega) h3 h5
def RUL (a : Nat → Nat → Int) (r m c : Int) (a2 : Nat → Nat → Int) : Prop := (∀ j, a2 12 j = if j = r.toNat then m else a 12 j) ∧ (∀ j, a2 13 j = if j = r.toNat then c else a 13 j) ∧ a2 10 = a 10
theorem RUL.set {a a2 : Nat → Nat → Int} {r m c : Int} (h : RUL a r m c a2) {k i : Nat} {z : Int} (hk : ([10, 12, 13] : List Nat).contains k = false) : RUL a r m c (up2 a2 k i z) := by
  have g : ∀ j q, ([10, 12, 13] : List Nat).contains j = true → up2 a2 k i z j q = a2 j q := fun j q hj => up2_k (fun e => by rw [e, hk] at hj; cases hj)
  exact ⟨fun j => by rw [g _ _ rfl]; exact h.1 j, fun j => by rw [g _ _ rfl]; exact h.2.1 j, by rw [← h.2.2]; exact funext fun q => g _ _ rfl⟩
theorem TBL.rule {v v2 : Nat → Int} {a a2 : Nat → Nat → Int} {t r m c : Int} (h : TBL v a) (hB : BX v a) (ht : 0 ≤ t ∧ t < v 4) (hr : r = 200 * t + a 10 t.toNat) (h200 : a 10 t.toNat < 200) (hm : 1 ≤ m ∧ m ≤ 8) (hc : 1 ≤ c ∧ c ≤ 4) (h4 : v2 4 = v 4) (h6 : a2 6 = a 6) (h8 : a2 8 = a 8) (h9 : a2 9 = a 9) (h12 : ∀ j, a2 12 j = if j = r.toNat then m else a 12 j) (h13 : ∀ j, a2 13 j = if j = r.toNat then c else a 13 j) (h10 : ∀ j, a2 10 j = if j = t.toNat then a 10 j + 1 else a 10 j) : TBL v2 a2 := by
  unfold TBL at h ⊢
  rw [h4, h6, h8, h9]
  refine ⟨h.1, fun t2 r2 h1 h2 h3 h5 => ?_⟩
  refine hv2 (show 0 ≤ a 10 t2.toNat ∧ a 10 t2.toNat ≤ 200 from hB.2 10 _) (show 0 ≤ a 10 t.toNat from (hB.2 10 _).1) (fun b bt => ?_)
  rw [h12, h13]
  rw [h10] at h5
  by_cases e : r2 = r
  · rw [if_pos (by rw [e]), if_pos (by rw [e])]; exact ⟨hm, hc⟩
  · rw [if_neg (by omega), if_neg (by omega)]
    by_cases e2 : t2 = t
    · subst e2; rw [if_pos rfl] at h5; exact h.2 t2 r2 h1 h2 h3 (by omega)
    · rw [if_neg (by omega)] at h5; exact h.2 t2 r2 h1 h2 h3 h5
end
section
theorem up2_le {a : Nat → Nat → Int} {k i : Nat} {z : Int} (h : z ≤ a k i) : ∀ j, up2 a k i z k j ≤ a k j := by
  intro j
  by_cases e : j = i
  · subst e; rw [up2_s]; exact h
  · rw [up2_j e]; exact Int.le_refl _
theorem up2_if {a : Nat → Nat → Int} {k i : Nat} {z : Int} : ∀ j, up2 a k i z k j = if j = i then z else a k j := by
  intro j
  by_cases e : j = i
  · subst e; rw [up2_s, if_pos rfl]
  · rw [up2_j e, if_neg e]
set_option maxHeartbeats 4000000 in
set_option maxRecDepth 100000 in
theorem M_step {l : Launch} {G : GT} {h0 : Nat} {ad ln : Nat → Nat} {v : Nat → Int} {a : Nat → Nat → Int} {x t y z : Int} (hB : BX v a) (hx : -2147483648 ≤ x ∧ x ≤ 2147483647) (ht : -2147483648 ≤ t ∧ t ≤ 2147483647) (hy : -2147483648 ≤ y ∧ y ≤ 2147483647) (hz : -2147483648 ≤ z ∧ z ≤ 2147483647) (h19 : 0 ≤ v 19 ∧ v 19 ≤ 2048) (hln : v 19 ≤ (ln 18 : Nat) ∧ 64 ≤ ln 18 ∧ ln 18 ≤ 8192) : Mn l G yX12_step cX12_step 7 none 0 [.int (iI x), .int (iI t), .int (iI y), .int (iI z)] h0 ad ln v a 1 4110 (fun r ln2 v2 a2 => r = none ∧ fr [19] [18, 70] v a v2 a2 ∧ BX v2 a2 ∧ (v2 19 = v 19 + 4 ∧ v2 19 ≤ (ln2 18 : Nat) ∧ (64 ≤ ln2 18 ∧ ln2 18 ≤ 8192) ∧ (∀ j : Nat, (j : Int) < v 19 → a2 18 j = a 18 j) ∧ a2 18 (v 19).toNat = x ∧ a2 18 (v 19 + 1).toNat = t ∧ a2 18 (v 19 + 2).toNat = y ∧ a2 18 (v 19 + 3).toNat = z)) := by
  refine Mn.mk (by decide) (Nat.le_of_ble_eq_true rfl) ?_
  intro p e s m args below meth c A C
  have fp0 : fr [19] [18, 70] v a v a := fr.refl
  refine m_aload_n (j := 0) C dX12_step_0 rfl ?_
  have rv1 : (-2147483648) ≤ v 19 ∧ v 19 ≤ 2147483647 := hB.1 19
  refine m_get (k := 19) C dX12_step_1 w6_78 (by decide) rfl ?_
  refine m_bipush (z := 8) C dX12_step_4 (by decide) ?_
  refine m_iadd C dX12_step_6 ?_
  refine m_aload_n (j := 0) C dX12_step_7 rfl ?_
  refine m_geta (k := 18) C dX12_step_8 w6_77 (by decide) rfl ?_
  refine m_alen18 C dX12_step_11 ?_
  refine m_icmp_le (tgt := 62) C ⟨by omega, by omega⟩ ⟨by omega, by omega⟩ dX12_step_12 (by decide) (fun c1 => ?_) (fun c1 => ?_)
  · refine m_aload_n (j := 0) C dX12_step_62 rfl ?_
    refine m_geta (k := 18) C dX12_step_63 w6_77 (by decide) rfl ?_
    refine m_aload_n (j := 0) C dX12_step_66 rfl ?_
    refine m_get (k := 19) C dX12_step_67 w6_78 (by decide) rfl ?_
    refine m_iload_n (j := 1) C dX12_step_70 rfl ?_
    refine m_ast18 (w := x) C dX12_step_71 (by omega) (by omega) (by omega) ?_
    refine hv2 (show BX v (up2 a 18 (v 19).toNat x) from hB.set (k := 18) (i := (v 19).toNat) (z := x) (show (-2147483648) ≤ x ∧ x ≤ 2147483647 by omega)) (fp0.set (k := 18) (i := (v 19).toNat) (z := x) rfl) (fun bq1 fq1 => ?_)
    refine m_aload_n (j := 0) C dX12_step_72 rfl ?_
    refine m_geta (k := 18) C dX12_step_73 w6_77 (by decide) rfl ?_
    refine m_aload_n (j := 0) C dX12_step_76 rfl ?_
    refine m_get (k := 19) C dX12_step_77 w6_78 (by decide) rfl ?_
    refine m_iconst C dX12_step_80 ?_
    refine m_iadd C dX12_step_81 ?_
    refine m_iload_n (j := 2) C dX12_step_82 rfl ?_
    refine m_ast18 (w := t) C dX12_step_83 (by omega) (by omega) (by omega) ?_
    refine hv2 (show BX v (up2 (up2 a 18 (v 19).toNat x) 18 ((v 19) + 1).toNat t) from bq1.set (k := 18) (i := ((v 19) + 1).toNat) (z := t) (show (-2147483648) ≤ t ∧ t ≤ 2147483647 by omega)) (fq1.set (k := 18) (i := ((v 19) + 1).toNat) (z := t) rfl) (fun bq2 fq2 => ?_)
    refine m_aload_n (j := 0) C dX12_step_84 rfl ?_
    refine m_geta (k := 18) C dX12_step_85 w6_77 (by decide) rfl ?_
    refine m_aload_n (j := 0) C dX12_step_88 rfl ?_
    refine m_get (k := 19) C dX12_step_89 w6_78 (by decide) rfl ?_
    refine m_iconst C dX12_step_92 ?_
    refine m_iadd C dX12_step_93 ?_
    refine m_iload_n (j := 3) C dX12_step_94 rfl ?_
    refine m_ast18 (w := y) C dX12_step_95 (by omega) (by omega) (by omega) ?_
    refine hv2 (show BX v (up2 (up2 (up2 a 18 (v 19).toNat x) 18 ((v 19) + 1).toNat t) 18 ((v 19) + 2).toNat y) from bq2.set (k := 18) (i := ((v 19) + 2).toNat) (z := y) (show (-2147483648) ≤ y ∧ y ≤ 2147483647 by omega)) (fq2.set (k := 18) (i := ((v 19) + 2).toNat) (z := y) rfl) (fun bq3 fq3 => ?_)
    refine m_aload_n (j := 0) C dX12_step_96 rfl ?_
    refine m_geta (k := 18) C dX12_step_97 w6_77 (by decide) rfl ?_
    refine m_aload_n (j := 0) C dX12_step_100 rfl ?_
    refine m_get (k := 19) C dX12_step_101 w6_78 (by decide) rfl ?_
    refine m_iconst C dX12_step_104 ?_
    refine m_iadd C dX12_step_105 ?_
    refine m_iload (j := 4) C dX12_step_106 rfl ?_
    refine m_ast18 (w := z) C dX12_step_108 (by omega) (by omega) (by omega) ?_
    refine hv2 (show BX v (up2 (up2 (up2 (up2 a 18 (v 19).toNat x) 18 ((v 19) + 1).toNat t) 18 ((v 19) + 2).toNat y) 18 ((v 19) + 3).toNat z) from bq3.set (k := 18) (i := ((v 19) + 3).toNat) (z := z) (show (-2147483648) ≤ z ∧ z ≤ 2147483647 by omega)) (fq3.set (k := 18) (i := ((v 19) + 3).toNat) (z := z) rfl) (fun bq4 fq4 => ?_)
    refine m_aload_n (j := 0) C dX12_step_109 rfl ?_
    refine m_dup C dX12_step_110 rfl ?_
    refine m_get (k := 19) C dX12_step_111 w6_78 (by decide) rfl ?_
    refine m_iconst C dX12_step_114 ?_
    refine m_iadd C dX12_step_115 ?_
    refine m_put (k := 19) (z := (v 19) + 4) C dX12_step_116 w6_78 (by decide) rfl rfl rfl ?_
    refine hv2 (show BX (va_up v 19 ((v 19) + 4)) (up2 (up2 (up2 (up2 a 18 (v 19).toNat x) 18 ((v 19) + 1).toNat t) 18 ((v 19) + 2).toNat y) 18 ((v 19) + 3).toNat z) from bq4.put (k := 19) (z := (v 19) + 4) (show (-2147483648) ≤ ((v 19) + 4) ∧ ((v 19) + 4) ≤ 2147483647 by omega)) (fq4.put (k := 19) (z := (v 19) + 4) rfl) (fun bq5 fq5 => ?_)
    exact n_vret C dX12_step_119 rfl (by omega) (by omega) ⟨rfl, fq5, bq5, (by exact ⟨va_up_self _ _ _, (by show v 19 + 4 ≤ ((ln 18 : Nat) : Int); omega), ⟨by omega, by omega⟩, (fun j hj => ((push4 (a := a) (n := v 19) (x := x) (t := t) (y := y) (z := z) (by omega)).1 j hj).trans ((fun j _ => rfl) j hj)), (push4 (a := a) (n := v 19) (x := x) (t := t) (y := y) (z := z) (by omega)).2.1, (push4 (a := a) (n := v 19) (x := x) (t := t) (y := y) (z := z) (by omega)).2.2.1, (push4 (a := a) (n := v 19) (x := x) (t := t) (y := y) (z := z) (by omega)).2.2.2.1, (push4 (a := a) (n := v 19) (x := x) (t := t) (y := y) (z := z) (by omega)).2.2.2.2⟩)⟩
  · refine m_iconst C dX12_step_15 ?_
    refine m_aload_n (j := 0) C dX12_step_16 rfl ?_
    refine m_geta (k := 18) C dX12_step_17 w6_77 (by decide) rfl ?_
    refine m_alen18 C dX12_step_20 ?_
    refine m_imul C dX12_step_21 ?_
    refine m_newI (z := 2 * ((ln 18 : Nat) : Int)) (nb := (2 * ln 18)) C dX12_step_22 w1_57 ⟨by omega, by omega⟩ (by omega) ⟨by dsimp only [rmq]; omega, by dsimp only [rmq]; omega⟩ hB (fun bb vw1 aw1 fnw1 bnw1 znw1 => ?_)
    have fqw1 := fp0.call fnw1 rfl rfl
    refine x_astore (lv2 := [(5, .ref bb), (0, .ref h0), (1, .int (iI x)), (2, .int (iI t)), (3, .int (iI y)), (4, .int (iI z))]) C dX12_step_24 (by decide) rfl ?_
    refine x_iconst C dX12_step_26 ?_
    refine x_istore (lv2 := [(6, .int (iI 0)), (5, .ref bb), (0, .ref h0), (1, .int (iI x)), (2, .int (iI t)), (3, .int (iI y)), (4, .int (iI z))]) C dX12_step_27 (by decide) rfl ?_
    have Lp1 : ∀ (nn : Nat) (k : Int) (vb1 : Nat → Int) (ab1 : Nat → Nat → Int), v 19 + 1 - k < (nn : Int) → BX vb1 ab1 → fr [19] [18, 70] v a vb1 ab1 → (0 ≤ k ∧ k ≤ v 19) → (vb1 19 = v 19) → (∀ j : Nat, ab1 18 j = a 18 j) → (∀ j : Nat, (j : Int) < k → ab1 70 j = a 18 j) → mx p l e (rmq 0 1 4110) s m args below meth c G A 7 (MQ below (Qm G A (fun rq Lq Eq => ∃ (adq lnq : Nat → Nat) (vq : Nat → Int) (aq : Nat → Nat → Int), mI G h0 adq lnq vq aq Lq Eq ∧ (fun r ln2 v2 a2 => r = none ∧ fr [19] [18, 70] v a v2 a2 ∧ BX v2 a2 ∧ (v2 19 = v 19 + 4 ∧ v2 19 ≤ (ln2 18 : Nat) ∧ (64 ≤ ln2 18 ∧ ln2 18 ≤ 8192) ∧ (∀ j : Nat, (j : Int) < v 19 → a2 18 j = a 18 j) ∧ a2 18 (v 19).toNat = x ∧ a2 18 (v 19 + 1).toNat = t ∧ a2 18 (v 19 + 2).toNat = y ∧ a2 18 (v 19 + 3).toNat = z)) rq lnq vq aq)) args s 1 4110 A) bb (2 * ln 18) false h0 ad ln vb1 ab1 (0 + 1) (0 + (2 * ln 18)) 29 [(6, .int (iI k)), (5, .ref bb), (0, .ref h0), (1, .int (iI x)), (2, .int (iI t)), (3, .int (iI y)), (4, .int (iI z))] [] := by
      intro nn
      induction nn with
      | zero =>
        intro k vb1 ab1 hm bxb1 fpb1 hk h19k h18 hc
        exact absurd hm (by omega)
      | succ nn ih1 =>
        intro k vb1 ab1 hm bxb1 fpb1 hk h19k h18 hc
        refine x_iload (j := 0) C dX12_step_29 rfl ?_
        refine x_aload_n (j := 2) C dX12_step_31 rfl ?_
        have rv2 : (-2147483648) ≤ vb1 19 ∧ vb1 19 ≤ 2147483647 := bxb1.1 19
        refine x_get (k := 19) C dX12_step_32 w6_78 (by decide) rfl ?_
        refine x_icmp_ge (tgt := 56) C ⟨by omega, by omega⟩ (r32_c (lo := (-2147483648)) (hi := 2147483647) rv2.1 rv2.2 (by decide) (by decide)) dX12_step_35 (by decide) (fun c2 => ?_) (fun c2 => ?_)
        · refine x_aload_n (j := 2) C dX12_step_56 rfl ?_
          refine x_aload (j := 1) C dX12_step_57 rfl ?_
          refine x_sw C dX12_step_59 w6_77 rfl ⟨by omega, by omega⟩ (fun ad ln a9 hl9 h189 hk9 => ?_)
          have fq9 : fr [19] [18, 70] v a vb1 a9 := ⟨fpb1.1, fun j hj => (hk9 j (fun e => by subst e; exact absurd hj (by decide))).trans (fpb1.2 j hj)⟩
          have bx9 : BX vb1 a9 := ⟨bxb1.1, fun k j => by
              by_cases e : k = 18
              · subst e; rw [h189]; exact bxb1.2 70 j
              · rw [hk9 k e]; exact bxb1.2 k j⟩
          have hc9 : ∀ j : Nat, (j : Int) < vb1 19 → a9 18 j = a 18 j := fun j hj => by rw [h189]; exact hc j (by omega)
          refine m_aload_n (j := 2) C dX12_step_62 rfl ?_
          refine m_geta (k := 18) C dX12_step_63 w6_77 (by decide) rfl ?_
          refine m_aload_n (j := 2) C dX12_step_66 rfl ?_
          refine m_get (k := 19) C dX12_step_67 w6_78 (by decide) rfl ?_
          refine m_iload_n (j := 3) C dX12_step_70 rfl ?_
          refine m_ast18 (w := x) C dX12_step_71 (by omega) (by omega) (by omega) ?_
          refine hv2 (show BX vb1 (up2 a9 18 (vb1 19).toNat x) from bx9.set (k := 18) (i := (vb1 19).toNat) (z := x) (show (-2147483648) ≤ x ∧ x ≤ 2147483647 by omega)) (fq9.set (k := 18) (i := (vb1 19).toNat) (z := x) rfl) (fun bq6 fq6 => ?_)
          refine m_aload_n (j := 2) C dX12_step_72 rfl ?_
          refine m_geta (k := 18) C dX12_step_73 w6_77 (by decide) rfl ?_
          refine m_aload_n (j := 2) C dX12_step_76 rfl ?_
          refine m_get (k := 19) C dX12_step_77 w6_78 (by decide) rfl ?_
          refine m_iconst C dX12_step_80 ?_
          refine m_iadd C dX12_step_81 ?_
          refine m_iload_n (j := 4) C dX12_step_82 rfl ?_
          refine m_ast18 (w := t) C dX12_step_83 (by omega) (by omega) (by omega) ?_
          refine hv2 (show BX vb1 (up2 (up2 a9 18 (vb1 19).toNat x) 18 ((vb1 19) + 1).toNat t) from bq6.set (k := 18) (i := ((vb1 19) + 1).toNat) (z := t) (show (-2147483648) ≤ t ∧ t ≤ 2147483647 by omega)) (fq6.set (k := 18) (i := ((vb1 19) + 1).toNat) (z := t) rfl) (fun bq7 fq7 => ?_)
          refine m_aload_n (j := 2) C dX12_step_84 rfl ?_
          refine m_geta (k := 18) C dX12_step_85 w6_77 (by decide) rfl ?_
          refine m_aload_n (j := 2) C dX12_step_88 rfl ?_
          refine m_get (k := 19) C dX12_step_89 w6_78 (by decide) rfl ?_
          refine m_iconst C dX12_step_92 ?_
          refine m_iadd C dX12_step_93 ?_
          refine m_iload_n (j := 5) C dX12_step_94 rfl ?_
          refine m_ast18 (w := y) C dX12_step_95 (by omega) (by omega) (by omega) ?_
          refine hv2 (show BX vb1 (up2 (up2 (up2 a9 18 (vb1 19).toNat x) 18 ((vb1 19) + 1).toNat t) 18 ((vb1 19) + 2).toNat y) from bq7.set (k := 18) (i := ((vb1 19) + 2).toNat) (z := y) (show (-2147483648) ≤ y ∧ y ≤ 2147483647 by omega)) (fq7.set (k := 18) (i := ((vb1 19) + 2).toNat) (z := y) rfl) (fun bq8 fq8 => ?_)
          refine m_aload_n (j := 2) C dX12_step_96 rfl ?_
          refine m_geta (k := 18) C dX12_step_97 w6_77 (by decide) rfl ?_
          refine m_aload_n (j := 2) C dX12_step_100 rfl ?_
          refine m_get (k := 19) C dX12_step_101 w6_78 (by decide) rfl ?_
          refine m_iconst C dX12_step_104 ?_
          refine m_iadd C dX12_step_105 ?_
          refine m_iload (j := 6) C dX12_step_106 rfl ?_
          refine m_ast18 (w := z) C dX12_step_108 (by omega) (by omega) (by omega) ?_
          refine hv2 (show BX vb1 (up2 (up2 (up2 (up2 a9 18 (vb1 19).toNat x) 18 ((vb1 19) + 1).toNat t) 18 ((vb1 19) + 2).toNat y) 18 ((vb1 19) + 3).toNat z) from bq8.set (k := 18) (i := ((vb1 19) + 3).toNat) (z := z) (show (-2147483648) ≤ z ∧ z ≤ 2147483647 by omega)) (fq8.set (k := 18) (i := ((vb1 19) + 3).toNat) (z := z) rfl) (fun bq9 fq9 => ?_)
          refine m_aload_n (j := 2) C dX12_step_109 rfl ?_
          refine m_dup C dX12_step_110 rfl ?_
          refine m_get (k := 19) C dX12_step_111 w6_78 (by decide) rfl ?_
          refine m_iconst C dX12_step_114 ?_
          refine m_iadd C dX12_step_115 ?_
          refine m_put (k := 19) (z := (vb1 19) + 4) C dX12_step_116 w6_78 (by decide) rfl rfl rfl ?_
          refine hv2 (show BX (va_up vb1 19 ((vb1 19) + 4)) (up2 (up2 (up2 (up2 a9 18 (vb1 19).toNat x) 18 ((vb1 19) + 1).toNat t) 18 ((vb1 19) + 2).toNat y) 18 ((vb1 19) + 3).toNat z) from bq9.put (k := 19) (z := (vb1 19) + 4) (show (-2147483648) ≤ ((vb1 19) + 4) ∧ ((vb1 19) + 4) ≤ 2147483647 by omega)) (fq9.put (k := 19) (z := (vb1 19) + 4) rfl) (fun bq10 fq10 => ?_)
          exact n_vret C dX12_step_119 rfl (by omega) (by omega) ⟨rfl, fq10, bq10, (by rw [← h19k]; exact ⟨va_up_self _ _ _, (by show vb1 19 + 4 ≤ ((ln 18 : Nat) : Int); omega), ⟨by omega, by omega⟩, (fun j hj => ((push4 (a := a9) (n := vb1 19) (x := x) (t := t) (y := y) (z := z) (by omega)).1 j hj).trans (hc9 j hj)), (push4 (a := a9) (n := vb1 19) (x := x) (t := t) (y := y) (z := z) (by omega)).2.1, (push4 (a := a9) (n := vb1 19) (x := x) (t := t) (y := y) (z := z) (by omega)).2.2.1, (push4 (a := a9) (n := vb1 19) (x := x) (t := t) (y := y) (z := z) (by omega)).2.2.2.1, (push4 (a := a9) (n := vb1 19) (x := x) (t := t) (y := y) (z := z) (by omega)).2.2.2.2⟩)⟩
        · refine x_aload (j := 1) C dX12_step_38 rfl ?_
          refine x_iload (j := 0) C dX12_step_40 rfl ?_
          refine x_aload_n (j := 2) C dX12_step_42 rfl ?_
          refine x_geta (k := 18) C dX12_step_43 w6_77 (by decide) rfl ?_
          refine x_iload (j := 0) C dX12_step_46 rfl ?_
          refine x_ald18 C dX12_step_48 (by omega) (by omega) (by omega) ?_
          have ra1 : (-2147483648) ≤ ab1 18 k.toNat ∧ ab1 18 k.toNat ≤ 2147483647 := bxb1.2 18 (k.toNat)
          refine x_last (w := ab1 18 k.toNat) C dX12_step_49 rfl (by omega) (by omega) (by omega) ?_
          refine hv2 (show BX vb1 (up2 ab1 70 k.toNat (ab1 18 k.toNat)) from bxb1.set (k := 70) (i := k.toNat) (z := ab1 18 k.toNat) (show (-2147483648) ≤ (ab1 18 k.toNat) ∧ (ab1 18 k.toNat) ≤ 2147483647 by omega)) (fpb1.set (k := 70) (i := k.toNat) (z := ab1 18 k.toNat) rfl) (fun bq11 fq11 => ?_)
          refine x_iinc (z := k) (j := 0) (lv2 := [(6, .int (iI (k + 1))), (5, .ref bb), (0, .ref h0), (1, .int (iI x)), (2, .int (iI t)), (3, .int (iI y)), (4, .int (iI z))]) C dX12_step_50 rfl (by decide) rfl ?_
          refine x_goto (tgt := 29) C dX12_step_53 (by decide) ?_
          refine x_lv (lv2 := [(6, .int (iI (k + 1))), (5, .ref bb), (0, .ref h0), (1, .int (iI x)), (2, .int (iI t)), (3, .int (iI y)), (4, .int (iI z))]) [0, 1, 2, 3, 4, 5, 6] rfl ?_
          exact ih1  (k + 1) _ _ (by omega) bq11 fq11 (by omega) (by show (vb1 19) = v 19; omega) (fun j => by rw [up2_k (by decide)]; exact h18 j) (fun j hj => by
              by_cases e : j = k.toNat
              · subst e; rw [up2_s]; exact h18 _
              · rw [up2_j e]; exact hc j (by omega))
    refine hv2 (show (-2147483648) ≤ vw1 19 ∧ vw1 19 ≤ 2147483647 from bnw1.1 19) (show vw1 19 = v 19 from fnw1.1 19 rfl) (fun rv3 ve1 => ?_)
    refine x_lv (lv2 := [(6, .int (iI 0)), (5, .ref bb), (0, .ref h0), (1, .int (iI x)), (2, .int (iI t)), (3, .int (iI y)), (4, .int (iI z))]) [0, 1, 2, 3, 4, 5, 6] rfl ?_
    exact Lp1 2050 0 _ _ (by omega) bnw1 fqw1 (by omega) (by show (vw1 19) = v 19; omega) (fun j => congrFun (fnw1.2 18 rfl) j) (fun j hj => absurd hj (by omega))
end
