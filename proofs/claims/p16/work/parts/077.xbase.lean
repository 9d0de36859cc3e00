def xar (G : GT) (n : Nat) (zb : Bool) (c : Nat → Int) : va_E := if zb = true then aZ G n (fun j => iI (c j)) else aI G n (fun j => iI (c j))
def mIx (G : GT) (h0 : Nat) (ad ln : Nat → Nat) (bb nb : Nat) (zb : Bool) (v : Nat → Int) (a : Nat → Nat → Int) (L : List Nat) (E : Nat → va_E) : Prop := mI G h0 ad ln v a L E ∧ bb ∉ L ∧ E bb = xar G nb zb (a 70)
theorem mI.congr {G : GT} {h0 : Nat} {ad ln : Nat → Nat} {v : Nat → Int} {a a2 : Nat → Nat → Int} {L : List Nat} {E E2 : Nat → va_E} (h : mI G h0 ad ln v a L E) (hE : ∀ q, q ∈ L → E2 q = E q) (ha : ∀ k, mA k = true → a2 k = a k) : mI G h0 ad ln v a2 L E2 := by
  obtain ⟨h1, h2, h3, h4, h5, h6⟩ := h
  refine ⟨h1, by rw [hE _ h1]; exact h2, fun j hj => ⟨(h3 j hj).1, ?_⟩, h4, h5, h6⟩
  rw [hE _ (h3 j hj).1, ha j hj]; exact (h3 j hj).2
theorem mI.cons {G : GT} {h0 : Nat} {ad ln : Nat → Nat} {v : Nat → Int} {a : Nat → Nat → Int} {L : List Nat} {E : Nat → va_E} (bb : Nat) (h : mI G h0 ad ln v a L E) : mI G h0 ad ln v a (bb :: L) E := by
  obtain ⟨h1, h2, h3, h4, h5, h6⟩ := h
  exact ⟨List.mem_cons_of_mem _ h1, h2, fun j hj => ⟨List.mem_cons_of_mem _ (h3 j hj).1, (h3 j hj).2⟩, h4, h5, h6⟩
theorem mIx.put {G : GT} {h0 : Nat} {ad ln : Nat → Nat} {bb nb : Nat} {zb : Bool} {v : Nat → Int} {a : Nat → Nat → Int} {L : List Nat} {E : Nat → va_E} {k : Nat} {z : Int} (h : mIx G h0 ad ln bb nb zb v a L E) (hk : mA k = false) : mIx G h0 ad ln bb nb zb (va_up v k z) a L (va_up E h0 (ob 13 67 (va_up (mfv ad v) k (.int (iI z))))) :=
  ⟨h.1.put hk, h.2.1, by rw [va_up_ne _ _ (fun q => h.2.1 (by rw [q]; exact h.1.1))]; exact h.2.2⟩
theorem mIx.set {G : GT} {h0 : Nat} {ad ln : Nat → Nat} {bb nb : Nat} {zb : Bool} {v : Nat → Int} {a : Nat → Nat → Int} {L : List Nat} {E : Nat → va_E} {k i : Nat} {z : Int} (h : mIx G h0 ad ln bb nb zb v a L E) (hk : mA k = true) {x : va_E} (hx : x = mar G (ln k) k (up2 a k i z k)) : mIx G h0 ad ln bb nb zb v (up2 a k i z) L (va_up E (ad k) x) :=
  ⟨h.1.set hk hx, h.2.1, by
    rw [va_up_ne _ _ (fun q => h.2.1 (by rw [q]; exact (h.1.2.2.1 k hk).1))]
    rw [show up2 a k i z 70 = a 70 from funext fun _ => up2_k (fun q => by subst q; exact absurd hk (by decide))]
    exact h.2.2⟩
theorem mIx.loc {G : GT} {h0 : Nat} {ad ln : Nat → Nat} {bb nb : Nat} {zb : Bool} {v : Nat → Int} {a : Nat → Nat → Int} {L : List Nat} {E : Nat → va_E} {i : Nat} {z : Int} (h : mIx G h0 ad ln bb nb zb v a L E) {x : va_E} (hx : x = xar G nb zb (up2 a 70 i z 70)) : mIx G h0 ad ln bb nb zb v (up2 a 70 i z) L (va_up E bb x) :=
  ⟨h.1.congr (fun q hq => va_up_ne _ _ (fun e => h.2.1 (by rw [← e]; exact hq))) (fun k hk => funext fun _ => up2_k (fun q => by subst q; exact absurd hk (by decide))), h.2.1, by rw [va_up_self, hx]⟩
def mx (p : Program) (l : Launch) (e : Env) (R : Room) (s : State) (m : MethodId) (args : Array Value) (below : List Frame) (meth : Method) (c : Code) (G : GT) (A : Nat → Prop) (nL : Nat) (Q : State → Prop) (bb nb : Nat) (zb : Bool) (h0 : Nat) (ad ln : Nat → Nat) (v : Nat → Int) (a : Nat → Nat → Int) (kc ks pc : Nat) (lv : List (Nat × Value)) (st : List Value) : Prop := ∀ (L : List Nat) (E : Nat → va_E), mIx G h0 ad ln bb nb zb v a L E → wq p l e R s m args below meth c G A nL Q (bb :: L) E kc ks pc lv st
section MQ3
variable {p : Program} {l : Launch} {e : Env} {R : Room} {s : State} {m : MethodId} {args : Array Value} {below : List Frame} {meth : Method} {c : Code} {cc : ByteArray} {y : MethodName} {ret : Option FieldType} {G : GT} {A : Nat → Prop} {nL mc ms : Nat} {Q : State → Prop} {Post : Option Value → (Nat → Int) → (Nat → Nat → Int) → Prop} {h0 : Nat} {ad ln : Nat → Nat} {v : Nat → Int} {a : Nat → Nat → Int} {kc ks pc : Nat} {lv : List (Nat × Value)} {st : List Value} {bb nb : Nat} {zb : Bool}
theorem x_iconst (C : Cq p s m args meth c cc y ret G A nL) {n : Int} (d : decode cc pc = .ok (.iconst n, 1))  (k : mx p l e R s m args below meth c G A nL Q bb nb zb h0 ad ln v a kc ks (pc + 1) lv (.int (iI n) :: st)) : mx p l e R s m args below meth c G A nL Q bb nb zb h0 ad ln v a kc ks pc lv st := fun L E h => q_iconst C d rfl (k L E h)
theorem x_bipush (C : Cq p s m args meth c cc y ret G A nL) {n z : Int} (d : decode cc pc = .ok (.bipush n, 2)) (hz : (Int8.ofInt n).toInt32 = iI z) (k : mx p l e R s m args below meth c G A nL Q bb nb zb h0 ad ln v a kc ks (pc + 2) lv (.int (iI z) :: st)) : mx p l e R s m args below meth c G A nL Q bb nb zb h0 ad ln v a kc ks pc lv st := fun L E h => q_bipush C d hz (k L E h)
theorem x_sipush (C : Cq p s m args meth c cc y ret G A nL) {n z : Int} (d : decode cc pc = .ok (.sipush n, 3)) (hz : (Int16.ofInt n).toInt32 = iI z) (k : mx p l e R s m args below meth c G A nL Q bb nb zb h0 ad ln v a kc ks (pc + 3) lv (.int (iI z) :: st)) : mx p l e R s m args below meth c G A nL Q bb nb zb h0 ad ln v a kc ks pc lv st := fun L E h => q_sipush C d hz (k L E h)
theorem x_iload_n (C : Cq p s m args meth c cc y ret G A nL) {i : Fin 4} {j : Nat} {x : Int32} (d : decode cc pc = .ok (.iload_n i, 1)) (hj : lv[j]? = some ((i : Nat), .int x)) (k : mx p l e R s m args below meth c G A nL Q bb nb zb h0 ad ln v a kc ks (pc + 1) lv (.int x :: st)) : mx p l e R s m args below meth c G A nL Q bb nb zb h0 ad ln v a kc ks pc lv st := fun L E h => q_iload_n C d hj (k L E h)
theorem x_iload (C : Cq p s m args meth c cc y ret G A nL) {i j : Nat} {x : Int32} (d : decode cc pc = .ok (.iload i, 2)) (hj : lv[j]? = some (i, .int x)) (k : mx p l e R s m args below meth c G A nL Q bb nb zb h0 ad ln v a kc ks (pc + 2) lv (.int x :: st)) : mx p l e R s m args below meth c G A nL Q bb nb zb h0 ad ln v a kc ks pc lv st := fun L E h => q_iload C d hj (k L E h)
theorem x_aload_n (C : Cq p s m args meth c cc y ret G A nL) {i : Fin 4} {j : Nat} {x : Nat} (d : decode cc pc = .ok (.aload_n i, 1)) (hj : lv[j]? = some ((i : Nat), .ref x)) (k : mx p l e R s m args below meth c G A nL Q bb nb zb h0 ad ln v a kc ks (pc + 1) lv (.ref x :: st)) : mx p l e R s m args below meth c G A nL Q bb nb zb h0 ad ln v a kc ks pc lv st := fun L E h => q_aload_n C d hj (k L E h)
theorem x_aload (C : Cq p s m args meth c cc y ret G A nL) {i j : Nat} {x : Nat} (d : decode cc pc = .ok (.aload i, 2)) (hj : lv[j]? = some (i, .ref x)) (k : mx p l e R s m args below meth c G A nL Q bb nb zb h0 ad ln v a kc ks (pc + 2) lv (.ref x :: st)) : mx p l e R s m args below meth c G A nL Q bb nb zb h0 ad ln v a kc ks pc lv st := fun L E h => q_aload C d hj (k L E h)
theorem x_istore_n (C : Cq p s m args meth c cc y ret G A nL) {i : Fin 4} {x : Int32} {lv2 : List (Nat × Value)} (d : decode cc pc = .ok (.istore_n i, 1)) (hn : (i : Nat) < nL) (hl : ((i : Nat), Value.int x) :: lv.filter (fun q => !(q.1 == (i : Nat)) && !(q.1 + 1 == (i : Nat) && q.2.category == 2)) = lv2) (k : mx p l e R s m args below meth c G A nL Q bb nb zb h0 ad ln v a kc ks (pc + 1) lv2 st) : mx p l e R s m args below meth c G A nL Q bb nb zb h0 ad ln v a kc ks pc lv (Value.int x :: st) := fun L E h => q_istore_n C d hn hl (k L E h)
theorem x_istore (C : Cq p s m args meth c cc y ret G A nL) {i : Nat} {x : Int32} {lv2 : List (Nat × Value)} (d : decode cc pc = .ok (.istore i, 2)) (hn : i < nL) (hl : (i, Value.int x) :: lv.filter (fun q => !(q.1 == i) && !(q.1 + 1 == i && q.2.category == 2)) = lv2) (k : mx p l e R s m args below meth c G A nL Q bb nb zb h0 ad ln v a kc ks (pc + 2) lv2 st) : mx p l e R s m args below meth c G A nL Q bb nb zb h0 ad ln v a kc ks pc lv (Value.int x :: st) := fun L E h => q_istore C d hn hl (k L E h)
theorem x_astore_n (C : Cq p s m args meth c cc y ret G A nL) {i : Fin 4} {x : Nat} {lv2 : List (Nat × Value)} (d : decode cc pc = .ok (.astore_n i, 1)) (hn : (i : Nat) < nL) (hl : ((i : Nat), Value.ref x) :: lv.filter (fun q => !(q.1 == (i : Nat)) && !(q.1 + 1 == (i : Nat) && q.2.category == 2)) = lv2) (k : mx p l e R s m args below meth c G A nL Q bb nb zb h0 ad ln v a kc ks (pc + 1) lv2 st) : mx p l e R s m args below meth c G A nL Q bb nb zb h0 ad ln v a kc ks pc lv (Value.ref x :: st) := fun L E h => q_astore_n C d hn hl (k L E h)
theorem x_astore (C : Cq p s m args meth c cc y ret G A nL) {i : Nat} {x : Nat} {lv2 : List (Nat × Value)} (d : decode cc pc = .ok (.astore i, 2)) (hn : i < nL) (hl : (i, Value.ref x) :: lv.filter (fun q => !(q.1 == i) && !(q.1 + 1 == i && q.2.category == 2)) = lv2) (k : mx p l e R s m args below meth c G A nL Q bb nb zb h0 ad ln v a kc ks (pc + 2) lv2 st) : mx p l e R s m args below meth c G A nL Q bb nb zb h0 ad ln v a kc ks pc lv (Value.ref x :: st) := fun L E h => q_astore C d hn hl (k L E h)
theorem x_iinc (C : Cq p s m args meth c cc y ret G A nL) {i j : Nat} {n z : Int} {lv2 : List (Nat × Value)} (d : decode cc pc = .ok (.iinc i n, 3)) (hj : lv[j]? = some (i, .int (iI z))) (hn : i < nL) (hl : (i, Value.int (iI (z + n))) :: lv.filter (fun q => !(q.1 == i) && !(q.1 + 1 == i && q.2.category == 2)) = lv2) (k : mx p l e R s m args below meth c G A nL Q bb nb zb h0 ad ln v a kc ks (pc + 3) lv2 st) : mx p l e R s m args below meth c G A nL Q bb nb zb h0 ad ln v a kc ks pc lv st := fun L E h => q_iinc C d hj (Int32.ofInt_add z n).symm hn hl (k L E h)
theorem x_iadd (C : Cq p s m args meth c cc y ret G A nL) {x z : Int} (d : decode cc pc = .ok (.iadd, 1))  (k : mx p l e R s m args below meth c G A nL Q bb nb zb h0 ad ln v a kc ks (pc + 1) lv (.int (iI (x + z)) :: st)) : mx p l e R s m args below meth c G A nL Q bb nb zb h0 ad ln v a kc ks pc lv (.int (iI z) :: .int (iI x) :: st) := fun L E h => q_iadd C d (Int32.ofInt_add x z).symm (k L E h)
theorem x_isub (C : Cq p s m args meth c cc y ret G A nL) {x z : Int} (d : decode cc pc = .ok (.isub, 1))  (k : mx p l e R s m args below meth c G A nL Q bb nb zb h0 ad ln v a kc ks (pc + 1) lv (.int (iI (x - z)) :: st)) : mx p l e R s m args below meth c G A nL Q bb nb zb h0 ad ln v a kc ks pc lv (.int (iI z) :: .int (iI x) :: st) := fun L E h => q_isub C d (Int32.ofInt_sub x z).symm (k L E h)
theorem x_imul (C : Cq p s m args meth c cc y ret G A nL) {x z : Int} (d : decode cc pc = .ok (.imul, 1))  (k : mx p l e R s m args below meth c G A nL Q bb nb zb h0 ad ln v a kc ks (pc + 1) lv (.int (iI (x * z)) :: st)) : mx p l e R s m args below meth c G A nL Q bb nb zb h0 ad ln v a kc ks pc lv (.int (iI z) :: .int (iI x) :: st) := fun L E h => q_imul C d (Int32.ofInt_mul x z).symm (k L E h)
theorem x_dup (C : Cq p s m args meth c cc y ret G A nL) {u : Value} (d : decode cc pc = .ok (.dup, 1)) (hu : u.category = 1) (k : mx p l e R s m args below meth c G A nL Q bb nb zb h0 ad ln v a kc ks (pc + 1) lv (u :: u :: st)) : mx p l e R s m args below meth c G A nL Q bb nb zb h0 ad ln v a kc ks pc lv (u :: st) := fun L E h => q_dup C d hu (k L E h)
theorem x_dup2 (C : Cq p s m args meth c cc y ret G A nL) {u w : Value} (d : decode cc pc = .ok (.dup2, 1)) (hu : u.category = 1) (hw : w.category = 1) (k : mx p l e R s m args below meth c G A nL Q bb nb zb h0 ad ln v a kc ks (pc + 1) lv (u :: w :: u :: w :: st)) : mx p l e R s m args below meth c G A nL Q bb nb zb h0 ad ln v a kc ks pc lv (u :: w :: st) := fun L E h => q_dup2 C d hu hw (k L E h)
theorem x_goto (C : Cq p s m args meth c cc y ret G A nL) {off : Int} {tgt : Nat} (d : decode cc pc = .ok (.goto off, 3)) (ht : (pc : Int) + off = (tgt : Int)) (k : mx p l e R s m args below meth c G A nL Q bb nb zb h0 ad ln v a kc ks tgt lv st) : mx p l e R s m args below meth c G A nL Q bb nb zb h0 ad ln v a kc ks pc lv st := fun L E h => q_goto C d ht (k L E h)
theorem x_if_eq (C : Cq p s m args meth c cc y ret G A nL) {x off : Int} {tgt : Nat} (hx : R32 x) (d : decode cc pc = .ok (.ifCond .eq off, 3)) (ht : (pc : Int) + off = (tgt : Int)) (kt : x = 0 → mx p l e R s m args below meth c G A nL Q bb nb zb h0 ad ln v a kc ks tgt lv st) (kf : ¬ x = 0 → mx p l e R s m args below meth c G A nL Q bb nb zb h0 ad ln v a kc ks (pc + 3) lv st) : mx p l e R s m args below meth c G A nL Q bb nb zb h0 ad ln v a kc ks pc lv (.int (iI x) :: st) := fun L E h => q_if_eq C d ht (fun q => kt ((iI_eq hx R32_0).mp q) L E h) (fun q => kf (fun r => q ((iI_eq hx R32_0).mpr r)) L E h)
theorem x_icmp_ne (C : Cq p s m args meth c cc y ret G A nL) {x z off : Int} {tgt : Nat} (hx : R32 x) (hz : R32 z) (d : decode cc pc = .ok (.if_icmp .ne off, 3)) (ht : (pc : Int) + off = (tgt : Int)) (kt : ¬ x = z → mx p l e R s m args below meth c G A nL Q bb nb zb h0 ad ln v a kc ks tgt lv st) (kf : x = z → mx p l e R s m args below meth c G A nL Q bb nb zb h0 ad ln v a kc ks (pc + 3) lv st) : mx p l e R s m args below meth c G A nL Q bb nb zb h0 ad ln v a kc ks pc lv (.int (iI z) :: .int (iI x) :: st) := fun L E h => q_icmp_ne C d ht (fun q => kt (fun r => q ((iI_eq hx hz).mpr r)) L E h) (fun q => kf ((iI_eq hx hz).mp q) L E h)
theorem x_if_ne (C : Cq p s m args meth c cc y ret G A nL) {x off : Int} {tgt : Nat} (hx : R32 x) (d : decode cc pc = .ok (.ifCond .ne off, 3)) (ht : (pc : Int) + off = (tgt : Int)) (kt : ¬ x = 0 → mx p l e R s m args below meth c G A nL Q bb nb zb h0 ad ln v a kc ks tgt lv st) (kf : x = 0 → mx p l e R s m args below meth c G A nL Q bb nb zb h0 ad ln v a kc ks (pc + 3) lv st) : mx p l e R s m args below meth c G A nL Q bb nb zb h0 ad ln v a kc ks pc lv (.int (iI x) :: st) := fun L E h => q_if_ne C d ht (fun q => kt (fun r => q ((iI_eq hx R32_0).mpr r)) L E h) (fun q => kf ((iI_eq hx R32_0).mp q) L E h)
theorem x_if_lt (C : Cq p s m args meth c cc y ret G A nL) {x off : Int} {tgt : Nat} (hx : R32 x) (d : decode cc pc = .ok (.ifCond .lt off, 3)) (ht : (pc : Int) + off = (tgt : Int)) (kt : x < 0 → mx p l e R s m args below meth c G A nL Q bb nb zb h0 ad ln v a kc ks tgt lv st) (kf : ¬ x < 0 → mx p l e R s m args below meth c G A nL Q bb nb zb h0 ad ln v a kc ks (pc + 3) lv st) : mx p l e R s m args below meth c G A nL Q bb nb zb h0 ad ln v a kc ks pc lv (.int (iI x) :: st) := fun L E h => q_if_lt C d ht (fun q => kt ((iI_lt hx R32_0).mp q) L E h) (fun q => kf (fun r => q ((iI_lt hx R32_0).mpr r)) L E h)
theorem x_icmp_ge (C : Cq p s m args meth c cc y ret G A nL) {x z off : Int} {tgt : Nat} (hx : R32 x) (hz : R32 z) (d : decode cc pc = .ok (.if_icmp .ge off, 3)) (ht : (pc : Int) + off = (tgt : Int)) (kt : z ≤ x → mx p l e R s m args below meth c G A nL Q bb nb zb h0 ad ln v a kc ks tgt lv st) (kf : ¬ z ≤ x → mx p l e R s m args below meth c G A nL Q bb nb zb h0 ad ln v a kc ks (pc + 3) lv st) : mx p l e R s m args below meth c G A nL Q bb nb zb h0 ad ln v a kc ks pc lv (.int (iI z) :: .int (iI x) :: st) := fun L E h => q_icmp_ge C d ht (fun q => kt ((iI_le hz hx).mp q) L E h) (fun q => kf (fun r => q ((iI_le hz hx).mpr r)) L E h)
theorem x_icmp_gt (C : Cq p s m args meth c cc y ret G A nL) {x z off : Int} {tgt : Nat} (hx : R32 x) (hz : R32 z) (d : decode cc pc = .ok (.if_icmp .gt off, 3)) (ht : (pc : Int) + off = (tgt : Int)) (kt : z < x → mx p l e R s m args below meth c G A nL Q bb nb zb h0 ad ln v a kc ks tgt lv st) (kf : ¬ z < x → mx p l e R s m args below meth c G A nL Q bb nb zb h0 ad ln v a kc ks (pc + 3) lv st) : mx p l e R s m args below meth c G A nL Q bb nb zb h0 ad ln v a kc ks pc lv (.int (iI z) :: .int (iI x) :: st) := fun L E h => q_icmp_gt C d ht (fun q => kt ((iI_lt hz hx).mp q) L E h) (fun q => kf (fun r => q ((iI_lt hz hx).mpr r)) L E h)
theorem x_if_le (C : Cq p s m args meth c cc y ret G A nL) {x off : Int} {tgt : Nat} (hx : R32 x) (d : decode cc pc = .ok (.ifCond .le off, 3)) (ht : (pc : Int) + off = (tgt : Int)) (kt : x ≤ 0 → mx p l e R s m args below meth c G A nL Q bb nb zb h0 ad ln v a kc ks tgt lv st) (kf : ¬ x ≤ 0 → mx p l e R s m args below meth c G A nL Q bb nb zb h0 ad ln v a kc ks (pc + 3) lv st) : mx p l e R s m args below meth c G A nL Q bb nb zb h0 ad ln v a kc ks pc lv (.int (iI x) :: st) := fun L E h => q_if_le C d ht (fun q => kt ((iI_le hx R32_0).mp q) L E h) (fun q => kf (fun r => q ((iI_le hx R32_0).mpr r)) L E h)
theorem x_lv {lv2 : List (Nat × Value)} (ps : List Nat) (hl : lv_pick lv ps = lv2) (k : mx p l e R s m args below meth c G A nL Q bb nb zb h0 ad ln v a kc ks pc lv2 st) : mx p l e R s m args below meth c G A nL Q bb nb zb h0 ad ln v a kc ks pc lv st := fun L E h H locs ls hP hD hS hv => k L E h H locs ls hP hD hS (lv_sub hv ps hl)
theorem x_st {st2 : List Value} (h : st = st2) (k : mx p l e R s m args below meth c G A nL Q bb nb zb h0 ad ln v a kc ks pc lv st2) : mx p l e R s m args below meth c G A nL Q bb nb zb h0 ad ln v a kc ks pc lv st := by subst h; exact k
theorem x_get (C : Cq p s m args meth c cc y ret G A nL) {k idx : Nat} (d : decode cc pc = .ok (.getfield idx, 3)) (lk : Cond.fieldLink y.cls idx (TX12 k).1 (TX12 k).2.1 (TX12 k).2.2.1 ∈ lw_g) (hk : k < 67) (hA : mA k = false) (kk : mx p l e R s m args below meth c G A nL Q bb nb zb h0 ad ln v a kc ks (pc + 3) lv (.int (iI (v k)) :: st)) : mx p l e R s m args below meth c G A nL Q bb nb zb h0 ad ln v a kc ks pc lv (.ref h0 :: st) := fun L E h => q_get (k := k) C ck_13 d lk hk (List.mem_cons_of_mem _ h.1.1) h.1.2.1 (mfv_i hA) (kk L E h)
theorem x_geta (C : Cq p s m args meth c cc y ret G A nL) {k idx : Nat} (d : decode cc pc = .ok (.getfield idx, 3)) (lk : Cond.fieldLink y.cls idx (TX12 k).1 (TX12 k).2.1 (TX12 k).2.2.1 ∈ lw_g) (hk : k < 67) (hA : mA k = true) (kk : mx p l e R s m args below meth c G A nL Q bb nb zb h0 ad ln v a kc ks (pc + 3) lv (.ref (ad k) :: st)) : mx p l e R s m args below meth c G A nL Q bb nb zb h0 ad ln v a kc ks pc lv (.ref h0 :: st) := fun L E h => q_get (k := k) C ck_13 d lk hk (List.mem_cons_of_mem _ h.1.1) h.1.2.1 (mfv_a hA) (kk L E h)
theorem x_put (C : Cq p s m args meth c cc y ret G A nL) {k idx : Nat} {z : Int} (d : decode cc pc = .ok (.putfield idx, 3)) (lk : Cond.fieldLink y.cls idx (TX12 k).1 (TX12 k).2.1 (TX12 k).2.2.1 ∈ lw_g) (hk : k < 67) (hA : mA k = false) (hf : (TX12 k).2.2.2 = false) (ht : tyX12 k = .int) (kk : mx p l e R s m args below meth c G A nL Q bb nb zb h0 ad ln (va_up v k z) a kc ks (pc + 3) lv st) : mx p l e R s m args below meth c G A nL Q bb nb zb h0 ad ln v a kc ks pc lv (.int (iI z) :: .ref h0 :: st) := fun L E h => q_put (k := k) C ck_13 d lk hk hf (List.mem_cons_of_mem _ h.1.1) h.1.2.1 (by rw [ht]; rfl) (by rw [ht]; rfl) (kk L _ (h.put hA))
theorem x_ald (C : Cq p s m args meth c cc y ret G A nL) {k : Nat} {z : Int} (d : decode cc pc = .ok (.iaload, 1)) (hA : mA k = true) (hZ : mZ k = false) (h18 : k ≠ 18) (h1 : 0 ≤ z) (h2 : z < (mlen k : Nat)) (hm : mlen k ≤ 100000) (kk : mx p l e R s m args below meth c G A nL Q bb nb zb h0 ad ln v a kc ks (pc + 1) lv (.int (iI (a k z.toNat)) :: st)) : mx p l e R s m args below meth c G A nL Q bb nb zb h0 ad ln v a kc ks pc lv (.int (iI z) :: .ref (ad k) :: st) := by
  intro L E h
  refine hv2 (show R32 z from ⟨by omega, by omega⟩) ((h.1.2.2.1 k hA).2) (fun hr hE => ?_)
  unfold mar at hE
  rw [hZ, if_neg (by decide), h.1.2.2.2.2.2.1 k h18] at hE
  exact q_iald C d (List.mem_cons_of_mem _ (h.1.2.2.1 k hA).1) hE (iI_in hr h1 h2) (by rw [iI_cl hr]) (kk L E h)
theorem x_ald18 (C : Cq p s m args meth c cc y ret G A nL) {z : Int} (d : decode cc pc = .ok (.iaload, 1)) (h1 : 0 ≤ z) (h2 : z < (ln 18 : Nat)) (hm : ln 18 ≤ 100000) (kk : mx p l e R s m args below meth c G A nL Q bb nb zb h0 ad ln v a kc ks (pc + 1) lv (.int (iI (a 18 z.toNat)) :: st)) : mx p l e R s m args below meth c G A nL Q bb nb zb h0 ad ln v a kc ks pc lv (.int (iI z) :: .ref (ad 18) :: st) := by
  intro L E h
  refine hv2 (show R32 z from ⟨by omega, by omega⟩) ((h.1.2.2.1 18 rfl).2) (fun hr hE => ?_)
  unfold mar at hE
  rw [if_neg (by decide)] at hE
  exact q_iald C d (List.mem_cons_of_mem _ (h.1.2.2.1 18 rfl).1) hE (iI_in hr h1 h2) (by rw [iI_cl hr]) (kk L E h)
theorem m_ald18 (C : Cq p s m args meth c cc y ret G A nL) {z : Int} (d : decode cc pc = .ok (.iaload, 1)) (h1 : 0 ≤ z) (h2 : z < (ln 18 : Nat)) (hm : ln 18 ≤ 100000) (kk : mw p l e R s m args below meth c G A nL Q h0 ad ln v a kc ks (pc + 1) lv (.int (iI (a 18 z.toNat)) :: st)) : mw p l e R s m args below meth c G A nL Q h0 ad ln v a kc ks pc lv (.int (iI z) :: .ref (ad 18) :: st) := by
  intro L E h
  refine hv2 (show R32 z from ⟨by omega, by omega⟩) ((h.2.2.1 18 rfl).2) (fun hr hE => ?_)
  unfold mar at hE
  rw [if_neg (by decide)] at hE
  exact q_iald C d (h.2.2.1 18 rfl).1 hE (iI_in hr h1 h2) (by rw [iI_cl hr]) (kk L E h)
theorem m_ast18 (C : Cq p s m args meth c cc y ret G A nL) {z w : Int} (d : decode cc pc = .ok (.iastore, 1)) (h1 : 0 ≤ z) (h2 : z < (ln 18 : Nat)) (hm : ln 18 ≤ 100000) (kk : mw p l e R s m args below meth c G A nL Q h0 ad ln v (up2 a 18 z.toNat w) kc ks (pc + 1) lv st) : mw p l e R s m args below meth c G A nL Q h0 ad ln v a kc ks pc lv (.int (iI w) :: .int (iI z) :: .ref (ad 18) :: st) := by
  intro L E h
  refine hv2 (show R32 z from ⟨by omega, by omega⟩) ((h.2.2.1 18 rfl).2) (fun hr hE => ?_)
  unfold mar at hE
  rw [if_neg (by decide)] at hE
  refine q_iast C d (h.2.2.1 18 rfl).1 hE (iI_in hr h1 h2) (kk L _ (h.set (k := 18) rfl ?_))
  unfold mar
  rw [if_neg (by decide), iI_cl hr]
  congr 1
  funext j
  unfold upd up2
  rw [if_pos rfl]
  split <;> rfl
theorem m_alen18 (C : Cq p s m args meth c cc y ret G A nL) (d : decode cc pc = .ok (.arraylength, 1)) (kk : mw p l e R s m args below meth c G A nL Q h0 ad ln v a kc ks (pc + 1) lv (.int (iI (ln 18 : Nat)) :: st)) : mw p l e R s m args below meth c G A nL Q h0 ad ln v a kc ks pc lv (.ref (ad 18) :: st) := by
  intro L E h
  have hE := (h.2.2.1 18 rfl).2
  unfold mar at hE
  rw [if_neg (by decide)] at hE
  exact q_alenI C d (h.2.2.1 18 rfl).1 hE Int32.ofInt_eq_ofNat.symm (kk L E h)
theorem x_ast (C : Cq p s m args meth c cc y ret G A nL) {k : Nat} {z w : Int} (d : decode cc pc = .ok (.iastore, 1)) (hA : mA k = true) (hZ : mZ k = false) (h18 : k ≠ 18) (h1 : 0 ≤ z) (h2 : z < (mlen k : Nat)) (hm : mlen k ≤ 100000) (kk : mx p l e R s m args below meth c G A nL Q bb nb zb h0 ad ln v (up2 a k z.toNat w) kc ks (pc + 1) lv st) : mx p l e R s m args below meth c G A nL Q bb nb zb h0 ad ln v a kc ks pc lv (.int (iI w) :: .int (iI z) :: .ref (ad k) :: st) := by
  intro L E h
  refine hv2 (show R32 z from ⟨by omega, by omega⟩) ((h.1.2.2.1 k hA).2) (fun hr hE => ?_)
  unfold mar at hE
  rw [hZ, if_neg (by decide)] at hE
  refine q_iast C d (List.mem_cons_of_mem _ (h.1.2.2.1 k hA).1) hE (by rw [h.1.2.2.2.2.2.1 k h18]; exact iI_in hr h1 h2) (kk L _ (h.set hA ?_))
  unfold mar
  rw [hZ, if_neg (by decide), iI_cl hr]
  congr 1
  funext j
  unfold upd up2
  rw [if_pos rfl]
  split <;> rfl
theorem x_lald (C : Cq p s m args meth c cc y ret G A nL) {z : Int} (d : decode cc pc = .ok (.iaload, 1)) (hz : zb = false) (h1 : 0 ≤ z) (h2 : z < (nb : Nat)) (hm : nb ≤ 100000) (kk : mx p l e R s m args below meth c G A nL Q bb nb zb h0 ad ln v a kc ks (pc + 1) lv (.int (iI (a 70 z.toNat)) :: st)) : mx p l e R s m args below meth c G A nL Q bb nb zb h0 ad ln v a kc ks pc lv (.int (iI z) :: .ref bb :: st) := by
  intro L E h
  refine hv2 (show R32 z from ⟨by omega, by omega⟩) (h.2.2) (fun hr hE => ?_)
  unfold xar at hE
  rw [hz, if_neg (by decide)] at hE
  exact q_iald C d List.mem_cons_self hE (iI_in hr h1 h2) (by rw [iI_cl hr]) (kk L E h)
theorem x_lzald (C : Cq p s m args meth c cc y ret G A nL) {z : Int} (d : decode cc pc = .ok (.baload, 1)) (hz : zb = true) (h1 : 0 ≤ z) (h2 : z < (nb : Nat)) (hm : nb ≤ 100000) (kk : mx p l e R s m args below meth c G A nL Q bb nb zb h0 ad ln v a kc ks (pc + 1) lv (.int (iI (a 70 z.toNat)) :: st)) : mx p l e R s m args below meth c G A nL Q bb nb zb h0 ad ln v a kc ks pc lv (.int (iI z) :: .ref bb :: st) := by
  intro L E h
  refine hv2 (show R32 z from ⟨by omega, by omega⟩) (h.2.2) (fun hr hE => ?_)
  unfold xar at hE
  rw [hz, if_pos rfl] at hE
  exact q_zald C d List.mem_cons_self hE (iI_in hr h1 h2) (by rw [iI_cl hr]) (kk L E h)
theorem x_last (C : Cq p s m args meth c cc y ret G A nL) {z w : Int} (d : decode cc pc = .ok (.iastore, 1)) (hz : zb = false) (h1 : 0 ≤ z) (h2 : z < (nb : Nat)) (hm : nb ≤ 100000) (kk : mx p l e R s m args below meth c G A nL Q bb nb zb h0 ad ln v (up2 a 70 z.toNat w) kc ks (pc + 1) lv st) : mx p l e R s m args below meth c G A nL Q bb nb zb h0 ad ln v a kc ks pc lv (.int (iI w) :: .int (iI z) :: .ref bb :: st) := by
  intro L E h
  refine hv2 (show R32 z from ⟨by omega, by omega⟩) (h.2.2) (fun hr hE => ?_)
  unfold xar at hE
  rw [hz, if_neg (by decide)] at hE
  refine q_iast C d List.mem_cons_self hE (iI_in hr h1 h2) (kk L _ (h.loc ?_))
  unfold xar
  rw [hz, if_neg (by decide), iI_cl hr]
  congr 1
  funext j
  unfold upd up2
  rw [if_pos rfl]
  split <;> rfl
theorem x_lzast (C : Cq p s m args meth c cc y ret G A nL) {z w : Int} (d : decode cc pc = .ok (.bastore, 1)) (hz : zb = true) (h1 : 0 ≤ z) (h2 : z < (nb : Nat)) (hm : nb ≤ 100000) (hw : w = 0 ∨ w = 1) (kk : mx p l e R s m args below meth c G A nL Q bb nb zb h0 ad ln v (up2 a 70 z.toNat w) kc ks (pc + 1) lv st) : mx p l e R s m args below meth c G A nL Q bb nb zb h0 ad ln v a kc ks pc lv (.int (iI w) :: .int (iI z) :: .ref bb :: st) := by
  intro L E h
  refine hv2 (show R32 z from ⟨by omega, by omega⟩) (h.2.2) (fun hr hE => ?_)
  unfold xar at hE
  rw [hz, if_pos rfl] at hE
  refine q_zast2 C d List.mem_cons_self hE (iI_in hr h1 h2) (kk L _ (h.loc ?_))
  unfold xar
  rw [hz, if_pos rfl, iI_cl hr, nar_b hw]
  congr 1
  funext j
  unfold upd up2
  rw [if_pos rfl]
  split <;> rfl
theorem x_iret (C : Cq p s m args meth c cc y ret G A nL) {z : Int} (d : decode cc pc = .ok (.ireturn, 1)) (hr : ret = some .int) (h1 : kc ≤ mc) (h2 : ks ≤ ms) (hp : Post (some (.int (iI z))) v a) : mx p l e R s m args below meth c G A nL (MQ below (Qm G A (fun r L2 E2 => ∃ (v2 : Nat → Int) (a2 : Nat → Nat → Int), mI G h0 ad ln v2 a2 L2 E2 ∧ Post r v2 a2)) args s mc ms A) bb nb zb h0 ad ln v a kc ks pc lv [.int (iI z)] := fun L E h => q_iret C d hr h1 h2 ⟨v, a, h.1.cons bb, hp⟩
theorem x_vret (C : Cq p s m args meth c cc y ret G A nL) (d : decode cc pc = .ok (.return_, 1)) (hr : ret = none) (h1 : kc ≤ mc) (h2 : ks ≤ ms) (hp : Post none v a) : mx p l e R s m args below meth c G A nL (MQ below (Qm G A (fun r L2 E2 => ∃ (v2 : Nat → Int) (a2 : Nat → Nat → Int), mI G h0 ad ln v2 a2 L2 E2 ∧ Post r v2 a2)) args s mc ms A) bb nb zb h0 ad ln v a kc ks pc lv [] := fun L E h => q_vret C d hr h1 h2 ⟨v, a, h.1.cons bb, hp⟩
theorem x_call (C : Cq p s m args meth c cc y ret G A nL) {y2 : MethodName} {cc2 : ByteArray} {n2 d2 mc2 ms2 idx k2 : Nat} {ret2 : Option FieldType} {P2 : Option Value → (Nat → Int) → (Nat → Nat → Int) → Prop} {As rest : List Value} (M : Mm l G y2 cc2 n2 ret2 d2 As h0 ad ln v a mc2 ms2 P2) (h70 : ∀ (r : Option Value) (v2 : Nat → Int) (a2 : Nat → Nat → Int), P2 r v2 a2 → a2 70 = a 70) (d : decode cc pc = .ok (.invokevirtual idx, 3)) (hw : Wv y.cls idx y2 cc2 n2 ret2 k2) (hk : As.length = k2) (ck : Ck 13 y2.cls TX12 67 tyX12) (hst : st = As.reverse ++ .ref h0 :: rest) (hcat : (rest.map fun v => v.category).sum ≤ 8) (hR : d2 + 1 ≤ R.frames ∧ 8 + (n2 + 11) + 64 * d2 ≤ R.locals) (hf : kc + mc2 ≤ R.cells ∧ ks + ms2 ≤ R.slots) (kk : ∀ (r : Option Value) (v2 : Nat → Int) (a2 : Nat → Nat → Int), P2 r v2 a2 → mx p l e R s m args below meth c G A nL Q bb nb zb h0 ad ln v2 a2 (kc + mc2) (ks + ms2) (pc + 3) lv (r.toList ++ rest)) : mx p l e R s m args below meth c G A nL Q bb nb zb h0 ad ln v a kc ks pc lv st := fun L E h => q_subV (Lm := [bb]) C (M L E h.1) d hw hk h.1.1 h.1.2.1 ck hst hcat hR hf (fun r L2 E2 E3 ⟨v2, a2, h2, hp⟩ e1 e2 e3 => kk r v2 a2 hp L2 E3 ⟨h2.congr e2 (fun _ _ => rfl), e3 bb List.mem_cons_self, by rw [e1 bb List.mem_cons_self, h70 r v2 a2 hp]; exact h.2.2⟩)
theorem x_callS (C : Cq p s m args meth c cc y ret G A nL) {y2 : MethodName} {cc2 : ByteArray} {n2 d2 idx k2 : Nat} {ret2 : Option FieldType} {r2 : Value} {As rest : List Value} (M : ∀ (L : List Nat) (E : Nat → va_E), Mq l G y2 cc2 n2 ret2 d2 As L E 0 0 (fun r L2 E2 => r = some r2 ∧ L2 = L ∧ E2 = E)) (d : decode cc pc = .ok (.invokestatic idx, 3)) (hw : Ws y.cls idx y2 cc2 n2 ret2 k2) (hk : As.length = k2) (hst : st = As.reverse ++ rest) (hcat : (rest.map fun v => v.category).sum ≤ 8) (hR : d2 + 1 ≤ R.frames ∧ 8 + (n2 + 11) + 64 * d2 ≤ R.locals) (hf : kc ≤ R.cells ∧ ks ≤ R.slots) (kk : mx p l e R s m args below meth c G A nL Q bb nb zb h0 ad ln v a kc ks (pc + 3) lv (r2 :: rest)) : mx p l e R s m args below meth c G A nL Q bb nb zb h0 ad ln v a kc ks pc lv st := fun L E h => q_callS C (M (bb :: L) E) d hw hk hst hcat hR hf (fun r L2 E2 ⟨h1, h2, h3⟩ => by subst h1; subst h2; subst h3; exact kk _ _ h)
theorem q_pool {L L2 : List Nat} {E E2 : Nat → va_E} (h : ∀ q, q ∈ L2 → q ∈ L ∧ E2 q = E q) (hn : L.Nodup → L2.Nodup) (k : wq p l e R s m args below meth c G A nL Q L2 E2 kc ks pc lv st) : wq p l e R s m args below meth c G A nL Q L E kc ks pc lv st := by
  intro H locs ls hP hD hS hl
  have hnd : L.Nodup := by
    unfold List.Nodup
    rw [List.pairwise_iff_getElem]
    intro i j hi hj hij he
    have e1 : (va_pl L E)[i]? = some (L[i], E L[i]) := by unfold va_pl; rw [List.getElem?_map, List.getElem?_eq_getElem hi]; rfl
    have e2 : (va_pl L E)[j]? = some (L[i], E L[i]) := by unfold va_pl; rw [List.getElem?_map, List.getElem?_eq_getElem hj, ← he]; rfl
    have := hD.1 i j _ _ e1 e2 rfl
    omega
  have hn2 := hn hnd
  have key : ∀ (k : Nat) (q : Nat × va_E), (va_pl L2 E2)[k]? = some q → ∃ k2 : Nat, (va_pl L E)[k2]? = some q ∧ L2[k]? = some q.1 := by
    intro k q hq
    unfold va_pl at hq
    rw [List.getElem?_map] at hq
    cases e : L2[k]? with
    | none => rw [e] at hq; cases hq
    | some b =>
      rw [e] at hq
      refine hv2 (show b ∈ L2 from List.mem_of_getElem? e) (show q = (b, E2 b) from (Option.some.inj hq).symm) (fun hb hqe => ?_)
      obtain ⟨k2, hk2⟩ := pl_at (E := E) (h b hb).1
      exact ⟨k2, by rw [hk2, hqe, (h b hb).2], by rw [hqe]⟩
  refine k H locs ls (fun k q hq => ?_) ⟨fun i j a b hi hj hab => ?_, fun k q hq => ?_⟩ hS hl
  · obtain ⟨k2, h2, _⟩ := key k q hq; exact hP k2 q h2
  · obtain ⟨_, _, h1⟩ := key i a hi
    obtain ⟨_, _, h2⟩ := key j b hj
    exact (List.getElem?_inj (List.getElem?_eq_some_iff.mp h1).1 hn2).mp (by rw [h1, h2, hab])
  · obtain ⟨k2, h2, _⟩ := key k q hq; exact hD.2 k2 q h2
theorem nod_c {L : List Nat} {q : Nat} (h : (L ++ [q]).Nodup) : (q :: L).Nodup := by
  rw [List.nodup_append] at h
  exact List.nodup_cons.mpr ⟨fun hq => h.2.2 q hq q List.mem_cons_self rfl, h.1⟩
theorem nod_m {L : List Nat} {q : Nat} : ∀ x, x ∈ q :: L → x ∈ L ++ [q] := by
  intro x hx
  rcases List.mem_cons.mp hx with e | e
  · exact List.mem_append_right _ (by rw [e]; exact List.mem_cons_self)
  · exact List.mem_append_left _ e
def zer70 (a : Nat → Nat → Int) : Nat → Nat → Int := fun k j => if k = 70 then 0 else a k j
theorem zer_fr {v : Nat → Int} {a : Nat → Nat → Int} : fr [] [70] v a v (zer70 a) := ⟨fun _ _ => rfl, fun j hj => funext fun q => by unfold zer70; rw [if_neg (fun e => by subst e; exact absurd hj (by decide))]⟩
theorem zer_bx {v : Nat → Int} {a : Nat → Nat → Int} (h : BX v a) : BX v (zer70 a) := ⟨h.1, fun k j => by unfold zer70; split; rename_i e; subst e; exact ⟨by decide, by decide⟩; exact h.2 k j⟩
theorem new_x {G : GT} {h0 : Nat} {ad ln : Nat → Nat} {v : Nat → Int} {a : Nat → Nat → Int} {L : List Nat} {E : Nat → va_E} {q n : Nat} {zb : Bool} (h : mI G h0 ad ln v a L E) (hq : q ∉ L) : mIx G h0 ad ln q n zb v (zer70 a) L (va_up E q (xar G n zb (fun _ => 0))) :=
  ⟨h.congr (fun x hx => va_up_ne _ _ (fun e => hq (by rw [← e]; exact hx))) (fun k hk => funext fun j => by unfold zer70; rw [if_neg (fun e => by subst e; exact absurd hk (by decide))]), hq, by rw [va_up_self]; rfl⟩
theorem m_newI (C : Cq p s m args meth c cc y ret G A nL) {z : Int} {nb : Nat} (d : decode cc pc = .ok (.newarray .int, 2)) (lk : Cond.arrayClass .int ∈ lw_g) (hz : 0 ≤ z ∧ z ≤ 100000) (hn : nb = z.toNat) (hf : kc + 1 ≤ R.cells ∧ ks + nb ≤ R.slots) (hB : BX v a) (kk : ∀ (bb : Nat) (v2 : Nat → Int) (a2 : Nat → Nat → Int), fr [] [70] v a v2 a2 → BX v2 a2 → (∀ j, a2 70 j = 0) → mx p l e R s m args below meth c G A nL Q bb nb false h0 ad ln v2 a2 (kc + 1) (ks + nb) (pc + 2) lv (.ref bb :: st)) : mw p l e R s m args below meth c G A nL Q h0 ad ln v a kc ks pc lv (.int (iI z) :: st) := by
  intro L E h
  have hr : R32 z := ⟨by omega, by omega⟩
  refine q_newaI (N := nb) C d lk (fun q => by have := (iI_lt hr R32_0).mp q; omega) (by rw [iI_cl hr, hn]) (by omega) hf (fun q hq => ?_)
  refine q_pool (L2 := q :: L) (fun x hx => ⟨nod_m x hx, rfl⟩) nod_c ?_
  exact kk q v (zer70 a) zer_fr (zer_bx hB) (fun j => rfl) L _ (new_x (zb := false) h hq)
theorem m_newZ (C : Cq p s m args meth c cc y ret G A nL) {z : Int} {nb : Nat} (d : decode cc pc = .ok (.newarray .boolean, 2)) (lk : Cond.arrayClass .boolean ∈ lw_g) (hz : 0 ≤ z ∧ z ≤ 100000) (hn : nb = z.toNat) (hf : kc + 1 ≤ R.cells ∧ ks + nb ≤ R.slots) (hB : BX v a) (kk : ∀ (bb : Nat) (v2 : Nat → Int) (a2 : Nat → Nat → Int), fr [] [70] v a v2 a2 → BX v2 a2 → (∀ j, a2 70 j = 0) → mx p l e R s m args below meth c G A nL Q bb nb true h0 ad ln v2 a2 (kc + 1) (ks + nb) (pc + 2) lv (.ref bb :: st)) : mw p l e R s m args below meth c G A nL Q h0 ad ln v a kc ks pc lv (.int (iI z) :: st) := by
  intro L E h
  have hr : R32 z := ⟨by omega, by omega⟩
  refine q_newaZ (N := nb) C d lk (fun q => by have := (iI_lt hr R32_0).mp q; omega) (by rw [iI_cl hr, hn]) (by omega) hf (fun q hq => ?_)
  refine q_pool (L2 := q :: L) (fun x hx => ⟨nod_m x hx, rfl⟩) nod_c ?_
  exact kk q v (zer70 a) zer_fr (zer_bx hB) (fun j => rfl) L _ (new_x (zb := true) h hq)
def sw18 (a : Nat → Nat → Int) : Nat → Nat → Int := fun k => if k = 18 then a 70 else a k
theorem mI.sw {L : List Nat} {E : Nat → va_E} (h : mIx G h0 ad ln bb nb false v a L E) (hn : 64 ≤ nb ∧ nb ≤ 8192) : mI G h0 (va_up ad 18 bb) (va_up ln 18 nb) v (sw18 a) (bb :: L) (va_up E h0 (ob 13 67 (va_up (mfv ad v) 18 (.ref bb)))) := by
  obtain ⟨⟨h1, h2, h3, h4, h5, h6, h7⟩, hb, hE⟩ := h
  have hbh : bb ≠ h0 := fun e => hb (by rw [e]; exact h1)
  refine ⟨List.mem_cons_of_mem _ h1, ?_, fun j hj => ?_, fun k hk => ?_, fun i j hi hj hij => ?_, fun k hk => ?_, ?_⟩
  · rw [va_up_self]
    congr 1
    funext j
    by_cases e : j = 18
    · subst e; rw [va_up_self]; unfold mfv; rw [if_pos (show mA 18 = true from rfl), va_up_self]
    · rw [va_up_ne _ _ e]; unfold mfv; rw [va_up_ne _ _ e]
  · by_cases e : j = 18
    · subst e
      rw [va_up_self, va_up_self, va_up_ne _ _ hbh, hE]
      exact ⟨List.mem_cons_self, rfl⟩
    · rw [va_up_ne _ _ e, va_up_ne _ _ e, va_up_ne _ _ (Ne.symm (h4 j hj)), show sw18 a j = a j from if_neg e]
      exact ⟨List.mem_cons_of_mem _ (h3 j hj).1, (h3 j hj).2⟩
  · by_cases e : k = 18
    · subst e; rw [va_up_self]; exact hbh.symm
    · rw [va_up_ne _ _ e]; exact h4 k hk
  · by_cases e1 : i = 18
    · by_cases e2 : j = 18
      · rw [e1, e2]
      · subst e1; rw [va_up_self, va_up_ne _ _ e2] at hij
        exact absurd (h3 j hj).1 (by rw [← hij]; exact hb)
    · by_cases e2 : j = 18
      · subst e2; rw [va_up_self, va_up_ne _ _ e1] at hij
        exact absurd (h3 i hi).1 (by rw [hij]; exact hb)
      · rw [va_up_ne _ _ e1, va_up_ne _ _ e2] at hij; exact h5 i j hi hj hij
  · rw [va_up_ne _ _ hk]; exact h6 k hk
  · rw [va_up_self]; exact hn
theorem x_sw (C : Cq p s m args meth c cc y ret G A nL) {idx : Nat} (d : decode cc pc = .ok (.putfield idx, 3)) (lk : Cond.fieldLink y.cls idx (TX12 18).1 (TX12 18).2.1 (TX12 18).2.2.1 ∈ lw_g) (hz : zb = false) (hn : 64 ≤ nb ∧ nb ≤ 8192) (kk : ∀ (ad2 ln2 : Nat → Nat) (a2 : Nat → Nat → Int), ln2 18 = nb → a2 18 = a 70 → (∀ k, k ≠ 18 → a2 k = a k) → mw p l e R s m args below meth c G A nL Q h0 ad2 ln2 v a2 kc ks (pc + 3) lv st) : mx p l e R s m args below meth c G A nL Q bb nb zb h0 ad ln v a kc ks pc lv (.ref bb :: .ref h0 :: st) := by
  subst hz
  intro L E h
  exact q_put (k := 18) C ck_13 d lk (by decide) rfl (List.mem_cons_of_mem _ h.1.1) h.1.2.1 rfl rfl (kk (va_up ad 18 bb) (va_up ln 18 nb) (sw18 a) (va_up_self _ _ _) rfl (fun k hk => if_neg hk) _ _ (mI.sw h hn))
end MQ3
