section
def bt (t : Nat) : Nat := if t < 100 then (if t = 28 then 18 else if t = 69 then 67 else t) else if t < 130 then 100 else if t < 1000 then t else 1000 + t % 5
def kd (T : Nat) : Nat := match T with
  | 1 => 12
  | 2 => 2
  | 3 => 2
  | 4 => 2
  | 5 => 2
  | 6 => 2
  | 7 => 2
  | 8 => 2
  | 9 => 2
  | 10 => 2
  | 11 => 2
  | 12 => 2
  | 13 => 11
  | 14 => 9
  | 15 => 7
  | 16 => 4
  | 17 => 5
  | 18 => 8
  | 19 => 3
  | 20 => 6
  | 21 => 1
  | 22 => 0
  | 23 => 0
  | 24 => 0
  | 25 => 0
  | 26 => 0
  | 52 => 21
  | 56 => 21
  | 59 => 21
  | 67 => 22
  | 68 => 23
  | 100 => 10
  | 200 => 0
  | 201 => 1
  | 202 => 2
  | 203 => 3
  | 204 => 4
  | 205 => 5
  | 206 => 6
  | 207 => 7
  | 208 => 8
  | 209 => 9
  | 210 => 10
  | 211 => 11
  | 212 => 12
  | 213 => 22
  | 1000 => 24
  | 1001 => 24
  | 1002 => 24
  | 1003 => 24
  | 1004 => 24
  | _ => 20
def nf (ci : Nat) : Nat := match ci with
  | 0 => 3
  | 1 => 4
  | 2 => 3
  | 3 => 3
  | 4 => 8
  | 5 => 11
  | 6 => 4
  | 7 => 12
  | 8 => 3
  | 9 => 8
  | 10 => 8
  | 11 => 2
  | _ => 19
def rf (ci k : Nat) : Bool := (match ci with
  | 0 => [1]
  | 1 => [1, 2]
  | 2 => [1]
  | 3 => [0]
  | 4 => [0, 1, 2, 3, 4, 5, 6]
  | 5 => [0, 1, 2, 3, 4, 7, 8]
  | 6 => [1, 2]
  | 7 => [0, 1, 2, 3, 6, 8]
  | 8 => [0]
  | 9 => [3, 4, 6]
  | 10 => [2, 3, 4, 5, 6]
  | 11 => [0, 1]
  | _ => [0, 1, 2, 3, 4, 5, 6, 7, 8, 9, 10] : List Nat).contains k
def ofv (ci : Nat) (i : Nat → Int) (r : Nat → Option Nat) : Nat → Value := fun k => if rf ci k = true then va_rf (r k) else .int (iI (i k))
def enc (G : GT) (cl ln : Nat → Nat) (iv : Nat → Nat → Int) (rv : Nat → Nat → Option Nat) (a : Nat) : va_E := if kd (bt (cl a)) < 13 then ob (kd (bt (cl a))) (nf (kd (bt (cl a)))) (ofv (kd (bt (cl a))) (iv a) (rv a)) else if kd (bt (cl a)) = 20 then aI G (ln a) (fun j => iI (iv a j)) else if kd (bt (cl a)) = 21 then aZ G (ln a) (fun j => iI (iv a j)) else if kd (bt (cl a)) = 22 then aL G (ln a) (rv a) else if kd (bt (cl a)) = 23 then aR G (ln a) (rv a) else aO G (ln a) (rv a)
def ty (L : List Nat) (cl : Nat → Nat) (a T : Nat) : Prop := a ∈ L ∧ bt (cl a) = T
def upr (rv : Nat → Nat → Option Nat) (a k : Nat) (x : Option Nat) : Nat → Nat → Option Nat := fun b j => if b = a then (if j = k then x else rv b j) else rv b j
def up0 {α : Type} (f : Nat → Nat → α) (q : Nat) (x : α) : Nat → Nat → α := fun b j => if b = q then x else f b j
theorem upr_s {rv : Nat → Nat → Option Nat} {a k : Nat} {x : Option Nat} : upr rv a k x a k = x := by unfold upr; rw [if_pos rfl, if_pos rfl]
theorem upr_a {rv : Nat → Nat → Option Nat} {a k b : Nat} {x : Option Nat} (h : b ≠ a) : upr rv a k x b = rv b := by funext j; unfold upr; rw [if_neg h]
theorem upr_j {rv : Nat → Nat → Option Nat} {a k b j : Nat} {x : Option Nat} (h : j ≠ k) : upr rv a k x b j = rv b j := by unfold upr; simp [h]
theorem upi_a {iv : Nat → Nat → Int} {a k b : Nat} {x : Int} (h : b ≠ a) : up2 iv a k x b = iv b := by funext j; exact up2_k h
theorem up0_s {α : Type} {f : Nat → Nat → α} {q : Nat} {x : α} {j : Nat} : up0 f q x q j = x := by unfold up0; rw [if_pos rfl]
theorem up0_a {α : Type} {f : Nat → Nat → α} {q b : Nat} {x : α} (h : b ≠ q) : up0 f q x b = f b := by funext j; unfold up0; rw [if_neg h]
theorem ofv_i {ci k : Nat} {i : Nat → Int} {r : Nat → Option Nat} (h : rf ci k = false) : ofv ci i r k = .int (iI (i k)) := by unfold ofv; rw [h]; rfl
theorem ofv_r {ci k : Nat} {i : Nat → Int} {r : Nat → Option Nat} (h : rf ci k = true) : ofv ci i r k = va_rf (r k) := by unfold ofv; rw [h]; rfl
section ENC
variable {G : GT} {cl ln : Nat → Nat} {iv : Nat → Nat → Int} {rv : Nat → Nat → Option Nat} {a T ci N : Nat} {L : List Nat}
theorem enc_ob (ha : ty L cl a T) (hT : kd T = ci) (hN : nf ci = N) (h13 : ci < 13) : enc G cl ln iv rv a = ob ci N (ofv ci (iv a) (rv a)) := by unfold enc; rw [ha.2, hT, if_pos h13, hN]
theorem enc_I (ha : ty L cl a T) (hT : kd T = 20) : enc G cl ln iv rv a = aI G (ln a) (fun j => iI (iv a j)) := by unfold enc; rw [ha.2, hT]; rfl
theorem enc_Z (ha : ty L cl a T) (hT : kd T = 21) : enc G cl ln iv rv a = aZ G (ln a) (fun j => iI (iv a j)) := by unfold enc; rw [ha.2, hT]; rfl
theorem enc_L (ha : ty L cl a T) (hT : kd T = 22) : enc G cl ln iv rv a = aL G (ln a) (rv a) := by unfold enc; rw [ha.2, hT]; rfl
theorem enc_R (ha : ty L cl a T) (hT : kd T = 23) : enc G cl ln iv rv a = aR G (ln a) (rv a) := by unfold enc; rw [ha.2, hT]; rfl
theorem enc_O (ha : ty L cl a T) (hT : kd T = 24) : enc G cl ln iv rv a = aO G (ln a) (rv a) := by unfold enc; rw [ha.2, hT]; rfl
theorem enc_ext {cl2 ln2 : Nat → Nat} {iv2 : Nat → Nat → Int} {rv2 : Nat → Nat → Option Nat} (h1 : kd (bt (cl2 a)) = kd (bt (cl a))) (h2 : ln2 a = ln a) (h3 : iv2 a = iv a) (h4 : rv2 a = rv a) : enc G cl2 ln2 iv2 rv2 a = enc G cl ln iv rv a := by unfold enc; rw [h1, h2, h3, h4]
theorem enc_up {cl2 ln2 : Nat → Nat} {iv2 : Nat → Nat → Int} {rv2 : Nat → Nat → Option Nat} {x : va_E} (h : ∀ b, b ≠ a → cl2 b = cl b ∧ ln2 b = ln b ∧ iv2 b = iv b ∧ rv2 b = rv b) (hx : enc G cl2 ln2 iv2 rv2 a = x) : va_up (enc G cl ln iv rv) a x = enc G cl2 ln2 iv2 rv2 := by
  funext b
  by_cases e : b = a
  · subst e; rw [va_up_self, hx]
  · rw [va_up_ne _ _ e]
    obtain ⟨q1, q2, q3, q4⟩ := h b e
    exact (enc_ext (by rw [q1]) q2 q3 q4).symm
theorem enc_put {k : Nat} {z : Int} (ha : ty L cl a T) (hT : kd T = ci) (hN : nf ci = N) (h13 : ci < 13) (hr : rf ci k = false) : va_up (enc G cl ln iv rv) a (ob ci N (va_up (ofv ci (iv a) (rv a)) k (.int (iI z)))) = enc G cl ln (up2 iv a k z) rv := by
  refine enc_up (fun b hb => ⟨rfl, rfl, upi_a hb, rfl⟩) ?_
  rw [enc_ob ha hT hN h13]
  congr 1
  funext j
  by_cases e : j = k
  · subst e; rw [va_up_self, ofv_i hr, up2_s]
  · rw [va_up_ne _ _ e]; unfold ofv; rw [up2_j e]
theorem enc_putr {k : Nat} {x : Option Nat} (ha : ty L cl a T) (hT : kd T = ci) (hN : nf ci = N) (h13 : ci < 13) (hr : rf ci k = true) : va_up (enc G cl ln iv rv) a (ob ci N (va_up (ofv ci (iv a) (rv a)) k (va_rf x))) = enc G cl ln iv (upr rv a k x) := by
  refine enc_up (fun b hb => ⟨rfl, rfl, rfl, upr_a hb⟩) ?_
  rw [enc_ob ha hT hN h13]
  congr 1
  funext j
  by_cases e : j = k
  · subst e; rw [va_up_self, ofv_r hr, upr_s]
  · rw [va_up_ne _ _ e]; unfold ofv; rw [upr_j e]
theorem enc_ast {k : Nat} {z : Int} (ha : ty L cl a T) (hT : kd T = 20) : va_up (enc G cl ln iv rv) a (aI G (ln a) (fun j => if j = k then iI z else iI (iv a j))) = enc G cl ln (up2 iv a k z) rv := by
  refine enc_up (fun b hb => ⟨rfl, rfl, upi_a hb, rfl⟩) ?_
  rw [enc_I ha hT]
  congr 1
  funext j
  by_cases e : j = k
  · subst e; rw [if_pos rfl, up2_s]
  · rw [if_neg e, up2_j e]
theorem enc_zst {k : Nat} {z : Int} (ha : ty L cl a T) (hT : kd T = 21) : va_up (enc G cl ln iv rv) a (aZ G (ln a) (fun j => if j = k then iI z else iI (iv a j))) = enc G cl ln (up2 iv a k z) rv := by
  refine enc_up (fun b hb => ⟨rfl, rfl, upi_a hb, rfl⟩) ?_
  rw [enc_Z ha hT]
  congr 1
  funext j
  by_cases e : j = k
  · subst e; rw [if_pos rfl, up2_s]
  · rw [if_neg e, up2_j e]
theorem upr_up {k : Nat} {x : Option Nat} : upr rv a k x a = va_up (rv a) k x := by
  funext j
  by_cases e : j = k
  · subst e; rw [upr_s, va_up_self]
  · rw [upr_j e, va_up_ne _ _ e]
theorem enc_rst {k : Nat} {x : Option Nat} {mk : (Nat → Option Nat) → va_E} (hm : ∀ r2 : Nat → Nat → Option Nat, enc G cl ln iv r2 a = mk (r2 a)) : va_up (enc G cl ln iv rv) a (mk (va_up (rv a) k x)) = enc G cl ln iv (upr rv a k x) := by
  refine enc_up (fun b hb => ⟨rfl, rfl, rfl, upr_a hb⟩) ?_
  rw [hm, upr_up]
end ENC
theorem ob_ext {ci N : Nat} {f g : Nat → Value} (h : ∀ j, j < N → f j = g j) : ob ci N f = ob ci N g := by
  unfold ob
  congr 2
  exact List.map_congr_left (fun j hj => h j (List.mem_range.mp hj))
abbrev PF : Type := (Nat → Nat) → (Nat → Nat → Option Nat) → Nat
def cw (p : Program) (l : Launch) (e : Env) (d0 r0 : Nat) (s : State) (m : MethodId) (args : Array Value) (below : List Frame) (meth : Method) (c : Code) (G : GT) (A : Nat → Prop) (nL : Nat) (Q : State → Prop) (Pf : PF) (ph : Nat) (L : List Nat) (cl ln : Nat → Nat) (iv : Nat → Nat → Int) (rv : Nat → Nat → Option Nat) (K pc : Nat) (lv : List (Nat × Value)) (st : List Value) : Prop := ∀ u : Nat, u + ph ≤ Pf ln rv + K → wu p l e d0 r0 s m args below meth c G A nL Q L (enc G cl ln iv rv) u pc lv st
abbrev PC : Type := Option Value → List Nat → (Nat → Nat) → (Nat → Nat) → (Nat → Nat → Int) → (Nat → Nat → Option Nat) → Prop
def Qp (G : GT) (Pf : PF) (ph c0 : Nat) (Post : PC) : PU := fun v L2 E2 u => ∃ (cl2 ln2 : Nat → Nat) (iv2 : Nat → Nat → Int) (rv2 : Nat → Nat → Option Nat), E2 = enc G cl2 ln2 iv2 rv2 ∧ u + ph ≤ Pf ln2 rv2 + c0 ∧ Post v L2 cl2 ln2 iv2 rv2
def Mc (l : Launch) (G : GT) (mi : Nat) (Pf : PF) (pm : Nat) (y : MethodName) (cc : ByteArray) (n : Nat) (ret : Option FieldType) (d : Nat) (av : List Value) (L : List Nat) (cl ln : Nat → Nat) (iv : Nat → Nat → Int) (rv : Nat → Nat → Option Nat) (c0 : Nat) (Post : PC) : Prop := Mu l G mi y cc n ret d av L (enc G cl ln iv rv) (pm + c0 - Pf ln rv) (Qp G Pf (Pf ln rv) c0 Post)
section CQ
variable {p : Program} {l : Launch} {e : Env} {d0 r0 : Nat} {s : State} {m : MethodId} {args : Array Value} {below : List Frame} {meth : Method} {c : Code} {cc : ByteArray} {y : MethodName} {ret : Option FieldType} {G : GT} {A : Nat → Prop} {nL mi : Nat} {Q : State → Prop} {Pf : PF} {ph : Nat} {L : List Nat} {cl ln : Nat → Nat} {iv : Nat → Nat → Int} {rv : Nat → Nat → Option Nat} {K pc : Nat} {lv : List (Nat × Value)} {st : List Value}
theorem c_iconst (C : Cq p s m args meth c cc y ret G A nL) {n : Int} (d : decode cc pc = .ok (.iconst n, 1))  (k : cw p l e d0 r0 s m args below meth c G A nL Q Pf ph L cl ln iv rv K (pc + 1) lv (.int (iI n) :: st)) : cw p l e d0 r0 s m args below meth c G A nL Q Pf ph L cl ln iv rv K pc lv st := fun uu huu kc ks hkk => q_iconst C d rfl (k uu huu kc ks hkk)
theorem c_bipush (C : Cq p s m args meth c cc y ret G A nL) {n z : Int} (d : decode cc pc = .ok (.bipush n, 2)) (hz : (Int8.ofInt n).toInt32 = iI z) (k : cw p l e d0 r0 s m args below meth c G A nL Q Pf ph L cl ln iv rv K (pc + 2) lv (.int (iI z) :: st)) : cw p l e d0 r0 s m args below meth c G A nL Q Pf ph L cl ln iv rv K pc lv st := fun uu huu kc ks hkk => q_bipush C d hz (k uu huu kc ks hkk)
theorem c_sipush (C : Cq p s m args meth c cc y ret G A nL) {n z : Int} (d : decode cc pc = .ok (.sipush n, 3)) (hz : (Int16.ofInt n).toInt32 = iI z) (k : cw p l e d0 r0 s m args below meth c G A nL Q Pf ph L cl ln iv rv K (pc + 3) lv (.int (iI z) :: st)) : cw p l e d0 r0 s m args below meth c G A nL Q Pf ph L cl ln iv rv K pc lv st := fun uu huu kc ks hkk => q_sipush C d hz (k uu huu kc ks hkk)
theorem c_ldc (C : Cq p s m args meth c cc y ret G A nL) {idx : Nat} {x : Int32} {z : Int} (d : decode cc pc = .ok (.ldc idx, 2)) (hc : Cond.constant y.cls idx x ∈ lw_g) (hz : x = iI z) (k : cw p l e d0 r0 s m args below meth c G A nL Q Pf ph L cl ln iv rv K (pc + 2) lv (.int (iI z) :: st)) : cw p l e d0 r0 s m args below meth c G A nL Q Pf ph L cl ln iv rv K pc lv st := fun uu huu kc ks hkk => q_ldc C d hc (hz ▸ k uu huu kc ks hkk)
theorem c_iload_n (C : Cq p s m args meth c cc y ret G A nL) {i : Fin 4} {j : Nat} {x : Int32} (d : decode cc pc = .ok (.iload_n i, 1)) (hj : lv[j]? = some ((i : Nat), .int x)) (k : cw p l e d0 r0 s m args below meth c G A nL Q Pf ph L cl ln iv rv K (pc + 1) lv (.int x :: st)) : cw p l e d0 r0 s m args below meth c G A nL Q Pf ph L cl ln iv rv K pc lv st := fun uu huu kc ks hkk => q_iload_n C d hj (k uu huu kc ks hkk)
theorem c_iload (C : Cq p s m args meth c cc y ret G A nL) {i j : Nat} {x : Int32} (d : decode cc pc = .ok (.iload i, 2)) (hj : lv[j]? = some (i, .int x)) (k : cw p l e d0 r0 s m args below meth c G A nL Q Pf ph L cl ln iv rv K (pc + 2) lv (.int x :: st)) : cw p l e d0 r0 s m args below meth c G A nL Q Pf ph L cl ln iv rv K pc lv st := fun uu huu kc ks hkk => q_iload C d hj (k uu huu kc ks hkk)
theorem c_aload_n (C : Cq p s m args meth c cc y ret G A nL) {i : Fin 4} {j : Nat} {x : Nat} (d : decode cc pc = .ok (.aload_n i, 1)) (hj : lv[j]? = some ((i : Nat), .ref x)) (k : cw p l e d0 r0 s m args below meth c G A nL Q Pf ph L cl ln iv rv K (pc + 1) lv (.ref x :: st)) : cw p l e d0 r0 s m args below meth c G A nL Q Pf ph L cl ln iv rv K pc lv st := fun uu huu kc ks hkk => q_aload_n C d hj (k uu huu kc ks hkk)
theorem c_aload (C : Cq p s m args meth c cc y ret G A nL) {i j : Nat} {x : Nat} (d : decode cc pc = .ok (.aload i, 2)) (hj : lv[j]? = some (i, .ref x)) (k : cw p l e d0 r0 s m args below meth c G A nL Q Pf ph L cl ln iv rv K (pc + 2) lv (.ref x :: st)) : cw p l e d0 r0 s m args below meth c G A nL Q Pf ph L cl ln iv rv K pc lv st := fun uu huu kc ks hkk => q_aload C d hj (k uu huu kc ks hkk)
theorem c_istore_n (C : Cq p s m args meth c cc y ret G A nL) {i : Fin 4} {x : Int32} {lv2 : List (Nat × Value)} (d : decode cc pc = .ok (.istore_n i, 1)) (hn : (i : Nat) < nL) (hl : ((i : Nat), Value.int x) :: lv.filter (fun q => !(q.1 == (i : Nat)) && !(q.1 + 1 == (i : Nat) && q.2.category == 2)) = lv2) (k : cw p l e d0 r0 s m args below meth c G A nL Q Pf ph L cl ln iv rv K (pc + 1) lv2 st) : cw p l e d0 r0 s m args below meth c G A nL Q Pf ph L cl ln iv rv K pc lv (Value.int x :: st) := fun uu huu kc ks hkk => q_istore_n C d hn hl (k uu huu kc ks hkk)
theorem c_istore (C : Cq p s m args meth c cc y ret G A nL) {i : Nat} {x : Int32} {lv2 : List (Nat × Value)} (d : decode cc pc = .ok (.istore i, 2)) (hn : i < nL) (hl : (i, Value.int x) :: lv.filter (fun q => !(q.1 == i) && !(q.1 + 1 == i && q.2.category == 2)) = lv2) (k : cw p l e d0 r0 s m args below meth c G A nL Q Pf ph L cl ln iv rv K (pc + 2) lv2 st) : cw p l e d0 r0 s m args below meth c G A nL Q Pf ph L cl ln iv rv K pc lv (Value.int x :: st) := fun uu huu kc ks hkk => q_istore C d hn hl (k uu huu kc ks hkk)
theorem c_astore_n (C : Cq p s m args meth c cc y ret G A nL) {i : Fin 4} {x : Nat} {lv2 : List (Nat × Value)} (d : decode cc pc = .ok (.astore_n i, 1)) (hn : (i : Nat) < nL) (hl : ((i : Nat), Value.ref x) :: lv.filter (fun q => !(q.1 == (i : Nat)) && !(q.1 + 1 == (i : Nat) && q.2.category == 2)) = lv2) (k : cw p l e d0 r0 s m args below meth c G A nL Q Pf ph L cl ln iv rv K (pc + 1) lv2 st) : cw p l e d0 r0 s m args below meth c G A nL Q Pf ph L cl ln iv rv K pc lv (Value.ref x :: st) := fun uu huu kc ks hkk => q_astore_n C d hn hl (k uu huu kc ks hkk)
theorem c_astore (C : Cq p s m args meth c cc y ret G A nL) {i : Nat} {x : Nat} {lv2 : List (Nat × Value)} (d : decode cc pc = .ok (.astore i, 2)) (hn : i < nL) (hl : (i, Value.ref x) :: lv.filter (fun q => !(q.1 == i) && !(q.1 + 1 == i && q.2.category == 2)) = lv2) (k : cw p l e d0 r0 s m args below meth c G A nL Q Pf ph L cl ln iv rv K (pc + 2) lv2 st) : cw p l e d0 r0 s m args below meth c G A nL Q Pf ph L cl ln iv rv K pc lv (Value.ref x :: st) := fun uu huu kc ks hkk => q_astore C d hn hl (k uu huu kc ks hkk)
theorem c_iinc (C : Cq p s m args meth c cc y ret G A nL) {i j : Nat} {n z : Int} {lv2 : List (Nat × Value)} (d : decode cc pc = .ok (.iinc i n, 3)) (hj : lv[j]? = some (i, .int (iI z))) (hn : i < nL) (hl : (i, Value.int (iI (z + n))) :: lv.filter (fun q => !(q.1 == i) && !(q.1 + 1 == i && q.2.category == 2)) = lv2) (k : cw p l e d0 r0 s m args below meth c G A nL Q Pf ph L cl ln iv rv K (pc + 3) lv2 st) : cw p l e d0 r0 s m args below meth c G A nL Q Pf ph L cl ln iv rv K pc lv st := fun uu huu kc ks hkk => q_iinc C d hj (Int32.ofInt_add z n).symm hn hl (k uu huu kc ks hkk)
theorem c_iadd (C : Cq p s m args meth c cc y ret G A nL) {x z : Int} (d : decode cc pc = .ok (.iadd, 1))  (k : cw p l e d0 r0 s m args below meth c G A nL Q Pf ph L cl ln iv rv K (pc + 1) lv (.int (iI (x + z)) :: st)) : cw p l e d0 r0 s m args below meth c G A nL Q Pf ph L cl ln iv rv K pc lv (.int (iI z) :: .int (iI x) :: st) := fun uu huu kc ks hkk => q_iadd C d (Int32.ofInt_add x z).symm (k uu huu kc ks hkk)
theorem c_isub (C : Cq p s m args meth c cc y ret G A nL) {x z : Int} (d : decode cc pc = .ok (.isub, 1))  (k : cw p l e d0 r0 s m args below meth c G A nL Q Pf ph L cl ln iv rv K (pc + 1) lv (.int (iI (x - z)) :: st)) : cw p l e d0 r0 s m args below meth c G A nL Q Pf ph L cl ln iv rv K pc lv (.int (iI z) :: .int (iI x) :: st) := fun uu huu kc ks hkk => q_isub C d (Int32.ofInt_sub x z).symm (k uu huu kc ks hkk)
theorem c_imul (C : Cq p s m args meth c cc y ret G A nL) {x z : Int} (d : decode cc pc = .ok (.imul, 1))  (k : cw p l e d0 r0 s m args below meth c G A nL Q Pf ph L cl ln iv rv K (pc + 1) lv (.int (iI (x * z)) :: st)) : cw p l e d0 r0 s m args below meth c G A nL Q Pf ph L cl ln iv rv K pc lv (.int (iI z) :: .int (iI x) :: st) := fun uu huu kc ks hkk => q_imul C d (Int32.ofInt_mul x z).symm (k uu huu kc ks hkk)
theorem c_iand (C : Cq p s m args meth c cc y ret G A nL) {x y2 w : Int32} (d : decode cc pc = .ok (.iand, 1)) (hv : x &&& y2 = w) (k : cw p l e d0 r0 s m args below meth c G A nL Q Pf ph L cl ln iv rv K (pc + 1) lv (.int w :: st)) : cw p l e d0 r0 s m args below meth c G A nL Q Pf ph L cl ln iv rv K pc lv (.int y2 :: .int x :: st) := fun uu huu kc ks hkk => q_iand C d hv (k uu huu kc ks hkk)
theorem c_ior (C : Cq p s m args meth c cc y ret G A nL) {x y2 w : Int32} (d : decode cc pc = .ok (.ior, 1)) (hv : x ||| y2 = w) (k : cw p l e d0 r0 s m args below meth c G A nL Q Pf ph L cl ln iv rv K (pc + 1) lv (.int w :: st)) : cw p l e d0 r0 s m args below meth c G A nL Q Pf ph L cl ln iv rv K pc lv (.int y2 :: .int x :: st) := fun uu huu kc ks hkk => q_ior C d hv (k uu huu kc ks hkk)
theorem c_ixor (C : Cq p s m args meth c cc y ret G A nL) {x y2 w : Int32} (d : decode cc pc = .ok (.ixor, 1)) (hv : x ^^^ y2 = w) (k : cw p l e d0 r0 s m args below meth c G A nL Q Pf ph L cl ln iv rv K (pc + 1) lv (.int w :: st)) : cw p l e d0 r0 s m args below meth c G A nL Q Pf ph L cl ln iv rv K pc lv (.int y2 :: .int x :: st) := fun uu huu kc ks hkk => q_ixor C d hv (k uu huu kc ks hkk)
theorem c_ishl (C : Cq p s m args meth c cc y ret G A nL) {x y2 w : Int32} (d : decode cc pc = .ok (.ishl, 1)) (hv : x <<< (y2 &&& 31) = w) (k : cw p l e d0 r0 s m args below meth c G A nL Q Pf ph L cl ln iv rv K (pc + 1) lv (.int w :: st)) : cw p l e d0 r0 s m args below meth c G A nL Q Pf ph L cl ln iv rv K pc lv (.int y2 :: .int x :: st) := fun uu huu kc ks hkk => q_ishl C d hv (k uu huu kc ks hkk)
theorem c_ishr (C : Cq p s m args meth c cc y ret G A nL) {x y2 w : Int32} (d : decode cc pc = .ok (.ishr, 1)) (hv : x >>> (y2 &&& 31) = w) (k : cw p l e d0 r0 s m args below meth c G A nL Q Pf ph L cl ln iv rv K (pc + 1) lv (.int w :: st)) : cw p l e d0 r0 s m args below meth c G A nL Q Pf ph L cl ln iv rv K pc lv (.int y2 :: .int x :: st) := fun uu huu kc ks hkk => q_ishr C d hv (k uu huu kc ks hkk)
theorem c_iushr (C : Cq p s m args meth c cc y ret G A nL) {x y2 w : Int32} (d : decode cc pc = .ok (.iushr, 1)) (hv : (x.toUInt32 >>> (y2.toUInt32 &&& Int32.toUInt32 31)).toInt32 = w) (k : cw p l e d0 r0 s m args below meth c G A nL Q Pf ph L cl ln iv rv K (pc + 1) lv (.int w :: st)) : cw p l e d0 r0 s m args below meth c G A nL Q Pf ph L cl ln iv rv K pc lv (.int y2 :: .int x :: st) := fun uu huu kc ks hkk => q_iushr C d hv (k uu huu kc ks hkk)
theorem c_idiv (C : Cq p s m args meth c cc y ret G A nL) {x y2 w : Int32} (d : decode cc pc = .ok (.idiv, 1)) (hne : ¬ y2 = 0) (hv : x / y2 = w) (k : cw p l e d0 r0 s m args below meth c G A nL Q Pf ph L cl ln iv rv K (pc + 1) lv (.int w :: st)) : cw p l e d0 r0 s m args below meth c G A nL Q Pf ph L cl ln iv rv K pc lv (.int y2 :: .int x :: st) := fun uu huu kc ks hkk => q_idiv C d hne hv (k uu huu kc ks hkk)
theorem c_ineg (C : Cq p s m args meth c cc y ret G A nL) {z : Int} (d : decode cc pc = .ok (.ineg, 1))  (k : cw p l e d0 r0 s m args below meth c G A nL Q Pf ph L cl ln iv rv K (pc + 1) lv (.int (iI (-z)) :: st)) : cw p l e d0 r0 s m args below meth c G A nL Q Pf ph L cl ln iv rv K pc lv (.int (iI z) :: st) := fun uu huu kc ks hkk => q_ineg C d (Int32.ofInt_neg z).symm (k uu huu kc ks hkk)
theorem c_dup (C : Cq p s m args meth c cc y ret G A nL) {u : Value} (d : decode cc pc = .ok (.dup, 1)) (hu : u.category = 1) (k : cw p l e d0 r0 s m args below meth c G A nL Q Pf ph L cl ln iv rv K (pc + 1) lv (u :: u :: st)) : cw p l e d0 r0 s m args below meth c G A nL Q Pf ph L cl ln iv rv K pc lv (u :: st) := fun uu huu kc ks hkk => q_dup C d hu (k uu huu kc ks hkk)
theorem c_pop (C : Cq p s m args meth c cc y ret G A nL) {u : Value} (d : decode cc pc = .ok (.pop, 1)) (hu : u.category = 1) (k : cw p l e d0 r0 s m args below meth c G A nL Q Pf ph L cl ln iv rv K (pc + 1) lv st) : cw p l e d0 r0 s m args below meth c G A nL Q Pf ph L cl ln iv rv K pc lv (u :: st) := fun uu huu kc ks hkk => q_pop C d hu (k uu huu kc ks hkk)
theorem c_dup2 (C : Cq p s m args meth c cc y ret G A nL) {u w : Value} (d : decode cc pc = .ok (.dup2, 1)) (hu : u.category = 1) (hw : w.category = 1) (k : cw p l e d0 r0 s m args below meth c G A nL Q Pf ph L cl ln iv rv K (pc + 1) lv (u :: w :: u :: w :: st)) : cw p l e d0 r0 s m args below meth c G A nL Q Pf ph L cl ln iv rv K pc lv (u :: w :: st) := fun uu huu kc ks hkk => q_dup2 C d hu hw (k uu huu kc ks hkk)
theorem c_goto (C : Cq p s m args meth c cc y ret G A nL) {off : Int} {tgt : Nat} (d : decode cc pc = .ok (.goto off, 3)) (ht : (pc : Int) + off = (tgt : Int)) (k : cw p l e d0 r0 s m args below meth c G A nL Q Pf ph L cl ln iv rv K tgt lv st) : cw p l e d0 r0 s m args below meth c G A nL Q Pf ph L cl ln iv rv K pc lv st := fun uu huu kc ks hkk => q_goto C d ht (k uu huu kc ks hkk)
theorem c_icmp_eq (C : Cq p s m args meth c cc y ret G A nL) {x z off : Int} {tgt : Nat} (hx : R32 x) (hz : R32 z) (d : decode cc pc = .ok (.if_icmp .eq off, 3)) (ht : (pc : Int) + off = (tgt : Int)) (kt : x = z → cw p l e d0 r0 s m args below meth c G A nL Q Pf ph L cl ln iv rv K tgt lv st) (kf : ¬ x = z → cw p l e d0 r0 s m args below meth c G A nL Q Pf ph L cl ln iv rv K (pc + 3) lv st) : cw p l e d0 r0 s m args below meth c G A nL Q Pf ph L cl ln iv rv K pc lv (.int (iI z) :: .int (iI x) :: st) := fun uu huu kc ks hkk => q_icmp_eq C d ht (fun q => kt ((iI_eq hx hz).mp q) uu huu kc ks hkk) (fun q => kf (fun r => q ((iI_eq hx hz).mpr r)) uu huu kc ks hkk)
theorem c_if_eq (C : Cq p s m args meth c cc y ret G A nL) {x off : Int} {tgt : Nat} (hx : R32 x) (d : decode cc pc = .ok (.ifCond .eq off, 3)) (ht : (pc : Int) + off = (tgt : Int)) (kt : x = 0 → cw p l e d0 r0 s m args below meth c G A nL Q Pf ph L cl ln iv rv K tgt lv st) (kf : ¬ x = 0 → cw p l e d0 r0 s m args below meth c G A nL Q Pf ph L cl ln iv rv K (pc + 3) lv st) : cw p l e d0 r0 s m args below meth c G A nL Q Pf ph L cl ln iv rv K pc lv (.int (iI x) :: st) := fun uu huu kc ks hkk => q_if_eq C d ht (fun q => kt ((iI_eq hx R32_0).mp q) uu huu kc ks hkk) (fun q => kf (fun r => q ((iI_eq hx R32_0).mpr r)) uu huu kc ks hkk)
theorem c_icmp_ne (C : Cq p s m args meth c cc y ret G A nL) {x z off : Int} {tgt : Nat} (hx : R32 x) (hz : R32 z) (d : decode cc pc = .ok (.if_icmp .ne off, 3)) (ht : (pc : Int) + off = (tgt : Int)) (kt : ¬ x = z → cw p l e d0 r0 s m args below meth c G A nL Q Pf ph L cl ln iv rv K tgt lv st) (kf : x = z → cw p l e d0 r0 s m args below meth c G A nL Q Pf ph L cl ln iv rv K (pc + 3) lv st) : cw p l e d0 r0 s m args below meth c G A nL Q Pf ph L cl ln iv rv K pc lv (.int (iI z) :: .int (iI x) :: st) := fun uu huu kc ks hkk => q_icmp_ne C d ht (fun q => kt (fun r => q ((iI_eq hx hz).mpr r)) uu huu kc ks hkk) (fun q => kf ((iI_eq hx hz).mp q) uu huu kc ks hkk)
theorem c_if_ne (C : Cq p s m args meth c cc y ret G A nL) {x off : Int} {tgt : Nat} (hx : R32 x) (d : decode cc pc = .ok (.ifCond .ne off, 3)) (ht : (pc : Int) + off = (tgt : Int)) (kt : ¬ x = 0 → cw p l e d0 r0 s m args below meth c G A nL Q Pf ph L cl ln iv rv K tgt lv st) (kf : x = 0 → cw p l e d0 r0 s m args below meth c G A nL Q Pf ph L cl ln iv rv K (pc + 3) lv st) : cw p l e d0 r0 s m args below meth c G A nL Q Pf ph L cl ln iv rv K pc lv (.int (iI x) :: st) := fun uu huu kc ks hkk => q_if_ne C d ht (fun q => kt (fun r => q ((iI_eq hx R32_0).mpr r)) uu huu kc ks hkk) (fun q => kf ((iI_eq hx R32_0).mp q) uu huu kc ks hkk)
theorem c_icmp_lt (C : Cq p s m args meth c cc y ret G A nL) {x z off : Int} {tgt : Nat} (hx : R32 x) (hz : R32 z) (d : decode cc pc = .ok (.if_icmp .lt off, 3)) (ht : (pc : Int) + off = (tgt : Int)) (kt : x < z → cw p l e d0 r0 s m args below meth c G A nL Q Pf ph L cl ln iv rv K tgt lv st) (kf : ¬ x < z → cw p l e d0 r0 s m args below meth c G A nL Q Pf ph L cl ln iv rv K (pc + 3) lv st) : cw p l e d0 r0 s m args below meth c G A nL Q Pf ph L cl ln iv rv K pc lv (.int (iI z) :: .int (iI x) :: st) := fun uu huu kc ks hkk => q_icmp_lt C d ht (fun q => kt ((iI_lt hx hz).mp q) uu huu kc ks hkk) (fun q => kf (fun r => q ((iI_lt hx hz).mpr r)) uu huu kc ks hkk)
theorem c_if_lt (C : Cq p s m args meth c cc y ret G A nL) {x off : Int} {tgt : Nat} (hx : R32 x) (d : decode cc pc = .ok (.ifCond .lt off, 3)) (ht : (pc : Int) + off = (tgt : Int)) (kt : x < 0 → cw p l e d0 r0 s m args below meth c G A nL Q Pf ph L cl ln iv rv K tgt lv st) (kf : ¬ x < 0 → cw p l e d0 r0 s m args below meth c G A nL Q Pf ph L cl ln iv rv K (pc + 3) lv st) : cw p l e d0 r0 s m args below meth c G A nL Q Pf ph L cl ln iv rv K pc lv (.int (iI x) :: st) := fun uu huu kc ks hkk => q_if_lt C d ht (fun q => kt ((iI_lt hx R32_0).mp q) uu huu kc ks hkk) (fun q => kf (fun r => q ((iI_lt hx R32_0).mpr r)) uu huu kc ks hkk)
theorem c_icmp_ge (C : Cq p s m args meth c cc y ret G A nL) {x z off : Int} {tgt : Nat} (hx : R32 x) (hz : R32 z) (d : decode cc pc = .ok (.if_icmp .ge off, 3)) (ht : (pc : Int) + off = (tgt : Int)) (kt : z ≤ x → cw p l e d0 r0 s m args below meth c G A nL Q Pf ph L cl ln iv rv K tgt lv st) (kf : ¬ z ≤ x → cw p l e d0 r0 s m args below meth c G A nL Q Pf ph L cl ln iv rv K (pc + 3) lv st) : cw p l e d0 r0 s m args below meth c G A nL Q Pf ph L cl ln iv rv K pc lv (.int (iI z) :: .int (iI x) :: st) := fun uu huu kc ks hkk => q_icmp_ge C d ht (fun q => kt ((iI_le hz hx).mp q) uu huu kc ks hkk) (fun q => kf (fun r => q ((iI_le hz hx).mpr r)) uu huu kc ks hkk)
theorem c_if_ge (C : Cq p s m args meth c cc y ret G A nL) {x off : Int} {tgt : Nat} (hx : R32 x) (d : decode cc pc = .ok (.ifCond .ge off, 3)) (ht : (pc : Int) + off = (tgt : Int)) (kt : 0 ≤ x → cw p l e d0 r0 s m args below meth c G A nL Q Pf ph L cl ln iv rv K tgt lv st) (kf : ¬ 0 ≤ x → cw p l e d0 r0 s m args below meth c G A nL Q Pf ph L cl ln iv rv K (pc + 3) lv st) : cw p l e d0 r0 s m args below meth c G A nL Q Pf ph L cl ln iv rv K pc lv (.int (iI x) :: st) := fun uu huu kc ks hkk => q_if_ge C d ht (fun q => kt ((iI_le R32_0 hx).mp q) uu huu kc ks hkk) (fun q => kf (fun r => q ((iI_le R32_0 hx).mpr r)) uu huu kc ks hkk)
theorem c_icmp_gt (C : Cq p s m args meth c cc y ret G A nL) {x z off : Int} {tgt : Nat} (hx : R32 x) (hz : R32 z) (d : decode cc pc = .ok (.if_icmp .gt off, 3)) (ht : (pc : Int) + off = (tgt : Int)) (kt : z < x → cw p l e d0 r0 s m args below meth c G A nL Q Pf ph L cl ln iv rv K tgt lv st) (kf : ¬ z < x → cw p l e d0 r0 s m args below meth c G A nL Q Pf ph L cl ln iv rv K (pc + 3) lv st) : cw p l e d0 r0 s m args below meth c G A nL Q Pf ph L cl ln iv rv K pc lv (.int (iI z) :: .int (iI x) :: st) := fun uu huu kc ks hkk => q_icmp_gt C d ht (fun q => kt ((iI_lt hz hx).mp q) uu huu kc ks hkk) (fun q => kf (fun r => q ((iI_lt hz hx).mpr r)) uu huu kc ks hkk)
theorem c_if_gt (C : Cq p s m args meth c cc y ret G A nL) {x off : Int} {tgt : Nat} (hx : R32 x) (d : decode cc pc = .ok (.ifCond .gt off, 3)) (ht : (pc : Int) + off = (tgt : Int)) (kt : 0 < x → cw p l e d0 r0 s m args below meth c G A nL Q Pf ph L cl ln iv rv K tgt lv st) (kf : ¬ 0 < x → cw p l e d0 r0 s m args below meth c G A nL Q Pf ph L cl ln iv rv K (pc + 3) lv st) : cw p l e d0 r0 s m args below meth c G A nL Q Pf ph L cl ln iv rv K pc lv (.int (iI x) :: st) := fun uu huu kc ks hkk => q_if_gt C d ht (fun q => kt ((iI_lt R32_0 hx).mp q) uu huu kc ks hkk) (fun q => kf (fun r => q ((iI_lt R32_0 hx).mpr r)) uu huu kc ks hkk)
theorem c_icmp_le (C : Cq p s m args meth c cc y ret G A nL) {x z off : Int} {tgt : Nat} (hx : R32 x) (hz : R32 z) (d : decode cc pc = .ok (.if_icmp .le off, 3)) (ht : (pc : Int) + off = (tgt : Int)) (kt : x ≤ z → cw p l e d0 r0 s m args below meth c G A nL Q Pf ph L cl ln iv rv K tgt lv st) (kf : ¬ x ≤ z → cw p l e d0 r0 s m args below meth c G A nL Q Pf ph L cl ln iv rv K (pc + 3) lv st) : cw p l e d0 r0 s m args below meth c G A nL Q Pf ph L cl ln iv rv K pc lv (.int (iI z) :: .int (iI x) :: st) := fun uu huu kc ks hkk => q_icmp_le C d ht (fun q => kt ((iI_le hx hz).mp q) uu huu kc ks hkk) (fun q => kf (fun r => q ((iI_le hx hz).mpr r)) uu huu kc ks hkk)
theorem c_if_le (C : Cq p s m args meth c cc y ret G A nL) {x off : Int} {tgt : Nat} (hx : R32 x) (d : decode cc pc = .ok (.ifCond .le off, 3)) (ht : (pc : Int) + off = (tgt : Int)) (kt : x ≤ 0 → cw p l e d0 r0 s m args below meth c G A nL Q Pf ph L cl ln iv rv K tgt lv st) (kf : ¬ x ≤ 0 → cw p l e d0 r0 s m args below meth c G A nL Q Pf ph L cl ln iv rv K (pc + 3) lv st) : cw p l e d0 r0 s m args below meth c G A nL Q Pf ph L cl ln iv rv K pc lv (.int (iI x) :: st) := fun uu huu kc ks hkk => q_if_le C d ht (fun q => kt ((iI_le hx R32_0).mp q) uu huu kc ks hkk) (fun q => kf (fun r => q ((iI_le hx R32_0).mpr r)) uu huu kc ks hkk)
theorem c_st {st2 : List Value} (h : st = st2) (k : cw p l e d0 r0 s m args below meth c G A nL Q Pf ph L cl ln iv rv K pc lv st2) : cw p l e d0 r0 s m args below meth c G A nL Q Pf ph L cl ln iv rv K pc lv st := by subst h; exact k
theorem c_lv {lv2 : List (Nat × Value)} (ps : List Nat) (hl : lv_pick lv ps = lv2) (k : cw p l e d0 r0 s m args below meth c G A nL Q Pf ph L cl ln iv rv K pc lv2 st) : cw p l e d0 r0 s m args below meth c G A nL Q Pf ph L cl ln iv rv K pc lv st := fun u hu kc ks hk H locs ls hP hD hS hv => k u hu kc ks hk H locs ls hP hD hS (lv_sub hv ps hl)
theorem c_K {K2 : Nat} (h : K ≤ K2) (k : cw p l e d0 r0 s m args below meth c G A nL Q Pf ph L cl ln iv rv K2 pc lv st) : cw p l e d0 r0 s m args below meth c G A nL Q Pf ph L cl ln iv rv K pc lv st := fun u hu => k u (by omega)
theorem c_g0 (C : Cq p s m args meth c cc y ret G A nL) (k : (∀ b ∈ L, b ≠ g0 G) → cw p l e d0 r0 s m args below meth c G A nL Q Pf ph L cl ln iv rv K pc lv st) : cw p l e d0 r0 s m args below meth c G A nL Q Pf ph L cl ln iv rv K pc lv st := by
  intro u hu kc ks hk H locs ls hP hD hS hl
  refine k ?_ u hu kc ks hk H locs ls hP hD hS hl
  intro b hb e
  obtain ⟨q0, hq⟩ := pl_at (E := enc G cl ln iv rv) hb
  obtain ⟨_, _, _, _, _, _, _, hn⟩ := C.2.2.2.2.2.2.2.1.2
  exact hn (e ▸ hD.2 q0 _ hq)
theorem c_null (C : Cq p s m args meth c cc y ret G A nL) (d : decode cc pc = .ok (.aconst_null, 1)) (k : cw p l e d0 r0 s m args below meth c G A nL Q Pf ph L cl ln iv rv K (pc + 1) lv (.null :: st)) : cw p l e d0 r0 s m args below meth c G A nL Q Pf ph L cl ln iv rv K pc lv st := fun u hu kc ks hk => q_null C d (k u hu kc ks hk)
theorem c_aloadr_n (C : Cq p s m args meth c cc y ret G A nL) {i : Fin 4} {j : Nat} {r : Option Nat} (d : decode cc pc = .ok (.aload_n i, 1)) (hj : lv[j]? = some ((i : Nat), va_rf r)) (k : cw p l e d0 r0 s m args below meth c G A nL Q Pf ph L cl ln iv rv K (pc + 1) lv (va_rf r :: st)) : cw p l e d0 r0 s m args below meth c G A nL Q Pf ph L cl ln iv rv K pc lv st := by
  cases r with
  | none => exact fun u hu kc ks hk => q_aload_nN C d hj (k u hu kc ks hk)
  | some x => exact fun u hu kc ks hk => q_aload_n C d hj (k u hu kc ks hk)
theorem c_aloadr (C : Cq p s m args meth c cc y ret G A nL) {i j : Nat} {r : Option Nat} (d : decode cc pc = .ok (.aload i, 2)) (hj : lv[j]? = some (i, va_rf r)) (k : cw p l e d0 r0 s m args below meth c G A nL Q Pf ph L cl ln iv rv K (pc + 2) lv (va_rf r :: st)) : cw p l e d0 r0 s m args below meth c G A nL Q Pf ph L cl ln iv rv K pc lv st := by
  cases r with
  | none => exact fun u hu kc ks hk => q_aloadN C d hj (k u hu kc ks hk)
  | some x => exact fun u hu kc ks hk => q_aload C d hj (k u hu kc ks hk)
theorem c_astorer_n (C : Cq p s m args meth c cc y ret G A nL) {i : Fin 4} {r : Option Nat} {lv2 : List (Nat × Value)} (d : decode cc pc = .ok (.astore_n i, 1)) (hn : (i : Nat) < nL) (hl : ((i : Nat), va_rf r) :: lv.filter (fun q => !(q.1 == (i : Nat)) && !(q.1 + 1 == (i : Nat) && q.2.category == 2)) = lv2) (k : cw p l e d0 r0 s m args below meth c G A nL Q Pf ph L cl ln iv rv K (pc + 1) lv2 st) : cw p l e d0 r0 s m args below meth c G A nL Q Pf ph L cl ln iv rv K pc lv (va_rf r :: st) := by
  cases r with
  | none => exact fun u hu kc ks hk => q_astore_nN C d hn hl (k u hu kc ks hk)
  | some x => exact fun u hu kc ks hk => q_astore_n C d hn hl (k u hu kc ks hk)
theorem c_astorer (C : Cq p s m args meth c cc y ret G A nL) {i : Nat} {r : Option Nat} {lv2 : List (Nat × Value)} (d : decode cc pc = .ok (.astore i, 2)) (hn : i < nL) (hl : (i, va_rf r) :: lv.filter (fun q => !(q.1 == i) && !(q.1 + 1 == i && q.2.category == 2)) = lv2) (k : cw p l e d0 r0 s m args below meth c G A nL Q Pf ph L cl ln iv rv K (pc + 2) lv2 st) : cw p l e d0 r0 s m args below meth c G A nL Q Pf ph L cl ln iv rv K pc lv (va_rf r :: st) := by
  cases r with
  | none => exact fun u hu kc ks hk => q_astoreN C d hn hl (k u hu kc ks hk)
  | some x => exact fun u hu kc ks hk => q_astore C d hn hl (k u hu kc ks hk)
theorem c_get (C : Cq p s m args meth c cc y ret G A nL) {a k idx ci N T : Nat} {Cn : String} {TT : u_T} {tyy : Nat → FieldType} (ck : Ck ci Cn TT N tyy) (d : decode cc pc = .ok (.getfield idx, 3)) (lk : Cond.fieldLink y.cls idx (TT k).1 (TT k).2.1 (TT k).2.2.1 ∈ lw_g) (hk : k < N) (ha : ty L cl a T) (hT : kd T = ci) (hN : nf ci = N) (h13 : ci < 13) (hr : rf ci k = false) (kk : cw p l e d0 r0 s m args below meth c G A nL Q Pf ph L cl ln iv rv K (pc + 3) lv (.int (iI (iv a k)) :: st)) : cw p l e d0 r0 s m args below meth c G A nL Q Pf ph L cl ln iv rv K pc lv (.ref a :: st) := fun u hu kc ks hh => q_get (k := k) C ck d lk hk ha.1 (enc_ob ha hT hN h13) (ofv_i hr) (kk u hu kc ks hh)
theorem c_getr (C : Cq p s m args meth c cc y ret G A nL) {a k idx ci N T : Nat} {Cn : String} {TT : u_T} {tyy : Nat → FieldType} {x : Option Nat} (ck : Ck ci Cn TT N tyy) (d : decode cc pc = .ok (.getfield idx, 3)) (lk : Cond.fieldLink y.cls idx (TT k).1 (TT k).2.1 (TT k).2.2.1 ∈ lw_g) (hk : k < N) (ha : ty L cl a T) (hT : kd T = ci) (hN : nf ci = N) (h13 : ci < 13) (hr : rf ci k = true) (hx : rv a k = x) (kk : cw p l e d0 r0 s m args below meth c G A nL Q Pf ph L cl ln iv rv K (pc + 3) lv (va_rf x :: st)) : cw p l e d0 r0 s m args below meth c G A nL Q Pf ph L cl ln iv rv K pc lv (.ref a :: st) := fun u hu kc ks hh => q_get (k := k) C ck d lk hk ha.1 (enc_ob ha hT hN h13) (by rw [ofv_r hr, hx]) (kk u hu kc ks hh)
theorem c_put (C : Cq p s m args meth c cc y ret G A nL) {a k idx ci N T : Nat} {Cn : String} {TT : u_T} {tyy : Nat → FieldType} {z : Int} (ck : Ck ci Cn TT N tyy) (d : decode cc pc = .ok (.putfield idx, 3)) (lk : Cond.fieldLink y.cls idx (TT k).1 (TT k).2.1 (TT k).2.2.1 ∈ lw_g) (hk : k < N) (hfin : (TT k).2.2.2 = false) (ha : ty L cl a T) (hT : kd T = ci) (hN : nf ci = N) (h13 : ci < 13) (hr : rf ci k = false) (hn : narrow (tyy k) (.int (iI z)) = .int (iI z)) (hfit : fits (tyy k) (.int (iI z)) = true) (kk : ∀ iv2, iv2 = up2 iv a k z → cw p l e d0 r0 s m args below meth c G A nL Q Pf ph L cl ln iv2 rv K (pc + 3) lv st) : cw p l e d0 r0 s m args below meth c G A nL Q Pf ph L cl ln iv rv K pc lv (.int (iI z) :: .ref a :: st) := fun u hu kc ks hh => q_put (k := k) C ck d lk hk hfin ha.1 (enc_ob ha hT hN h13) hn hfit (by rw [enc_put ha hT hN h13 hr]; exact kk _ rfl u hu kc ks hh)
theorem c_putF (C : Cq p s m args meth c cc y ret G A nL) {a k idx ci N T : Nat} {Cn : String} {TT : u_T} {tyy : Nat → FieldType} {z : Int} (ck : Ck ci Cn TT N tyy) (d : decode cc pc = .ok (.putfield idx, 3)) (lk : Cond.fieldLink y.cls idx (TT k).1 (TT k).2.1 (TT k).2.2.1 ∈ lw_g) (hk : k < N) (hfin : (TT k).2.2.2 = true) (hi : y.name = "<init>") (hd : (TT k).1 = y.cls) (ha : ty L cl a T) (hT : kd T = ci) (hN : nf ci = N) (h13 : ci < 13) (hr : rf ci k = false) (hn : narrow (tyy k) (.int (iI z)) = .int (iI z)) (hfit : fits (tyy k) (.int (iI z)) = true) (kk : ∀ iv2, iv2 = up2 iv a k z → cw p l e d0 r0 s m args below meth c G A nL Q Pf ph L cl ln iv2 rv K (pc + 3) lv st) : cw p l e d0 r0 s m args below meth c G A nL Q Pf ph L cl ln iv rv K pc lv (.int (iI z) :: .ref a :: st) := fun u hu kc ks hh => q_putF (k := k) C ck d lk hk hfin hi hd ha.1 (enc_ob ha hT hN h13) hn hfit (by rw [enc_put ha hT hN h13 hr]; exact kk _ rfl u hu kc ks hh)
theorem c_putrF (C : Cq p s m args meth c cc y ret G A nL) {a k idx ci N T : Nat} {Cn : String} {TT : u_T} {tyy : Nat → FieldType} {x : Option Nat} (ck : Ck ci Cn TT N tyy) (d : decode cc pc = .ok (.putfield idx, 3)) (lk : Cond.fieldLink y.cls idx (TT k).1 (TT k).2.1 (TT k).2.2.1 ∈ lw_g) (hk : k < N) (hfin : (TT k).2.2.2 = true) (hi : y.name = "<init>") (hd : (TT k).1 = y.cls) (ha : ty L cl a T) (hT : kd T = ci) (hN : nf ci = N) (h13 : ci < 13) (hr : rf ci k = true) (hn : narrow (tyy k) (va_rf x) = va_rf x) (hfit : fits (tyy k) (va_rf x) = true) (kk : ∀ rv2, rv2 = upr rv a k x → ∃ K2 : Nat, Pf ln rv + K ≤ Pf ln rv2 + K2 ∧ cw p l e d0 r0 s m args below meth c G A nL Q Pf ph L cl ln iv rv2 K2 (pc + 3) lv st) : cw p l e d0 r0 s m args below meth c G A nL Q Pf ph L cl ln iv rv K pc lv (va_rf x :: .ref a :: st) := fun u hu kc ks hh => q_putF (k := k) C ck d lk hk hfin hi hd ha.1 (enc_ob ha hT hN h13) hn hfit (by rw [enc_putr ha hT hN h13 hr]; obtain ⟨K2, h1, h2⟩ := kk _ rfl; exact h2 u (by omega) kc ks hh)
theorem c_putr (C : Cq p s m args meth c cc y ret G A nL) {a k idx ci N T : Nat} {Cn : String} {TT : u_T} {tyy : Nat → FieldType} {x : Option Nat} (ck : Ck ci Cn TT N tyy) (d : decode cc pc = .ok (.putfield idx, 3)) (lk : Cond.fieldLink y.cls idx (TT k).1 (TT k).2.1 (TT k).2.2.1 ∈ lw_g) (hk : k < N) (hfin : (TT k).2.2.2 = false) (ha : ty L cl a T) (hT : kd T = ci) (hN : nf ci = N) (h13 : ci < 13) (hr : rf ci k = true) (hn : narrow (tyy k) (va_rf x) = va_rf x) (hfit : fits (tyy k) (va_rf x) = true) (kk : ∀ rv2, rv2 = upr rv a k x → ∃ K2 : Nat, Pf ln rv + K ≤ Pf ln rv2 + K2 ∧ cw p l e d0 r0 s m args below meth c G A nL Q Pf ph L cl ln iv rv2 K2 (pc + 3) lv st) : cw p l e d0 r0 s m args below meth c G A nL Q Pf ph L cl ln iv rv K pc lv (va_rf x :: .ref a :: st) := fun u hu kc ks hh => q_put (k := k) C ck d lk hk hfin ha.1 (enc_ob ha hT hN h13) hn hfit (by rw [enc_putr ha hT hN h13 hr]; obtain ⟨K2, h1, h2⟩ := kk _ rfl; exact h2 u (by omega) kc ks hh)
theorem c_iald (C : Cq p s m args meth c cc y ret G A nL) {a T : Nat} {z : Int} (d : decode cc pc = .ok (.iaload, 1)) (ha : ty L cl a T) (hT : kd T = 20) (h1 : 0 ≤ z) (h2 : z < (ln a : Nat)) (hm : ln a ≤ 1000000) (kk : cw p l e d0 r0 s m args below meth c G A nL Q Pf ph L cl ln iv rv K (pc + 1) lv (.int (iI (iv a z.toNat)) :: st)) : cw p l e d0 r0 s m args below meth c G A nL Q Pf ph L cl ln iv rv K pc lv (.int (iI z) :: .ref a :: st) := fun u hu kc ks hh => q_iald C d ha.1 (enc_I ha hT) (iI_in ⟨by omega, by omega⟩ h1 h2) (by rw [iI_cl ⟨by omega, by omega⟩]) (kk u hu kc ks hh)
theorem c_zald (C : Cq p s m args meth c cc y ret G A nL) {a T : Nat} {z : Int} (d : decode cc pc = .ok (.baload, 1)) (ha : ty L cl a T) (hT : kd T = 21) (h1 : 0 ≤ z) (h2 : z < (ln a : Nat)) (hm : ln a ≤ 1000000) (kk : cw p l e d0 r0 s m args below meth c G A nL Q Pf ph L cl ln iv rv K (pc + 1) lv (.int (iI (iv a z.toNat)) :: st)) : cw p l e d0 r0 s m args below meth c G A nL Q Pf ph L cl ln iv rv K pc lv (.int (iI z) :: .ref a :: st) := fun u hu kc ks hh => q_zald C d ha.1 (enc_Z ha hT) (iI_in ⟨by omega, by omega⟩ h1 h2) (by rw [iI_cl ⟨by omega, by omega⟩]) (kk u hu kc ks hh)
theorem c_iast (C : Cq p s m args meth c cc y ret G A nL) {a T : Nat} {z x : Int} (d : decode cc pc = .ok (.iastore, 1)) (ha : ty L cl a T) (hT : kd T = 20) (h1 : 0 ≤ z) (h2 : z < (ln a : Nat)) (hm : ln a ≤ 1000000) (kk : ∀ iv2, iv2 = up2 iv a z.toNat x → cw p l e d0 r0 s m args below meth c G A nL Q Pf ph L cl ln iv2 rv K (pc + 1) lv st) : cw p l e d0 r0 s m args below meth c G A nL Q Pf ph L cl ln iv rv K pc lv (.int (iI x) :: .int (iI z) :: .ref a :: st) := by
  intro u hu kc ks hh
  refine q_iast C d ha.1 (enc_I ha hT) (iI_in ⟨by omega, by omega⟩ h1 h2) ?_
  rw [iI_cl ⟨by omega, by omega⟩]
  have e : upd (fun j => iI (iv a j)) z.toNat (iI x) = fun j => if j = z.toNat then iI x else iI (iv a j) := by funext j; unfold upd; rfl
  rw [e, enc_ast ha hT]
  exact kk _ rfl u hu kc ks hh
theorem c_zast (C : Cq p s m args meth c cc y ret G A nL) {a T : Nat} {z x : Int} (d : decode cc pc = .ok (.bastore, 1)) (ha : ty L cl a T) (hT : kd T = 21) (h1 : 0 ≤ z) (h2 : z < (ln a : Nat)) (hm : ln a ≤ 1000000) (hx : x = 0 ∨ x = 1) (kk : ∀ iv2, iv2 = up2 iv a z.toNat x → cw p l e d0 r0 s m args below meth c G A nL Q Pf ph L cl ln iv2 rv K (pc + 1) lv st) : cw p l e d0 r0 s m args below meth c G A nL Q Pf ph L cl ln iv rv K pc lv (.int (iI x) :: .int (iI z) :: .ref a :: st) := by
  intro u hu kc ks hh
  refine q_zast2 C d ha.1 (enc_Z ha hT) (iI_in ⟨by omega, by omega⟩ h1 h2) ?_
  rw [iI_cl ⟨by omega, by omega⟩, nar_b hx]
  have e : upd (fun j => iI (iv a j)) z.toNat (iI x) = fun j => if j = z.toNat then iI x else iI (iv a j) := by funext j; unfold upd; rfl
  rw [e, enc_zst ha hT]
  exact kk _ rfl u hu kc ks hh
theorem c_alenI (C : Cq p s m args meth c cc y ret G A nL) {a T : Nat} (d : decode cc pc = .ok (.arraylength, 1)) (ha : ty L cl a T) (hT : kd T = 20) (kk : cw p l e d0 r0 s m args below meth c G A nL Q Pf ph L cl ln iv rv K (pc + 1) lv (.int (iI ((ln a : Nat) : Int)) :: st)) : cw p l e d0 r0 s m args below meth c G A nL Q Pf ph L cl ln iv rv K pc lv (.ref a :: st) := fun u hu kc ks hh => q_alenI C d ha.1 (enc_I ha hT) Int32.ofInt_eq_ofNat.symm (kk u hu kc ks hh)
theorem c_alenO (C : Cq p s m args meth c cc y ret G A nL) {a T : Nat} (d : decode cc pc = .ok (.arraylength, 1)) (ha : ty L cl a T) (hT : kd T = 24) (kk : cw p l e d0 r0 s m args below meth c G A nL Q Pf ph L cl ln iv rv K (pc + 1) lv (.int (iI ((ln a : Nat) : Int)) :: st)) : cw p l e d0 r0 s m args below meth c G A nL Q Pf ph L cl ln iv rv K pc lv (.ref a :: st) := fun u hu kc ks hh => q_alenO C d ha.1 (enc_O ha hT) Int32.ofInt_eq_ofNat.symm (kk u hu kc ks hh)
theorem c_aaldL (C : Cq p s m args meth c cc y ret G A nL) {a T : Nat} {z : Int} {x : Option Nat} (d : decode cc pc = .ok (.aaload, 1)) (ha : ty L cl a T) (hT : kd T = 22) (h1 : 0 ≤ z) (h2 : z < (ln a : Nat)) (hm : ln a ≤ 1000000) (hx : rv a z.toNat = x) (kk : cw p l e d0 r0 s m args below meth c G A nL Q Pf ph L cl ln iv rv K (pc + 1) lv (va_rf x :: st)) : cw p l e d0 r0 s m args below meth c G A nL Q Pf ph L cl ln iv rv K pc lv (.int (iI z) :: .ref a :: st) := fun u hu kc ks hh => q_aaldL C d ha.1 (enc_L ha hT) (iI_in ⟨by omega, by omega⟩ h1 h2) (by rw [iI_cl ⟨by omega, by omega⟩, hx]) (kk u hu kc ks hh)
theorem c_aaldR (C : Cq p s m args meth c cc y ret G A nL) {a T : Nat} {z : Int} {x : Option Nat} (d : decode cc pc = .ok (.aaload, 1)) (ha : ty L cl a T) (hT : kd T = 23) (h1 : 0 ≤ z) (h2 : z < (ln a : Nat)) (hm : ln a ≤ 1000000) (hx : rv a z.toNat = x) (kk : cw p l e d0 r0 s m args below meth c G A nL Q Pf ph L cl ln iv rv K (pc + 1) lv (va_rf x :: st)) : cw p l e d0 r0 s m args below meth c G A nL Q Pf ph L cl ln iv rv K pc lv (.int (iI z) :: .ref a :: st) := fun u hu kc ks hh => q_aaldR C d ha.1 (enc_R ha hT) (iI_in ⟨by omega, by omega⟩ h1 h2) (by rw [iI_cl ⟨by omega, by omega⟩, hx]) (kk u hu kc ks hh)
theorem c_aaldO (C : Cq p s m args meth c cc y ret G A nL) {a T : Nat} {z : Int} {x : Option Nat} (d : decode cc pc = .ok (.aaload, 1)) (ha : ty L cl a T) (hT : kd T = 24) (h1 : 0 ≤ z) (h2 : z < (ln a : Nat)) (hm : ln a ≤ 1000000) (hx : rv a z.toNat = x) (kk : cw p l e d0 r0 s m args below meth c G A nL Q Pf ph L cl ln iv rv K (pc + 1) lv (va_rf x :: st)) : cw p l e d0 r0 s m args below meth c G A nL Q Pf ph L cl ln iv rv K pc lv (.int (iI z) :: .ref a :: st) := fun u hu kc ks hh => q_aaldO C d ha.1 (enc_O ha hT) (iI_in ⟨by omega, by omega⟩ h1 h2) (by rw [iI_cl ⟨by omega, by omega⟩, hx]) (kk u hu kc ks hh)
end CQ
section CQ2
variable {p : Program} {l : Launch} {e : Env} {s : State} {m : MethodId} {args : Array Value} {below : List Frame} {meth : Method} {c : Code} {cc : ByteArray} {y : MethodName} {ret : Option FieldType} {G : GT} {A : Nat → Prop} {nL mi : Nat} {Q : State → Prop} {L : List Nat} {E : Nat → va_E} {R : Room} {kc ks pc : Nat} {lv : List (Nat × Value)} {st : List Value}
theorem q_aastN (C : Cq p s m args meth c cc y ret G A nL) {a n t0 : Nat} {Cn : String} {cA : ClassId} {f : Nat → Option Nat} {i : Int32} (d : decode cc pc = .ok (.aastore, 1)) (ha : a ∈ L) (ht : (gT G)[t0]? = some (cA, .object Cn)) (hE : E a = .inl (cA, n, .inr (.inr (.inr (.inr f))))) (hin : vp_in i n) (kk : wq p l e R s m args below meth c G A nL Q L (va_up E a (.inl (cA, n, .inr (.inr (.inr (.inr (va_up f i.toNatClampNeg none))))))) kc ks (pc + 1) lv st) : wq p l e R s m args below meth c G A nL Q L E kc ks pc lv (.null :: .int i :: .ref a :: st) := by
  intro H locs ls hP hD hS hl
  obtain ⟨q0, hq⟩ := pl_at (E := E) ha
  refine va_astqN C.1 C.2.1 C.2.2.2.2.2.1 hP hD hS q0 t0 (by rw [hq, hE]) ht hin d (fun H1 locs1 hP1 hD1 hS1 => ?_)
  rw [pl_set hD ha hq] at hP1 hD1
  exact kk H1 locs1 ls hP1 hD1 hS1 hl
theorem q_aastC (C : Cq p s m args meth c cc y ret G A nL) {a b n t0 ci N : Nat} {cA : ClassId} {Cn : String} {TT : u_T} {tyy : Nat → FieldType} {f : Nat → Option Nat} {g : Nat → Value} {i : Int32} (ck : Ck ci Cn TT N tyy) (d : decode cc pc = .ok (.aastore, 1)) (ha : a ∈ L) (ht : (gT G)[t0]? = some (cA, .object Cn)) (hE : E a = .inl (cA, n, .inr (.inr (.inr (.inr f))))) (hb : b ∈ L) (hEb : E b = ob ci N g) (hin : vp_in i n) (kk : wq p l e R s m args below meth c G A nL Q L (va_up E a (.inl (cA, n, .inr (.inr (.inr (.inr (va_up f i.toNatClampNeg (some b)))))))) kc ks (pc + 1) lv st) : wq p l e R s m args below meth c G A nL Q L E kc ks pc lv (.ref b :: .int i :: .ref a :: st) := by
  intro H locs ls hP hD hS hl
  obtain ⟨q0, hq⟩ := pl_at (E := E) ha
  obtain ⟨q1, hq1⟩ := pl_at (E := E) hb
  refine va_astq C.1 C.2.1 C.2.2.2.2.2.1 hP hD hS q0 t0 q1 ci (r := (Cn, TT, N)) (by rw [hq, hE]) ht (by rw [hq1, hEb]; rfl) ck.1 hin d (fun H1 locs1 hP1 hD1 hS1 => ?_)
  rw [pl_set hD ha hq] at hP1 hD1
  exact kk H1 locs1 ls hP1 hD1 hS1 hl
end CQ2
section CQ3
variable {p : Program} {l : Launch} {e : Env} {d0 r0 : Nat} {s : State} {m : MethodId} {args : Array Value} {below : List Frame} {meth : Method} {c : Code} {cc : ByteArray} {y : MethodName} {ret : Option FieldType} {G : GT} {A : Nat → Prop} {nL mi : Nat} {Q : State → Prop} {Pf : PF} {ph : Nat} {L : List Nat} {cl ln : Nat → Nat} {iv : Nat → Nat → Int} {rv : Nat → Nat → Option Nat} {K pc : Nat} {lv : List (Nat × Value)} {st : List Value}
theorem c_aastL (C : Cq p s m args meth c cc y ret G A nL) {a b T T2 ci N : Nat} {z : Int} {TT : u_T} {tyy : Nat → FieldType} (ck : Ck ci RX2 TT N tyy) (d : decode cc pc = .ok (.aastore, 1)) (ha : ty L cl a T) (hT : kd T = 22) (hb : ty L cl b T2) (hT2 : kd T2 = ci) (hN : nf ci = N) (h13 : ci < 13) (h1 : 0 ≤ z) (h2 : z < (ln a : Nat)) (hm : ln a ≤ 1000000) (kk : ∀ rv2, rv2 = upr rv a z.toNat (some b) → ∃ K2 : Nat, Pf ln rv + K ≤ Pf ln rv2 + K2 ∧ cw p l e d0 r0 s m args below meth c G A nL Q Pf ph L cl ln iv rv2 K2 (pc + 1) lv st) : cw p l e d0 r0 s m args below meth c G A nL Q Pf ph L cl ln iv rv K pc lv (.ref b :: .int (iI z) :: .ref a :: st) := by
  intro u hu kc ks hh
  refine q_aastC (t0 := 2) (cA := G.2.2.2.1) C ck d ha.1 rfl (enc_L ha hT) hb.1 (enc_ob hb hT2 hN h13) (iI_in ⟨by omega, by omega⟩ h1 h2) ?_
  rw [iI_cl ⟨by omega, by omega⟩]
  obtain ⟨K2, g1, g2⟩ := kk _ rfl
  refine hv2 (enc_rst (G := G) (cl := cl) (ln := ln) (iv := iv) (rv := rv) (k := z.toNat) (x := some b) (mk := fun f => aL G (ln a) f) (fun r2 => enc_L (rv := r2) ha hT)) (show aL G (ln a) (va_up (rv a) z.toNat (some b)) = Sum.inl (G.2.2.2.1, ln a, .inr (.inr (.inr (.inr (va_up (rv a) z.toNat (some b)))))) from rfl) (fun e e2 => ?_)
  rw [← e2, e]
  exact g2 u (by omega) kc ks hh
theorem c_aastR (C : Cq p s m args meth c cc y ret G A nL) {a b T T2 ci N : Nat} {z : Int} {TT : u_T} {tyy : Nat → FieldType} (ck : Ck ci RX5 TT N tyy) (d : decode cc pc = .ok (.aastore, 1)) (ha : ty L cl a T) (hT : kd T = 23) (hb : ty L cl b T2) (hT2 : kd T2 = ci) (hN : nf ci = N) (h13 : ci < 13) (h1 : 0 ≤ z) (h2 : z < (ln a : Nat)) (hm : ln a ≤ 1000000) (kk : ∀ rv2, rv2 = upr rv a z.toNat (some b) → ∃ K2 : Nat, Pf ln rv + K ≤ Pf ln rv2 + K2 ∧ cw p l e d0 r0 s m args below meth c G A nL Q Pf ph L cl ln iv rv2 K2 (pc + 1) lv st) : cw p l e d0 r0 s m args below meth c G A nL Q Pf ph L cl ln iv rv K pc lv (.ref b :: .int (iI z) :: .ref a :: st) := by
  intro u hu kc ks hh
  refine q_aastC (t0 := 3) (cA := G.2.2.2.2.1) C ck d ha.1 rfl (enc_R ha hT) hb.1 (enc_ob hb hT2 hN h13) (iI_in ⟨by omega, by omega⟩ h1 h2) ?_
  rw [iI_cl ⟨by omega, by omega⟩]
  obtain ⟨K2, g1, g2⟩ := kk _ rfl
  refine hv2 (enc_rst (G := G) (cl := cl) (ln := ln) (iv := iv) (rv := rv) (k := z.toNat) (x := some b) (mk := fun f => aR G (ln a) f) (fun r2 => enc_R (rv := r2) ha hT)) (show aR G (ln a) (va_up (rv a) z.toNat (some b)) = Sum.inl (G.2.2.2.2.1, ln a, .inr (.inr (.inr (.inr (va_up (rv a) z.toNat (some b)))))) from rfl) (fun e e2 => ?_)
  rw [← e2, e]
  exact g2 u (by omega) kc ks hh
theorem c_aastNR (C : Cq p s m args meth c cc y ret G A nL) {a T : Nat} {z : Int} (d : decode cc pc = .ok (.aastore, 1)) (ha : ty L cl a T) (hT : kd T = 23) (h1 : 0 ≤ z) (h2 : z < (ln a : Nat)) (hm : ln a ≤ 1000000) (kk : ∀ rv2, rv2 = upr rv a z.toNat none → ∃ K2 : Nat, Pf ln rv + K ≤ Pf ln rv2 + K2 ∧ cw p l e d0 r0 s m args below meth c G A nL Q Pf ph L cl ln iv rv2 K2 (pc + 1) lv st) : cw p l e d0 r0 s m args below meth c G A nL Q Pf ph L cl ln iv rv K pc lv (.null :: .int (iI z) :: .ref a :: st) := by
  intro u hu kc ks hh
  refine q_aastN (t0 := 3) (cA := G.2.2.2.2.1) (Cn := RX5) C d ha.1 rfl (enc_R ha hT) (iI_in ⟨by omega, by omega⟩ h1 h2) ?_
  rw [iI_cl ⟨by omega, by omega⟩]
  obtain ⟨K2, g1, g2⟩ := kk _ rfl
  refine hv2 (enc_rst (G := G) (cl := cl) (ln := ln) (iv := iv) (rv := rv) (k := z.toNat) (x := none) (mk := fun f => aR G (ln a) f) (fun r2 => enc_R (rv := r2) ha hT)) (show aR G (ln a) (va_up (rv a) z.toNat none) = Sum.inl (G.2.2.2.2.1, ln a, .inr (.inr (.inr (.inr (va_up (rv a) z.toNat none))))) from rfl) (fun e e2 => ?_)
  rw [← e2, e]
  exact g2 u (by omega) kc ks hh
theorem c_aastO (C : Cq p s m args meth c cc y ret G A nL) {a b T T2 ci N : Nat} {z : Int} {Cn : String} {TT : u_T} {tyy : Nat → FieldType} (ck : Ck ci Cn TT N tyy) (hc : Cond.castable Cn "java/lang/Object" ∈ lw_tbl) (d : decode cc pc = .ok (.aastore, 1)) (ha : ty L cl a T) (hT : kd T = 24) (hb : ty L cl b T2) (hT2 : kd T2 = ci) (hN : nf ci = N) (h13 : ci < 13) (h1 : 0 ≤ z) (h2 : z < (ln a : Nat)) (hm : ln a ≤ 1000000) (kk : ∀ rv2, rv2 = upr rv a z.toNat (some b) → ∃ K2 : Nat, Pf ln rv + K ≤ Pf ln rv2 + K2 ∧ cw p l e d0 r0 s m args below meth c G A nL Q Pf ph L cl ln iv rv2 K2 (pc + 1) lv st) : cw p l e d0 r0 s m args below meth c G A nL Q Pf ph L cl ln iv rv K pc lv (.ref b :: .int (iI z) :: .ref a :: st) := by
  intro u hu kc ks hh
  refine q_aastO C ck d hc ha.1 (enc_O ha hT) hb.1 (enc_ob hb hT2 hN h13) (iI_in ⟨by omega, by omega⟩ h1 h2) ?_
  rw [iI_cl ⟨by omega, by omega⟩]
  obtain ⟨K2, g1, g2⟩ := kk _ rfl
  rw [enc_rst (G := G) (cl := cl) (ln := ln) (iv := iv) (rv := rv) (k := z.toNat) (x := some b) (mk := fun f => aO G (ln a) f) (fun r2 => enc_O (rv := r2) ha hT)]
  exact g2 u (by omega) kc ks hh
theorem c_aastNO (C : Cq p s m args meth c cc y ret G A nL) {a T : Nat} {z : Int} (d : decode cc pc = .ok (.aastore, 1)) (ha : ty L cl a T) (hT : kd T = 24) (h1 : 0 ≤ z) (h2 : z < (ln a : Nat)) (hm : ln a ≤ 1000000) (kk : ∀ rv2, rv2 = upr rv a z.toNat none → ∃ K2 : Nat, Pf ln rv + K ≤ Pf ln rv2 + K2 ∧ cw p l e d0 r0 s m args below meth c G A nL Q Pf ph L cl ln iv rv2 K2 (pc + 1) lv st) : cw p l e d0 r0 s m args below meth c G A nL Q Pf ph L cl ln iv rv K pc lv (.null :: .int (iI z) :: .ref a :: st) := by
  intro u hu kc ks hh
  refine q_aastN (t0 := 4) (cA := G.2.2.2.2.2.1) (Cn := "java/lang/Object") C d ha.1 rfl (enc_O ha hT) (iI_in ⟨by omega, by omega⟩ h1 h2) ?_
  rw [iI_cl ⟨by omega, by omega⟩]
  obtain ⟨K2, g1, g2⟩ := kk _ rfl
  refine hv2 (enc_rst (G := G) (cl := cl) (ln := ln) (iv := iv) (rv := rv) (k := z.toNat) (x := none) (mk := fun f => aO G (ln a) f) (fun r2 => enc_O (rv := r2) ha hT)) (show aO G (ln a) (va_up (rv a) z.toNat none) = Sum.inl (G.2.2.2.2.2.1, ln a, .inr (.inr (.inr (.inr (va_up (rv a) z.toNat none))))) from rfl) (fun e e2 => ?_)
  rw [← e2, e]
  exact g2 u (by omega) kc ks hh
theorem c_cast (C : Cq p s m args meth c cc y ret G A nL) {a T ci N idx : Nat} {Cn nm : String} {TT : u_T} {tyy : Nat → FieldType} (ck : Ck ci Cn TT N tyy) (d : decode cc pc = .ok (.checkcast idx, 3)) (lk : Cond.classLink y.cls idx nm ∈ lw_g) (hc : Cond.castable Cn nm ∈ lw_tbl) (ha : ty L cl a T) (hT : kd T = ci) (hN : nf ci = N) (h13 : ci < 13) (kk : cw p l e d0 r0 s m args below meth c G A nL Q Pf ph L cl ln iv rv K (pc + 3) lv (.ref a :: st)) : cw p l e d0 r0 s m args below meth c G A nL Q Pf ph L cl ln iv rv K pc lv (.ref a :: st) := by
  intro u hu kc ks hh H locs ls hP hD hS hl
  obtain ⟨q0, hq⟩ := pl_at (E := enc G cl ln iv rv) ha.1
  exact va_castY C.1 C.2.1 C.2.2.2.1 (C.2.2.2.2.1 _ lk) (C.2.2.2.2.2.2.2.2.2.2.2.2.1 _ _ hc) (va_recv C.2.2.2.2.2.1 hP (ci := ci) (q0 := q0) ck.1 (by rw [hq, enc_ob ha hT hN h13]; rfl)) d (kk u hu kc ks hh H locs ls hP hD hS hl)
theorem c_tabIn (C : Cq p s m args meth c cc y ret G A nL) {dflt lo hi z off : Int} {offs : Array Int} {len tgt : Nat} (hz : R32 z) (d : decode cc pc = .ok (.tableswitch dflt lo hi offs, len)) (h1 : ¬ z < lo) (h2 : ¬ hi < z) (ho : offs[(z - lo).toNat]? = some off) (ht : (pc : Int) + off = (tgt : Int)) (k : cw p l e d0 r0 s m args below meth c G A nL Q Pf ph L cl ln iv rv K tgt lv st) : cw p l e d0 r0 s m args below meth c G A nL Q Pf ph L cl ln iv rv K pc lv (.int (iI z) :: st) := fun uu huu kc ks hkk H locs ls hP hD hS hl => lv_tableIn C.1 C.2.1 d (by rw [iI_int hz]; exact h1) (by rw [iI_int hz]; exact h2) (by rw [iI_int hz]; exact ho) ht (k uu huu kc ks hkk H locs ls hP hD hS hl)
theorem c_tabOut (C : Cq p s m args meth c cc y ret G A nL) {dflt lo hi z : Int} {offs : Array Int} {len tgt : Nat} (hz : R32 z) (d : decode cc pc = .ok (.tableswitch dflt lo hi offs, len)) (h1 : z < lo ∨ hi < z) (ht : (pc : Int) + dflt = (tgt : Int)) (k : cw p l e d0 r0 s m args below meth c G A nL Q Pf ph L cl ln iv rv K tgt lv st) : cw p l e d0 r0 s m args below meth c G A nL Q Pf ph L cl ln iv rv K pc lv (.int (iI z) :: st) := fun uu huu kc ks hkk H locs ls hP hD hS hl => lv_tableOut C.1 C.2.1 d (by rw [iI_int hz]; exact h1) ht (k uu huu kc ks hkk H locs ls hP hD hS hl)
theorem c_dup_x1 (C : Cq p s m args meth c cc y ret G A nL) {v w : Value} (d : decode cc pc = .ok (.dup_x1, 1)) (hv : v.category = 1) (hw : w.category = 1) (k : cw p l e d0 r0 s m args below meth c G A nL Q Pf ph L cl ln iv rv K (pc + 1) lv (v :: w :: v :: st)) : cw p l e d0 r0 s m args below meth c G A nL Q Pf ph L cl ln iv rv K pc lv (v :: w :: st) := fun u hu kc ks hk => q_dup_x1 C d hv hw (k u hu kc ks hk)
theorem c_acmp_eq (C : Cq p s m args meth c cc y ret G A nL) {rx ry : Option Nat} {off : Int} {tgt : Nat} (d : decode cc pc = .ok (.if_acmp .eq off, 3)) (ht : (pc : Int) + off = (tgt : Int)) (kt : rx = ry → cw p l e d0 r0 s m args below meth c G A nL Q Pf ph L cl ln iv rv K tgt lv st) (kf : ¬ rx = ry → cw p l e d0 r0 s m args below meth c G A nL Q Pf ph L cl ln iv rv K (pc + 3) lv st) : cw p l e d0 r0 s m args below meth c G A nL Q Pf ph L cl ln iv rv K pc lv (va_rf ry :: va_rf rx :: st) := fun u hu kc ks hk => q_acmp_eq C d ht (fun h => kt h u hu kc ks hk) (fun h => kf h u hu kc ks hk)
theorem c_acmp_ne (C : Cq p s m args meth c cc y ret G A nL) {rx ry : Option Nat} {off : Int} {tgt : Nat} (d : decode cc pc = .ok (.if_acmp .ne off, 3)) (ht : (pc : Int) + off = (tgt : Int)) (kt : ¬ rx = ry → cw p l e d0 r0 s m args below meth c G A nL Q Pf ph L cl ln iv rv K tgt lv st) (kf : rx = ry → cw p l e d0 r0 s m args below meth c G A nL Q Pf ph L cl ln iv rv K (pc + 3) lv st) : cw p l e d0 r0 s m args below meth c G A nL Q Pf ph L cl ln iv rv K pc lv (va_rf ry :: va_rf rx :: st) := fun u hu kc ks hk => q_acmp_ne C d ht (fun h => kt h u hu kc ks hk) (fun h => kf h u hu kc ks hk)
theorem c_ifnull (C : Cq p s m args meth c cc y ret G A nL) {r : Option Nat} {off : Int} {tgt : Nat} (d : decode cc pc = .ok (.ifnull off, 3)) (ht : (pc : Int) + off = (tgt : Int)) (kt : r = none → cw p l e d0 r0 s m args below meth c G A nL Q Pf ph L cl ln iv rv K tgt lv st) (kf : ∀ b, r = some b → cw p l e d0 r0 s m args below meth c G A nL Q Pf ph L cl ln iv rv K (pc + 3) lv st) : cw p l e d0 r0 s m args below meth c G A nL Q Pf ph L cl ln iv rv K pc lv (va_rf r :: st) := by
  cases r with
  | none => exact fun u hu kc ks hk => q_ifnullN C d ht (kt rfl u hu kc ks hk)
  | some x => exact fun u hu kc ks hk => q_ifnull C d (kf x rfl u hu kc ks hk)
theorem c_ifnonnull (C : Cq p s m args meth c cc y ret G A nL) {r : Option Nat} {off : Int} {tgt : Nat} (d : decode cc pc = .ok (.ifnonnull off, 3)) (ht : (pc : Int) + off = (tgt : Int)) (kt : ∀ b, r = some b → cw p l e d0 r0 s m args below meth c G A nL Q Pf ph L cl ln iv rv K tgt lv st) (kf : r = none → cw p l e d0 r0 s m args below meth c G A nL Q Pf ph L cl ln iv rv K (pc + 3) lv st) : cw p l e d0 r0 s m args below meth c G A nL Q Pf ph L cl ln iv rv K pc lv (va_rf r :: st) := by
  cases r with
  | none => exact fun u hu kc ks hk => q_ifnonnullN C d (kf rfl u hu kc ks hk)
  | some x => exact fun u hu kc ks hk => q_ifnonnull C d ht (kt x rfl u hu kc ks hk)
theorem c_gets (C : Cq p s m args meth c cc y ret G A nL) {idx : Nat} (d : decode cc pc = .ok (.getstatic idx, 3)) (lk : Cond.fieldLink y.cls idx "java/util/ArrayList" "DEFAULTCAPACITY_EMPTY_ELEMENTDATA" "[Ljava/lang/Object;" ∈ lw_g) (k : cw p l e d0 r0 s m args below meth c G A nL Q Pf ph L cl ln iv rv K (pc + 3) lv (.ref (g0 G) :: st)) : cw p l e d0 r0 s m args below meth c G A nL Q Pf ph L cl ln iv rv K pc lv st := fun u hu kc ks hk => q_gets C d lk (k u hu kc ks hk)
theorem c_tlen (C : Cq p s m args meth c cc y ret G A nL) (d : decode cc pc = .ok (.arraylength, 1)) (k : cw p l e d0 r0 s m args below meth c G A nL Q Pf ph L cl ln iv rv K (pc + 1) lv (.int (iI 0) :: st)) : cw p l e d0 r0 s m args below meth c G A nL Q Pf ph L cl ln iv rv K pc lv (.ref (g0 G) :: st) := fun u hu kc ks hk => q_tlen C d (k u hu kc ks hk)
theorem c_mmax (C : Cq p s m args meth c cc y ret G A nL) {idx : Nat} {x y2 w : Int32} (d : decode cc pc = .ok (.invokestatic idx, 3)) (lk : Cond.methodLink y.cls idx Lib.Math.max.name ∈ lw_g) (h1 : Cond.static Lib.Math.max.name ∈ lw_g) (h2 : Cond.initialized "java/lang/Math" ∈ lw_g) (h3 : Cond.code Lib.Math.max.name Lib.Math.max.code 2 (some .int) ∈ lw_g) (hd : 1 ≤ d0) (hro : Pf ln rv + K ≤ r0 + ph) (hst : (st.map fun v => v.category).sum ≤ 8) (hv : (if x < y2 then y2 else x) = w) (kk : cw p l e d0 r0 s m args below meth c G A nL Q Pf ph L cl ln iv rv K (pc + 3) lv (.int w :: st)) : cw p l e d0 r0 s m args below meth c G A nL Q Pf ph L cl ln iv rv K pc lv (.int y2 :: .int x :: st) := fun u hu kc ks hk => q_mmax C d lk h1 h2 h3 ⟨hd, by show 21 ≤ 64 * d0; omega⟩ (u_wid hk (by omega)) hst hv (kk u hu kc ks hk)
theorem c_mmin (C : Cq p s m args meth c cc y ret G A nL) {idx : Nat} {x y2 w : Int32} (d : decode cc pc = .ok (.invokestatic idx, 3)) (lk : Cond.methodLink y.cls idx Lib.Math.min.name ∈ lw_g) (h1 : Cond.static Lib.Math.min.name ∈ lw_g) (h2 : Cond.initialized "java/lang/Math" ∈ lw_g) (h3 : Cond.code Lib.Math.min.name Lib.Math.min.code 2 (some .int) ∈ lw_g) (hd : 1 ≤ d0) (hro : Pf ln rv + K ≤ r0 + ph) (hst : (st.map fun v => v.category).sum ≤ 8) (hv : (if y2 < x then y2 else x) = w) (kk : cw p l e d0 r0 s m args below meth c G A nL Q Pf ph L cl ln iv rv K (pc + 3) lv (.int w :: st)) : cw p l e d0 r0 s m args below meth c G A nL Q Pf ph L cl ln iv rv K pc lv (.int y2 :: .int x :: st) := fun u hu kc ks hk => q_mmin C d lk h1 h2 h3 ⟨hd, by show 21 ≤ 64 * d0; omega⟩ (u_wid hk (by omega)) hst hv (kk u hu kc ks hk)
theorem c_callS0 (C : Cq p s m args meth c cc y ret G A nL) {y2 : MethodName} {cc2 : ByteArray} {n2 d2 idx k2 : Nat} {ret2 : Option FieldType} {r2 : Value} {As rest : List Value} (M : ∀ (L : List Nat) (E : Nat → va_E), Mq l G y2 cc2 n2 ret2 d2 As L E 0 0 (fun r L2 E2 => r = some r2 ∧ L2 = L ∧ E2 = E)) (d : decode cc pc = .ok (.invokestatic idx, 3)) (hw : Ws y.cls idx y2 cc2 n2 ret2 k2) (hk : As.length = k2) (hst : st = As.reverse ++ rest) (hcat : (rest.map fun v => v.category).sum ≤ 8) (hR : d2 + 1 ≤ d0 ∧ 8 + (n2 + 11) + 64 * d2 ≤ 64 * d0) (hro : Pf ln rv + K ≤ r0 + ph) (kk : cw p l e d0 r0 s m args below meth c G A nL Q Pf ph L cl ln iv rv K (pc + 3) lv (r2 :: rest)) : cw p l e d0 r0 s m args below meth c G A nL Q Pf ph L cl ln iv rv K pc lv st := fun u hu kc ks hh => q_callS C (M L _) d hw hk hst hcat hR (u_wid hh (by omega)) (fun r L2 E2 ⟨h1, h2, h3⟩ => by subst h1; subst h2; subst h3; exact kk u hu kc ks hh)
theorem c_callSN0 (C : Cq p s m args meth c cc y ret G A nL) {y2 : MethodName} {host : String} {cc2 : ByteArray} {n2 d2 idx k2 : Nat} {ret2 : Option FieldType} {r2 : Value} {As rest : List Value} (M : ∀ (L : List Nat) (E : Nat → va_E), Mq l G y2 cc2 n2 ret2 d2 As L E 0 0 (fun r L2 E2 => r = some r2 ∧ L2 = L ∧ E2 = E)) (d : decode cc pc = .ok (.invokestatic idx, 3)) (hw : Wns y.cls idx y2 host cc2 n2 ret2 k2) (hk : As.length = k2) (hst : st = As.reverse ++ rest) (hcat : (rest.map fun v => v.category).sum ≤ 8) (hR : d2 + 1 ≤ d0 ∧ 8 + (n2 + 11) + 64 * d2 ≤ 64 * d0) (hro : Pf ln rv + K ≤ r0 + ph) (kk : cw p l e d0 r0 s m args below meth c G A nL Q Pf ph L cl ln iv rv K (pc + 3) lv (r2 :: rest)) : cw p l e d0 r0 s m args below meth c G A nL Q Pf ph L cl ln iv rv K pc lv st := fun u hu kc ks hh => q_callSN C (M L _) d hw hk hst hcat hR (u_wid hh (by omega)) (fun r L2 E2 ⟨h1, h2, h3⟩ => by subst h1; subst h2; subst h3; exact kk u hu kc ks hh)
theorem c_objInit (C : Cq p s m args meth c cc y ret G A nL) {idx a : Nat} (d : decode cc pc = .ok (.invokespecial idx, 3)) (lk : Cond.methodLink y.cls idx Lib.objectInit ∈ lw_g) (hi : Cond.instanceMethod Lib.objectInit ∈ lw_g) (hc : Cond.code Lib.objectInit ⟨#[0xb1]⟩ 1 none ∈ lw_g) (hd : 1 ≤ d0) (hst : (st.map fun v => v.category).sum ≤ 8) (kk : cw p l e d0 r0 s m args below meth c G A nL Q Pf ph L cl ln iv rv K (pc + 3) lv st) : cw p l e d0 r0 s m args below meth c G A nL Q Pf ph L cl ln iv rv K pc lv (.ref a :: st) := fun u hu kc ks hk => q_objInit C d lk hi hc ⟨hd, by show 20 ≤ 64 * d0; omega⟩ hst (kk u hu kc ks hk)
theorem c_new (C : Cq p s m args meth c cc y ret G A nL) {ci N idx : Nat} {Cn : String} {TT : u_T} {tyy : Nat → FieldType} (ck : Ck ci Cn TT N tyy) (hv : ∀ j, j < N → defaultValue (tyy j) = ofv ci (fun _ => 0) (fun _ => none) j) (hT : kd (200 + ci) = ci ∧ bt (200 + ci) = 200 + ci) (hN : nf ci = N) (h13 : ci < 13) (d : decode cc pc = .ok (.new idx, 3)) (lk : Cond.classLink y.cls idx Cn ∈ lw_g) (hi : Cond.instantiable Cn N ∈ lw_g) (hn : Cond.initialized Cn ∈ lw_g) (hro : Pf ln rv + K + (16 + N) ≤ r0 + ph) (kk : ∀ (q : Nat) (cl2 ln2 : Nat → Nat) (iv2 : Nat → Nat → Int) (rv2 : Nat → Nat → Option Nat), q ∉ L → cl2 = va_up cl q (200 + ci) → ln2 = ln → iv2 = up0 iv q 0 → rv2 = up0 rv q none → ∃ K2 : Nat, Pf ln rv + K + (16 + N) ≤ Pf ln2 rv2 + K2 ∧ cw p l e d0 r0 s m args below meth c G A nL Q Pf ph (L ++ [q]) cl2 ln2 iv2 rv2 K2 (pc + 3) lv (.ref q :: st)) : cw p l e d0 r0 s m args below meth c G A nL Q Pf ph L cl ln iv rv K pc lv st := by
  intro u hu kc ks hh
  refine q_new C ck d lk hi hn ⟨by show kc + 1 ≤ r0 / 16; omega, by show ks + N ≤ r0; omega⟩ (fun q hq => ?_)
  obtain ⟨K2, g1, g2⟩ := kk q _ _ _ _ hq rfl rfl rfl rfl
  have e : va_up (enc G cl ln iv rv) q (ob ci N (fun j => defaultValue (tyy j))) = enc G (va_up cl q (200 + ci)) ln (up0 iv q 0) (up0 rv q none) := by
    refine enc_up (fun b hb => ⟨va_up_ne _ _ hb, rfl, up0_a hb, up0_a hb⟩) ?_
    have h2 : ty (L ++ [q]) (va_up cl q (200 + ci)) q (200 + ci) := ⟨List.mem_append_right _ List.mem_cons_self, by rw [va_up_self]; exact hT.2⟩
    rw [enc_ob h2 hT.1 hN h13]
    refine ob_ext (fun j hj => ?_)
    rw [hv j hj]
    unfold ofv
    rw [up0_s, up0_s]
  rw [e]
  exact g2 (u + (16 + N)) (by omega) _ _ (by omega)
theorem c_newaI (C : Cq p s m args meth c cc y ret G A nL) {z : Int} {N : Nat} (t : Nat)  (d : decode cc pc = .ok (.newarray .int, 2)) (lk : Cond.arrayClass .int ∈ lw_g) (hT : kd (bt t) = 20) (hz : z = (N : Int)) (hb : N ≤ 100000) (hro : Pf ln rv + K + (16 + N) ≤ r0 + ph) (kk : ∀ (q : Nat) (cl2 ln2 : Nat → Nat) (iv2 : Nat → Nat → Int) (rv2 : Nat → Nat → Option Nat), q ∉ L → cl2 = va_up cl q t → ln2 = va_up ln q N → iv2 = up0 iv q 0 → rv2 = up0 rv q none → ∃ K2 : Nat, Pf ln rv + K + (16 + N) ≤ Pf ln2 rv2 + K2 ∧ cw p l e d0 r0 s m args below meth c G A nL Q Pf ph (L ++ [q]) cl2 ln2 iv2 rv2 K2 (pc + 2) lv (.ref q :: st)) : cw p l e d0 r0 s m args below meth c G A nL Q Pf ph L cl ln iv rv K pc lv (.int (iI z) :: st) := by
  intro u hu kc ks hh
  subst hz
  have hr : R32 (N : Int) := ⟨by omega, by omega⟩
  refine q_newaI (N := N) C d lk (by rw [show (0 : Int32) = iI 0 from rfl, iI_lt hr R32_0]; omega) (by rw [iI_cl hr]; omega) hb ⟨by show kc + 1 ≤ r0 / 16; omega, by show ks + N ≤ r0; omega⟩ (fun q hq => ?_)
  obtain ⟨K2, g1, g2⟩ := kk q _ _ _ _ hq rfl rfl rfl rfl
  have e : va_up (enc G cl ln iv rv) q (aI G N (fun _ => 0)) = enc G (va_up cl q t) (va_up ln q N) (up0 iv q 0) (up0 rv q none) := by
    refine enc_up (fun b hb => ⟨va_up_ne _ _ hb, va_up_ne _ _ hb, up0_a hb, up0_a hb⟩) ?_
    have h2 : ty (L ++ [q]) (va_up cl q t) q (bt t) := ⟨List.mem_append_right _ List.mem_cons_self, by rw [va_up_self]⟩
    rw [enc_I h2 hT, va_up_self]
    congr 1
    funext j
    rw [up0_s]; rfl
  rw [e]
  exact g2 (u + (16 + N)) (by omega) _ _ (by omega)
theorem c_newaZ (C : Cq p s m args meth c cc y ret G A nL) {z : Int} {N : Nat} (t : Nat)  (d : decode cc pc = .ok (.newarray .boolean, 2)) (lk : Cond.arrayClass .boolean ∈ lw_g) (hT : kd (bt t) = 21) (hz : z = (N : Int)) (hb : N ≤ 100000) (hro : Pf ln rv + K + (16 + N) ≤ r0 + ph) (kk : ∀ (q : Nat) (cl2 ln2 : Nat → Nat) (iv2 : Nat → Nat → Int) (rv2 : Nat → Nat → Option Nat), q ∉ L → cl2 = va_up cl q t → ln2 = va_up ln q N → iv2 = up0 iv q 0 → rv2 = up0 rv q none → ∃ K2 : Nat, Pf ln rv + K + (16 + N) ≤ Pf ln2 rv2 + K2 ∧ cw p l e d0 r0 s m args below meth c G A nL Q Pf ph (L ++ [q]) cl2 ln2 iv2 rv2 K2 (pc + 2) lv (.ref q :: st)) : cw p l e d0 r0 s m args below meth c G A nL Q Pf ph L cl ln iv rv K pc lv (.int (iI z) :: st) := by
  intro u hu kc ks hh
  subst hz
  have hr : R32 (N : Int) := ⟨by omega, by omega⟩
  refine q_newaZ (N := N) C d lk (by rw [show (0 : Int32) = iI 0 from rfl, iI_lt hr R32_0]; omega) (by rw [iI_cl hr]; omega) hb ⟨by show kc + 1 ≤ r0 / 16; omega, by show ks + N ≤ r0; omega⟩ (fun q hq => ?_)
  obtain ⟨K2, g1, g2⟩ := kk q _ _ _ _ hq rfl rfl rfl rfl
  have e : va_up (enc G cl ln iv rv) q (aZ G N (fun _ => 0)) = enc G (va_up cl q t) (va_up ln q N) (up0 iv q 0) (up0 rv q none) := by
    refine enc_up (fun b hb => ⟨va_up_ne _ _ hb, va_up_ne _ _ hb, up0_a hb, up0_a hb⟩) ?_
    have h2 : ty (L ++ [q]) (va_up cl q t) q (bt t) := ⟨List.mem_append_right _ List.mem_cons_self, by rw [va_up_self]⟩
    rw [enc_Z h2 hT, va_up_self]
    congr 1
    funext j
    rw [up0_s]; rfl
  rw [e]
  exact g2 (u + (16 + N)) (by omega) _ _ (by omega)
theorem c_newaL (C : Cq p s m args meth c cc y ret G A nL) {z : Int} {N : Nat} (t : Nat) {idx : Nat} (d : decode cc pc = .ok (.anewarray idx, 3)) (lk : Cond.classLink y.cls idx RX2 ∈ lw_g) (lo : Cond.arrayOver (.object RX2) ∈ lw_tbl) (hT : kd (bt t) = 22) (hz : z = (N : Int)) (hb : N ≤ 100000) (hro : Pf ln rv + K + (16 + N) ≤ r0 + ph) (kk : ∀ (q : Nat) (cl2 ln2 : Nat → Nat) (iv2 : Nat → Nat → Int) (rv2 : Nat → Nat → Option Nat), q ∉ L → cl2 = va_up cl q t → ln2 = va_up ln q N → iv2 = up0 iv q 0 → rv2 = up0 rv q none → ∃ K2 : Nat, Pf ln rv + K + (16 + N) ≤ Pf ln2 rv2 + K2 ∧ cw p l e d0 r0 s m args below meth c G A nL Q Pf ph (L ++ [q]) cl2 ln2 iv2 rv2 K2 (pc + 3) lv (.ref q :: st)) : cw p l e d0 r0 s m args below meth c G A nL Q Pf ph L cl ln iv rv K pc lv (.int (iI z) :: st) := by
  intro u hu kc ks hh
  subst hz
  have hr : R32 (N : Int) := ⟨by omega, by omega⟩
  refine q_newqL (N := N) C d lk lo (by rw [show (0 : Int32) = iI 0 from rfl, iI_lt hr R32_0]; omega) (by rw [iI_cl hr]; omega) hb ⟨by show kc + 1 ≤ r0 / 16; omega, by show ks + N ≤ r0; omega⟩ (fun q hq => ?_)
  obtain ⟨K2, g1, g2⟩ := kk q _ _ _ _ hq rfl rfl rfl rfl
  have e : va_up (enc G cl ln iv rv) q (aL G N (fun _ => none)) = enc G (va_up cl q t) (va_up ln q N) (up0 iv q 0) (up0 rv q none) := by
    refine enc_up (fun b hb => ⟨va_up_ne _ _ hb, va_up_ne _ _ hb, up0_a hb, up0_a hb⟩) ?_
    have h2 : ty (L ++ [q]) (va_up cl q t) q (bt t) := ⟨List.mem_append_right _ List.mem_cons_self, by rw [va_up_self]⟩
    rw [enc_L h2 hT, va_up_self]
    congr 1
    funext j
    rw [up0_s]
  rw [e]
  exact g2 (u + (16 + N)) (by omega) _ _ (by omega)
theorem c_newaR (C : Cq p s m args meth c cc y ret G A nL) {z : Int} {N : Nat} (t : Nat) {idx : Nat} (d : decode cc pc = .ok (.anewarray idx, 3)) (lk : Cond.classLink y.cls idx RX5 ∈ lw_g) (lo : Cond.arrayOver (.object RX5) ∈ lw_tbl) (hT : kd (bt t) = 23) (hz : z = (N : Int)) (hb : N ≤ 100000) (hro : Pf ln rv + K + (16 + N) ≤ r0 + ph) (kk : ∀ (q : Nat) (cl2 ln2 : Nat → Nat) (iv2 : Nat → Nat → Int) (rv2 : Nat → Nat → Option Nat), q ∉ L → cl2 = va_up cl q t → ln2 = va_up ln q N → iv2 = up0 iv q 0 → rv2 = up0 rv q none → ∃ K2 : Nat, Pf ln rv + K + (16 + N) ≤ Pf ln2 rv2 + K2 ∧ cw p l e d0 r0 s m args below meth c G A nL Q Pf ph (L ++ [q]) cl2 ln2 iv2 rv2 K2 (pc + 3) lv (.ref q :: st)) : cw p l e d0 r0 s m args below meth c G A nL Q Pf ph L cl ln iv rv K pc lv (.int (iI z) :: st) := by
  intro u hu kc ks hh
  subst hz
  have hr : R32 (N : Int) := ⟨by omega, by omega⟩
  refine q_newqR (N := N) C d lk lo (by rw [show (0 : Int32) = iI 0 from rfl, iI_lt hr R32_0]; omega) (by rw [iI_cl hr]; omega) hb ⟨by show kc + 1 ≤ r0 / 16; omega, by show ks + N ≤ r0; omega⟩ (fun q hq => ?_)
  obtain ⟨K2, g1, g2⟩ := kk q _ _ _ _ hq rfl rfl rfl rfl
  have e : va_up (enc G cl ln iv rv) q (aR G N (fun _ => none)) = enc G (va_up cl q t) (va_up ln q N) (up0 iv q 0) (up0 rv q none) := by
    refine enc_up (fun b hb => ⟨va_up_ne _ _ hb, va_up_ne _ _ hb, up0_a hb, up0_a hb⟩) ?_
    have h2 : ty (L ++ [q]) (va_up cl q t) q (bt t) := ⟨List.mem_append_right _ List.mem_cons_self, by rw [va_up_self]⟩
    rw [enc_R h2 hT, va_up_self]
    congr 1
    funext j
    rw [up0_s]
  rw [e]
  exact g2 (u + (16 + N)) (by omega) _ _ (by omega)
theorem c_newaO (C : Cq p s m args meth c cc y ret G A nL) {z : Int} {N : Nat} (t : Nat) {idx : Nat} (d : decode cc pc = .ok (.anewarray idx, 3)) (lk : Cond.classLink y.cls idx "java/lang/Object" ∈ lw_g) (lo : Cond.arrayOver (.object "java/lang/Object") ∈ lw_tbl) (hT : kd (bt t) = 24) (hz : z = (N : Int)) (hb : N ≤ 100000) (hro : Pf ln rv + K + (16 + N) ≤ r0 + ph) (kk : ∀ (q : Nat) (cl2 ln2 : Nat → Nat) (iv2 : Nat → Nat → Int) (rv2 : Nat → Nat → Option Nat), q ∉ L → cl2 = va_up cl q t → ln2 = va_up ln q N → iv2 = up0 iv q 0 → rv2 = up0 rv q none → ∃ K2 : Nat, Pf ln rv + K + (16 + N) ≤ Pf ln2 rv2 + K2 ∧ cw p l e d0 r0 s m args below meth c G A nL Q Pf ph (L ++ [q]) cl2 ln2 iv2 rv2 K2 (pc + 3) lv (.ref q :: st)) : cw p l e d0 r0 s m args below meth c G A nL Q Pf ph L cl ln iv rv K pc lv (.int (iI z) :: st) := by
  intro u hu kc ks hh
  subst hz
  have hr : R32 (N : Int) := ⟨by omega, by omega⟩
  refine q_newqO (N := N) C d lk lo (by rw [show (0 : Int32) = iI 0 from rfl, iI_lt hr R32_0]; omega) (by rw [iI_cl hr]; omega) hb ⟨by show kc + 1 ≤ r0 / 16; omega, by show ks + N ≤ r0; omega⟩ (fun q hq => ?_)
  obtain ⟨K2, g1, g2⟩ := kk q _ _ _ _ hq rfl rfl rfl rfl
  have e : va_up (enc G cl ln iv rv) q (aO G N (fun _ => none)) = enc G (va_up cl q t) (va_up ln q N) (up0 iv q 0) (up0 rv q none) := by
    refine enc_up (fun b hb => ⟨va_up_ne _ _ hb, va_up_ne _ _ hb, up0_a hb, up0_a hb⟩) ?_
    have h2 : ty (L ++ [q]) (va_up cl q t) q (bt t) := ⟨List.mem_append_right _ List.mem_cons_self, by rw [va_up_self]⟩
    rw [enc_O h2 hT, va_up_self]
    congr 1
    funext j
    rw [up0_s]
  rw [e]
  exact g2 (u + (16 + N)) (by omega) _ _ (by omega)
theorem c_callV (C : Cq p s m args meth c cc y ret G A nL) (hM : Mir mi s) {y2 : MethodName} {cc2 : ByteArray} {n2 d2 c2 pm2 idx k2 : Nat} {P2 : PC} {As rest : List Value} {Pf2 : PF} {b ci N T : Nat} {ret2 : Option FieldType} {TT : u_T} {tyy : Nat → FieldType} (M : Mc l G mi Pf2 pm2 y2 cc2 n2 ret2 d2 (.ref b :: As) L cl ln iv rv c2 P2) (d : decode cc pc = .ok (.invokevirtual idx, 3)) (hw : Wv y.cls idx y2 cc2 n2 ret2 k2) (hk : As.length = k2) (hb : ty L cl b T) (hT : kd T = ci) (hN : nf ci = N) (h13 : ci < 13) (ck : Ck ci y2.cls TT N tyy) (hst : st = As.reverse ++ .ref b :: rest) (hcat : (rest.map fun v => v.category).sum ≤ 8) (hR : d2 + 1 ≤ d0 ∧ 8 + (n2 + 11) + 64 * d2 ≤ 64 * d0) (hro : Pf ln rv + K + (pm2 + c2 - Pf2 ln rv) ≤ r0 + ph) (kk : ∀ (v : Option Value) (L2 : List Nat) (cl2 ln2 : Nat → Nat) (iv2 : Nat → Nat → Int) (rv2 : Nat → Nat → Option Nat), P2 v L2 cl2 ln2 iv2 rv2 → ∃ K2 : Nat, (∀ u2 : Nat, u2 + Pf2 ln rv ≤ Pf2 ln2 rv2 + c2 → u2 + Pf ln rv + K ≤ Pf ln2 rv2 + K2) ∧ cw p l e d0 r0 s m args below meth c G A nL Q Pf ph L2 cl2 ln2 iv2 rv2 K2 (pc + 3) lv (v.toList ++ rest)) : cw p l e d0 r0 s m args below meth c G A nL Q Pf ph L cl ln iv rv K pc lv st := fun u hu kc ks hh => u_callV C hM M d hw hk hb.1 (enc_ob hb hT hN h13) ck hst hcat hR (by omega) (fun v L2 E2 u2 ⟨cl2, ln2, iv2, rv2, h1, h2, h3⟩ => by subst h1; obtain ⟨K2, g1, g2⟩ := kk v L2 cl2 ln2 iv2 rv2 h3; have g3 := g1 u2 h2; exact g2 (u + u2) (by omega)) kc ks hh
theorem c_callI (C : Cq p s m args meth c cc y ret G A nL) (hM : Mir mi s) {y2 : MethodName} {cc2 : ByteArray} {n2 d2 c2 pm2 idx k2 : Nat} {P2 : PC} {As rest : List Value} {Pf2 : PF} {b : Nat} (M : Mc l G mi Pf2 pm2 y2 cc2 n2 none d2 (.ref b :: As) L cl ln iv rv c2 P2) (d : decode cc pc = .ok (.invokespecial idx, 3)) (hw : Wi y.cls idx y2 cc2 n2 k2) (hk : As.length = k2) (hst : st = As.reverse ++ .ref b :: rest) (hcat : (rest.map fun v => v.category).sum ≤ 8) (hR : d2 + 1 ≤ d0 ∧ 8 + (n2 + 11) + 64 * d2 ≤ 64 * d0) (hro : Pf ln rv + K + (pm2 + c2 - Pf2 ln rv) ≤ r0 + ph) (kk : ∀ (v : Option Value) (L2 : List Nat) (cl2 ln2 : Nat → Nat) (iv2 : Nat → Nat → Int) (rv2 : Nat → Nat → Option Nat), P2 v L2 cl2 ln2 iv2 rv2 → ∃ K2 : Nat, (∀ u2 : Nat, u2 + Pf2 ln rv ≤ Pf2 ln2 rv2 + c2 → u2 + Pf ln rv + K ≤ Pf ln2 rv2 + K2) ∧ cw p l e d0 r0 s m args below meth c G A nL Q Pf ph L2 cl2 ln2 iv2 rv2 K2 (pc + 3) lv (v.toList ++ rest)) : cw p l e d0 r0 s m args below meth c G A nL Q Pf ph L cl ln iv rv K pc lv st := fun u hu kc ks hh => u_callI C hM M d hw hk hst hcat hR (by omega) (fun v L2 E2 u2 ⟨cl2, ln2, iv2, rv2, h1, h2, h3⟩ => by subst h1; obtain ⟨K2, g1, g2⟩ := kk v L2 cl2 ln2 iv2 rv2 h3; have g3 := g1 u2 h2; exact g2 (u + u2) (by omega)) kc ks hh
theorem c_callIN (C : Cq p s m args meth c cc y ret G A nL) (hM : Mir mi s) {y2 : MethodName} {cc2 : ByteArray} {n2 d2 c2 pm2 idx k2 : Nat} {P2 : PC} {As rest : List Value} {Pf2 : PF} {b : Nat} {host : String} (M : Mc l G mi Pf2 pm2 y2 cc2 n2 none d2 (.ref b :: As) L cl ln iv rv c2 P2) (d : decode cc pc = .ok (.invokespecial idx, 3)) (hw : Wn y.cls idx y2 host cc2 n2 k2) (hk : As.length = k2) (hst : st = As.reverse ++ .ref b :: rest) (hcat : (rest.map fun v => v.category).sum ≤ 8) (hR : d2 + 1 ≤ d0 ∧ 8 + (n2 + 11) + 64 * d2 ≤ 64 * d0) (hro : Pf ln rv + K + (pm2 + c2 - Pf2 ln rv) ≤ r0 + ph) (kk : ∀ (v : Option Value) (L2 : List Nat) (cl2 ln2 : Nat → Nat) (iv2 : Nat → Nat → Int) (rv2 : Nat → Nat → Option Nat), P2 v L2 cl2 ln2 iv2 rv2 → ∃ K2 : Nat, (∀ u2 : Nat, u2 + Pf2 ln rv ≤ Pf2 ln2 rv2 + c2 → u2 + Pf ln rv + K ≤ Pf ln2 rv2 + K2) ∧ cw p l e d0 r0 s m args below meth c G A nL Q Pf ph L2 cl2 ln2 iv2 rv2 K2 (pc + 3) lv (v.toList ++ rest)) : cw p l e d0 r0 s m args below meth c G A nL Q Pf ph L cl ln iv rv K pc lv st := fun u hu kc ks hh => u_callIN C hM M d hw hk hst hcat hR (by omega) (fun v L2 E2 u2 ⟨cl2, ln2, iv2, rv2, h1, h2, h3⟩ => by subst h1; obtain ⟨K2, g1, g2⟩ := kk v L2 cl2 ln2 iv2 rv2 h3; have g3 := g1 u2 h2; exact g2 (u + u2) (by omega)) kc ks hh
theorem c_callS (C : Cq p s m args meth c cc y ret G A nL) (hM : Mir mi s) {y2 : MethodName} {cc2 : ByteArray} {n2 d2 c2 pm2 idx k2 : Nat} {P2 : PC} {As rest : List Value} {Pf2 : PF} {ret2 : Option FieldType} (M : Mc l G mi Pf2 pm2 y2 cc2 n2 ret2 d2 As L cl ln iv rv c2 P2) (d : decode cc pc = .ok (.invokestatic idx, 3)) (hw : Ws y.cls idx y2 cc2 n2 ret2 k2) (hk : As.length = k2) (hst : st = As.reverse ++ rest) (hcat : (rest.map fun v => v.category).sum ≤ 8) (hR : d2 + 1 ≤ d0 ∧ 8 + (n2 + 11) + 64 * d2 ≤ 64 * d0) (hro : Pf ln rv + K + (pm2 + c2 - Pf2 ln rv) ≤ r0 + ph) (kk : ∀ (v : Option Value) (L2 : List Nat) (cl2 ln2 : Nat → Nat) (iv2 : Nat → Nat → Int) (rv2 : Nat → Nat → Option Nat), P2 v L2 cl2 ln2 iv2 rv2 → ∃ K2 : Nat, (∀ u2 : Nat, u2 + Pf2 ln rv ≤ Pf2 ln2 rv2 + c2 → u2 + Pf ln rv + K ≤ Pf ln2 rv2 + K2) ∧ cw p l e d0 r0 s m args below meth c G A nL Q Pf ph L2 cl2 ln2 iv2 rv2 K2 (pc + 3) lv (v.toList ++ rest)) : cw p l e d0 r0 s m args below meth c G A nL Q Pf ph L cl ln iv rv K pc lv st := fun u hu kc ks hh => u_callS C hM M d hw hk hst hcat hR (by omega) (fun v L2 E2 u2 ⟨cl2, ln2, iv2, rv2, h1, h2, h3⟩ => by subst h1; obtain ⟨K2, g1, g2⟩ := kk v L2 cl2 ln2 iv2 rv2 h3; have g3 := g1 u2 h2; exact g2 (u + u2) (by omega)) kc ks hh
theorem c_iret (C : Cq p s m args meth c cc y ret G A nL) {Post : PC} {c0 : Nat} {z : Int} (d : decode cc pc = .ok (.ireturn, 1)) (hr : ret = some .int) (hKc : K ≤ c0) (hro : Pf ln rv + K ≤ r0 + ph) (hp : Post (some (.int (iI z))) L cl ln iv rv) : cw p l e d0 r0 s m args below meth c G A nL (MQ below (Qu G A (Qp G Pf ph c0 Post)) args s (r0 / 16) r0 A) Pf ph L cl ln iv rv K pc lv [.int (iI z)] := fun u hu kc ks hh => u_iret C d hr (by omega) ⟨cl, ln, iv, rv, rfl, by omega, hp⟩ kc ks hh
theorem c_zret (C : Cq p s m args meth c cc y ret G A nL) {Post : PC} {c0 : Nat} {z : Int} (d : decode cc pc = .ok (.ireturn, 1)) (hr : ret = some .boolean) (hz : z = 0 ∨ z = 1) (hKc : K ≤ c0) (hro : Pf ln rv + K ≤ r0 + ph) (hp : Post (some (.int (iI z))) L cl ln iv rv) : cw p l e d0 r0 s m args below meth c G A nL (MQ below (Qu G A (Qp G Pf ph c0 Post)) args s (r0 / 16) r0 A) Pf ph L cl ln iv rv K pc lv [.int (iI z)] := fun u hu kc ks hh => u_zret C d hr (by rcases hz with rfl | rfl <;> decide) (by omega) ⟨cl, ln, iv, rv, rfl, by omega, hp⟩ kc ks hh
theorem c_vret (C : Cq p s m args meth c cc y ret G A nL) {Post : PC} {c0 : Nat} (d : decode cc pc = .ok (.return_, 1)) (hr : ret = none) (hKc : K ≤ c0) (hro : Pf ln rv + K ≤ r0 + ph) (hp : Post none L cl ln iv rv) : cw p l e d0 r0 s m args below meth c G A nL (MQ below (Qu G A (Qp G Pf ph c0 Post)) args s (r0 / 16) r0 A) Pf ph L cl ln iv rv K pc lv [] := fun u hu kc ks hh => u_vret C d hr (by omega) ⟨cl, ln, iv, rv, rfl, by omega, hp⟩ kc ks hh
theorem c_aret (C : Cq p s m args meth c cc y ret G A nL) {Post : PC} {c0 : Nat} {x : Option Nat} {rt : FieldType} (d : decode cc pc = .ok (.areturn, 1)) (hr : ret = some rt) (hrt : (∃ n, rt = .object n) ∨ ∃ t, rt = .array t) (hKc : K ≤ c0) (hro : Pf ln rv + K ≤ r0 + ph) (hp : Post (some (va_rf x)) L cl ln iv rv) : cw p l e d0 r0 s m args below meth c G A nL (MQ below (Qu G A (Qp G Pf ph c0 Post)) args s (r0 / 16) r0 A) Pf ph L cl ln iv rv K pc lv [va_rf x] := fun u hu kc ks hh => u_aret C d hr hrt (by cases x with | none => exact Or.inl rfl | some w => exact Or.inr ⟨w, rfl⟩) (by omega) ⟨cl, ln, iv, rv, rfl, by omega, hp⟩ kc ks hh
theorem Mc.mk {n d c0 pm : Nat} {av : List Value} {Post : PC} (hy : plainName y.cls = true) (hn : (lg_sl av).length ≤ n) (body : ∀ (p : Program) (e : Env) (s : State) (m : MethodId) (args : Array Value) (below : List Frame) (meth : Method) (c : Code) (A : Nat → Prop), Cq p s m args meth c cc y ret G A n → Mir mi s → cw p l e d (pm + c0 - Pf ln rv) s m args below meth c G A n (MQ below (Qu G A (Qp G Pf (Pf ln rv) c0 Post)) args s ((pm + c0 - Pf ln rv) / 16) (pm + c0 - Pf ln rv) A) Pf (Pf ln rv) L cl ln iv rv 0 0 (lv_args 0 av) []) : Mc l G mi Pf pm y cc n ret d av L cl ln iv rv c0 Post := Mu.mk hy hn (fun p e s m args below meth c A C hM => body p e s m args below meth c A C hM 0 (by omega))
theorem c_copyi (C : Cq p s m args meth c cc y ret G A nL) {a b T T2 idx : Nat} {sp dp n : Int} (d : decode cc pc = .ok (.invokestatic idx, 3)) (lk : Cond.methodLink y.cls idx arraycopyName ∈ lw_g) (hn : Cond.native arraycopyName ∈ lw_g) (hs : Cond.static arraycopyName ∈ lw_g) (hi : Cond.initialized "java/lang/System" ∈ lw_g) (ha : ty L cl a T) (hT : kd T = 20) (hb : ty L cl b T2) (hT2 : kd T2 = 20) (h1 : 0 ≤ sp) (h2 : 0 ≤ dp) (h3 : 0 ≤ n) (h4 : sp + n ≤ (ln a : Nat)) (h5 : dp + n ≤ (ln b : Nat)) (hla : ln a ≤ 1000000) (hlb : ln b ≤ 1000000) (hd : 1 ≤ d0) (hst : (st.map fun v => v.category).sum ≤ 8) (kk : ∀ iv2, iv2 = (fun w j => if w = b then (if dp.toNat ≤ j ∧ j < dp.toNat + n.toNat then iv a (sp.toNat + (j - dp.toNat)) else iv b j) else iv w j) → cw p l e d0 r0 s m args below meth c G A nL Q Pf ph L cl ln iv2 rv K (pc + 3) lv st) : cw p l e d0 r0 s m args below meth c G A nL Q Pf ph L cl ln iv rv K pc lv (.int (iI n) :: .int (iI dp) :: .ref b :: .int (iI sp) :: .ref a :: st) := by
  intro u hu kc ks hh
  have r1 : R32 sp := ⟨by omega, by omega⟩
  have r2 : R32 dp := ⟨by omega, by omega⟩
  have r3 : R32 n := ⟨by omega, by omega⟩
  refine q_copyi C d lk hn hs hi ha.1 (enc_I ha hT) hb.1 (enc_I hb hT2) (by rw [show (0 : Int32) = iI 0 from rfl, iI_lt r1 R32_0]; omega) (by rw [show (0 : Int32) = iI 0 from rfl, iI_lt r2 R32_0]; omega) (by rw [show (0 : Int32) = iI 0 from rfl, iI_lt r3 R32_0]; omega) (by rw [iI_cl r1, iI_cl r3]; omega) (by rw [iI_cl r2, iI_cl r3]; omega) ⟨hd, by show 64 ≤ 64 * d0; omega⟩ hst ?_
  rw [iI_cl r1, iI_cl r2, iI_cl r3]
  have e : va_up (enc G cl ln iv rv) b (aI G (ln b) (va_cpy (fun j => iI (iv a j)) (fun j => iI (iv b j)) sp.toNat dp.toNat n.toNat)) = enc G cl ln (fun w j => if w = b then (if dp.toNat ≤ j ∧ j < dp.toNat + n.toNat then iv a (sp.toNat + (j - dp.toNat)) else iv b j) else iv w j) rv := by
    refine enc_up (fun w hw => ⟨rfl, rfl, by funext j; rw [if_neg hw], rfl⟩) ?_
    rw [enc_I hb hT2]
    congr 1
    funext j
    rw [if_pos rfl]
    unfold va_cpy
    split <;> rfl
  rw [e]
  exact kk _ rfl u hu kc ks hh
end CQ3
end
section
def ilo (T k : Nat) : Int := match T with
  | 1 => (match k with | 11 => 1 | 12 => 1 | _ => (-2147483648))
  | 2 => (match k with | 0 => 3000 | 2 => 0 | _ => (-2147483648))
  | 3 => (match k with | 0 => 500 | 2 => 0 | _ => (-2147483648))
  | 4 => (match k with | 0 => 4000 | 2 => 0 | _ => (-2147483648))
  | 5 => (match k with | 0 => 200 | 2 => 0 | _ => (-2147483648))
  | 6 => (match k with | 0 => 6003 | 2 => 0 | _ => (-2147483648))
  | 7 => (match k with | 0 => 6003 | 2 => 0 | _ => (-2147483648))
  | 8 => (match k with | 0 => 40200 | 2 => 0 | _ => (-2147483648))
  | 9 => (match k with | 0 => 40200 | 2 => 0 | _ => (-2147483648))
  | 10 => (match k with | 0 => 4001 | 2 => 0 | _ => (-2147483648))
  | 11 => (match k with | 0 => 40000 | 2 => 0 | _ => (-2147483648))
  | 12 => (match k with | 0 => 200 | 2 => 0 | _ => (-2147483648))
  | 14 => (match k with | 1 => 0 | 2 => 0 | 5 => 0 | 7 => 0 | _ => (-2147483648))
  | 15 => (match k with | 4 => 0 | 5 => 0 | 7 => 0 | 10 => 0 | 11 => 0 | _ => (-2147483648))
  | 17 => (match k with | 5 => 0 | 6 => 0 | 9 => 0 | _ => (-2147483648))
  | 18 => (match k with | 1 => 0 | _ => (-2147483648))
  | 19 => (match k with | 1 => 0 | 2 => 0 | _ => (-2147483648))
  | 20 => (match k with | 3 => 0 | _ => (-2147483648))
  | 21 => (match k with | 3 => 0 | _ => (-2147483648))
  | 22 => (match k with | 2 => 0 | _ => (-2147483648))
  | 23 => (match k with | 2 => 0 | _ => (-2147483648))
  | 24 => (match k with | 2 => 0 | _ => (-2147483648))
  | 25 => (match k with | 2 => 0 | _ => (-2147483648))
  | 26 => (match k with | 2 => 0 | _ => (-2147483648))
  | 52 => 0
  | 56 => 0
  | 58 => 0
  | 59 => 0
  | 100 => (match k with | 7 => 0 | _ => (-2147483648))
  | _ => (-2147483648)
def ihi (T k : Nat) : Int := match T with
  | 1 => (match k with | 11 => 100 | 12 => 50 | _ => 2147483647)
  | 2 => (match k with | 0 => 3000 | 2 => 3000 | _ => 2147483647)
  | 3 => (match k with | 0 => 500 | 2 => 500 | _ => 2147483647)
  | 4 => (match k with | 0 => 4000 | 2 => 4000 | _ => 2147483647)
  | 5 => (match k with | 0 => 200 | 2 => 200 | _ => 2147483647)
  | 6 => (match k with | 0 => 6003 | 2 => 6003 | _ => 2147483647)
  | 7 => (match k with | 0 => 6003 | 2 => 6003 | _ => 2147483647)
  | 8 => (match k with | 0 => 40200 | 2 => 40200 | _ => 2147483647)
  | 9 => (match k with | 0 => 40200 | 2 => 40200 | _ => 2147483647)
  | 10 => (match k with | 0 => 4001 | 2 => 4001 | _ => 2147483647)
  | 11 => (match k with | 0 => 40000 | 2 => 40000 | _ => 2147483647)
  | 12 => (match k with | 0 => 200 | 2 => 200 | _ => 2147483647)
  | 14 => (match k with | 1 => 1 | 2 => 1 | 5 => 126 | 7 => 6 | _ => 2147483647)
  | 15 => (match k with | 4 => 500 | 5 => 1 | 7 => 100000 | 10 => 500 | 11 => 500 | _ => 2147483647)
  | 17 => (match k with | 5 => 50 | 6 => 1 | 9 => 100 | _ => 2147483647)
  | 18 => (match k with | 1 => 200 | _ => 2147483647)
  | 19 => (match k with | 1 => 200 | 2 => 1 | _ => 2147483647)
  | 20 => (match k with | 3 => 5 | _ => 2147483647)
  | 21 => (match k with | 3 => 5 | _ => 2147483647)
  | 22 => (match k with | 2 => 30 | _ => 2147483647)
  | 23 => (match k with | 2 => 512 | _ => 2147483647)
  | 24 => (match k with | 2 => 6003 | _ => 2147483647)
  | 25 => (match k with | 2 => 6003 | _ => 2147483647)
  | 26 => (match k with | 2 => 200 | _ => 2147483647)
  | 52 => 1
  | 56 => 1
  | 58 => 125
  | 59 => 1
  | 100 => (match k with | 7 => 1 | _ => 2147483647)
  | _ => 2147483647
def tgt (T k : Nat) : Nat := match T with
  | 1 => (match k with | 0 => 2 | 1 => 3 | 2 => 4 | 3 => 5 | 4 => 13 | 5 => 14 | 6 => 15 | 7 => 16 | 8 => 17 | 9 => 18 | 10 => 18 | _ => 0)
  | 2 => (match k with | 1 => 32 | _ => 0)
  | 3 => (match k with | 1 => 33 | _ => 0)
  | 4 => (match k with | 1 => 34 | _ => 0)
  | 5 => (match k with | 1 => 35 | _ => 0)
  | 6 => (match k with | 1 => 36 | _ => 0)
  | 7 => (match k with | 1 => 37 | _ => 0)
  | 8 => (match k with | 1 => 38 | _ => 0)
  | 9 => (match k with | 1 => 39 | _ => 0)
  | 10 => (match k with | 1 => 40 | _ => 0)
  | 11 => (match k with | 1 => 41 | _ => 0)
  | 12 => (match k with | 1 => 42 | _ => 0)
  | 13 => (match k with | 0 => 22 | 1 => 23 | _ => 0)
  | 14 => (match k with | 3 => 56 | 4 => 57 | 6 => 58 | _ => 0)
  | 15 => (match k with | 0 => 50 | 1 => 51 | 2 => 52 | 3 => 53 | 6 => 54 | 8 => 55 | _ => 0)
  | 16 => (match k with | 0 => 24 | 1 => 25 | 2 => 6 | 3 => 7 | 4 => 8 | 5 => 9 | 6 => 10 | _ => 0)
  | 17 => (match k with | 0 => 59 | 1 => 60 | 2 => 61 | 3 => 62 | 4 => 11 | 7 => 16 | 8 => 63 | _ => 0)
  | 18 => (match k with | 0 => 67 | _ => 0)
  | 19 => (match k with | 0 => 64 | _ => 0)
  | 20 => (match k with | 1 => 65 | 2 => 66 | _ => 0)
  | 21 => (match k with | 1 => 100 | 2 => 20 | _ => 0)
  | 22 => (match k with | 1 => 1000 | _ => 0)
  | 23 => (match k with | 1 => 1001 | _ => 0)
  | 24 => (match k with | 1 => 1002 | _ => 0)
  | 25 => (match k with | 1 => 1003 | _ => 0)
  | 26 => (match k with | 1 => 1004 | _ => 0)
  | 67 => 19
  | 68 => 20
  | 100 => (match k with | 2 => 100 | 3 => 100 | 4 => 26 | 5 => 12 | 6 => 68 | _ => 0)
  | 1000 => 100
  | 1001 => 21
  | 1002 => 20
  | 1003 => 20
  | 1004 => 20
  | _ => 0
def nul (T k : Nat) : Bool := match T with
  | 1 => !([0, 1, 2, 3, 4, 5, 6, 7, 8, 9, 10] : List Nat).contains k
  | 2 => !([1] : List Nat).contains k
  | 3 => !([1] : List Nat).contains k
  | 4 => !([1] : List Nat).contains k
  | 5 => !([1] : List Nat).contains k
  | 6 => !([1] : List Nat).contains k
  | 7 => !([1] : List Nat).contains k
  | 8 => !([1] : List Nat).contains k
  | 9 => !([1] : List Nat).contains k
  | 10 => !([1] : List Nat).contains k
  | 11 => !([1] : List Nat).contains k
  | 12 => !([1] : List Nat).contains k
  | 13 => !([0, 1] : List Nat).contains k
  | 14 => !([3, 4, 6] : List Nat).contains k
  | 15 => !([0, 1, 2, 3, 6, 8] : List Nat).contains k
  | 16 => !([0, 1, 2, 3, 4, 5, 6] : List Nat).contains k
  | 17 => !([0, 1, 2, 3, 4, 7, 8] : List Nat).contains k
  | 18 => !([0] : List Nat).contains k
  | 19 => !([0] : List Nat).contains k
  | 20 => !([1, 2] : List Nat).contains k
  | 21 => !([1] : List Nat).contains k
  | 22 => !([1] : List Nat).contains k
  | 23 => !([1] : List Nat).contains k
  | 24 => !([1] : List Nat).contains k
  | 25 => !([1] : List Nat).contains k
  | 26 => !([1] : List Nat).contains k
  | 100 => !([4, 5, 6] : List Nat).contains k
  | _ => true
def llo (T : Nat) : Nat := match T with
  | 32 => 16
  | 33 => 16
  | 34 => 16
  | 35 => 16
  | 36 => 16
  | 37 => 16
  | 38 => 16
  | 39 => 16
  | 40 => 16
  | 41 => 16
  | 42 => 16
  | 50 => 500
  | 51 => 500
  | 52 => 500
  | 53 => 500
  | 54 => 200
  | 55 => 5
  | 56 => 126
  | 57 => 126
  | 58 => 6
  | 59 => 404
  | 60 => 101
  | 61 => 101
  | 62 => 50
  | 63 => 100
  | 64 => 200
  | 65 => 0
  | 66 => 1
  | 67 => 200
  | 68 => 4
  | 1000 => 10
  | 1001 => 10
  | 1002 => 10
  | 1003 => 10
  | 1004 => 10
  | _ => 0
def lhi (T : Nat) : Nat := match T with
  | 32 => 6000
  | 33 => 1000
  | 34 => 8000
  | 35 => 400
  | 36 => 12006
  | 37 => 12006
  | 38 => 80400
  | 39 => 80400
  | 40 => 8002
  | 41 => 80000
  | 42 => 400
  | 50 => 500
  | 51 => 500
  | 52 => 500
  | 53 => 500
  | 54 => 200
  | 55 => 5
  | 56 => 126
  | 57 => 126
  | 58 => 6
  | 59 => 404
  | 60 => 101
  | 61 => 101
  | 62 => 50
  | 63 => 100
  | 64 => 200
  | 65 => 8
  | 66 => 4
  | 67 => 200
  | 68 => 4
  | 1000 => 60
  | 1001 => 1200
  | 1002 => 9100
  | 1003 => 9100
  | 1004 => 400
  | _ => 0
def raw (T : Nat) : Bool := decide (200 ≤ T) && decide (T < 1000)
def lst (T : Nat) : Bool := decide (22 ≤ T) && decide (T ≤ 26)
def szd (T : Nat) : Bool := (decide (2 ≤ T) && decide (T ≤ 12)) || lst T
def arr (T : Nat) : Bool := (decide (30 ≤ T) && decide (T < 100)) || decide (1000 ≤ T)
def uq (t : Nat) : Bool := ([1, 2, 3, 4, 5, 6, 7, 8, 9, 10, 11, 13, 14, 15, 16, 17, 18, 28, 22, 23, 24, 25, 67, 69] : List Nat).contains t
def pot (T : Nat) : Bool := ([2, 3, 4, 5, 6, 7, 8, 9, 10, 11, 24, 25, 67] : List Nat).contains T
theorem lst_szd {T : Nat} (h : lst T = true) : szd T = true := by unfold szd; rw [h]; simp
theorem bt_list {a r : Nat} (h : r < 5) : bt (1000 + 5 * a + r) = 1000 + r := by unfold bt; rw [if_neg (by omega), if_neg (by omega), if_neg (by omega)]; omega
theorem tgt_list {T : Nat} (h : lst T = true) : tgt T 1 = 1000 + (T - 22) := by
  unfold lst at h
  simp only [Bool.and_eq_true, decide_eq_true_eq] at h
  have : T = 22 ∨ T = 23 ∨ T = 24 ∨ T = 25 ∨ T = 26 := by omega
  rcases this with rfl | rfl | rfl | rfl | rfl <;> rfl
def rkx (cl : Nat → Nat) (a k b : Nat) : Prop := (bt (cl a) = 100 → k < 4 → cl b < cl a) ∧ (lst (bt (cl a)) = true → k = 1 → cl b = 1000 + 5 * a + (bt (cl a) - 22))
def rok (L : List Nat) (cl : Nat → Nat) (g a k : Nat) (r : Option Nat) : Prop := raw (bt (cl a)) = false → (r = none → nul (bt (cl a)) k = true) ∧ ∀ b, r = some b → (b ∈ L ∧ bt (cl b) = tgt (bt (cl a)) k ∧ rkx cl a k b) ∨ (b = g ∧ lst (bt (cl a)) = true ∧ k = 1)
def WT (g : Nat) (sk : Nat → Nat) (L : List Nat) (cl ln : Nat → Nat) (iv : Nat → Nat → Int) (rv : Nat → Nat → Option Nat) : Prop :=
  (∀ a ∈ L, ∀ k, ilo (bt (cl a)) k ≤ iv a k ∧ iv a k ≤ ihi (bt (cl a)) k) ∧
  (∀ a ∈ L, ∀ k, rok L cl g a k (rv a k)) ∧
  (∀ a ∈ L, arr (bt (cl a)) = true → llo (bt (cl a)) ≤ ln a ∧ ln a ≤ lhi (bt (cl a))) ∧
  (∀ a ∈ L, szd (bt (cl a)) = true → ∀ b, rv a 1 = some b → (b = g ∧ iv a 2 = 0) ∨ (b ∈ L ∧ iv a 2 ≤ ((ln b : Nat) : Int))) ∧
  (∀ a ∈ L, lst (bt (cl a)) = true → ∀ b, rv a 1 = some b → ∀ i : Nat, (i : Int) < iv a 2 → rv b i ≠ none) ∧
  (∀ a ∈ L, uq (cl a) = true → a = sk (cl a)) ∧ g ∉ L
def SKL (sk : Nat → Nat) (L : List Nat) (cl : Nat → Nat) : Prop := ∀ t, uq t = true → sk t ∈ L ∧ cl (sk t) = t
section WTS
variable {g : Nat} {sk : Nat → Nat} {L : List Nat} {cl ln : Nat → Nat} {iv : Nat → Nat → Int} {rv : Nat → Nat → Option Nat} {a b T k : Nat} {z : Int}
theorem WT.int (h : WT g sk L cl ln iv rv) (ha : ty L cl a T) (k : Nat) : ilo T k ≤ iv a k ∧ iv a k ≤ ihi T k := by have q := h.1 a ha.1 k; rw [ha.2] at q; exact q
theorem bx_lo {x v lo : Int} (e : x = v) (h : lo ≤ v) : lo ≤ x := e ▸ h
theorem bx_hi {x v hi : Int} (e : x = v) (h : v ≤ hi) : x ≤ hi := e ▸ h
theorem opt_n {o : Option Nat} {P : Prop} {Q : Nat → Prop} (h : (o = none ∧ P) ∨ ∃ b, o = some b ∧ Q b) : ∃ o2, o = o2 ∧ ∀ b, o2 = some b → Q b := ⟨o, rfl, fun b e => by
  rcases h with ⟨e1, _⟩ | ⟨b2, e1, q⟩
  · rw [e1] at e
    cases e
  · rw [e1] at e
    cases e
    exact q⟩
theorem WT.opt (h : WT g sk L cl ln iv rv) (ha : ty L cl a T) (k : Nat) (hr : raw T = false) (hl : (lst T && k == 1) = false) : (rv a k = none ∧ nul T k = true) ∨ ∃ b, rv a k = some b ∧ ty L cl b (tgt T k) := by
  have q := h.2.1 a ha.1 k (by rw [ha.2]; exact hr)
  rw [ha.2] at q
  cases e : rv a k with
  | none => exact Or.inl ⟨rfl, q.1 e⟩
  | some b =>
    rcases q.2 b e with w | w
    · exact Or.inr ⟨b, rfl, w.1, w.2.1⟩
    · rw [w.2.1, w.2.2] at hl; cases hl
theorem WT.ref (h : WT g sk L cl ln iv rv) (ha : ty L cl a T) (k : Nat) (hr : raw T = false) (hl : (lst T && k == 1) = false) (hn : nul T k = false) : ∃ b, rv a k = some b ∧ ty L cl b (tgt T k) := by
  rcases h.opt ha k hr hl with w | w
  · rw [hn] at w; cases w.2
  · exact w
theorem WT.rank (h : WT g sk L cl ln iv rv) (ha : ty L cl a 100) (hk : k < 4) (hb : rv a k = some b) : cl b < cl a := by
  rcases (h.2.1 a ha.1 k (by rw [ha.2]; rfl)).2 b hb with w | w
  · exact w.2.2.1 ha.2 hk
  · rw [ha.2] at w; cases w.2.1
theorem WT.len (h : WT g sk L cl ln iv rv) (ha : ty L cl a T) (hA : arr T = true) : llo T ≤ ln a ∧ ln a ≤ lhi T := by have q := h.2.2.1 a ha.1 (by rw [ha.2]; exact hA); rw [ha.2] at q; exact q
theorem WT.isz (h : WT g sk L cl ln iv rv) (ha : ty L cl a T) (hs : szd T = true) (hl : lst T = false) (hb : rv a 1 = some b) : iv a 2 ≤ ((ln b : Nat) : Int) := by
  rcases h.2.2.2.1 a ha.1 (by rw [ha.2]; exact hs) b hb with w | w
  · rcases (h.2.1 a ha.1 1 (by rw [ha.2]; unfold szd at hs; rw [hl] at hs; unfold raw; simp at hs ⊢; omega)).2 b hb with q | q
    · exact absurd q.1 (by rw [w.1]; exact h.2.2.2.2.2.2)
    · rw [ha.2, hl] at q; cases q.2.1
  · exact w.2
theorem ne_ty {T2 : Nat} (ha : ty L cl a T) (hb : ty L cl b T2) (h : T ≠ T2) : a ≠ b := fun e => h (by rw [← ha.2, ← hb.2, e])
theorem WT.puti {iv2 : Nat → Nat → Int} (h : WT g sk L cl ln iv rv) (he : iv2 = up2 iv a k z) (ha : ty L cl a T) (hz : ilo T k ≤ z ∧ z ≤ ihi T k) (hx : (szd T && k == 2) = false) : WT g sk L cl ln iv2 rv := by
  subst he
  obtain ⟨h1, h2, h3, h4, h5, h6⟩ := h
  have key : ∀ w, szd (bt (cl w)) = true → up2 iv a k z w 2 = iv w 2 := by
    intro w hw
    by_cases e : w = a
    · subst e
      rw [ha.2] at hw
      rw [hw] at hx
      refine up2_j (fun q => ?_)
      subst q; cases hx
    · exact up2_k e
  refine ⟨fun w hw j => ?_, h2, h3, fun w hw hs => ?_, fun w hw hs => ?_, h6⟩
  · by_cases e : w = a
    · subst e
      by_cases ej : j = k
      · subst ej; rw [up2_s, ha.2]; exact hz
      · rw [up2_j ej]; exact h1 w hw j
    · rw [up2_k e]; exact h1 w hw j
  · rw [key w hs]; exact h4 w hw hs
  · rw [key w (lst_szd hs)]; exact h5 w hw hs
theorem WT.putsz {iv2 : Nat → Nat → Int} (h : WT g sk L cl ln iv rv) (he : iv2 = up2 iv a 2 z) (ha : ty L cl a T) (hz : ilo T 2 ≤ z ∧ z ≤ ihi T 2) (hs : ∀ b, rv a 1 = some b → (b = g ∧ z = 0) ∨ (b ∈ L ∧ z ≤ ((ln b : Nat) : Int))) (hn : lst T = true → ∀ b, rv a 1 = some b → ∀ i : Nat, (i : Int) < z → rv b i ≠ none) : WT g sk L cl ln iv2 rv := by
  subst he
  obtain ⟨h1, h2, h3, h4, h5, h6⟩ := h
  refine ⟨fun w hw j => ?_, h2, h3, fun w hw hq => ?_, fun w hw hq => ?_, h6⟩
  · by_cases e : w = a
    · subst e
      by_cases ej : j = 2
      · subst ej; rw [up2_s, ha.2]; exact hz
      · rw [up2_j ej]; exact h1 w hw j
    · rw [up2_k e]; exact h1 w hw j
  · by_cases e : w = a
    · subst e; rw [up2_s]; exact hs
    · rw [up2_k e]; exact h4 w hw hq
  · by_cases e : w = a
    · subst e; rw [up2_s]; rw [ha.2] at hq; exact hn hq
    · rw [up2_k e]; exact h5 w hw hq
theorem WT.isz_put {iv2 : Nat → Nat → Int} (h : WT g sk L cl ln iv rv) (he : iv2 = up2 iv a 2 z) (ha : ty L cl a T) (hz : ilo T 2 ≤ z ∧ z ≤ ihi T 2) (hl : lst T = false) (hr : raw T = false) (hb : rv a 1 = some b) (hs : z ≤ ((ln b : Nat) : Int)) : WT g sk L cl ln iv2 rv := by
  refine h.putsz he ha hz (fun b2 hb2 => ?_) (fun q => by rw [hl] at q; cases q)
  rw [hb] at hb2; cases hb2
  rcases (h.2.1 a ha.1 1 (by rw [ha.2]; exact hr)).2 b hb with q | q
  · exact Or.inr ⟨q.1, hs⟩
  · rw [ha.2, hl] at q; cases q.2.1
theorem WT.putr {rv2 : Nat → Nat → Option Nat} {x : Option Nat} (h : WT g sk L cl ln iv rv) (he : rv2 = upr rv a k x) (ha : ty L cl a T) (hr : rok L cl g a k x) (hx : (szd T && k == 1) = false) (hT : T < 1000) : WT g sk L cl ln iv rv2 := by
  subst he
  obtain ⟨h1, h2, h3, h4, h5, h6⟩ := h
  have key : ∀ w, szd (bt (cl w)) = true → upr rv a k x w 1 = rv w 1 := by
    intro w hw
    by_cases e : w = a
    · subst e
      rw [ha.2] at hw
      rw [hw] at hx
      refine upr_j (fun q => ?_)
      subst q; cases hx
    · rw [upr_a e]
  refine ⟨h1, fun w hw j => ?_, h3, fun w hw hs => ?_, fun w hw hs b hb i hi => ?_, h6⟩
  · by_cases e : w = a
    · subst e
      by_cases ej : j = k
      · subst ej; rw [upr_s]; exact hr
      · rw [upr_j ej]; exact h2 w hw j
    · rw [upr_a e]; exact h2 w hw j
  · rw [key w hs]; exact h4 w hw hs
  · rw [key w (lst_szd hs)] at hb
    have hba : b ≠ a := by
      intro e
      subst e
      rcases (h2 w hw 1 (by unfold raw; unfold lst at hs; simp at hs ⊢; omega)).2 b hb with q | q
      · rw [ha.2, tgt_list hs] at q; omega
      · exact h6.2 (q.1 ▸ ha.1)
    rw [upr_a hba]
    exact h5 w hw hs b hb i hi
end WTS
def XT (L : List Nat) (cl ln : Nat → Nat) (L2 : List Nat) (cl2 ln2 : Nat → Nat) : Prop := ∀ a ∈ L, a ∈ L2 ∧ cl2 a = cl a ∧ ln2 a = ln a
def fT (ls : List Nat) (L : List Nat) (cl : Nat → Nat) (iv : Nat → Nat → Int) (rv : Nat → Nat → Option Nat) (iv2 : Nat → Nat → Int) (rv2 : Nat → Nat → Option Nat) : Prop := ∀ b ∈ L, ls.contains (bt (cl b)) = false → iv2 b = iv b ∧ rv2 b = rv b
section XTS
variable {ls : List Nat} {g : Nat} {sk : Nat → Nat} {L L2 L3 : List Nat} {cl ln cl2 ln2 cl3 ln3 : Nat → Nat} {iv iv2 iv3 : Nat → Nat → Int} {rv rv2 rv3 : Nat → Nat → Option Nat} {a b T k : Nat} {z : Int}
theorem XT.refl : XT L cl ln L cl ln := fun _ h => ⟨h, rfl, rfl⟩
theorem XT.trans (h1 : XT L cl ln L2 cl2 ln2) (h2 : XT L2 cl2 ln2 L3 cl3 ln3) : XT L cl ln L3 cl3 ln3 := fun a h => ⟨(h2 a (h1 a h).1).1, (h2 a (h1 a h).1).2.1.trans (h1 a h).2.1, (h2 a (h1 a h).1).2.2.trans (h1 a h).2.2⟩
theorem XT.ty (h : XT L cl ln L2 cl2 ln2) (ha : ty L cl a T) : ty L2 cl2 a T := ⟨(h a ha.1).1, by rw [(h a ha.1).2.1]; exact ha.2⟩
theorem XT.skl (h : XT L cl ln L2 cl2 ln2) (hs : SKL sk L cl) : SKL sk L2 cl2 := fun t ht => ⟨(h _ (hs t ht).1).1, ((h _ (hs t ht).1).2.1).trans (hs t ht).2⟩
theorem fT.refl : fT ls L cl iv rv iv rv := fun _ _ _ => ⟨rfl, rfl⟩
theorem fT.puti (h : fT ls L cl iv rv iv2 rv2) (hX : XT L cl ln L2 cl2 ln2) (he : iv3 = up2 iv2 a k z) (ha : ty L2 cl2 a T) (hc : ls.contains T = true) : fT ls L cl iv rv iv3 rv2 := by
  intro b hb hq
  refine ⟨?_, (h b hb hq).2⟩
  rw [he, upi_a (fun e => ?_)]
  · exact (h b hb hq).1
  · subst e; rw [← (hX b hb).2.1, ha.2, hc] at hq; cases hq
theorem fT.putr {x : Option Nat} (h : fT ls L cl iv rv iv2 rv2) (hX : XT L cl ln L2 cl2 ln2) (he : rv3 = upr rv2 a k x) (ha : ty L2 cl2 a T) (hc : ls.contains T = true) : fT ls L cl iv rv iv2 rv3 := by
  intro b hb hq
  refine ⟨(h b hb hq).1, ?_⟩
  rw [he, upr_a (fun e => ?_)]
  · exact (h b hb hq).2
  · subst e; rw [← (hX b hb).2.1, ha.2, hc] at hq; cases hq
theorem fT.call {ls2 : List Nat} (h : fT ls L cl iv rv iv2 rv2) (hX : XT L cl ln L2 cl2 ln2) (h2 : fT ls2 L2 cl2 iv2 rv2 iv3 rv3) (hs : ls2.all (fun j => ls.contains j) = true) : fT ls L cl iv rv iv3 rv3 := by
  intro b hb hq
  have q2 := h2 b (hX b hb).1 (by rw [(hX b hb).2.1]; exact con_sub hs hq)
  exact ⟨q2.1.trans (h b hb hq).1, q2.2.trans (h b hb hq).2⟩
theorem fT.i (h : fT ls L cl iv rv iv2 rv2) (ha : ty L cl a T) (hc : ls.contains T = false) (k : Nat) : iv2 a k = iv a k := congrFun (h a ha.1 (by rw [ha.2]; exact hc)).1 k
theorem fT.r (h : fT ls L cl iv rv iv2 rv2) (ha : ty L cl a T) (hc : ls.contains T = false) (k : Nat) : rv2 a k = rv a k := congrFun (h a ha.1 (by rw [ha.2]; exact hc)).2 k
end XTS
def cap (g : Nat) (ln : Nat → Nat) (rv : Nat → Nat → Option Nat) (a : Nat) : Nat := match rv a 1 with
  | some b => if b = g then 0 else ln b
  | none => 0
def nn (f : Nat → Option Nat) : Nat → Nat
  | 0 => 0
  | n + 1 => nn f n + (if (f n).isSome = true then 1 else 0)
def Phi (g : Nat) (sk : Nat → Nat) : PF := fun ln rv => 3 * (cap g ln rv (sk 2) + cap g ln rv (sk 3) + cap g ln rv (sk 4) + cap g ln rv (sk 5) + cap g ln rv (sk 6) + cap g ln rv (sk 7) + cap g ln rv (sk 8) + cap g ln rv (sk 9) + cap g ln rv (sk 10) + cap g ln rv (sk 11)) + 8 * (cap g ln rv (sk 24) + cap g ln rv (sk 25)) + 240 * (nn (rv (sk 67)) 200 + nn (rv (sk 69)) 200)
abbrev PHM : Nat := 1110000
theorem nn_le (f : Nat → Option Nat) : ∀ n, nn f n ≤ n := by
  intro n
  induction n with
  | zero => exact Nat.le_refl _
  | succ n ih => unfold nn; split <;> omega
theorem cap_le {g : Nat} {sk : Nat → Nat} {L : List Nat} {cl ln : Nat → Nat} {iv : Nat → Nat → Int} {rv : Nat → Nat → Option Nat} {t m : Nat} (h : WT g sk L cl ln iv rv) (hS : SKL sk L cl) (hu : uq t = true) (hb : bt t = t) (hr : raw t = false) (ha : arr (tgt t 1) = true) (hl : lhi (tgt t 1) = m) : cap g ln rv (sk t) ≤ m := by
  obtain ⟨q1, q2⟩ := hS t hu
  unfold cap
  split
  · rename_i b e
    split
    · exact Nat.zero_le _
    · rename_i hg
      have w := (h.2.1 _ q1 1 (by rw [q2, hb]; exact hr)).2 b e
      rw [q2, hb] at w
      rcases w with w | w
      · have l2 := (h.len (T := tgt t 1) ⟨w.1, w.2.1⟩ ha).2
        rw [hl] at l2; exact l2
      · exact absurd w.1 hg
  · exact Nat.zero_le _
theorem Phi.le {g : Nat} {sk : Nat → Nat} {L : List Nat} {cl ln : Nat → Nat} {iv : Nat → Nat → Int} {rv : Nat → Nat → Option Nat} (h : WT g sk L cl ln iv rv) (hS : SKL sk L cl) : Phi g sk ln rv ≤ PHM := by
  refine hv14 (cap_le (t := 2) (m := 6000) h hS rfl rfl rfl rfl rfl) (cap_le (t := 3) (m := 1000) h hS rfl rfl rfl rfl rfl) (cap_le (t := 4) (m := 8000) h hS rfl rfl rfl rfl rfl) (cap_le (t := 5) (m := 400) h hS rfl rfl rfl rfl rfl) (cap_le (t := 6) (m := 12006) h hS rfl rfl rfl rfl rfl) (cap_le (t := 7) (m := 12006) h hS rfl rfl rfl rfl rfl) (cap_le (t := 8) (m := 80400) h hS rfl rfl rfl rfl rfl) (cap_le (t := 9) (m := 80400) h hS rfl rfl rfl rfl rfl) (cap_le (t := 10) (m := 8002) h hS rfl rfl rfl rfl rfl) (cap_le (t := 11) (m := 80000) h hS rfl rfl rfl rfl rfl) (cap_le (t := 24) (m := 9100) h hS rfl rfl rfl rfl rfl) (cap_le (t := 25) (m := 9100) h hS rfl rfl rfl rfl rfl) (nn_le (rv (sk 67)) 200) (nn_le (rv (sk 69)) 200) (fun c2 c3 c4 c5 c6 c7 c8 c9 c10 c11 c24 c25 n1 n2 => ?_)
  unfold Phi
  show _ ≤ 1110000
  omega
theorem Phi.congr {g : Nat} {sk : Nat → Nat} {ln ln2 : Nat → Nat} {rv rv2 : Nat → Nat → Option Nat} (h : ∀ t, uq t = true → pot (bt t) = true → rv2 (sk t) = rv (sk t)) (hl : ∀ t b, uq t = true → pot (bt t) = true → szd t = true → rv (sk t) 1 = some b → b ≠ g → ln2 b = ln b) : Phi g sk ln2 rv2 = Phi g sk ln rv := by
  have hc : ∀ t, uq t = true → pot (bt t) = true → szd t = true → cap g ln2 rv2 (sk t) = cap g ln rv (sk t) := by
    intro t ht hp hs
    unfold cap
    rw [h t ht hp]
    split
    · rename_i b e
      split
      · rfl
      · rename_i hg; exact hl t b ht hp hs e hg
    · rfl
  unfold Phi
  rw [hc 2 rfl rfl rfl, hc 3 rfl rfl rfl, hc 4 rfl rfl rfl, hc 5 rfl rfl rfl, hc 6 rfl rfl rfl, hc 7 rfl rfl rfl, hc 8 rfl rfl rfl, hc 9 rfl rfl rfl, hc 10 rfl rfl rfl, hc 11 rfl rfl rfl, hc 24 rfl rfl rfl, hc 25 rfl rfl rfl, h 67 rfl rfl, h 69 rfl rfl]
theorem Phi.putr {g : Nat} {sk : Nat → Nat} {L : List Nat} {cl ln : Nat → Nat} {rv rv2 : Nat → Nat → Option Nat} {a k T : Nat} {x : Option Nat} (hS : SKL sk L cl) (he : rv2 = upr rv a k x) (ha : ty L cl a T) (hp : pot T = false) : Phi g sk ln rv2 = Phi g sk ln rv := by
  refine Phi.congr (fun t ht hq => ?_) (fun _ _ _ _ _ _ _ => rfl)
  rw [he, upr_a (fun e => ?_)]
  rw [← ha.2, ← e, (hS t ht).2, hq] at hp; cases hp
end
section
section NEWS
variable {g : Nat} {sk : Nat → Nat} {L : List Nat} {cl ln cl2 ln2 : Nat → Nat} {iv iv2 : Nat → Nat → Int} {rv rv2 : Nat → Nat → Option Nat} {a b q t T k : Nat} {z : Int}
theorem rok.mono {L2 : List Nat} {x : Option Nat} (h : rok L cl g a k x) (hL : ∀ w ∈ L, w ∈ L2 ∧ cl2 w = cl w) (ha : cl2 a = cl a) : rok L2 cl2 g a k x := by
  intro hr
  rw [ha] at hr ⊢
  obtain ⟨h1, h2⟩ := h hr
  refine ⟨h1, fun b hb => ?_⟩
  rcases h2 b hb with w | w
  · refine Or.inl ⟨(hL b w.1).1, by rw [(hL b w.1).2]; exact w.2.1, ?_, ?_⟩
    · rw [ha, (hL b w.1).2]; exact w.2.2.1
    · rw [ha, (hL b w.1).2]; exact w.2.2.2
  · exact Or.inr w
theorem WT.ed (h : WT g sk L cl ln iv rv) (ha : a ∈ L) (hs : szd (bt (cl a)) = true) (hb : rv a 1 = some b) : b ∈ L ∨ b = g := by
  rcases (h.2.1 a ha 1 (by unfold raw; unfold szd lst at hs; simp at hs ⊢; omega)).2 b hb with w | w
  · exact Or.inl w.1
  · exact Or.inr w.1
theorem WT.new (h : WT g sk L cl ln iv rv) (hq : q ∉ L) (hg : q ≠ g) (hcl : cl2 = va_up cl q t) (hln : ∀ b, b ≠ q → ln2 b = ln b) (hiv : iv2 = up0 iv q 0) (hrv : rv2 = up0 rv q none) (hb : ∀ k, ilo (bt t) k ≤ 0 ∧ 0 ≤ ihi (bt t) k) (hn : raw (bt t) = true ∨ ∀ k, nul (bt t) k = true) (hlen : arr (bt t) = true → llo (bt t) ≤ ln2 q ∧ ln2 q ≤ lhi (bt t)) (hs : szd (bt t) = false) (hu : uq t = false) : WT g sk (L ++ [q]) cl2 ln2 iv2 rv2 := by
  subst hcl; subst hiv; subst hrv
  have hne : ∀ w, w ∈ L → w ≠ q := fun w hw e => hq (e ▸ hw)
  have hL : ∀ w ∈ L, w ∈ L ++ [q] ∧ va_up cl q t w = cl w := fun w hw => ⟨List.mem_append_left _ hw, va_up_ne _ _ (hne w hw)⟩
  have cas : ∀ w ∈ L ++ [q], w ∈ L ∨ w = q := fun w hw => by
    rcases List.mem_append.mp hw with e | e
    · exact Or.inl e
    · exact Or.inr (List.mem_singleton.mp e)
  obtain ⟨h1, h2, h3, h4, h5, h6, h7⟩ := id h
  refine ⟨fun w hw j => ?_, fun w hw j => ?_, fun w hw => ?_, fun w hw => ?_, fun w hw => ?_, fun w hw => ?_, fun hgm => ?_⟩
  · rcases cas w hw with e | e
    · rw [(hL w e).2, up0_a (hne w e)]; exact h1 w e j
    · subst e; rw [va_up_self, up0_s]; exact hb j
  · rcases cas w hw with e | e
    · rw [up0_a (hne w e)]; exact (h2 w e j).mono hL (hL w e).2
    · subst e
      rw [up0_s]
      intro hr
      rw [va_up_self] at hr ⊢
      refine ⟨fun _ => ?_, fun b hb => by cases hb⟩
      rcases hn with w | w
      · rw [hr] at w; cases w
      · exact w j
  · rcases cas w hw with e | e
    · rw [(hL w e).2, hln w (hne w e)]; exact h3 w e
    · subst e; rw [va_up_self]; exact hlen
  · rcases cas w hw with e | e
    · rw [(hL w e).2, up0_a (hne w e), up0_a (hne w e)]
      intro hz b hb
      rcases h4 w e hz b hb with q1 | q1
      · exact Or.inl q1
      · exact Or.inr ⟨List.mem_append_left _ q1.1, by rw [hln b (hne b q1.1)]; exact q1.2⟩
    · subst e; rw [va_up_self, hs]; intro hz; cases hz
  · rcases cas w hw with e | e
    · rw [(hL w e).2, up0_a (hne w e), up0_a (hne w e)]
      intro hz b hb i hi
      have hbq : b ≠ q := by
        rcases WT.ed h e (lst_szd hz) hb with q1 | q1
        · exact hne b q1
        · rw [q1]; exact hg.symm
      rw [up0_a hbq]
      exact h5 w e hz b hb i hi
    · subst e; rw [va_up_self]; intro hz; rw [lst_szd hz] at hs; cases hs
  · rcases cas w hw with e | e
    · rw [(hL w e).2]; exact h6 w e
    · subst e; rw [va_up_self, hu]; intro hz; cases hz
  · rcases cas g hgm with e | e
    · exact h7 e
    · exact hg e.symm
theorem XT.new (hq : q ∉ L) (hcl : cl2 = va_up cl q t) (hln : ∀ b, b ≠ q → ln2 b = ln b) : XT L cl ln (L ++ [q]) cl2 ln2 := fun a ha => ⟨List.mem_append_left _ ha, by rw [hcl]; exact va_up_ne _ _ (fun e => hq (e ▸ ha)), hln a (fun e => hq (e ▸ ha))⟩
theorem ty_new (hcl : cl2 = va_up cl q t) : ty (L ++ [q]) cl2 q (bt t) := ⟨List.mem_append_right _ List.mem_cons_self, by rw [hcl, va_up_self]⟩
theorem fT.new {ls L0 : List Nat} {cl0 ln0 : Nat → Nat} {iv0 iv3 : Nat → Nat → Int} {rv0 rv3 : Nat → Nat → Option Nat} (h : fT ls L0 cl0 iv0 rv0 iv rv) (hX : XT L0 cl0 ln0 L cl ln) (hq : q ∉ L) (hiv : iv3 = up0 iv q 0) (hrv : rv3 = up0 rv q none) : fT ls L0 cl0 iv0 rv0 iv3 rv3 := by
  intro b hb hl
  have hne : b ≠ q := fun e => hq (e ▸ (hX b hb).1)
  rw [hiv, hrv, up0_a hne, up0_a hne]
  exact h b hb hl
theorem Phi.new (h : WT g sk L cl ln iv rv) (hS : SKL sk L cl) (hq : q ∉ L) (hln : ∀ b, b ≠ q → ln2 b = ln b) (hrv : rv2 = up0 rv q none) : Phi g sk ln2 rv2 = Phi g sk ln rv := by
  have hne : ∀ t, uq t = true → sk t ≠ q := fun t ht e => hq (e ▸ (hS t ht).1)
  refine Phi.congr (fun t ht hp => ?_) (fun t b ht hp hs hb hg => ?_)
  · rw [hrv, up0_a (hne t ht)]
  · refine hln b (fun e => ?_)
    rcases WT.ed h (hS t ht).1 (by
      rw [(hS t ht).2]
      unfold szd lst at hs ⊢
      simp at hs ⊢
      unfold bt
      split <;> (try split) <;> (try split) <;> omega) hb with q1 | q1
    · exact hq (e ▸ q1)
    · exact hg q1
theorem WT.retag (h : WT g sk L cl ln iv rv) (hq : q ∈ L) (hraw : raw (bt (cl q)) = true) (hcl : cl2 = va_up cl q t) (hb : ∀ k, ilo (bt t) k ≤ iv q k ∧ iv q k ≤ ihi (bt t) k) (hr : ∀ k, rok L cl2 g q k (rv q k)) (ha : arr (bt t) = false) (hs : szd (bt t) = true → ∀ b, rv q 1 = some b → (b = g ∧ iv q 2 = 0) ∨ (b ∈ L ∧ iv q 2 ≤ ((ln b : Nat) : Int))) (hl : lst (bt t) = true → ∀ b, rv q 1 = some b → ∀ i : Nat, (i : Int) < iv q 2 → rv b i ≠ none) (hu : uq t = false) : WT g sk L cl2 ln iv rv := by
  subst hcl
  have ho : ∀ w, w ≠ q → va_up cl q t w = cl w := fun w hw => va_up_ne _ _ hw
  obtain ⟨h1, h2, h3, h4, h5, h6, h7⟩ := id h
  have tg0 : ∀ T k, raw (tgt T k) = false := by
    intro T k
    unfold tgt raw
    split <;> (try split) <;> rfl
  refine ⟨fun w hw j => ?_, fun w hw j => ?_, fun w hw => ?_, fun w hw => ?_, fun w hw => ?_, fun w hw => ?_, h7⟩
  · by_cases e : w = q
    · subst e; rw [va_up_self]; exact hb j
    · rw [ho w e]; exact h1 w hw j
  · by_cases e : w = q
    · subst e; exact hr j
    · intro hrw
      rw [ho w e] at hrw ⊢
      obtain ⟨g1, g2⟩ := h2 w hw j hrw
      refine ⟨g1, fun b hb => ?_⟩
      rcases g2 b hb with c1 | c1
      · have hbq : b ≠ q := fun e2 => by rw [← e2, c1.2.1, tg0] at hraw; cases hraw
        refine Or.inl ⟨c1.1, by rw [ho b hbq]; exact c1.2.1, ?_, ?_⟩
        · rw [ho w e, ho b hbq]; exact c1.2.2.1
        · rw [ho w e, ho b hbq]; exact c1.2.2.2
      · exact Or.inr c1
  · by_cases e : w = q
    · subst e; rw [va_up_self, ha]; intro z; cases z
    · rw [ho w e]; exact h3 w hw
  · by_cases e : w = q
    · subst e; rw [va_up_self]; exact hs
    · rw [ho w e]; exact h4 w hw
  · by_cases e : w = q
    · subst e; rw [va_up_self]; exact hl
    · rw [ho w e]; exact h5 w hw
  · by_cases e : w = q
    · subst e; rw [va_up_self, hu]; intro z; cases z
    · rw [ho w e]; exact h6 w hw
theorem WT.putit (h : WT g sk L cl ln iv rv) (he : rv2 = upr rv a 1 (some b)) (ha : ty L cl a T) (hT : szd T = true) (hl : lst T = false) (hb : ty L cl b (tgt T 1)) (hs : iv a 2 ≤ ((ln b : Nat) : Int)) : WT g sk L cl ln iv rv2 := by
  subst he
  obtain ⟨h1, h2, h3, h4, h5, h6, h7⟩ := id h
  refine ⟨h1, fun w hw j => ?_, h3, fun w hw hz => ?_, fun w hw hz c hc i hi => ?_, h6, h7⟩
  · by_cases e : w = a
    · subst e
      by_cases ej : j = 1
      · subst ej
        rw [upr_s]
        intro hr
        refine ⟨(fun q => by cases q), fun c hc => ?_⟩
        cases hc
        refine Or.inl ⟨hb.1, by rw [hb.2, ha.2], ?_, ?_⟩
        · intro q; rw [ha.2] at q; subst q; cases hT
        · intro q; rw [ha.2, hl] at q; cases q
      · rw [upr_j ej]; exact h2 w hw j
    · rw [upr_a e]; exact h2 w hw j
  · by_cases e : w = a
    · subst e
      intro c hc
      rw [upr_s] at hc; cases hc
      exact Or.inr ⟨hb.1, hs⟩
    · rw [upr_a e]; exact h4 w hw hz
  · have e : w ≠ a := fun e => by subst e; rw [ha.2, hl] at hz; cases hz
    rw [upr_a e] at hc
    have hca : c ≠ a := by
      intro e2
      subst e2
      rcases (h2 w hw 1 (by unfold raw; unfold lst at hz; simp at hz ⊢; omega)).2 c hc with q | q
      · rw [ha.2, tgt_list hz] at q; unfold szd lst at hT; simp at hT; omega
      · exact h7 (q.1 ▸ ha.1)
    rw [upr_a hca]
    exact h5 w hw hz c hc i hi
theorem cap_up {x : Nat} (hx : x ≠ a) : cap g ln (upr rv a k (some b)) x = cap g ln rv x := by unfold cap; rw [upr_a hx]
theorem cap_s (hg : b ≠ g) : cap g ln (upr rv a 1 (some b)) a = ln b := by unfold cap; rw [upr_s]; show (if b = g then 0 else ln b) = ln b; rw [if_neg hg]
theorem cap_of (h : rv a 1 = some b) (hg : b ≠ g) : cap g ln rv a = ln b := by unfold cap; rw [h]; show (if b = g then 0 else ln b) = ln b; rw [if_neg hg]
theorem cap_g (h : rv a 1 = some g) : cap g ln rv a = 0 := by unfold cap; rw [h]; show (if g = g then 0 else ln g) = 0; rw [if_pos rfl]
theorem sk_ne (hS : SKL sk L cl) {t u : Nat} (ht : uq t = true) (hu : uq u = true) (h : t ≠ u) : sk t ≠ sk u := fun e => h (by rw [← (hS t ht).2, ← (hS u hu).2, e])
theorem Phi.grow (hS : SKL sk L cl) (he : rv2 = upr rv (sk t) 1 (some b)) (hg : b ≠ g) (ht : (2 ≤ t ∧ t ≤ 11) ∨ t = 24 ∨ t = 25) : Phi g sk ln rv2 + (if t < 20 then 3 else 8) * cap g ln rv (sk t) = Phi g sk ln rv + (if t < 20 then 3 else 8) * ln b := by
  subst he
  have : t = 2 ∨ t = 3 ∨ t = 4 ∨ t = 5 ∨ t = 6 ∨ t = 7 ∨ t = 8 ∨ t = 9 ∨ t = 10 ∨ t = 11 ∨ t = 24 ∨ t = 25 := by omega
  rcases this with rfl | rfl | rfl | rfl | rfl | rfl | rfl | rfl | rfl | rfl | rfl | rfl
  · have e1 := cap_s (g := g) (ln := ln) (rv := rv) (a := sk 2) hg
    refine hv13 (cap_up (g := g) (ln := ln) (rv := rv) (a := sk 2) (k := 1) (b := b) (sk_ne hS (t := 3) (u := 2) rfl rfl (by decide))) (cap_up (g := g) (ln := ln) (rv := rv) (a := sk 2) (k := 1) (b := b) (sk_ne hS (t := 4) (u := 2) rfl rfl (by decide))) (cap_up (g := g) (ln := ln) (rv := rv) (a := sk 2) (k := 1) (b := b) (sk_ne hS (t := 5) (u := 2) rfl rfl (by decide))) (cap_up (g := g) (ln := ln) (rv := rv) (a := sk 2) (k := 1) (b := b) (sk_ne hS (t := 6) (u := 2) rfl rfl (by decide))) (cap_up (g := g) (ln := ln) (rv := rv) (a := sk 2) (k := 1) (b := b) (sk_ne hS (t := 7) (u := 2) rfl rfl (by decide))) (cap_up (g := g) (ln := ln) (rv := rv) (a := sk 2) (k := 1) (b := b) (sk_ne hS (t := 8) (u := 2) rfl rfl (by decide))) (cap_up (g := g) (ln := ln) (rv := rv) (a := sk 2) (k := 1) (b := b) (sk_ne hS (t := 9) (u := 2) rfl rfl (by decide))) (cap_up (g := g) (ln := ln) (rv := rv) (a := sk 2) (k := 1) (b := b) (sk_ne hS (t := 10) (u := 2) rfl rfl (by decide))) (cap_up (g := g) (ln := ln) (rv := rv) (a := sk 2) (k := 1) (b := b) (sk_ne hS (t := 11) (u := 2) rfl rfl (by decide))) (cap_up (g := g) (ln := ln) (rv := rv) (a := sk 2) (k := 1) (b := b) (sk_ne hS (t := 24) (u := 2) rfl rfl (by decide))) (cap_up (g := g) (ln := ln) (rv := rv) (a := sk 2) (k := 1) (b := b) (sk_ne hS (t := 25) (u := 2) rfl rfl (by decide))) (show upr rv (sk 2) 1 (some b) (sk 67) = rv (sk 67) from upr_a (sk_ne hS (t := 67) (u := 2) rfl rfl (by decide))) (show upr rv (sk 2) 1 (some b) (sk 69) = rv (sk 69) from upr_a (sk_ne hS (t := 69) (u := 2) rfl rfl (by decide))) (fun c3 c4 c5 c6 c7 c8 c9 c10 c11 c24 c25 r1 r2 => ?_)
    unfold Phi
    rw [e1, c3, c4, c5, c6, c7, c8, c9, c10, c11, c24, c25, r1, r2]
    show _ + 3 * _ = _ + 3 * _
    omega
  · have e1 := cap_s (g := g) (ln := ln) (rv := rv) (a := sk 3) hg
    refine hv13 (cap_up (g := g) (ln := ln) (rv := rv) (a := sk 3) (k := 1) (b := b) (sk_ne hS (t := 2) (u := 3) rfl rfl (by decide))) (cap_up (g := g) (ln := ln) (rv := rv) (a := sk 3) (k := 1) (b := b) (sk_ne hS (t := 4) (u := 3) rfl rfl (by decide))) (cap_up (g := g) (ln := ln) (rv := rv) (a := sk 3) (k := 1) (b := b) (sk_ne hS (t := 5) (u := 3) rfl rfl (by decide))) (cap_up (g := g) (ln := ln) (rv := rv) (a := sk 3) (k := 1) (b := b) (sk_ne hS (t := 6) (u := 3) rfl rfl (by decide))) (cap_up (g := g) (ln := ln) (rv := rv) (a := sk 3) (k := 1) (b := b) (sk_ne hS (t := 7) (u := 3) rfl rfl (by decide))) (cap_up (g := g) (ln := ln) (rv := rv) (a := sk 3) (k := 1) (b := b) (sk_ne hS (t := 8) (u := 3) rfl rfl (by decide))) (cap_up (g := g) (ln := ln) (rv := rv) (a := sk 3) (k := 1) (b := b) (sk_ne hS (t := 9) (u := 3) rfl rfl (by decide))) (cap_up (g := g) (ln := ln) (rv := rv) (a := sk 3) (k := 1) (b := b) (sk_ne hS (t := 10) (u := 3) rfl rfl (by decide))) (cap_up (g := g) (ln := ln) (rv := rv) (a := sk 3) (k := 1) (b := b) (sk_ne hS (t := 11) (u := 3) rfl rfl (by decide))) (cap_up (g := g) (ln := ln) (rv := rv) (a := sk 3) (k := 1) (b := b) (sk_ne hS (t := 24) (u := 3) rfl rfl (by decide))) (cap_up (g := g) (ln := ln) (rv := rv) (a := sk 3) (k := 1) (b := b) (sk_ne hS (t := 25) (u := 3) rfl rfl (by decide))) (show upr rv (sk 3) 1 (some b) (sk 67) = rv (sk 67) from upr_a (sk_ne hS (t := 67) (u := 3) rfl rfl (by decide))) (show upr rv (sk 3) 1 (some b) (sk 69) = rv (sk 69) from upr_a (sk_ne hS (t := 69) (u := 3) rfl rfl (by decide))) (fun c2 c4 c5 c6 c7 c8 c9 c10 c11 c24 c25 r1 r2 => ?_)
    unfold Phi
    rw [e1, c2, c4, c5, c6, c7, c8, c9, c10, c11, c24, c25, r1, r2]
    show _ + 3 * _ = _ + 3 * _
    omega
  · have e1 := cap_s (g := g) (ln := ln) (rv := rv) (a := sk 4) hg
    refine hv13 (cap_up (g := g) (ln := ln) (rv := rv) (a := sk 4) (k := 1) (b := b) (sk_ne hS (t := 2) (u := 4) rfl rfl (by decide))) (cap_up (g := g) (ln := ln) (rv := rv) (a := sk 4) (k := 1) (b := b) (sk_ne hS (t := 3) (u := 4) rfl rfl (by decide))) (cap_up (g := g) (ln := ln) (rv := rv) (a := sk 4) (k := 1) (b := b) (sk_ne hS (t := 5) (u := 4) rfl rfl (by decide))) (cap_up (g := g) (ln := ln) (rv := rv) (a := sk 4) (k := 1) (b := b) (sk_ne hS (t := 6) (u := 4) rfl rfl (by decide))) (cap_up (g := g) (ln := ln) (rv := rv) (a := sk 4) (k := 1) (b := b) (sk_ne hS (t := 7) (u := 4) rfl rfl (by decide))) (cap_up (g := g) (ln := ln) (rv := rv) (a := sk 4) (k := 1) (b := b) (sk_ne hS (t := 8) (u := 4) rfl rfl (by decide))) (cap_up (g := g) (ln := ln) (rv := rv) (a := sk 4) (k := 1) (b := b) (sk_ne hS (t := 9) (u := 4) rfl rfl (by decide))) (cap_up (g := g) (ln := ln) (rv := rv) (a := sk 4) (k := 1) (b := b) (sk_ne hS (t := 10) (u := 4) rfl rfl (by decide))) (cap_up (g := g) (ln := ln) (rv := rv) (a := sk 4) (k := 1) (b := b) (sk_ne hS (t := 11) (u := 4) rfl rfl (by decide))) (cap_up (g := g) (ln := ln) (rv := rv) (a := sk 4) (k := 1) (b := b) (sk_ne hS (t := 24) (u := 4) rfl rfl (by decide))) (cap_up (g := g) (ln := ln) (rv := rv) (a := sk 4) (k := 1) (b := b) (sk_ne hS (t := 25) (u := 4) rfl rfl (by decide))) (show upr rv (sk 4) 1 (some b) (sk 67) = rv (sk 67) from upr_a (sk_ne hS (t := 67) (u := 4) rfl rfl (by decide))) (show upr rv (sk 4) 1 (some b) (sk 69) = rv (sk 69) from upr_a (sk_ne hS (t := 69) (u := 4) rfl rfl (by decide))) (fun c2 c3 c5 c6 c7 c8 c9 c10 c11 c24 c25 r1 r2 => ?_)
    unfold Phi
    rw [e1, c2, c3, c5, c6, c7, c8, c9, c10, c11, c24, c25, r1, r2]
    show _ + 3 * _ = _ + 3 * _
    omega
  · have e1 := cap_s (g := g) (ln := ln) (rv := rv) (a := sk 5) hg
    refine hv13 (cap_up (g := g) (ln := ln) (rv := rv) (a := sk 5) (k := 1) (b := b) (sk_ne hS (t := 2) (u := 5) rfl rfl (by decide))) (cap_up (g := g) (ln := ln) (rv := rv) (a := sk 5) (k := 1) (b := b) (sk_ne hS (t := 3) (u := 5) rfl rfl (by decide))) (cap_up (g := g) (ln := ln) (rv := rv) (a := sk 5) (k := 1) (b := b) (sk_ne hS (t := 4) (u := 5) rfl rfl (by decide))) (cap_up (g := g) (ln := ln) (rv := rv) (a := sk 5) (k := 1) (b := b) (sk_ne hS (t := 6) (u := 5) rfl rfl (by decide))) (cap_up (g := g) (ln := ln) (rv := rv) (a := sk 5) (k := 1) (b := b) (sk_ne hS (t := 7) (u := 5) rfl rfl (by decide))) (cap_up (g := g) (ln := ln) (rv := rv) (a := sk 5) (k := 1) (b := b) (sk_ne hS (t := 8) (u := 5) rfl rfl (by decide))) (cap_up (g := g) (ln := ln) (rv := rv) (a := sk 5) (k := 1) (b := b) (sk_ne hS (t := 9) (u := 5) rfl rfl (by decide))) (cap_up (g := g) (ln := ln) (rv := rv) (a := sk 5) (k := 1) (b := b) (sk_ne hS (t := 10) (u := 5) rfl rfl (by decide))) (cap_up (g := g) (ln := ln) (rv := rv) (a := sk 5) (k := 1) (b := b) (sk_ne hS (t := 11) (u := 5) rfl rfl (by decide))) (cap_up (g := g) (ln := ln) (rv := rv) (a := sk 5) (k := 1) (b := b) (sk_ne hS (t := 24) (u := 5) rfl rfl (by decide))) (cap_up (g := g) (ln := ln) (rv := rv) (a := sk 5) (k := 1) (b := b) (sk_ne hS (t := 25) (u := 5) rfl rfl (by decide))) (show upr rv (sk 5) 1 (some b) (sk 67) = rv (sk 67) from upr_a (sk_ne hS (t := 67) (u := 5) rfl rfl (by decide))) (show upr rv (sk 5) 1 (some b) (sk 69) = rv (sk 69) from upr_a (sk_ne hS (t := 69) (u := 5) rfl rfl (by decide))) (fun c2 c3 c4 c6 c7 c8 c9 c10 c11 c24 c25 r1 r2 => ?_)
    unfold Phi
    rw [e1, c2, c3, c4, c6, c7, c8, c9, c10, c11, c24, c25, r1, r2]
    show _ + 3 * _ = _ + 3 * _
    omega
  · have e1 := cap_s (g := g) (ln := ln) (rv := rv) (a := sk 6) hg
    refine hv13 (cap_up (g := g) (ln := ln) (rv := rv) (a := sk 6) (k := 1) (b := b) (sk_ne hS (t := 2) (u := 6) rfl rfl (by decide))) (cap_up (g := g) (ln := ln) (rv := rv) (a := sk 6) (k := 1) (b := b) (sk_ne hS (t := 3) (u := 6) rfl rfl (by decide))) (cap_up (g := g) (ln := ln) (rv := rv) (a := sk 6) (k := 1) (b := b) (sk_ne hS (t := 4) (u := 6) rfl rfl (by decide))) (cap_up (g := g) (ln := ln) (rv := rv) (a := sk 6) (k := 1) (b := b) (sk_ne hS (t := 5) (u := 6) rfl rfl (by decide))) (cap_up (g := g) (ln := ln) (rv := rv) (a := sk 6) (k := 1) (b := b) (sk_ne hS (t := 7) (u := 6) rfl rfl (by decide))) (cap_up (g := g) (ln := ln) (rv := rv) (a := sk 6) (k := 1) (b := b) (sk_ne hS (t := 8) (u := 6) rfl rfl (by decide))) (cap_up (g := g) (ln := ln) (rv := rv) (a := sk 6) (k := 1) (b := b) (sk_ne hS (t := 9) (u := 6) rfl rfl (by decide))) (cap_up (g := g) (ln := ln) (rv := rv) (a := sk 6) (k := 1) (b := b) (sk_ne hS (t := 10) (u := 6) rfl rfl (by decide))) (cap_up (g := g) (ln := ln) (rv := rv) (a := sk 6) (k := 1) (b := b) (sk_ne hS (t := 11) (u := 6) rfl rfl (by decide))) (cap_up (g := g) (ln := ln) (rv := rv) (a := sk 6) (k := 1) (b := b) (sk_ne hS (t := 24) (u := 6) rfl rfl (by decide))) (cap_up (g := g) (ln := ln) (rv := rv) (a := sk 6) (k := 1) (b := b) (sk_ne hS (t := 25) (u := 6) rfl rfl (by decide))) (show upr rv (sk 6) 1 (some b) (sk 67) = rv (sk 67) from upr_a (sk_ne hS (t := 67) (u := 6) rfl rfl (by decide))) (show upr rv (sk 6) 1 (some b) (sk 69) = rv (sk 69) from upr_a (sk_ne hS (t := 69) (u := 6) rfl rfl (by decide))) (fun c2 c3 c4 c5 c7 c8 c9 c10 c11 c24 c25 r1 r2 => ?_)
    unfold Phi
    rw [e1, c2, c3, c4, c5, c7, c8, c9, c10, c11, c24, c25, r1, r2]
    show _ + 3 * _ = _ + 3 * _
    omega
  · have e1 := cap_s (g := g) (ln := ln) (rv := rv) (a := sk 7) hg
    refine hv13 (cap_up (g := g) (ln := ln) (rv := rv) (a := sk 7) (k := 1) (b := b) (sk_ne hS (t := 2) (u := 7) rfl rfl (by decide))) (cap_up (g := g) (ln := ln) (rv := rv) (a := sk 7) (k := 1) (b := b) (sk_ne hS (t := 3) (u := 7) rfl rfl (by decide))) (cap_up (g := g) (ln := ln) (rv := rv) (a := sk 7) (k := 1) (b := b) (sk_ne hS (t := 4) (u := 7) rfl rfl (by decide))) (cap_up (g := g) (ln := ln) (rv := rv) (a := sk 7) (k := 1) (b := b) (sk_ne hS (t := 5) (u := 7) rfl rfl (by decide))) (cap_up (g := g) (ln := ln) (rv := rv) (a := sk 7) (k := 1) (b := b) (sk_ne hS (t := 6) (u := 7) rfl rfl (by decide))) (cap_up (g := g) (ln := ln) (rv := rv) (a := sk 7) (k := 1) (b := b) (sk_ne hS (t := 8) (u := 7) rfl rfl (by decide))) (cap_up (g := g) (ln := ln) (rv := rv) (a := sk 7) (k := 1) (b := b) (sk_ne hS (t := 9) (u := 7) rfl rfl (by decide))) (cap_up (g := g) (ln := ln) (rv := rv) (a := sk 7) (k := 1) (b := b) (sk_ne hS (t := 10) (u := 7) rfl rfl (by decide))) (cap_up (g := g) (ln := ln) (rv := rv) (a := sk 7) (k := 1) (b := b) (sk_ne hS (t := 11) (u := 7) rfl rfl (by decide))) (cap_up (g := g) (ln := ln) (rv := rv) (a := sk 7) (k := 1) (b := b) (sk_ne hS (t := 24) (u := 7) rfl rfl (by decide))) (cap_up (g := g) (ln := ln) (rv := rv) (a := sk 7) (k := 1) (b := b) (sk_ne hS (t := 25) (u := 7) rfl rfl (by decide))) (show upr rv (sk 7) 1 (some b) (sk 67) = rv (sk 67) from upr_a (sk_ne hS (t := 67) (u := 7) rfl rfl (by decide))) (show upr rv (sk 7) 1 (some b) (sk 69) = rv (sk 69) from upr_a (sk_ne hS (t := 69) (u := 7) rfl rfl (by decide))) (fun c2 c3 c4 c5 c6 c8 c9 c10 c11 c24 c25 r1 r2 => ?_)
    unfold Phi
    rw [e1, c2, c3, c4, c5, c6, c8, c9, c10, c11, c24, c25, r1, r2]
    show _ + 3 * _ = _ + 3 * _
    omega
  · have e1 := cap_s (g := g) (ln := ln) (rv := rv) (a := sk 8) hg
    refine hv13 (cap_up (g := g) (ln := ln) (rv := rv) (a := sk 8) (k := 1) (b := b) (sk_ne hS (t := 2) (u := 8) rfl rfl (by decide))) (cap_up (g := g) (ln := ln) (rv := rv) (a := sk 8) (k := 1) (b := b) (sk_ne hS (t := 3) (u := 8) rfl rfl (by decide))) (cap_up (g := g) (ln := ln) (rv := rv) (a := sk 8) (k := 1) (b := b) (sk_ne hS (t := 4) (u := 8) rfl rfl (by decide))) (cap_up (g := g) (ln := ln) (rv := rv) (a := sk 8) (k := 1) (b := b) (sk_ne hS (t := 5) (u := 8) rfl rfl (by decide))) (cap_up (g := g) (ln := ln) (rv := rv) (a := sk 8) (k := 1) (b := b) (sk_ne hS (t := 6) (u := 8) rfl rfl (by decide))) (cap_up (g := g) (ln := ln) (rv := rv) (a := sk 8) (k := 1) (b := b) (sk_ne hS (t := 7) (u := 8) rfl rfl (by decide))) (cap_up (g := g) (ln := ln) (rv := rv) (a := sk 8) (k := 1) (b := b) (sk_ne hS (t := 9) (u := 8) rfl rfl (by decide))) (cap_up (g := g) (ln := ln) (rv := rv) (a := sk 8) (k := 1) (b := b) (sk_ne hS (t := 10) (u := 8) rfl rfl (by decide))) (cap_up (g := g) (ln := ln) (rv := rv) (a := sk 8) (k := 1) (b := b) (sk_ne hS (t := 11) (u := 8) rfl rfl (by decide))) (cap_up (g := g) (ln := ln) (rv := rv) (a := sk 8) (k := 1) (b := b) (sk_ne hS (t := 24) (u := 8) rfl rfl (by decide))) (cap_up (g := g) (ln := ln) (rv := rv) (a := sk 8) (k := 1) (b := b) (sk_ne hS (t := 25) (u := 8) rfl rfl (by decide))) (show upr rv (sk 8) 1 (some b) (sk 67) = rv (sk 67) from upr_a (sk_ne hS (t := 67) (u := 8) rfl rfl (by decide))) (show upr rv (sk 8) 1 (some b) (sk 69) = rv (sk 69) from upr_a (sk_ne hS (t := 69) (u := 8) rfl rfl (by decide))) (fun c2 c3 c4 c5 c6 c7 c9 c10 c11 c24 c25 r1 r2 => ?_)
    unfold Phi
    rw [e1, c2, c3, c4, c5, c6, c7, c9, c10, c11, c24, c25, r1, r2]
    show _ + 3 * _ = _ + 3 * _
    omega
  · have e1 := cap_s (g := g) (ln := ln) (rv := rv) (a := sk 9) hg
    refine hv13 (cap_up (g := g) (ln := ln) (rv := rv) (a := sk 9) (k := 1) (b := b) (sk_ne hS (t := 2) (u := 9) rfl rfl (by decide))) (cap_up (g := g) (ln := ln) (rv := rv) (a := sk 9) (k := 1) (b := b) (sk_ne hS (t := 3) (u := 9) rfl rfl (by decide))) (cap_up (g := g) (ln := ln) (rv := rv) (a := sk 9) (k := 1) (b := b) (sk_ne hS (t := 4) (u := 9) rfl rfl (by decide))) (cap_up (g := g) (ln := ln) (rv := rv) (a := sk 9) (k := 1) (b := b) (sk_ne hS (t := 5) (u := 9) rfl rfl (by decide))) (cap_up (g := g) (ln := ln) (rv := rv) (a := sk 9) (k := 1) (b := b) (sk_ne hS (t := 6) (u := 9) rfl rfl (by decide))) (cap_up (g := g) (ln := ln) (rv := rv) (a := sk 9) (k := 1) (b := b) (sk_ne hS (t := 7) (u := 9) rfl rfl (by decide))) (cap_up (g := g) (ln := ln) (rv := rv) (a := sk 9) (k := 1) (b := b) (sk_ne hS (t := 8) (u := 9) rfl rfl (by decide))) (cap_up (g := g) (ln := ln) (rv := rv) (a := sk 9) (k := 1) (b := b) (sk_ne hS (t := 10) (u := 9) rfl rfl (by decide))) (cap_up (g := g) (ln := ln) (rv := rv) (a := sk 9) (k := 1) (b := b) (sk_ne hS (t := 11) (u := 9) rfl rfl (by decide))) (cap_up (g := g) (ln := ln) (rv := rv) (a := sk 9) (k := 1) (b := b) (sk_ne hS (t := 24) (u := 9) rfl rfl (by decide))) (cap_up (g := g) (ln := ln) (rv := rv) (a := sk 9) (k := 1) (b := b) (sk_ne hS (t := 25) (u := 9) rfl rfl (by decide))) (show upr rv (sk 9) 1 (some b) (sk 67) = rv (sk 67) from upr_a (sk_ne hS (t := 67) (u := 9) rfl rfl (by decide))) (show upr rv (sk 9) 1 (some b) (sk 69) = rv (sk 69) from upr_a (sk_ne hS (t := 69) (u := 9) rfl rfl (by decide))) (fun c2 c3 c4 c5 c6 c7 c8 c10 c11 c24 c25 r1 r2 => ?_)
    unfold Phi
    rw [e1, c2, c3, c4, c5, c6, c7, c8, c10, c11, c24, c25, r1, r2]
    show _ + 3 * _ = _ + 3 * _
    omega
  · have e1 := cap_s (g := g) (ln := ln) (rv := rv) (a := sk 10) hg
    refine hv13 (cap_up (g := g) (ln := ln) (rv := rv) (a := sk 10) (k := 1) (b := b) (sk_ne hS (t := 2) (u := 10) rfl rfl (by decide))) (cap_up (g := g) (ln := ln) (rv := rv) (a := sk 10) (k := 1) (b := b) (sk_ne hS (t := 3) (u := 10) rfl rfl (by decide))) (cap_up (g := g) (ln := ln) (rv := rv) (a := sk 10) (k := 1) (b := b) (sk_ne hS (t := 4) (u := 10) rfl rfl (by decide))) (cap_up (g := g) (ln := ln) (rv := rv) (a := sk 10) (k := 1) (b := b) (sk_ne hS (t := 5) (u := 10) rfl rfl (by decide))) (cap_up (g := g) (ln := ln) (rv := rv) (a := sk 10) (k := 1) (b := b) (sk_ne hS (t := 6) (u := 10) rfl rfl (by decide))) (cap_up (g := g) (ln := ln) (rv := rv) (a := sk 10) (k := 1) (b := b) (sk_ne hS (t := 7) (u := 10) rfl rfl (by decide))) (cap_up (g := g) (ln := ln) (rv := rv) (a := sk 10) (k := 1) (b := b) (sk_ne hS (t := 8) (u := 10) rfl rfl (by decide))) (cap_up (g := g) (ln := ln) (rv := rv) (a := sk 10) (k := 1) (b := b) (sk_ne hS (t := 9) (u := 10) rfl rfl (by decide))) (cap_up (g := g) (ln := ln) (rv := rv) (a := sk 10) (k := 1) (b := b) (sk_ne hS (t := 11) (u := 10) rfl rfl (by decide))) (cap_up (g := g) (ln := ln) (rv := rv) (a := sk 10) (k := 1) (b := b) (sk_ne hS (t := 24) (u := 10) rfl rfl (by decide))) (cap_up (g := g) (ln := ln) (rv := rv) (a := sk 10) (k := 1) (b := b) (sk_ne hS (t := 25) (u := 10) rfl rfl (by decide))) (show upr rv (sk 10) 1 (some b) (sk 67) = rv (sk 67) from upr_a (sk_ne hS (t := 67) (u := 10) rfl rfl (by decide))) (show upr rv (sk 10) 1 (some b) (sk 69) = rv (sk 69) from upr_a (sk_ne hS (t := 69) (u := 10) rfl rfl (by decide))) (fun c2 c3 c4 c5 c6 c7 c8 c9 c11 c24 c25 r1 r2 => ?_)
    unfold Phi
    rw [e1, c2, c3, c4, c5, c6, c7, c8, c9, c11, c24, c25, r1, r2]
    show _ + 3 * _ = _ + 3 * _
    omega
  · have e1 := cap_s (g := g) (ln := ln) (rv := rv) (a := sk 11) hg
    refine hv13 (cap_up (g := g) (ln := ln) (rv := rv) (a := sk 11) (k := 1) (b := b) (sk_ne hS (t := 2) (u := 11) rfl rfl (by decide))) (cap_up (g := g) (ln := ln) (rv := rv) (a := sk 11) (k := 1) (b := b) (sk_ne hS (t := 3) (u := 11) rfl rfl (by decide))) (cap_up (g := g) (ln := ln) (rv := rv) (a := sk 11) (k := 1) (b := b) (sk_ne hS (t := 4) (u := 11) rfl rfl (by decide))) (cap_up (g := g) (ln := ln) (rv := rv) (a := sk 11) (k := 1) (b := b) (sk_ne hS (t := 5) (u := 11) rfl rfl (by decide))) (cap_up (g := g) (ln := ln) (rv := rv) (a := sk 11) (k := 1) (b := b) (sk_ne hS (t := 6) (u := 11) rfl rfl (by decide))) (cap_up (g := g) (ln := ln) (rv := rv) (a := sk 11) (k := 1) (b := b) (sk_ne hS (t := 7) (u := 11) rfl rfl (by decide))) (cap_up (g := g) (ln := ln) (rv := rv) (a := sk 11) (k := 1) (b := b) (sk_ne hS (t := 8) (u := 11) rfl rfl (by decide))) (cap_up (g := g) (ln := ln) (rv := rv) (a := sk 11) (k := 1) (b := b) (sk_ne hS (t := 9) (u := 11) rfl rfl (by decide))) (cap_up (g := g) (ln := ln) (rv := rv) (a := sk 11) (k := 1) (b := b) (sk_ne hS (t := 10) (u := 11) rfl rfl (by decide))) (cap_up (g := g) (ln := ln) (rv := rv) (a := sk 11) (k := 1) (b := b) (sk_ne hS (t := 24) (u := 11) rfl rfl (by decide))) (cap_up (g := g) (ln := ln) (rv := rv) (a := sk 11) (k := 1) (b := b) (sk_ne hS (t := 25) (u := 11) rfl rfl (by decide))) (show upr rv (sk 11) 1 (some b) (sk 67) = rv (sk 67) from upr_a (sk_ne hS (t := 67) (u := 11) rfl rfl (by decide))) (show upr rv (sk 11) 1 (some b) (sk 69) = rv (sk 69) from upr_a (sk_ne hS (t := 69) (u := 11) rfl rfl (by decide))) (fun c2 c3 c4 c5 c6 c7 c8 c9 c10 c24 c25 r1 r2 => ?_)
    unfold Phi
    rw [e1, c2, c3, c4, c5, c6, c7, c8, c9, c10, c24, c25, r1, r2]
    show _ + 3 * _ = _ + 3 * _
    omega
  · have e1 := cap_s (g := g) (ln := ln) (rv := rv) (a := sk 24) hg
    refine hv13 (cap_up (g := g) (ln := ln) (rv := rv) (a := sk 24) (k := 1) (b := b) (sk_ne hS (t := 2) (u := 24) rfl rfl (by decide))) (cap_up (g := g) (ln := ln) (rv := rv) (a := sk 24) (k := 1) (b := b) (sk_ne hS (t := 3) (u := 24) rfl rfl (by decide))) (cap_up (g := g) (ln := ln) (rv := rv) (a := sk 24) (k := 1) (b := b) (sk_ne hS (t := 4) (u := 24) rfl rfl (by decide))) (cap_up (g := g) (ln := ln) (rv := rv) (a := sk 24) (k := 1) (b := b) (sk_ne hS (t := 5) (u := 24) rfl rfl (by decide))) (cap_up (g := g) (ln := ln) (rv := rv) (a := sk 24) (k := 1) (b := b) (sk_ne hS (t := 6) (u := 24) rfl rfl (by decide))) (cap_up (g := g) (ln := ln) (rv := rv) (a := sk 24) (k := 1) (b := b) (sk_ne hS (t := 7) (u := 24) rfl rfl (by decide))) (cap_up (g := g) (ln := ln) (rv := rv) (a := sk 24) (k := 1) (b := b) (sk_ne hS (t := 8) (u := 24) rfl rfl (by decide))) (cap_up (g := g) (ln := ln) (rv := rv) (a := sk 24) (k := 1) (b := b) (sk_ne hS (t := 9) (u := 24) rfl rfl (by decide))) (cap_up (g := g) (ln := ln) (rv := rv) (a := sk 24) (k := 1) (b := b) (sk_ne hS (t := 10) (u := 24) rfl rfl (by decide))) (cap_up (g := g) (ln := ln) (rv := rv) (a := sk 24) (k := 1) (b := b) (sk_ne hS (t := 11) (u := 24) rfl rfl (by decide))) (cap_up (g := g) (ln := ln) (rv := rv) (a := sk 24) (k := 1) (b := b) (sk_ne hS (t := 25) (u := 24) rfl rfl (by decide))) (show upr rv (sk 24) 1 (some b) (sk 67) = rv (sk 67) from upr_a (sk_ne hS (t := 67) (u := 24) rfl rfl (by decide))) (show upr rv (sk 24) 1 (some b) (sk 69) = rv (sk 69) from upr_a (sk_ne hS (t := 69) (u := 24) rfl rfl (by decide))) (fun c2 c3 c4 c5 c6 c7 c8 c9 c10 c11 c25 r1 r2 => ?_)
    unfold Phi
    rw [e1, c2, c3, c4, c5, c6, c7, c8, c9, c10, c11, c25, r1, r2]
    show _ + 8 * _ = _ + 8 * _
    omega
  · have e1 := cap_s (g := g) (ln := ln) (rv := rv) (a := sk 25) hg
    refine hv13 (cap_up (g := g) (ln := ln) (rv := rv) (a := sk 25) (k := 1) (b := b) (sk_ne hS (t := 2) (u := 25) rfl rfl (by decide))) (cap_up (g := g) (ln := ln) (rv := rv) (a := sk 25) (k := 1) (b := b) (sk_ne hS (t := 3) (u := 25) rfl rfl (by decide))) (cap_up (g := g) (ln := ln) (rv := rv) (a := sk 25) (k := 1) (b := b) (sk_ne hS (t := 4) (u := 25) rfl rfl (by decide))) (cap_up (g := g) (ln := ln) (rv := rv) (a := sk 25) (k := 1) (b := b) (sk_ne hS (t := 5) (u := 25) rfl rfl (by decide))) (cap_up (g := g) (ln := ln) (rv := rv) (a := sk 25) (k := 1) (b := b) (sk_ne hS (t := 6) (u := 25) rfl rfl (by decide))) (cap_up (g := g) (ln := ln) (rv := rv) (a := sk 25) (k := 1) (b := b) (sk_ne hS (t := 7) (u := 25) rfl rfl (by decide))) (cap_up (g := g) (ln := ln) (rv := rv) (a := sk 25) (k := 1) (b := b) (sk_ne hS (t := 8) (u := 25) rfl rfl (by decide))) (cap_up (g := g) (ln := ln) (rv := rv) (a := sk 25) (k := 1) (b := b) (sk_ne hS (t := 9) (u := 25) rfl rfl (by decide))) (cap_up (g := g) (ln := ln) (rv := rv) (a := sk 25) (k := 1) (b := b) (sk_ne hS (t := 10) (u := 25) rfl rfl (by decide))) (cap_up (g := g) (ln := ln) (rv := rv) (a := sk 25) (k := 1) (b := b) (sk_ne hS (t := 11) (u := 25) rfl rfl (by decide))) (cap_up (g := g) (ln := ln) (rv := rv) (a := sk 25) (k := 1) (b := b) (sk_ne hS (t := 24) (u := 25) rfl rfl (by decide))) (show upr rv (sk 25) 1 (some b) (sk 67) = rv (sk 67) from upr_a (sk_ne hS (t := 67) (u := 25) rfl rfl (by decide))) (show upr rv (sk 25) 1 (some b) (sk 69) = rv (sk 69) from upr_a (sk_ne hS (t := 69) (u := 25) rfl rfl (by decide))) (fun c2 c3 c4 c5 c6 c7 c8 c9 c10 c11 c24 r1 r2 => ?_)
    unfold Phi
    rw [e1, c2, c3, c4, c5, c6, c7, c8, c9, c10, c11, c24, r1, r2]
    show _ + 8 * _ = _ + 8 * _
    omega
end NEWS
theorem rom0 {P K c0 ph pm : Nat} (h1 : ph ≤ pm) (h2 : P ≤ pm) (h3 : K ≤ c0) : P + K ≤ (pm + c0 - ph) + ph := by omega
theorem rom1 {P K c0 c2 ph pm : Nat} (h1 : ph ≤ pm) (h2 : P ≤ pm) (h3 : K + c2 ≤ c0) : P + K + (pm + c2 - P) ≤ (pm + c0 - ph) + ph := by omega
theorem rom2 {P K c0 x ph pm : Nat} (h1 : ph ≤ pm) (h2 : P ≤ pm) (h3 : K + x ≤ c0) : P + K + x ≤ (pm + c0 - ph) + ph := by omega
section DQ
variable {p : Program} {l : Launch} {e : Env} {d0 c0 : Nat} {s : State} {m : MethodId} {args : Array Value} {below : List Frame} {meth : Method} {c : Code} {cc : ByteArray} {y : MethodName} {ret : Option FieldType} {G : GT} {A : Nat → Prop} {nL mi : Nat} {Q : State → Prop} {Pf : PF} {ph pm : Nat} {L : List Nat} {cl ln : Nat → Nat} {iv : Nat → Nat → Int} {rv : Nat → Nat → Option Nat} {K K2 pc : Nat} {lv : List (Nat × Value)} {st : List Value}
theorem c_retag {q t : Nat} (hk : kd (bt t) = kd (bt (cl q))) (k : ∀ cl2, cl2 = va_up cl q t → cw p l e d0 (pm + c0 - ph) s m args below meth c G A nL Q Pf ph L cl2 ln iv rv K pc lv st) : cw p l e d0 (pm + c0 - ph) s m args below meth c G A nL Q Pf ph L cl ln iv rv K pc lv st := by
  have e : enc G (va_up cl q t) ln iv rv = enc G cl ln iv rv := by
    funext b
    by_cases h : b = q
    · subst h; exact enc_ext (by rw [va_up_self, hk]) rfl rfl rfl
    · exact enc_ext (by rw [va_up_ne _ _ h]) rfl rfl rfl
  intro u hu
  have q1 := k _ rfl u hu
  rw [e] at q1
  exact q1
theorem d_callV (C : Cq p s m args meth c cc y ret G A nL) (hM : Mir mi s) {y2 : MethodName} {cc2 : ByteArray} {n2 d2 c2 idx k2 : Nat} {P2 : PC} {As rest : List Value} {b ci N T : Nat} {ret2 : Option FieldType} {TT : u_T} {tyy : Nat → FieldType} (M : Mc l G mi Pf pm y2 cc2 n2 ret2 d2 (.ref b :: As) L cl ln iv rv c2 P2) (d : decode cc pc = .ok (.invokevirtual idx, 3)) (hw : Wv y.cls idx y2 cc2 n2 ret2 k2) (hk : As.length = k2) (hb : ty L cl b T) (hT : kd T = ci) (hN : nf ci = N) (h13 : ci < 13) (ck : Ck ci y2.cls TT N tyy) (hst : st = As.reverse ++ .ref b :: rest) (hcat : (rest.map fun v => v.category).sum ≤ 8) (hR : d2 + 1 ≤ d0 ∧ 8 + (n2 + 11) + 64 * d2 ≤ 64 * d0) (hph : ph ≤ pm) (hp : Pf ln rv ≤ pm) (hK : K + c2 = K2) (hKc : K2 ≤ c0) (kk : ∀ (v : Option Value) (L2 : List Nat) (cl2 ln2 : Nat → Nat) (iv2 : Nat → Nat → Int) (rv2 : Nat → Nat → Option Nat), P2 v L2 cl2 ln2 iv2 rv2 → cw p l e d0 (pm + c0 - ph) s m args below meth c G A nL Q Pf ph L2 cl2 ln2 iv2 rv2 K2 (pc + 3) lv (v.toList ++ rest)) : cw p l e d0 (pm + c0 - ph) s m args below meth c G A nL Q Pf ph L cl ln iv rv K pc lv st := c_callV C hM M d hw hk hb hT hN h13 ck hst hcat hR (rom1 hph hp (by omega)) (fun v L2 cl2 ln2 iv2 rv2 h => ⟨K2, fun u2 q => by omega, kk v L2 cl2 ln2 iv2 rv2 h⟩)
theorem d_callS (C : Cq p s m args meth c cc y ret G A nL) (hM : Mir mi s) {y2 : MethodName} {cc2 : ByteArray} {n2 d2 c2 idx k2 : Nat} {P2 : PC} {As rest : List Value} {ret2 : Option FieldType} (M : Mc l G mi Pf pm y2 cc2 n2 ret2 d2 As L cl ln iv rv c2 P2) (d : decode cc pc = .ok (.invokestatic idx, 3)) (hw : Ws y.cls idx y2 cc2 n2 ret2 k2) (hk : As.length = k2) (hst : st = As.reverse ++ rest) (hcat : (rest.map fun v => v.category).sum ≤ 8) (hR : d2 + 1 ≤ d0 ∧ 8 + (n2 + 11) + 64 * d2 ≤ 64 * d0) (hph : ph ≤ pm) (hp : Pf ln rv ≤ pm) (hK : K + c2 = K2) (hKc : K2 ≤ c0) (kk : ∀ (v : Option Value) (L2 : List Nat) (cl2 ln2 : Nat → Nat) (iv2 : Nat → Nat → Int) (rv2 : Nat → Nat → Option Nat), P2 v L2 cl2 ln2 iv2 rv2 → cw p l e d0 (pm + c0 - ph) s m args below meth c G A nL Q Pf ph L2 cl2 ln2 iv2 rv2 K2 (pc + 3) lv (v.toList ++ rest)) : cw p l e d0 (pm + c0 - ph) s m args below meth c G A nL Q Pf ph L cl ln iv rv K pc lv st := c_callS C hM M d hw hk hst hcat hR (rom1 hph hp (by omega)) (fun v L2 cl2 ln2 iv2 rv2 h => ⟨K2, fun u2 q => by omega, kk v L2 cl2 ln2 iv2 rv2 h⟩)
end DQ
def zPf : PF := fun _ _ => 0
theorem z_in {K x K2 : Nat} {ln ln2 : Nat → Nat} {rv rv2 : Nat → Nat → Option Nat} (h : K + x ≤ K2) : zPf ln rv + K + x ≤ zPf ln2 rv2 + K2 := by unfold zPf; omega
theorem p_in {P P2 K x K2 : Nat} (e : P2 = P) (h : K + x ≤ K2) : P + K + x ≤ P2 + K2 := by omega
theorem zk1 {P P2 K c2 : Nat} {ln ln2 : Nat → Nat} {rv rv2 : Nat → Nat → Option Nat} (e : P2 = P) : ∀ u2 : Nat, u2 + zPf ln rv ≤ zPf ln2 rv2 + c2 → u2 + P + K ≤ P2 + (K + c2) := by unfold zPf; intro u2 h; omega
theorem zk0 {K c2 : Nat} {ln ln2 : Nat → Nat} {rv rv2 : Nat → Nat → Option Nat} : ∀ u2 : Nat, u2 + zPf ln rv ≤ zPf ln2 rv2 + c2 → u2 + zPf ln rv + K ≤ zPf ln2 rv2 + (K + c2) := by unfold zPf; intro u2 h; omega
theorem rz1 {P K c0 c2 ph pm : Nat} {ln : Nat → Nat} {rv : Nat → Nat → Option Nat} (h1 : ph ≤ pm) (h2 : P ≤ pm) (h3 : K + c2 ≤ c0) : P + K + (0 + c2 - zPf ln rv) ≤ (pm + c0 - ph) + ph := by unfold zPf; omega
theorem rz0 {K c0 c2 : Nat} {ln : Nat → Nat} {rv : Nat → Nat → Option Nat} {ln2 : Nat → Nat} {rv2 : Nat → Nat → Option Nat} (h1 : zPf ln2 rv2 ≤ 0) (h3 : K + c2 ≤ c0) : zPf ln rv + K + (0 + c2 - zPf ln rv) ≤ (0 + c0 - zPf ln2 rv2) + zPf ln2 rv2 := by unfold zPf; omega
theorem Phi.fr {g : Nat} {sk : Nat → Nat} {ls L L2 : List Nat} {cl ln cl2 ln2 : Nat → Nat} {iv iv2 : Nat → Nat → Int} {rv rv2 : Nat → Nat → Option Nat} (h : WT g sk L cl ln iv rv) (hS : SKL sk L cl) (hX : XT L cl ln L2 cl2 ln2) (hF : fT ls L cl iv rv iv2 rv2) (hp : ls.all (fun t => !pot t) = true) : Phi g sk ln2 rv2 = Phi g sk ln rv := by
  refine Phi.congr (fun t ht hq => ?_) (fun t b ht hq hs hb hg => ?_)
  · refine (hF _ (hS t ht).1 ?_).2
    rw [(hS t ht).2]
    cases e : ls.contains (bt t) with
    | false => rfl
    | true =>
      have h2 := List.all_eq_true.mp hp _ (List.contains_iff_mem.mp e)
      rw [hq] at h2; cases h2
  · rcases WT.ed h (hS t ht).1 (by
      rw [(hS t ht).2]
      unfold szd lst at hs ⊢
      simp at hs ⊢
      unfold bt
      split <;> (try split) <;> (try split) <;> omega) hb with q1 | q1
    · exact (hX b q1).2.2
    · exact absurd q1 hg
theorem Phi.frn {g : Nat} {sk : Nat → Nat} {ls L : List Nat} {cl ln : Nat → Nat} {iv iv2 : Nat → Nat → Int} {rv rv2 : Nat → Nat → Option Nat} (hS : SKL sk L cl) (hF : fT ls L cl iv rv iv2 rv2) (hp : ls.all (fun t => !pot t) = true) : Phi g sk ln rv2 = Phi g sk ln rv := by
  refine Phi.congr (fun t ht hq => ?_) (fun _ _ _ _ _ _ _ => rfl)
  refine (hF _ (hS t ht).1 ?_).2
  rw [(hS t ht).2]
  cases e : ls.contains (bt t) with
  | false => rfl
  | true =>
    have h2 := List.all_eq_true.mp hp _ (List.contains_iff_mem.mp e)
    rw [hq] at h2; cases h2
theorem bt_id {x t : Nat} (h : bt x = t) (ht : t < 18 ∨ (18 < t ∧ t < 67)) : x = t := by
  unfold bt at h
  split at h
  · split at h
    · omega
    · split at h <;> omega
  · split at h
    · omega
    · split at h <;> omega
theorem WT.sk {g : Nat} {sk : Nat → Nat} {L : List Nat} {cl ln : Nat → Nat} {iv : Nat → Nat → Int} {rv : Nat → Nat → Option Nat} {a t : Nat} (h : WT g sk L cl ln iv rv) (ha : ty L cl a t) (ht : t < 18 ∨ (18 < t ∧ t < 67)) (hu : uq t = true) : a = sk t := by
  have e := bt_id ha.2 ht
  have q := h.2.2.2.2.2.1 a ha.1 (by rw [e]; exact hu)
  rw [e] at q; exact q
def limT (t : Nat) : Nat := match t with
  | 2 => 3000
  | 3 => 500
  | 4 => 4000
  | 5 => 200
  | 6 => 6003
  | 7 => 6003
  | 8 => 40200
  | 9 => 40200
  | 10 => 4001
  | 11 => 40000
  | 12 => 200
  | _ => 0
theorem Phi.slack {g : Nat} {sk : Nat → Nat} {L : List Nat} {cl ln : Nat → Nat} {iv : Nat → Nat → Int} {rv : Nat → Nat → Option Nat} {t n : Nat} (h : WT g sk L cl ln iv rv) (hS : SKL sk L cl) (ht : 2 ≤ t ∧ t ≤ 11) (hn : cap g ln rv (sk t) = n) (hc : n ≤ limT t) : Phi g sk ln rv + 3 * n ≤ PHM := by
  refine hv14 (cap_le (t := 2) (m := 6000) h hS rfl rfl rfl rfl rfl) (cap_le (t := 3) (m := 1000) h hS rfl rfl rfl rfl rfl) (cap_le (t := 4) (m := 8000) h hS rfl rfl rfl rfl rfl) (cap_le (t := 5) (m := 400) h hS rfl rfl rfl rfl rfl) (cap_le (t := 6) (m := 12006) h hS rfl rfl rfl rfl rfl) (cap_le (t := 7) (m := 12006) h hS rfl rfl rfl rfl rfl) (cap_le (t := 8) (m := 80400) h hS rfl rfl rfl rfl rfl) (cap_le (t := 9) (m := 80400) h hS rfl rfl rfl rfl rfl) (cap_le (t := 10) (m := 8002) h hS rfl rfl rfl rfl rfl) (cap_le (t := 11) (m := 80000) h hS rfl rfl rfl rfl rfl) (cap_le (t := 24) (m := 9100) h hS rfl rfl rfl rfl rfl) (cap_le (t := 25) (m := 9100) h hS rfl rfl rfl rfl rfl) (nn_le (rv (sk 67)) 200) (nn_le (rv (sk 69)) 200) (fun c2 c3 c4 c5 c6 c7 c8 c9 c10 c11 c24 c25 n1 n2 => ?_)
  have : t = 2 ∨ t = 3 ∨ t = 4 ∨ t = 5 ∨ t = 6 ∨ t = 7 ∨ t = 8 ∨ t = 9 ∨ t = 10 ∨ t = 11 := by omega
  rcases this with rfl | rfl | rfl | rfl | rfl | rfl | rfl | rfl | rfl | rfl
  · unfold Phi
    show _ ≤ 1110000
    have hc2 : n ≤ 3000 := hc
    omega
  · unfold Phi
    show _ ≤ 1110000
    have hc2 : n ≤ 500 := hc
    omega
  · unfold Phi
    show _ ≤ 1110000
    have hc2 : n ≤ 4000 := hc
    omega
  · unfold Phi
    show _ ≤ 1110000
    have hc2 : n ≤ 200 := hc
    omega
  · unfold Phi
    show _ ≤ 1110000
    have hc2 : n ≤ 6003 := hc
    omega
  · unfold Phi
    show _ ≤ 1110000
    have hc2 : n ≤ 6003 := hc
    omega
  · unfold Phi
    show _ ≤ 1110000
    have hc2 : n ≤ 40200 := hc
    omega
  · unfold Phi
    show _ ≤ 1110000
    have hc2 : n ≤ 40200 := hc
    omega
  · unfold Phi
    show _ ≤ 1110000
    have hc2 : n ≤ 4001 := hc
    omega
  · unfold Phi
    show _ ≤ 1110000
    have hc2 : n ≤ 40000 := hc
    omega
theorem dv_0 : ∀ j, j < 3 → defaultValue (tyJx4a65c j) = ofv 0 (fun _ => 0) (fun _ => none) j := fun j hj => match j, hj with
  | 0, _ => rfl
  | 1, _ => rfl
  | 2, _ => rfl
  | n + 3, h => absurd h (by omega)
theorem dv_1 : ∀ j, j < 4 → defaultValue (tyX0 j) = ofv 1 (fun _ => 0) (fun _ => none) j := fun j hj => match j, hj with
  | 0, _ => rfl
  | 1, _ => rfl
  | 2, _ => rfl
  | 3, _ => rfl
  | n + 4, h => absurd h (by omega)
theorem dv_2 : ∀ j, j < 3 → defaultValue (tyX1 j) = ofv 2 (fun _ => 0) (fun _ => none) j := fun j hj => match j, hj with
  | 0, _ => rfl
  | 1, _ => rfl
  | 2, _ => rfl
  | n + 3, h => absurd h (by omega)
theorem dv_3 : ∀ j, j < 3 → defaultValue (tyX2 j) = ofv 3 (fun _ => 0) (fun _ => none) j := fun j hj => match j, hj with
  | 0, _ => rfl
  | 1, _ => rfl
  | 2, _ => rfl
  | n + 3, h => absurd h (by omega)
theorem dv_4 : ∀ j, j < 8 → defaultValue (tyX3 j) = ofv 4 (fun _ => 0) (fun _ => none) j := fun j hj => match j, hj with
  | 0, _ => rfl
  | 1, _ => rfl
  | 2, _ => rfl
  | 3, _ => rfl
  | 4, _ => rfl
  | 5, _ => rfl
  | 6, _ => rfl
  | 7, _ => rfl
  | n + 8, h => absurd h (by omega)
theorem dv_5 : ∀ j, j < 11 → defaultValue (tyX4 j) = ofv 5 (fun _ => 0) (fun _ => none) j := fun j hj => match j, hj with
  | 0, _ => rfl
  | 1, _ => rfl
  | 2, _ => rfl
  | 3, _ => rfl
  | 4, _ => rfl
  | 5, _ => rfl
  | 6, _ => rfl
  | 7, _ => rfl
  | 8, _ => rfl
  | 9, _ => rfl
  | 10, _ => rfl
  | n + 11, h => absurd h (by omega)
theorem dv_6 : ∀ j, j < 4 → defaultValue (tyX5 j) = ofv 6 (fun _ => 0) (fun _ => none) j := fun j hj => match j, hj with
  | 0, _ => rfl
  | 1, _ => rfl
  | 2, _ => rfl
  | 3, _ => rfl
  | n + 4, h => absurd h (by omega)
theorem dv_7 : ∀ j, j < 12 → defaultValue (tyX6 j) = ofv 7 (fun _ => 0) (fun _ => none) j := fun j hj => match j, hj with
  | 0, _ => rfl
  | 1, _ => rfl
  | 2, _ => rfl
  | 3, _ => rfl
  | 4, _ => rfl
  | 5, _ => rfl
  | 6, _ => rfl
  | 7, _ => rfl
  | 8, _ => rfl
  | 9, _ => rfl
  | 10, _ => rfl
  | 11, _ => rfl
  | n + 12, h => absurd h (by omega)
theorem dv_8 : ∀ j, j < 3 → defaultValue (tyX7 j) = ofv 8 (fun _ => 0) (fun _ => none) j := fun j hj => match j, hj with
  | 0, _ => rfl
  | 1, _ => rfl
  | 2, _ => rfl
  | n + 3, h => absurd h (by omega)
theorem dv_9 : ∀ j, j < 8 → defaultValue (tyX8 j) = ofv 9 (fun _ => 0) (fun _ => none) j := fun j hj => match j, hj with
  | 0, _ => rfl
  | 1, _ => rfl
  | 2, _ => rfl
  | 3, _ => rfl
  | 4, _ => rfl
  | 5, _ => rfl
  | 6, _ => rfl
  | 7, _ => rfl
  | n + 8, h => absurd h (by omega)
theorem dv_10 : ∀ j, j < 8 → defaultValue (tyX9 j) = ofv 10 (fun _ => 0) (fun _ => none) j := fun j hj => match j, hj with
  | 0, _ => rfl
  | 1, _ => rfl
  | 2, _ => rfl
  | 3, _ => rfl
  | 4, _ => rfl
  | 5, _ => rfl
  | 6, _ => rfl
  | 7, _ => rfl
  | n + 8, h => absurd h (by omega)
theorem dv_11 : ∀ j, j < 2 → defaultValue (tyX10 j) = ofv 11 (fun _ => 0) (fun _ => none) j := fun j hj => match j, hj with
  | 0, _ => rfl
  | 1, _ => rfl
  | n + 2, h => absurd h (by omega)
end
section
def sgn (x : Int32) : Int32 := if x < 48 ∨ (57 < x ∧ x < 65) ∨ (90 < x ∧ x < 97) ∨ 122 < x then 1 else 0
theorem sgn_c (x : Int32) : ∃ z : Int, (z = 0 ∨ z = 1) ∧ sgn x = iI z := by
  unfold sgn
  split
  · exact ⟨1, Or.inr rfl, rfl⟩
  · exact ⟨0, Or.inl rfl, rfl⟩
set_option maxHeartbeats 4000000 in
set_option maxRecDepth 100000 in
theorem s11_isDigit {l : Launch} {G : GT} {L : List Nat} {E : Nat → va_E} (x : Int32) : Mq l G yX11_isDigit cX11_isDigit 1 (some .boolean) 0 [.int x] L E 0 0 (fun v L2 E2 => v = some (.int (inn x 48 57)) ∧ L2 = L ∧ E2 = E) := by
  refine Mq.mk (by decide) (Nat.le_of_ble_eq_true rfl) ?_
  intro p e s m args below meth c A C
  refine q_iload_n (j := 0) C dX11_isDigit_0 rfl ?_
  refine q_bipush (v := 48) C dX11_isDigit_1 (by decide) ?_
  refine q_icmp_lt (tgt := 16) C dX11_isDigit_3 (by decide) (fun c1 => ?_) (fun c1 => ?_)
  · refine q_iconst (v := 0) C dX11_isDigit_16 (by decide) ?_
    exact q_zret C dX11_isDigit_17 rfl (by decide) (Nat.le_of_ble_eq_true rfl) (Nat.le_of_ble_eq_true rfl) ⟨(by refine congrArg (fun z => some (Value.int z)) ?_; unfold inn; (try simp only [i32_lt, i32_le, i32_eq, inn_f, Decidable.not_not, tn_m1, tn_0, tn_1, tn_2, tn_3, tn_4, tn_5, tn_6, tn_7, tn_8, tn_10, tn_30, tn_31, tn_32, tn_36, tn_40, tn_50, tn_100, tn_126, tn_200, tn_255, tn_500, tn_512, tn_3000, tn_5000] at c1); split <;> rename_i hz <;> (try simp only [i32_lt, i32_le, i32_eq, inn_f, Decidable.not_not, tn_m1, tn_0, tn_1, tn_2, tn_3, tn_4, tn_5, tn_6, tn_7, tn_8, tn_10, tn_30, tn_31, tn_32, tn_36, tn_40, tn_50, tn_100, tn_126, tn_200, tn_255, tn_500, tn_512, tn_3000, tn_5000] at hz) <;> first | rfl | (exfalso; omega)), rfl, rfl⟩
  · refine q_iload_n (j := 0) C dX11_isDigit_6 rfl ?_
    refine q_bipush (v := 57) C dX11_isDigit_7 (by decide) ?_
    refine q_icmp_gt (tgt := 16) C dX11_isDigit_9 (by decide) (fun c2 => ?_) (fun c2 => ?_)
    · refine q_iconst (v := 0) C dX11_isDigit_16 (by decide) ?_
      exact q_zret C dX11_isDigit_17 rfl (by decide) (Nat.le_of_ble_eq_true rfl) (Nat.le_of_ble_eq_true rfl) ⟨(by refine congrArg (fun z => some (Value.int z)) ?_; unfold inn; (try simp only [i32_lt, i32_le, i32_eq, inn_f, Decidable.not_not, tn_m1, tn_0, tn_1, tn_2, tn_3, tn_4, tn_5, tn_6, tn_7, tn_8, tn_10, tn_30, tn_31, tn_32, tn_36, tn_40, tn_50, tn_100, tn_126, tn_200, tn_255, tn_500, tn_512, tn_3000, tn_5000] at c1); (try simp only [i32_lt, i32_le, i32_eq, inn_f, Decidable.not_not, tn_m1, tn_0, tn_1, tn_2, tn_3, tn_4, tn_5, tn_6, tn_7, tn_8, tn_10, tn_30, tn_31, tn_32, tn_36, tn_40, tn_50, tn_100, tn_126, tn_200, tn_255, tn_500, tn_512, tn_3000, tn_5000] at c2); split <;> rename_i hz <;> (try simp only [i32_lt, i32_le, i32_eq, inn_f, Decidable.not_not, tn_m1, tn_0, tn_1, tn_2, tn_3, tn_4, tn_5, tn_6, tn_7, tn_8, tn_10, tn_30, tn_31, tn_32, tn_36, tn_40, tn_50, tn_100, tn_126, tn_200, tn_255, tn_500, tn_512, tn_3000, tn_5000] at hz) <;> first | rfl | (exfalso; omega)), rfl, rfl⟩
    · refine q_iconst (v := 1) C dX11_isDigit_12 (by decide) ?_
      refine q_goto (tgt := 17) C dX11_isDigit_13 (by decide) ?_
      exact q_zret C dX11_isDigit_17 rfl (by decide) (Nat.le_of_ble_eq_true rfl) (Nat.le_of_ble_eq_true rfl) ⟨(by refine congrArg (fun z => some (Value.int z)) ?_; unfold inn; (try simp only [i32_lt, i32_le, i32_eq, inn_f, Decidable.not_not, tn_m1, tn_0, tn_1, tn_2, tn_3, tn_4, tn_5, tn_6, tn_7, tn_8, tn_10, tn_30, tn_31, tn_32, tn_36, tn_40, tn_50, tn_100, tn_126, tn_200, tn_255, tn_500, tn_512, tn_3000, tn_5000] at c1); (try simp only [i32_lt, i32_le, i32_eq, inn_f, Decidable.not_not, tn_m1, tn_0, tn_1, tn_2, tn_3, tn_4, tn_5, tn_6, tn_7, tn_8, tn_10, tn_30, tn_31, tn_32, tn_36, tn_40, tn_50, tn_100, tn_126, tn_200, tn_255, tn_500, tn_512, tn_3000, tn_5000] at c2); split <;> rename_i hz <;> (try simp only [i32_lt, i32_le, i32_eq, inn_f, Decidable.not_not, tn_m1, tn_0, tn_1, tn_2, tn_3, tn_4, tn_5, tn_6, tn_7, tn_8, tn_10, tn_30, tn_31, tn_32, tn_36, tn_40, tn_50, tn_100, tn_126, tn_200, tn_255, tn_500, tn_512, tn_3000, tn_5000] at hz) <;> first | rfl | (exfalso; omega)), rfl, rfl⟩
set_option maxHeartbeats 4000000 in
set_option maxRecDepth 100000 in
theorem s11_isGreat {l : Launch} {G : GT} {L : List Nat} {E : Nat → va_E} (x : Int32) : Mq l G yX11_isGreat cX11_isGreat 1 (some .boolean) 0 [.int x] L E 0 0 (fun v L2 E2 => v = some (.int (inn x 65 90)) ∧ L2 = L ∧ E2 = E) := by
  refine Mq.mk (by decide) (Nat.le_of_ble_eq_true rfl) ?_
  intro p e s m args below meth c A C
  refine q_iload_n (j := 0) C dX11_isGreat_0 rfl ?_
  refine q_bipush (v := 65) C dX11_isGreat_1 (by decide) ?_
  refine q_icmp_lt (tgt := 16) C dX11_isGreat_3 (by decide) (fun c1 => ?_) (fun c1 => ?_)
  · refine q_iconst (v := 0) C dX11_isGreat_16 (by decide) ?_
    exact q_zret C dX11_isGreat_17 rfl (by decide) (Nat.le_of_ble_eq_true rfl) (Nat.le_of_ble_eq_true rfl) ⟨(by refine congrArg (fun z => some (Value.int z)) ?_; unfold inn; (try simp only [i32_lt, i32_le, i32_eq, inn_f, Decidable.not_not, tn_m1, tn_0, tn_1, tn_2, tn_3, tn_4, tn_5, tn_6, tn_7, tn_8, tn_10, tn_30, tn_31, tn_32, tn_36, tn_40, tn_50, tn_100, tn_126, tn_200, tn_255, tn_500, tn_512, tn_3000, tn_5000] at c1); split <;> rename_i hz <;> (try simp only [i32_lt, i32_le, i32_eq, inn_f, Decidable.not_not, tn_m1, tn_0, tn_1, tn_2, tn_3, tn_4, tn_5, tn_6, tn_7, tn_8, tn_10, tn_30, tn_31, tn_32, tn_36, tn_40, tn_50, tn_100, tn_126, tn_200, tn_255, tn_500, tn_512, tn_3000, tn_5000] at hz) <;> first | rfl | (exfalso; omega)), rfl, rfl⟩
  · refine q_iload_n (j := 0) C dX11_isGreat_6 rfl ?_
    refine q_bipush (v := 90) C dX11_isGreat_7 (by decide) ?_
    refine q_icmp_gt (tgt := 16) C dX11_isGreat_9 (by decide) (fun c2 => ?_) (fun c2 => ?_)
    · refine q_iconst (v := 0) C dX11_isGreat_16 (by decide) ?_
      exact q_zret C dX11_isGreat_17 rfl (by decide) (Nat.le_of_ble_eq_true rfl) (Nat.le_of_ble_eq_true rfl) ⟨(by refine congrArg (fun z => some (Value.int z)) ?_; unfold inn; (try simp only [i32_lt, i32_le, i32_eq, inn_f, Decidable.not_not, tn_m1, tn_0, tn_1, tn_2, tn_3, tn_4, tn_5, tn_6, tn_7, tn_8, tn_10, tn_30, tn_31, tn_32, tn_36, tn_40, tn_50, tn_100, tn_126, tn_200, tn_255, tn_500, tn_512, tn_3000, tn_5000] at c1); (try simp only [i32_lt, i32_le, i32_eq, inn_f, Decidable.not_not, tn_m1, tn_0, tn_1, tn_2, tn_3, tn_4, tn_5, tn_6, tn_7, tn_8, tn_10, tn_30, tn_31, tn_32, tn_36, tn_40, tn_50, tn_100, tn_126, tn_200, tn_255, tn_500, tn_512, tn_3000, tn_5000] at c2); split <;> rename_i hz <;> (try simp only [i32_lt, i32_le, i32_eq, inn_f, Decidable.not_not, tn_m1, tn_0, tn_1, tn_2, tn_3, tn_4, tn_5, tn_6, tn_7, tn_8, tn_10, tn_30, tn_31, tn_32, tn_36, tn_40, tn_50, tn_100, tn_126, tn_200, tn_255, tn_500, tn_512, tn_3000, tn_5000] at hz) <;> first | rfl | (exfalso; omega)), rfl, rfl⟩
    · refine q_iconst (v := 1) C dX11_isGreat_12 (by decide) ?_
      refine q_goto (tgt := 17) C dX11_isGreat_13 (by decide) ?_
      exact q_zret C dX11_isGreat_17 rfl (by decide) (Nat.le_of_ble_eq_true rfl) (Nat.le_of_ble_eq_true rfl) ⟨(by refine congrArg (fun z => some (Value.int z)) ?_; unfold inn; (try simp only [i32_lt, i32_le, i32_eq, inn_f, Decidable.not_not, tn_m1, tn_0, tn_1, tn_2, tn_3, tn_4, tn_5, tn_6, tn_7, tn_8, tn_10, tn_30, tn_31, tn_32, tn_36, tn_40, tn_50, tn_100, tn_126, tn_200, tn_255, tn_500, tn_512, tn_3000, tn_5000] at c1); (try simp only [i32_lt, i32_le, i32_eq, inn_f, Decidable.not_not, tn_m1, tn_0, tn_1, tn_2, tn_3, tn_4, tn_5, tn_6, tn_7, tn_8, tn_10, tn_30, tn_31, tn_32, tn_36, tn_40, tn_50, tn_100, tn_126, tn_200, tn_255, tn_500, tn_512, tn_3000, tn_5000] at c2); split <;> rename_i hz <;> (try simp only [i32_lt, i32_le, i32_eq, inn_f, Decidable.not_not, tn_m1, tn_0, tn_1, tn_2, tn_3, tn_4, tn_5, tn_6, tn_7, tn_8, tn_10, tn_30, tn_31, tn_32, tn_36, tn_40, tn_50, tn_100, tn_126, tn_200, tn_255, tn_500, tn_512, tn_3000, tn_5000] at hz) <;> first | rfl | (exfalso; omega)), rfl, rfl⟩
set_option maxHeartbeats 4000000 in
set_option maxRecDepth 100000 in
theorem s11_isSmall {l : Launch} {G : GT} {L : List Nat} {E : Nat → va_E} (x : Int32) : Mq l G yX11_isSmall cX11_isSmall 1 (some .boolean) 0 [.int x] L E 0 0 (fun v L2 E2 => v = some (.int (inn x 97 122)) ∧ L2 = L ∧ E2 = E) := by
  refine Mq.mk (by decide) (Nat.le_of_ble_eq_true rfl) ?_
  intro p e s m args below meth c A C
  refine q_iload_n (j := 0) C dX11_isSmall_0 rfl ?_
  refine q_bipush (v := 97) C dX11_isSmall_1 (by decide) ?_
  refine q_icmp_lt (tgt := 16) C dX11_isSmall_3 (by decide) (fun c1 => ?_) (fun c1 => ?_)
  · refine q_iconst (v := 0) C dX11_isSmall_16 (by decide) ?_
    exact q_zret C dX11_isSmall_17 rfl (by decide) (Nat.le_of_ble_eq_true rfl) (Nat.le_of_ble_eq_true rfl) ⟨(by refine congrArg (fun z => some (Value.int z)) ?_; unfold inn; (try simp only [i32_lt, i32_le, i32_eq, inn_f, Decidable.not_not, tn_m1, tn_0, tn_1, tn_2, tn_3, tn_4, tn_5, tn_6, tn_7, tn_8, tn_10, tn_30, tn_31, tn_32, tn_36, tn_40, tn_50, tn_100, tn_126, tn_200, tn_255, tn_500, tn_512, tn_3000, tn_5000] at c1); split <;> rename_i hz <;> (try simp only [i32_lt, i32_le, i32_eq, inn_f, Decidable.not_not, tn_m1, tn_0, tn_1, tn_2, tn_3, tn_4, tn_5, tn_6, tn_7, tn_8, tn_10, tn_30, tn_31, tn_32, tn_36, tn_40, tn_50, tn_100, tn_126, tn_200, tn_255, tn_500, tn_512, tn_3000, tn_5000] at hz) <;> first | rfl | (exfalso; omega)), rfl, rfl⟩
  · refine q_iload_n (j := 0) C dX11_isSmall_6 rfl ?_
    refine q_bipush (v := 122) C dX11_isSmall_7 (by decide) ?_
    refine q_icmp_gt (tgt := 16) C dX11_isSmall_9 (by decide) (fun c2 => ?_) (fun c2 => ?_)
    · refine q_iconst (v := 0) C dX11_isSmall_16 (by decide) ?_
      exact q_zret C dX11_isSmall_17 rfl (by decide) (Nat.le_of_ble_eq_true rfl) (Nat.le_of_ble_eq_true rfl) ⟨(by refine congrArg (fun z => some (Value.int z)) ?_; unfold inn; (try simp only [i32_lt, i32_le, i32_eq, inn_f, Decidable.not_not, tn_m1, tn_0, tn_1, tn_2, tn_3, tn_4, tn_5, tn_6, tn_7, tn_8, tn_10, tn_30, tn_31, tn_32, tn_36, tn_40, tn_50, tn_100, tn_126, tn_200, tn_255, tn_500, tn_512, tn_3000, tn_5000] at c1); (try simp only [i32_lt, i32_le, i32_eq, inn_f, Decidable.not_not, tn_m1, tn_0, tn_1, tn_2, tn_3, tn_4, tn_5, tn_6, tn_7, tn_8, tn_10, tn_30, tn_31, tn_32, tn_36, tn_40, tn_50, tn_100, tn_126, tn_200, tn_255, tn_500, tn_512, tn_3000, tn_5000] at c2); split <;> rename_i hz <;> (try simp only [i32_lt, i32_le, i32_eq, inn_f, Decidable.not_not, tn_m1, tn_0, tn_1, tn_2, tn_3, tn_4, tn_5, tn_6, tn_7, tn_8, tn_10, tn_30, tn_31, tn_32, tn_36, tn_40, tn_50, tn_100, tn_126, tn_200, tn_255, tn_500, tn_512, tn_3000, tn_5000] at hz) <;> first | rfl | (exfalso; omega)), rfl, rfl⟩
    · refine q_iconst (v := 1) C dX11_isSmall_12 (by decide) ?_
      refine q_goto (tgt := 17) C dX11_isSmall_13 (by decide) ?_
      exact q_zret C dX11_isSmall_17 rfl (by decide) (Nat.le_of_ble_eq_true rfl) (Nat.le_of_ble_eq_true rfl) ⟨(by refine congrArg (fun z => some (Value.int z)) ?_; unfold inn; (try simp only [i32_lt, i32_le, i32_eq, inn_f, Decidable.not_not, tn_m1, tn_0, tn_1, tn_2, tn_3, tn_4, tn_5, tn_6, tn_7, tn_8, tn_10, tn_30, tn_31, tn_32, tn_36, tn_40, tn_50, tn_100, tn_126, tn_200, tn_255, tn_500, tn_512, tn_3000, tn_5000] at c1); (try simp only [i32_lt, i32_le, i32_eq, inn_f, Decidable.not_not, tn_m1, tn_0, tn_1, tn_2, tn_3, tn_4, tn_5, tn_6, tn_7, tn_8, tn_10, tn_30, tn_31, tn_32, tn_36, tn_40, tn_50, tn_100, tn_126, tn_200, tn_255, tn_500, tn_512, tn_3000, tn_5000] at c2); split <;> rename_i hz <;> (try simp only [i32_lt, i32_le, i32_eq, inn_f, Decidable.not_not, tn_m1, tn_0, tn_1, tn_2, tn_3, tn_4, tn_5, tn_6, tn_7, tn_8, tn_10, tn_30, tn_31, tn_32, tn_36, tn_40, tn_50, tn_100, tn_126, tn_200, tn_255, tn_500, tn_512, tn_3000, tn_5000] at hz) <;> first | rfl | (exfalso; omega)), rfl, rfl⟩
set_option maxHeartbeats 4000000 in
set_option maxRecDepth 100000 in
theorem s11_isCondition {l : Launch} {G : GT} {L : List Nat} {E : Nat → va_E} (x : Int32) : Mq l G yX11_isCondition cX11_isCondition 1 (some .boolean) 0 [.int x] L E 0 0 (fun v L2 E2 => v = some (.int (inn x 0 5)) ∧ L2 = L ∧ E2 = E) := by
  refine Mq.mk (by decide) (Nat.le_of_ble_eq_true rfl) ?_
  intro p e s m args below meth c A C
  refine q_iload_n (j := 0) C dX11_isCondition_0 rfl ?_
  refine q_if_lt (tgt := 13) C dX11_isCondition_1 (by decide) (fun c1 => ?_) (fun c1 => ?_)
  · refine q_iconst (v := 0) C dX11_isCondition_13 (by decide) ?_
    exact q_zret C dX11_isCondition_14 rfl (by decide) (Nat.le_of_ble_eq_true rfl) (Nat.le_of_ble_eq_true rfl) ⟨(by refine congrArg (fun z => some (Value.int z)) ?_; unfold inn; (try simp only [i32_lt, i32_le, i32_eq, inn_f, Decidable.not_not, tn_m1, tn_0, tn_1, tn_2, tn_3, tn_4, tn_5, tn_6, tn_7, tn_8, tn_10, tn_30, tn_31, tn_32, tn_36, tn_40, tn_50, tn_100, tn_126, tn_200, tn_255, tn_500, tn_512, tn_3000, tn_5000] at c1); split <;> rename_i hz <;> (try simp only [i32_lt, i32_le, i32_eq, inn_f, Decidable.not_not, tn_m1, tn_0, tn_1, tn_2, tn_3, tn_4, tn_5, tn_6, tn_7, tn_8, tn_10, tn_30, tn_31, tn_32, tn_36, tn_40, tn_50, tn_100, tn_126, tn_200, tn_255, tn_500, tn_512, tn_3000, tn_5000] at hz) <;> first | rfl | (exfalso; omega)), rfl, rfl⟩
  · refine q_iload_n (j := 0) C dX11_isCondition_4 rfl ?_
    refine q_iconst (v := 5) C dX11_isCondition_5 (by decide) ?_
    refine q_icmp_gt (tgt := 13) C dX11_isCondition_6 (by decide) (fun c2 => ?_) (fun c2 => ?_)
    · refine q_iconst (v := 0) C dX11_isCondition_13 (by decide) ?_
      exact q_zret C dX11_isCondition_14 rfl (by decide) (Nat.le_of_ble_eq_true rfl) (Nat.le_of_ble_eq_true rfl) ⟨(by refine congrArg (fun z => some (Value.int z)) ?_; unfold inn; (try simp only [i32_lt, i32_le, i32_eq, inn_f, Decidable.not_not, tn_m1, tn_0, tn_1, tn_2, tn_3, tn_4, tn_5, tn_6, tn_7, tn_8, tn_10, tn_30, tn_31, tn_32, tn_36, tn_40, tn_50, tn_100, tn_126, tn_200, tn_255, tn_500, tn_512, tn_3000, tn_5000] at c1); (try simp only [i32_lt, i32_le, i32_eq, inn_f, Decidable.not_not, tn_m1, tn_0, tn_1, tn_2, tn_3, tn_4, tn_5, tn_6, tn_7, tn_8, tn_10, tn_30, tn_31, tn_32, tn_36, tn_40, tn_50, tn_100, tn_126, tn_200, tn_255, tn_500, tn_512, tn_3000, tn_5000] at c2); split <;> rename_i hz <;> (try simp only [i32_lt, i32_le, i32_eq, inn_f, Decidable.not_not, tn_m1, tn_0, tn_1, tn_2, tn_3, tn_4, tn_5, tn_6, tn_7, tn_8, tn_10, tn_30, tn_31, tn_32, tn_36, tn_40, tn_50, tn_100, tn_126, tn_200, tn_255, tn_500, tn_512, tn_3000, tn_5000] at hz) <;> first | rfl | (exfalso; omega)), rfl, rfl⟩
    · refine q_iconst (v := 1) C dX11_isCondition_9 (by decide) ?_
      refine q_goto (tgt := 14) C dX11_isCondition_10 (by decide) ?_
      exact q_zret C dX11_isCondition_14 rfl (by decide) (Nat.le_of_ble_eq_true rfl) (Nat.le_of_ble_eq_true rfl) ⟨(by refine congrArg (fun z => some (Value.int z)) ?_; unfold inn; (try simp only [i32_lt, i32_le, i32_eq, inn_f, Decidable.not_not, tn_m1, tn_0, tn_1, tn_2, tn_3, tn_4, tn_5, tn_6, tn_7, tn_8, tn_10, tn_30, tn_31, tn_32, tn_36, tn_40, tn_50, tn_100, tn_126, tn_200, tn_255, tn_500, tn_512, tn_3000, tn_5000] at c1); (try simp only [i32_lt, i32_le, i32_eq, inn_f, Decidable.not_not, tn_m1, tn_0, tn_1, tn_2, tn_3, tn_4, tn_5, tn_6, tn_7, tn_8, tn_10, tn_30, tn_31, tn_32, tn_36, tn_40, tn_50, tn_100, tn_126, tn_200, tn_255, tn_500, tn_512, tn_3000, tn_5000] at c2); split <;> rename_i hz <;> (try simp only [i32_lt, i32_le, i32_eq, inn_f, Decidable.not_not, tn_m1, tn_0, tn_1, tn_2, tn_3, tn_4, tn_5, tn_6, tn_7, tn_8, tn_10, tn_30, tn_31, tn_32, tn_36, tn_40, tn_50, tn_100, tn_126, tn_200, tn_255, tn_500, tn_512, tn_3000, tn_5000] at hz) <;> first | rfl | (exfalso; omega)), rfl, rfl⟩
set_option maxHeartbeats 4000000 in
set_option maxRecDepth 100000 in
theorem s6_isSign {l : Launch} {G : GT} {L : List Nat} {E : Nat → va_E} (x : Int32) : Mq l G yX6_isSign cX6_isSign 1 (some .boolean) 0 [.int x] L E 0 0 (fun v L2 E2 => v = some (.int (sgn x)) ∧ L2 = L ∧ E2 = E) := by
  refine Mq.mk (by decide) (Nat.le_of_ble_eq_true rfl) ?_
  intro p e s m args below meth c A C
  refine q_iload_n (j := 0) C dX6_isSign_0 rfl ?_
  refine q_bipush (v := 48) C dX6_isSign_1 (by decide) ?_
  refine q_icmp_lt (tgt := 36) C dX6_isSign_3 (by decide) (fun c1 => ?_) (fun c1 => ?_)
  · refine q_iconst (v := 1) C dX6_isSign_36 (by decide) ?_
    refine q_goto (tgt := 41) C dX6_isSign_37 (by decide) ?_
    exact q_zret C dX6_isSign_41 rfl (by decide) (Nat.le_of_ble_eq_true rfl) (Nat.le_of_ble_eq_true rfl) ⟨(by refine congrArg (fun z => some (Value.int z)) ?_; unfold sgn; (try simp only [i32_lt, i32_le, i32_eq, inn_f, Decidable.not_not, tn_m1, tn_0, tn_1, tn_2, tn_3, tn_4, tn_5, tn_6, tn_7, tn_8, tn_10, tn_30, tn_31, tn_32, tn_36, tn_40, tn_50, tn_100, tn_126, tn_200, tn_255, tn_500, tn_512, tn_3000, tn_5000] at c1); split <;> rename_i hz <;> (try simp only [i32_lt, i32_le, i32_eq, inn_f, Decidable.not_not, tn_m1, tn_0, tn_1, tn_2, tn_3, tn_4, tn_5, tn_6, tn_7, tn_8, tn_10, tn_30, tn_31, tn_32, tn_36, tn_40, tn_50, tn_100, tn_126, tn_200, tn_255, tn_500, tn_512, tn_3000, tn_5000] at hz) <;> first | rfl | (exfalso; omega)), rfl, rfl⟩
  · refine q_iload_n (j := 0) C dX6_isSign_6 rfl ?_
    refine q_bipush (v := 57) C dX6_isSign_7 (by decide) ?_
    refine q_icmp_le (tgt := 18) C dX6_isSign_9 (by decide) (fun c2 => ?_) (fun c2 => ?_)
    · refine q_iload_n (j := 0) C dX6_isSign_18 rfl ?_
      refine q_bipush (v := 90) C dX6_isSign_19 (by decide) ?_
      refine q_icmp_le (tgt := 30) C dX6_isSign_21 (by decide) (fun c3 => ?_) (fun c3 => ?_)
      · refine q_iload_n (j := 0) C dX6_isSign_30 rfl ?_
        refine q_bipush (v := 122) C dX6_isSign_31 (by decide) ?_
        refine q_icmp_le (tgt := 40) C dX6_isSign_33 (by decide) (fun c4 => ?_) (fun c4 => ?_)
        · refine q_iconst (v := 0) C dX6_isSign_40 (by decide) ?_
          exact q_zret C dX6_isSign_41 rfl (by decide) (Nat.le_of_ble_eq_true rfl) (Nat.le_of_ble_eq_true rfl) ⟨(by refine congrArg (fun z => some (Value.int z)) ?_; unfold sgn; (try simp only [i32_lt, i32_le, i32_eq, inn_f, Decidable.not_not, tn_m1, tn_0, tn_1, tn_2, tn_3, tn_4, tn_5, tn_6, tn_7, tn_8, tn_10, tn_30, tn_31, tn_32, tn_36, tn_40, tn_50, tn_100, tn_126, tn_200, tn_255, tn_500, tn_512, tn_3000, tn_5000] at c1); (try simp only [i32_lt, i32_le, i32_eq, inn_f, Decidable.not_not, tn_m1, tn_0, tn_1, tn_2, tn_3, tn_4, tn_5, tn_6, tn_7, tn_8, tn_10, tn_30, tn_31, tn_32, tn_36, tn_40, tn_50, tn_100, tn_126, tn_200, tn_255, tn_500, tn_512, tn_3000, tn_5000] at c2); (try simp only [i32_lt, i32_le, i32_eq, inn_f, Decidable.not_not, tn_m1, tn_0, tn_1, tn_2, tn_3, tn_4, tn_5, tn_6, tn_7, tn_8, tn_10, tn_30, tn_31, tn_32, tn_36, tn_40, tn_50, tn_100, tn_126, tn_200, tn_255, tn_500, tn_512, tn_3000, tn_5000] at c3); (try simp only [i32_lt, i32_le, i32_eq, inn_f, Decidable.not_not, tn_m1, tn_0, tn_1, tn_2, tn_3, tn_4, tn_5, tn_6, tn_7, tn_8, tn_10, tn_30, tn_31, tn_32, tn_36, tn_40, tn_50, tn_100, tn_126, tn_200, tn_255, tn_500, tn_512, tn_3000, tn_5000] at c4); split <;> rename_i hz <;> (try simp only [i32_lt, i32_le, i32_eq, inn_f, Decidable.not_not, tn_m1, tn_0, tn_1, tn_2, tn_3, tn_4, tn_5, tn_6, tn_7, tn_8, tn_10, tn_30, tn_31, tn_32, tn_36, tn_40, tn_50, tn_100, tn_126, tn_200, tn_255, tn_500, tn_512, tn_3000, tn_5000] at hz) <;> first | rfl | (exfalso; omega)), rfl, rfl⟩
        · refine q_iconst (v := 1) C dX6_isSign_36 (by decide) ?_
          refine q_goto (tgt := 41) C dX6_isSign_37 (by decide) ?_
          exact q_zret C dX6_isSign_41 rfl (by decide) (Nat.le_of_ble_eq_true rfl) (Nat.le_of_ble_eq_true rfl) ⟨(by refine congrArg (fun z => some (Value.int z)) ?_; unfold sgn; (try simp only [i32_lt, i32_le, i32_eq, inn_f, Decidable.not_not, tn_m1, tn_0, tn_1, tn_2, tn_3, tn_4, tn_5, tn_6, tn_7, tn_8, tn_10, tn_30, tn_31, tn_32, tn_36, tn_40, tn_50, tn_100, tn_126, tn_200, tn_255, tn_500, tn_512, tn_3000, tn_5000] at c1); (try simp only [i32_lt, i32_le, i32_eq, inn_f, Decidable.not_not, tn_m1, tn_0, tn_1, tn_2, tn_3, tn_4, tn_5, tn_6, tn_7, tn_8, tn_10, tn_30, tn_31, tn_32, tn_36, tn_40, tn_50, tn_100, tn_126, tn_200, tn_255, tn_500, tn_512, tn_3000, tn_5000] at c2); (try simp only [i32_lt, i32_le, i32_eq, inn_f, Decidable.not_not, tn_m1, tn_0, tn_1, tn_2, tn_3, tn_4, tn_5, tn_6, tn_7, tn_8, tn_10, tn_30, tn_31, tn_32, tn_36, tn_40, tn_50, tn_100, tn_126, tn_200, tn_255, tn_500, tn_512, tn_3000, tn_5000] at c3); (try simp only [i32_lt, i32_le, i32_eq, inn_f, Decidable.not_not, tn_m1, tn_0, tn_1, tn_2, tn_3, tn_4, tn_5, tn_6, tn_7, tn_8, tn_10, tn_30, tn_31, tn_32, tn_36, tn_40, tn_50, tn_100, tn_126, tn_200, tn_255, tn_500, tn_512, tn_3000, tn_5000] at c4); split <;> rename_i hz <;> (try simp only [i32_lt, i32_le, i32_eq, inn_f, Decidable.not_not, tn_m1, tn_0, tn_1, tn_2, tn_3, tn_4, tn_5, tn_6, tn_7, tn_8, tn_10, tn_30, tn_31, tn_32, tn_36, tn_40, tn_50, tn_100, tn_126, tn_200, tn_255, tn_500, tn_512, tn_3000, tn_5000] at hz) <;> first | rfl | (exfalso; omega)), rfl, rfl⟩
      · refine q_iload_n (j := 0) C dX6_isSign_24 rfl ?_
        refine q_bipush (v := 97) C dX6_isSign_25 (by decide) ?_
        refine q_icmp_lt (tgt := 36) C dX6_isSign_27 (by decide) (fun c5 => ?_) (fun c5 => ?_)
        · refine q_iconst (v := 1) C dX6_isSign_36 (by decide) ?_
          refine q_goto (tgt := 41) C dX6_isSign_37 (by decide) ?_
          exact q_zret C dX6_isSign_41 rfl (by decide) (Nat.le_of_ble_eq_true rfl) (Nat.le_of_ble_eq_true rfl) ⟨(by refine congrArg (fun z => some (Value.int z)) ?_; unfold sgn; (try simp only [i32_lt, i32_le, i32_eq, inn_f, Decidable.not_not, tn_m1, tn_0, tn_1, tn_2, tn_3, tn_4, tn_5, tn_6, tn_7, tn_8, tn_10, tn_30, tn_31, tn_32, tn_36, tn_40, tn_50, tn_100, tn_126, tn_200, tn_255, tn_500, tn_512, tn_3000, tn_5000] at c1); (try simp only [i32_lt, i32_le, i32_eq, inn_f, Decidable.not_not, tn_m1, tn_0, tn_1, tn_2, tn_3, tn_4, tn_5, tn_6, tn_7, tn_8, tn_10, tn_30, tn_31, tn_32, tn_36, tn_40, tn_50, tn_100, tn_126, tn_200, tn_255, tn_500, tn_512, tn_3000, tn_5000] at c2); (try simp only [i32_lt, i32_le, i32_eq, inn_f, Decidable.not_not, tn_m1, tn_0, tn_1, tn_2, tn_3, tn_4, tn_5, tn_6, tn_7, tn_8, tn_10, tn_30, tn_31, tn_32, tn_36, tn_40, tn_50, tn_100, tn_126, tn_200, tn_255, tn_500, tn_512, tn_3000, tn_5000] at c3); (try simp only [i32_lt, i32_le, i32_eq, inn_f, Decidable.not_not, tn_m1, tn_0, tn_1, tn_2, tn_3, tn_4, tn_5, tn_6, tn_7, tn_8, tn_10, tn_30, tn_31, tn_32, tn_36, tn_40, tn_50, tn_100, tn_126, tn_200, tn_255, tn_500, tn_512, tn_3000, tn_5000] at c5); split <;> rename_i hz <;> (try simp only [i32_lt, i32_le, i32_eq, inn_f, Decidable.not_not, tn_m1, tn_0, tn_1, tn_2, tn_3, tn_4, tn_5, tn_6, tn_7, tn_8, tn_10, tn_30, tn_31, tn_32, tn_36, tn_40, tn_50, tn_100, tn_126, tn_200, tn_255, tn_500, tn_512, tn_3000, tn_5000] at hz) <;> first | rfl | (exfalso; omega)), rfl, rfl⟩
        · refine q_iload_n (j := 0) C dX6_isSign_30 rfl ?_
          refine q_bipush (v := 122) C dX6_isSign_31 (by decide) ?_
          refine q_icmp_le (tgt := 40) C dX6_isSign_33 (by decide) (fun c6 => ?_) (fun c6 => ?_)
          · refine q_iconst (v := 0) C dX6_isSign_40 (by decide) ?_
            exact q_zret C dX6_isSign_41 rfl (by decide) (Nat.le_of_ble_eq_true rfl) (Nat.le_of_ble_eq_true rfl) ⟨(by refine congrArg (fun z => some (Value.int z)) ?_; unfold sgn; (try simp only [i32_lt, i32_le, i32_eq, inn_f, Decidable.not_not, tn_m1, tn_0, tn_1, tn_2, tn_3, tn_4, tn_5, tn_6, tn_7, tn_8, tn_10, tn_30, tn_31, tn_32, tn_36, tn_40, tn_50, tn_100, tn_126, tn_200, tn_255, tn_500, tn_512, tn_3000, tn_5000] at c1); (try simp only [i32_lt, i32_le, i32_eq, inn_f, Decidable.not_not, tn_m1, tn_0, tn_1, tn_2, tn_3, tn_4, tn_5, tn_6, tn_7, tn_8, tn_10, tn_30, tn_31, tn_32, tn_36, tn_40, tn_50, tn_100, tn_126, tn_200, tn_255, tn_500, tn_512, tn_3000, tn_5000] at c2); (try simp only [i32_lt, i32_le, i32_eq, inn_f, Decidable.not_not, tn_m1, tn_0, tn_1, tn_2, tn_3, tn_4, tn_5, tn_6, tn_7, tn_8, tn_10, tn_30, tn_31, tn_32, tn_36, tn_40, tn_50, tn_100, tn_126, tn_200, tn_255, tn_500, tn_512, tn_3000, tn_5000] at c3); (try simp only [i32_lt, i32_le, i32_eq, inn_f, Decidable.not_not, tn_m1, tn_0, tn_1, tn_2, tn_3, tn_4, tn_5, tn_6, tn_7, tn_8, tn_10, tn_30, tn_31, tn_32, tn_36, tn_40, tn_50, tn_100, tn_126, tn_200, tn_255, tn_500, tn_512, tn_3000, tn_5000] at c5); (try simp only [i32_lt, i32_le, i32_eq, inn_f, Decidable.not_not, tn_m1, tn_0, tn_1, tn_2, tn_3, tn_4, tn_5, tn_6, tn_7, tn_8, tn_10, tn_30, tn_31, tn_32, tn_36, tn_40, tn_50, tn_100, tn_126, tn_200, tn_255, tn_500, tn_512, tn_3000, tn_5000] at c6); split <;> rename_i hz <;> (try simp only [i32_lt, i32_le, i32_eq, inn_f, Decidable.not_not, tn_m1, tn_0, tn_1, tn_2, tn_3, tn_4, tn_5, tn_6, tn_7, tn_8, tn_10, tn_30, tn_31, tn_32, tn_36, tn_40, tn_50, tn_100, tn_126, tn_200, tn_255, tn_500, tn_512, tn_3000, tn_5000] at hz) <;> first | rfl | (exfalso; omega)), rfl, rfl⟩
          · refine q_iconst (v := 1) C dX6_isSign_36 (by decide) ?_
            refine q_goto (tgt := 41) C dX6_isSign_37 (by decide) ?_
            exact q_zret C dX6_isSign_41 rfl (by decide) (Nat.le_of_ble_eq_true rfl) (Nat.le_of_ble_eq_true rfl) ⟨(by refine congrArg (fun z => some (Value.int z)) ?_; unfold sgn; (try simp only [i32_lt, i32_le, i32_eq, inn_f, Decidable.not_not, tn_m1, tn_0, tn_1, tn_2, tn_3, tn_4, tn_5, tn_6, tn_7, tn_8, tn_10, tn_30, tn_31, tn_32, tn_36, tn_40, tn_50, tn_100, tn_126, tn_200, tn_255, tn_500, tn_512, tn_3000, tn_5000] at c1); (try simp only [i32_lt, i32_le, i32_eq, inn_f, Decidable.not_not, tn_m1, tn_0, tn_1, tn_2, tn_3, tn_4, tn_5, tn_6, tn_7, tn_8, tn_10, tn_30, tn_31, tn_32, tn_36, tn_40, tn_50, tn_100, tn_126, tn_200, tn_255, tn_500, tn_512, tn_3000, tn_5000] at c2); (try simp only [i32_lt, i32_le, i32_eq, inn_f, Decidable.not_not, tn_m1, tn_0, tn_1, tn_2, tn_3, tn_4, tn_5, tn_6, tn_7, tn_8, tn_10, tn_30, tn_31, tn_32, tn_36, tn_40, tn_50, tn_100, tn_126, tn_200, tn_255, tn_500, tn_512, tn_3000, tn_5000] at c3); (try simp only [i32_lt, i32_le, i32_eq, inn_f, Decidable.not_not, tn_m1, tn_0, tn_1, tn_2, tn_3, tn_4, tn_5, tn_6, tn_7, tn_8, tn_10, tn_30, tn_31, tn_32, tn_36, tn_40, tn_50, tn_100, tn_126, tn_200, tn_255, tn_500, tn_512, tn_3000, tn_5000] at c5); (try simp only [i32_lt, i32_le, i32_eq, inn_f, Decidable.not_not, tn_m1, tn_0, tn_1, tn_2, tn_3, tn_4, tn_5, tn_6, tn_7, tn_8, tn_10, tn_30, tn_31, tn_32, tn_36, tn_40, tn_50, tn_100, tn_126, tn_200, tn_255, tn_500, tn_512, tn_3000, tn_5000] at c6); split <;> rename_i hz <;> (try simp only [i32_lt, i32_le, i32_eq, inn_f, Decidable.not_not, tn_m1, tn_0, tn_1, tn_2, tn_3, tn_4, tn_5, tn_6, tn_7, tn_8, tn_10, tn_30, tn_31, tn_32, tn_36, tn_40, tn_50, tn_100, tn_126, tn_200, tn_255, tn_500, tn_512, tn_3000, tn_5000] at hz) <;> first | rfl | (exfalso; omega)), rfl, rfl⟩
    · refine q_iload_n (j := 0) C dX6_isSign_12 rfl ?_
      refine q_bipush (v := 65) C dX6_isSign_13 (by decide) ?_
      refine q_icmp_lt (tgt := 36) C dX6_isSign_15 (by decide) (fun c7 => ?_) (fun c7 => ?_)
      · refine q_iconst (v := 1) C dX6_isSign_36 (by decide) ?_
        refine q_goto (tgt := 41) C dX6_isSign_37 (by decide) ?_
        exact q_zret C dX6_isSign_41 rfl (by decide) (Nat.le_of_ble_eq_true rfl) (Nat.le_of_ble_eq_true rfl) ⟨(by refine congrArg (fun z => some (Value.int z)) ?_; unfold sgn; (try simp only [i32_lt, i32_le, i32_eq, inn_f, Decidable.not_not, tn_m1, tn_0, tn_1, tn_2, tn_3, tn_4, tn_5, tn_6, tn_7, tn_8, tn_10, tn_30, tn_31, tn_32, tn_36, tn_40, tn_50, tn_100, tn_126, tn_200, tn_255, tn_500, tn_512, tn_3000, tn_5000] at c1); (try simp only [i32_lt, i32_le, i32_eq, inn_f, Decidable.not_not, tn_m1, tn_0, tn_1, tn_2, tn_3, tn_4, tn_5, tn_6, tn_7, tn_8, tn_10, tn_30, tn_31, tn_32, tn_36, tn_40, tn_50, tn_100, tn_126, tn_200, tn_255, tn_500, tn_512, tn_3000, tn_5000] at c2); (try simp only [i32_lt, i32_le, i32_eq, inn_f, Decidable.not_not, tn_m1, tn_0, tn_1, tn_2, tn_3, tn_4, tn_5, tn_6, tn_7, tn_8, tn_10, tn_30, tn_31, tn_32, tn_36, tn_40, tn_50, tn_100, tn_126, tn_200, tn_255, tn_500, tn_512, tn_3000, tn_5000] at c7); split <;> rename_i hz <;> (try simp only [i32_lt, i32_le, i32_eq, inn_f, Decidable.not_not, tn_m1, tn_0, tn_1, tn_2, tn_3, tn_4, tn_5, tn_6, tn_7, tn_8, tn_10, tn_30, tn_31, tn_32, tn_36, tn_40, tn_50, tn_100, tn_126, tn_200, tn_255, tn_500, tn_512, tn_3000, tn_5000] at hz) <;> first | rfl | (exfalso; omega)), rfl, rfl⟩
      · refine q_iload_n (j := 0) C dX6_isSign_18 rfl ?_
        refine q_bipush (v := 90) C dX6_isSign_19 (by decide) ?_
        refine q_icmp_le (tgt := 30) C dX6_isSign_21 (by decide) (fun c8 => ?_) (fun c8 => ?_)
        · refine q_iload_n (j := 0) C dX6_isSign_30 rfl ?_
          refine q_bipush (v := 122) C dX6_isSign_31 (by decide) ?_
          refine q_icmp_le (tgt := 40) C dX6_isSign_33 (by decide) (fun c9 => ?_) (fun c9 => ?_)
          · refine q_iconst (v := 0) C dX6_isSign_40 (by decide) ?_
            exact q_zret C dX6_isSign_41 rfl (by decide) (Nat.le_of_ble_eq_true rfl) (Nat.le_of_ble_eq_true rfl) ⟨(by refine congrArg (fun z => some (Value.int z)) ?_; unfold sgn; (try simp only [i32_lt, i32_le, i32_eq, inn_f, Decidable.not_not, tn_m1, tn_0, tn_1, tn_2, tn_3, tn_4, tn_5, tn_6, tn_7, tn_8, tn_10, tn_30, tn_31, tn_32, tn_36, tn_40, tn_50, tn_100, tn_126, tn_200, tn_255, tn_500, tn_512, tn_3000, tn_5000] at c1); (try simp only [i32_lt, i32_le, i32_eq, inn_f, Decidable.not_not, tn_m1, tn_0, tn_1, tn_2, tn_3, tn_4, tn_5, tn_6, tn_7, tn_8, tn_10, tn_30, tn_31, tn_32, tn_36, tn_40, tn_50, tn_100, tn_126, tn_200, tn_255, tn_500, tn_512, tn_3000, tn_5000] at c2); (try simp only [i32_lt, i32_le, i32_eq, inn_f, Decidable.not_not, tn_m1, tn_0, tn_1, tn_2, tn_3, tn_4, tn_5, tn_6, tn_7, tn_8, tn_10, tn_30, tn_31, tn_32, tn_36, tn_40, tn_50, tn_100, tn_126, tn_200, tn_255, tn_500, tn_512, tn_3000, tn_5000] at c7); (try simp only [i32_lt, i32_le, i32_eq, inn_f, Decidable.not_not, tn_m1, tn_0, tn_1, tn_2, tn_3, tn_4, tn_5, tn_6, tn_7, tn_8, tn_10, tn_30, tn_31, tn_32, tn_36, tn_40, tn_50, tn_100, tn_126, tn_200, tn_255, tn_500, tn_512, tn_3000, tn_5000] at c8); (try simp only [i32_lt, i32_le, i32_eq, inn_f, Decidable.not_not, tn_m1, tn_0, tn_1, tn_2, tn_3, tn_4, tn_5, tn_6, tn_7, tn_8, tn_10, tn_30, tn_31, tn_32, tn_36, tn_40, tn_50, tn_100, tn_126, tn_200, tn_255, tn_500, tn_512, tn_3000, tn_5000] at c9); split <;> rename_i hz <;> (try simp only [i32_lt, i32_le, i32_eq, inn_f, Decidable.not_not, tn_m1, tn_0, tn_1, tn_2, tn_3, tn_4, tn_5, tn_6, tn_7, tn_8, tn_10, tn_30, tn_31, tn_32, tn_36, tn_40, tn_50, tn_100, tn_126, tn_200, tn_255, tn_500, tn_512, tn_3000, tn_5000] at hz) <;> first | rfl | (exfalso; omega)), rfl, rfl⟩
          · refine q_iconst (v := 1) C dX6_isSign_36 (by decide) ?_
            refine q_goto (tgt := 41) C dX6_isSign_37 (by decide) ?_
            exact q_zret C dX6_isSign_41 rfl (by decide) (Nat.le_of_ble_eq_true rfl) (Nat.le_of_ble_eq_true rfl) ⟨(by refine congrArg (fun z => some (Value.int z)) ?_; unfold sgn; (try simp only [i32_lt, i32_le, i32_eq, inn_f, Decidable.not_not, tn_m1, tn_0, tn_1, tn_2, tn_3, tn_4, tn_5, tn_6, tn_7, tn_8, tn_10, tn_30, tn_31, tn_32, tn_36, tn_40, tn_50, tn_100, tn_126, tn_200, tn_255, tn_500, tn_512, tn_3000, tn_5000] at c1); (try simp only [i32_lt, i32_le, i32_eq, inn_f, Decidable.not_not, tn_m1, tn_0, tn_1, tn_2, tn_3, tn_4, tn_5, tn_6, tn_7, tn_8, tn_10, tn_30, tn_31, tn_32, tn_36, tn_40, tn_50, tn_100, tn_126, tn_200, tn_255, tn_500, tn_512, tn_3000, tn_5000] at c2); (try simp only [i32_lt, i32_le, i32_eq, inn_f, Decidable.not_not, tn_m1, tn_0, tn_1, tn_2, tn_3, tn_4, tn_5, tn_6, tn_7, tn_8, tn_10, tn_30, tn_31, tn_32, tn_36, tn_40, tn_50, tn_100, tn_126, tn_200, tn_255, tn_500, tn_512, tn_3000, tn_5000] at c7); (try simp only [i32_lt, i32_le, i32_eq, inn_f, Decidable.not_not, tn_m1, tn_0, tn_1, tn_2, tn_3, tn_4, tn_5, tn_6, tn_7, tn_8, tn_10, tn_30, tn_31, tn_32, tn_36, tn_40, tn_50, tn_100, tn_126, tn_200, tn_255, tn_500, tn_512, tn_3000, tn_5000] at c8); (try simp only [i32_lt, i32_le, i32_eq, inn_f, Decidable.not_not, tn_m1, tn_0, tn_1, tn_2, tn_3, tn_4, tn_5, tn_6, tn_7, tn_8, tn_10, tn_30, tn_31, tn_32, tn_36, tn_40, tn_50, tn_100, tn_126, tn_200, tn_255, tn_500, tn_512, tn_3000, tn_5000] at c9); split <;> rename_i hz <;> (try simp only [i32_lt, i32_le, i32_eq, inn_f, Decidable.not_not, tn_m1, tn_0, tn_1, tn_2, tn_3, tn_4, tn_5, tn_6, tn_7, tn_8, tn_10, tn_30, tn_31, tn_32, tn_36, tn_40, tn_50, tn_100, tn_126, tn_200, tn_255, tn_500, tn_512, tn_3000, tn_5000] at hz) <;> first | rfl | (exfalso; omega)), rfl, rfl⟩
        · refine q_iload_n (j := 0) C dX6_isSign_24 rfl ?_
          refine q_bipush (v := 97) C dX6_isSign_25 (by decide) ?_
          refine q_icmp_lt (tgt := 36) C dX6_isSign_27 (by decide) (fun c10 => ?_) (fun c10 => ?_)
          · refine q_iconst (v := 1) C dX6_isSign_36 (by decide) ?_
            refine q_goto (tgt := 41) C dX6_isSign_37 (by decide) ?_
            exact q_zret C dX6_isSign_41 rfl (by decide) (Nat.le_of_ble_eq_true rfl) (Nat.le_of_ble_eq_true rfl) ⟨(by refine congrArg (fun z => some (Value.int z)) ?_; unfold sgn; (try simp only [i32_lt, i32_le, i32_eq, inn_f, Decidable.not_not, tn_m1, tn_0, tn_1, tn_2, tn_3, tn_4, tn_5, tn_6, tn_7, tn_8, tn_10, tn_30, tn_31, tn_32, tn_36, tn_40, tn_50, tn_100, tn_126, tn_200, tn_255, tn_500, tn_512, tn_3000, tn_5000] at c1); (try simp only [i32_lt, i32_le, i32_eq, inn_f, Decidable.not_not, tn_m1, tn_0, tn_1, tn_2, tn_3, tn_4, tn_5, tn_6, tn_7, tn_8, tn_10, tn_30, tn_31, tn_32, tn_36, tn_40, tn_50, tn_100, tn_126, tn_200, tn_255, tn_500, tn_512, tn_3000, tn_5000] at c10); (try simp only [i32_lt, i32_le, i32_eq, inn_f, Decidable.not_not, tn_m1, tn_0, tn_1, tn_2, tn_3, tn_4, tn_5, tn_6, tn_7, tn_8, tn_10, tn_30, tn_31, tn_32, tn_36, tn_40, tn_50, tn_100, tn_126, tn_200, tn_255, tn_500, tn_512, tn_3000, tn_5000] at c2); (try simp only [i32_lt, i32_le, i32_eq, inn_f, Decidable.not_not, tn_m1, tn_0, tn_1, tn_2, tn_3, tn_4, tn_5, tn_6, tn_7, tn_8, tn_10, tn_30, tn_31, tn_32, tn_36, tn_40, tn_50, tn_100, tn_126, tn_200, tn_255, tn_500, tn_512, tn_3000, tn_5000] at c7); (try simp only [i32_lt, i32_le, i32_eq, inn_f, Decidable.not_not, tn_m1, tn_0, tn_1, tn_2, tn_3, tn_4, tn_5, tn_6, tn_7, tn_8, tn_10, tn_30, tn_31, tn_32, tn_36, tn_40, tn_50, tn_100, tn_126, tn_200, tn_255, tn_500, tn_512, tn_3000, tn_5000] at c8); split <;> rename_i hz <;> (try simp only [i32_lt, i32_le, i32_eq, inn_f, Decidable.not_not, tn_m1, tn_0, tn_1, tn_2, tn_3, tn_4, tn_5, tn_6, tn_7, tn_8, tn_10, tn_30, tn_31, tn_32, tn_36, tn_40, tn_50, tn_100, tn_126, tn_200, tn_255, tn_500, tn_512, tn_3000, tn_5000] at hz) <;> first | rfl | (exfalso; omega)), rfl, rfl⟩
          · refine q_iload_n (j := 0) C dX6_isSign_30 rfl ?_
            refine q_bipush (v := 122) C dX6_isSign_31 (by decide) ?_
            refine q_icmp_le (tgt := 40) C dX6_isSign_33 (by decide) (fun c11 => ?_) (fun c11 => ?_)
            · refine q_iconst (v := 0) C dX6_isSign_40 (by decide) ?_
              exact q_zret C dX6_isSign_41 rfl (by decide) (Nat.le_of_ble_eq_true rfl) (Nat.le_of_ble_eq_true rfl) ⟨(by refine congrArg (fun z => some (Value.int z)) ?_; unfold sgn; (try simp only [i32_lt, i32_le, i32_eq, inn_f, Decidable.not_not, tn_m1, tn_0, tn_1, tn_2, tn_3, tn_4, tn_5, tn_6, tn_7, tn_8, tn_10, tn_30, tn_31, tn_32, tn_36, tn_40, tn_50, tn_100, tn_126, tn_200, tn_255, tn_500, tn_512, tn_3000, tn_5000] at c1); (try simp only [i32_lt, i32_le, i32_eq, inn_f, Decidable.not_not, tn_m1, tn_0, tn_1, tn_2, tn_3, tn_4, tn_5, tn_6, tn_7, tn_8, tn_10, tn_30, tn_31, tn_32, tn_36, tn_40, tn_50, tn_100, tn_126, tn_200, tn_255, tn_500, tn_512, tn_3000, tn_5000] at c10); (try simp only [i32_lt, i32_le, i32_eq, inn_f, Decidable.not_not, tn_m1, tn_0, tn_1, tn_2, tn_3, tn_4, tn_5, tn_6, tn_7, tn_8, tn_10, tn_30, tn_31, tn_32, tn_36, tn_40, tn_50, tn_100, tn_126, tn_200, tn_255, tn_500, tn_512, tn_3000, tn_5000] at c11); (try simp only [i32_lt, i32_le, i32_eq, inn_f, Decidable.not_not, tn_m1, tn_0, tn_1, tn_2, tn_3, tn_4, tn_5, tn_6, tn_7, tn_8, tn_10, tn_30, tn_31, tn_32, tn_36, tn_40, tn_50, tn_100, tn_126, tn_200, tn_255, tn_500, tn_512, tn_3000, tn_5000] at c2); (try simp only [i32_lt, i32_le, i32_eq, inn_f, Decidable.not_not, tn_m1, tn_0, tn_1, tn_2, tn_3, tn_4, tn_5, tn_6, tn_7, tn_8, tn_10, tn_30, tn_31, tn_32, tn_36, tn_40, tn_50, tn_100, tn_126, tn_200, tn_255, tn_500, tn_512, tn_3000, tn_5000] at c7); (try simp only [i32_lt, i32_le, i32_eq, inn_f, Decidable.not_not, tn_m1, tn_0, tn_1, tn_2, tn_3, tn_4, tn_5, tn_6, tn_7, tn_8, tn_10, tn_30, tn_31, tn_32, tn_36, tn_40, tn_50, tn_100, tn_126, tn_200, tn_255, tn_500, tn_512, tn_3000, tn_5000] at c8); split <;> rename_i hz <;> (try simp only [i32_lt, i32_le, i32_eq, inn_f, Decidable.not_not, tn_m1, tn_0, tn_1, tn_2, tn_3, tn_4, tn_5, tn_6, tn_7, tn_8, tn_10, tn_30, tn_31, tn_32, tn_36, tn_40, tn_50, tn_100, tn_126, tn_200, tn_255, tn_500, tn_512, tn_3000, tn_5000] at hz) <;> first | rfl | (exfalso; omega)), rfl, rfl⟩
            · refine q_iconst (v := 1) C dX6_isSign_36 (by decide) ?_
              refine q_goto (tgt := 41) C dX6_isSign_37 (by decide) ?_
              exact q_zret C dX6_isSign_41 rfl (by decide) (Nat.le_of_ble_eq_true rfl) (Nat.le_of_ble_eq_true rfl) ⟨(by refine congrArg (fun z => some (Value.int z)) ?_; unfold sgn; (try simp only [i32_lt, i32_le, i32_eq, inn_f, Decidable.not_not, tn_m1, tn_0, tn_1, tn_2, tn_3, tn_4, tn_5, tn_6, tn_7, tn_8, tn_10, tn_30, tn_31, tn_32, tn_36, tn_40, tn_50, tn_100, tn_126, tn_200, tn_255, tn_500, tn_512, tn_3000, tn_5000] at c1); (try simp only [i32_lt, i32_le, i32_eq, inn_f, Decidable.not_not, tn_m1, tn_0, tn_1, tn_2, tn_3, tn_4, tn_5, tn_6, tn_7, tn_8, tn_10, tn_30, tn_31, tn_32, tn_36, tn_40, tn_50, tn_100, tn_126, tn_200, tn_255, tn_500, tn_512, tn_3000, tn_5000] at c10); (try simp only [i32_lt, i32_le, i32_eq, inn_f, Decidable.not_not, tn_m1, tn_0, tn_1, tn_2, tn_3, tn_4, tn_5, tn_6, tn_7, tn_8, tn_10, tn_30, tn_31, tn_32, tn_36, tn_40, tn_50, tn_100, tn_126, tn_200, tn_255, tn_500, tn_512, tn_3000, tn_5000] at c11); (try simp only [i32_lt, i32_le, i32_eq, inn_f, Decidable.not_not, tn_m1, tn_0, tn_1, tn_2, tn_3, tn_4, tn_5, tn_6, tn_7, tn_8, tn_10, tn_30, tn_31, tn_32, tn_36, tn_40, tn_50, tn_100, tn_126, tn_200, tn_255, tn_500, tn_512, tn_3000, tn_5000] at c2); (try simp only [i32_lt, i32_le, i32_eq, inn_f, Decidable.not_not, tn_m1, tn_0, tn_1, tn_2, tn_3, tn_4, tn_5, tn_6, tn_7, tn_8, tn_10, tn_30, tn_31, tn_32, tn_36, tn_40, tn_50, tn_100, tn_126, tn_200, tn_255, tn_500, tn_512, tn_3000, tn_5000] at c7); (try simp only [i32_lt, i32_le, i32_eq, inn_f, Decidable.not_not, tn_m1, tn_0, tn_1, tn_2, tn_3, tn_4, tn_5, tn_6, tn_7, tn_8, tn_10, tn_30, tn_31, tn_32, tn_36, tn_40, tn_50, tn_100, tn_126, tn_200, tn_255, tn_500, tn_512, tn_3000, tn_5000] at c8); split <;> rename_i hz <;> (try simp only [i32_lt, i32_le, i32_eq, inn_f, Decidable.not_not, tn_m1, tn_0, tn_1, tn_2, tn_3, tn_4, tn_5, tn_6, tn_7, tn_8, tn_10, tn_30, tn_31, tn_32, tn_36, tn_40, tn_50, tn_100, tn_126, tn_200, tn_255, tn_500, tn_512, tn_3000, tn_5000] at hz) <;> first | rfl | (exfalso; omega)), rfl, rfl⟩
theorem c_lveq {p : Program} {l : Launch} {e : Env} {d0 r0 : Nat} {s : State} {m : MethodId} {args : Array Value} {below : List Frame} {meth : Method} {c : Code} {G : GT} {A : Nat → Prop} {nL : Nat} {Q : State → Prop} {Pf : PF} {ph : Nat} {L : List Nat} {cl ln : Nat → Nat} {iv : Nat → Nat → Int} {rv : Nat → Nat → Option Nat} {K pc : Nat} {lv lv2 : List (Nat × Value)} {st : List Value} (h : lv = lv2) (k : cw p l e d0 r0 s m args below meth c G A nL Q Pf ph L cl ln iv rv K pc lv2 st) : cw p l e d0 r0 s m args below meth c G A nL Q Pf ph L cl ln iv rv K pc lv st := by subst h; exact k
theorem nar2 {z : Int} (h : z = 0 ∨ z = 1) : narrow .boolean (.int (iI z)) = .int (iI z) ∧ fits .boolean (.int (iI z)) = true := by rcases h with rfl | rfl <;> exact ⟨by decide, by decide⟩
theorem WT.copy {g : Nat} {sk : Nat → Nat} {L : List Nat} {cl ln : Nat → Nat} {iv iv2 : Nat → Nat → Int} {rv : Nat → Nat → Option Nat} {a b T T2 : Nat} {P : Nat → Prop} {F : Nat → Nat} [DecidablePred P] (h : WT g sk L cl ln iv rv) (he : iv2 = fun w j => if w = b then (if P j then iv a (F j) else iv b j) else iv w j) (hb : ty L cl b T2) (ha : ty L cl a T) (h1 : ∀ k, ilo T k = -2147483648) (h2 : ∀ k, ihi T k = 2147483647) (h3 : ∀ k, ilo T2 k = -2147483648) (h4 : ∀ k, ihi T2 k = 2147483647) (hs : szd T2 = false) : WT g sk L cl ln iv2 rv := by
  subst he
  obtain ⟨q1, q2, q3, q4, q5, q6⟩ := id h
  have hk : ∀ w, szd (bt (cl w)) = true → (fun j => if w = b then (if P j then iv a (F j) else iv b j) else iv w j) = iv w := by
    intro w hw
    funext j
    rw [if_neg (fun e => by subst e; rw [hb.2, hs] at hw; cases hw)]
  refine ⟨fun w hw k => ?_, q2, q3, fun w hw hz => ?_, fun w hw hz => ?_, q6⟩
  · by_cases e : w = b
    · subst e
      show ilo _ k ≤ (if w = w then (if P k then iv a (F k) else iv w k) else iv w k) ∧ (if w = w then (if P k then iv a (F k) else iv w k) else iv w k) ≤ ihi _ k
      rw [if_pos rfl]
      by_cases hp : P k
      · rw [if_pos hp, hb.2, h3, h4]
        have q := h.int ha (F k)
        rw [h1, h2] at q; exact q
      · rw [if_neg hp]; exact q1 w hw k
    · show ilo _ k ≤ (if w = b then (if P k then iv a (F k) else iv b k) else iv w k) ∧ (if w = b then (if P k then iv a (F k) else iv b k) else iv w k) ≤ ihi _ k
      rw [if_neg e]; exact q1 w hw k
  · have e2 := congrFun (hk w hz) 2
    dsimp only at e2 ⊢
    rw [e2]; exact q4 w hw hz
  · have e2 := congrFun (hk w (lst_szd hz)) 2
    dsimp only at e2 ⊢
    rw [e2]; exact q5 w hw hz
theorem fT.copy {ls : List Nat} {L L2 : List Nat} {cl ln cl2 ln2 : Nat → Nat} {iv iv2 iv3 : Nat → Nat → Int} {rv rv2 : Nat → Nat → Option Nat} {b T : Nat} {X : Nat → Int} (h : fT ls L cl iv rv iv2 rv2) (hX : XT L cl ln L2 cl2 ln2) (he : iv3 = fun w j => if w = b then X j else iv2 w j) (hb : ty L2 cl2 b T) (hc : ls.contains T = true) : fT ls L cl iv rv iv3 rv2 := by
  intro w hw hq
  refine ⟨?_, (h w hw hq).2⟩
  rw [he]
  funext j
  dsimp only
  rw [if_neg (fun e => ?_)]
  · rw [(h w hw hq).1]
  · subst e; rw [← (hX w hw).2.1, hb.2, hc] at hq; cases hq
theorem narr (x : Option Nat) {t : FieldType} (h : (∃ n, t = .object n) ∨ ∃ u, t = .array u) : narrow t (va_rf x) = va_rf x ∧ fits t (va_rf x) = true := by
  rcases h with ⟨n, rfl⟩ | ⟨n, rfl⟩ <;> cases x <;> exact ⟨rfl, rfl⟩
theorem zp2 {K K2 : Nat} {ln ln2 : Nat → Nat} {rv rv2 : Nat → Nat → Option Nat} (h : K ≤ K2) : zPf ln rv + K ≤ zPf ln2 rv2 + K2 := by unfold zPf; omega
theorem rok_some {L : List Nat} {cl : Nat → Nat} {g a k b T T2 : Nat} (ha : ty L cl a T) (hb : ty L cl b T2) (ht : tgt T k = T2) (h1 : T ≠ 100) (h2 : lst T = false) : rok L cl g a k (some b) := by
  intro _
  refine ⟨fun q => (by cases q), fun c hc => ?_⟩
  cases hc
  refine Or.inl ⟨hb.1, by rw [hb.2, ha.2, ht], ?_, ?_⟩
  · intro q; rw [ha.2] at q; exact absurd q h1
  · intro q; rw [ha.2, h2] at q; cases q
end
section
def CT (iv : Nat → Nat → Int) (rv : Nat → Nat → Option Nat) (q : Nat) (ss : Nat → Int) : Prop := ∀ b, rv q 1 = some b → ∀ j : Nat, (j : Int) < iv q 2 → iv b j = ss j
section CTS
variable {g : Nat} {sk : Nat → Nat} {L : List Nat} {cl ln : Nat → Nat} {iv iv2 : Nat → Nat → Int} {rv rv2 : Nat → Nat → Option Nat} {q T : Nat} {ls : List Nat} {ss : Nat → Int}
theorem CT.zero (h : iv q 2 = 0) : CT iv rv q ss := fun _ _ j hj => absurd hj (by omega)
theorem CT.cut (h : CT iv rv q ss) (hW : WT g sk L cl ln iv rv) (tq : ty L cl q T) (hF : fT ls L cl iv rv iv2 rv2) (h2 : ls.contains (tgt T 1) = false) (hr : raw T = false) (hl : (lst T && 1 == 1) = false) (hn : nul T 1 = false) (hv : rv2 q 1 = rv q 1) (hs : iv2 q 2 ≤ iv q 2) : CT iv2 rv2 q ss := by
  obtain ⟨b, hb, tb⟩ := hW.ref tq 1 hr hl hn
  intro b2 hb2 j hj
  rw [hv, hb] at hb2
  cases hb2
  rw [hF.i tb h2 j]
  exact h b hb j (by omega)
theorem CT.fr (h : CT iv rv q ss) (hW : WT g sk L cl ln iv rv) (tq : ty L cl q T) (hF : fT ls L cl iv rv iv2 rv2) (h1 : ls.contains T = false) (h2 : ls.contains (tgt T 1) = false) (hr : raw T = false) (hl : (lst T && 1 == 1) = false) (hn : nul T 1 = false) : CT iv2 rv2 q ss :=
  h.cut hW tq hF h2 hr hl hn (hF.r tq h1 1) (by rw [hF.i tq h1 2]; omega)
theorem CT.frn (h : CT iv rv q ss) (hW : WT g sk L cl ln iv2 rv) (tq : ty L cl q T) (hF : fT ls L cl iv rv iv2 rv) (h1 : ls.contains T = false) (h2 : ls.contains (tgt T 1) = false) (hr : raw T = false) (hl : (lst T && 1 == 1) = false) (hn : nul T 1 = false) : CT iv2 rv q ss := by
  obtain ⟨b, hb, tb⟩ := hW.ref tq 1 hr hl hn
  intro b2 hb2 j hj
  rw [hb] at hb2
  cases hb2
  rw [hF.i tq h1 2] at hj
  rw [hF.i tb h2 j]
  exact h b hb j hj
def APD (iv : Nat → Nat → Int) (rv : Nat → Nat → Option Nat) (q r : Nat) (iv2 : Nat → Nat → Int) (rv2 : Nat → Nat → Option Nat) : Prop := ∀ ss tt, CT iv rv r ss → CT iv rv q tt → iv q 2 + iv r 2 ≤ 500 → CT iv2 rv2 q (apd tt (iv q 2).toNat ss)
theorem APD.zero {r : Nat} : APD iv rv q r iv rv := fun ss tt _ h2 _ b hb j hj => by
  rw [h2 b hb j hj]
  unfold apd
  rw [if_pos (by omega)]
theorem APD.step {r : Nat} {iv1 : Nat → Nat → Int} {rv1 : Nat → Nat → Option Nat} {x k : Int} (h : APD iv rv q r iv1 rv1) (g : ∀ ss, CT iv1 rv1 q ss → iv1 q 2 < 500 → CT iv2 rv2 q (va_up ss (iv1 q 2).toNat x)) (hm : iv1 q 2 = min (iv q 2 + k) 500) (hx : ∀ ss, CT iv rv r ss → x = ss k.toNat) (hk : 0 ≤ k ∧ k < iv r 2) (h0 : 0 ≤ iv q 2) : APD iv rv q r iv2 rv2 := fun ss tt h1 h2 h3 => by
  have w := g _ (h ss tt h1 h2 h3) (by omega)
  have e : va_up (apd tt (iv q 2).toNat ss) (iv1 q 2).toNat x = apd tt (iv q 2).toNat ss := by
    funext j
    unfold va_up
    split
    · rename_i e
      rw [e, hx ss h1]
      unfold apd
      rw [if_neg (by omega)]
      exact congrArg ss (by omega)
    · rfl
  rw [e] at w
  exact w
def byx (x : Int) (i : Nat) : Int := (((iI x).toUInt32 >>> ((iI (24 - 8 * (i : Int))).toUInt32 &&& Int32.toUInt32 31)).toInt32 &&& iI 255).toInt
def fdp (ss : Nat → Int) (n : Nat) (x : Int) : Nat → (Nat → Int)
  | 0 => ss
  | i + 1 => va_up (fdp ss n x i) (n + i) (byx x i)
def fd5 (ss : Nat → Int) (n : Nat) (x1 x2 x3 x4 x5 : Int) : Nat → Int := fdp (fdp (fdp (fdp (fdp ss n x1 4) (n + 4) x2 4) (n + 8) x3 4) (n + 12) x4 4) (n + 16) x5 4
theorem fdp_step {n i i2 m : Nat} {x z : Int} (hq : CT iv rv q (va_up (fdp ss n x i) m z)) (hi : i2 = i + 1) (hm : m = n + i) (hz : z = byx x i) : CT iv rv q (fdp ss n x i2) := by subst hi; subst hm; subst hz; exact hq
theorem byx_of {x k z1 z2 : Int} {i : Nat} (hk : k = 24 - 8 * (i : Int)) (e1 : ((iI x).toUInt32 >>> ((iI k).toUInt32 &&& Int32.toUInt32 31)).toInt32 = iI z1) (e2 : iI z1 &&& iI 255 = iI z2) (h2 : R32 z2) : z2 = byx x i := by
  subst hk; unfold byx; rw [e1, e2, iI_int h2]
end CTS
end
section
set_option maxHeartbeats 4000000 in
set_option maxRecDepth 100000 in
theorem C_at_2 {l : Launch} {G : GT} {mi : Nat} {sk : Nat → Nat} {L : List Nat} {cl ln : Nat → Nat} {iv : Nat → Nat → Int} {rv : Nat → Nat → Option Nat}  {a0 : Nat} {i : Int} (hW : WT (g0 G) sk L cl ln iv rv) (hS : SKL sk L cl) (t_a0 : ty L cl a0 2) (h_i : -2147483648 ≤ i ∧ i ≤ 2147483647)  : Mc l G mi (Phi (g0 G) sk) PHM yX1_at cX1_at 2 (some .int) 0 [.ref a0, .int (iI i)] L cl ln iv rv 0 (fun v L2 cl2 ln2 iv2 rv2 => ∃ f : Int, v = some (.int (iI f)) ∧ L = L2 ∧ cl = cl2 ∧ ln = ln2 ∧ iv = iv2 ∧ rv = rv2 ∧ (-2147483648 ≤ f ∧ f ≤ 2147483647) ∧ (((0 ≤ i ∧ i < iv a0 2) ∨ f = 0) ∧ ∀ ss, CT iv rv a0 ss → 0 ≤ i → i < iv a0 2 → f = ss i.toNat)) := by
  refine Mc.mk (by decide) (Nat.le_of_ble_eq_true rfl) ?_
  intro p e s m args below meth c A C hM
  refine hv3 (Phi.le hW hS) (show XT L cl ln L cl ln from XT.refl) (show fT [] L cl iv rv iv rv from fT.refl) (fun hph hX0 hF0 => ?_)
  refine c_iload_n (j := 1) C dX1_at_0 rfl ?_
  refine c_if_lt (tgt := 21) C ⟨by omega, by omega⟩ dX1_at_1 (by decide) (fun c1 => ?_) (fun c1 => ?_)
  · refine c_iconst C dX1_at_21 ?_
    exact c_iret C dX1_at_22 rfl (by decide) (rom0 hph hph (by decide)) ⟨0, rfl, rfl, rfl, rfl, rfl, rfl, ⟨by decide, by decide⟩, ⟨by omega, fun ss hs h1 h2 => absurd h2 (by omega)⟩⟩
  · refine c_iload_n (j := 1) C dX1_at_4 rfl ?_
    refine c_aload_n (j := 0) (x := a0) C dX1_at_5 rfl ?_
    have ri1 : 0 ≤ iv a0 2 ∧ iv a0 2 ≤ 3000 := hW.int t_a0 2
    refine c_get (k := 2) C ck_2 dX1_at_6 w1_43 (by decide) t_a0 rfl rfl (by decide) rfl ?_
    refine c_icmp_ge (tgt := 21) C ⟨by omega, by omega⟩ (r32_c (lo := 0) (hi := 3000) ri1.1 ri1.2 (by decide) (by decide)) dX1_at_9 (by decide) (fun c2 => ?_) (fun c2 => ?_)
    · refine c_iconst C dX1_at_21 ?_
      exact c_iret C dX1_at_22 rfl (by decide) (rom0 hph hph (by decide)) ⟨0, rfl, rfl, rfl, rfl, rfl, rfl, ⟨by decide, by decide⟩, ⟨by omega, fun ss hs h1 h2 => absurd h2 (by omega)⟩⟩
    · refine c_aload_n (j := 0) (x := a0) C dX1_at_12 rfl ?_
      obtain ⟨rb1, rq1, trb1⟩ := hW.ref t_a0 1 rfl rfl rfl
      refine hv2 (show 16 ≤ ln rb1 ∧ ln rb1 ≤ 6000 from hW.len trb1 rfl) (hW.isz t_a0 rfl rfl rq1) (fun lnrb1 szrb1 => ?_)
      refine c_getr (k := 1) C ck_2 dX1_at_13 w1_39 (by decide) t_a0 rfl rfl (by decide) rfl rq1 ?_
      refine c_st (st2 := [.ref rb1]) rfl ?_
      refine c_iload_n (j := 1) C dX1_at_16 rfl ?_
      have ll1 : 16 ≤ ln rb1 ∧ ln rb1 ≤ 6000 := hW.len trb1 rfl
      refine c_iald C dX1_at_17 trb1 rfl (by omega) (by omega) (by omega) ?_
      have ri2 : (-2147483648) ≤ iv rb1 i.toNat ∧ iv rb1 i.toNat ≤ 2147483647 := hW.int trb1 i.toNat
      refine c_goto (tgt := 22) C dX1_at_18 (by decide) ?_
      exact c_iret C dX1_at_22 rfl (by decide) (rom0 hph hph (by decide)) ⟨(iv rb1 i.toNat), rfl, rfl, rfl, rfl, rfl, rfl, ⟨by omega, by omega⟩, ⟨by omega, fun ss hs h1 h2 => hs rb1 rq1 i.toNat (by omega)⟩⟩
set_option maxHeartbeats 4000000 in
set_option maxRecDepth 100000 in
theorem C_clear_2 {l : Launch} {G : GT} {mi : Nat} {sk : Nat → Nat} {L : List Nat} {cl ln : Nat → Nat} {iv : Nat → Nat → Int} {rv : Nat → Nat → Option Nat}  {a0 : Nat} (hW : WT (g0 G) sk L cl ln iv rv) (hS : SKL sk L cl) (t_a0 : ty L cl a0 2)  : Mc l G mi (Phi (g0 G) sk) PHM yX1_clear cX1_clear 1 none 0 [.ref a0] L cl ln iv rv 0 (fun v L2 cl2 ln2 iv2 rv2 => v = none ∧ L = L2 ∧ cl = cl2 ∧ ln = ln2 ∧ rv = rv2 ∧ fT [2] L cl iv rv iv2 rv2 ∧ WT (g0 G) sk L2 cl2 ln2 iv2 rv2 ∧ (iv2 a0 2 = 0)) := by
  refine Mc.mk (by decide) (Nat.le_of_ble_eq_true rfl) ?_
  intro p e s m args below meth c A C hM
  refine hv3 (Phi.le hW hS) (show XT L cl ln L cl ln from XT.refl) (show fT [2] L cl iv rv iv rv from fT.refl) (fun hph hX0 hF0 => ?_)
  refine c_aload_n (j := 0) (x := a0) C dX1_clear_0 rfl ?_
  refine c_iconst C dX1_clear_1 ?_
  refine c_put (z := 0) (k := 2) C ck_2 dX1_clear_2 w1_43 (by decide) rfl t_a0 rfl rfl (by decide) rfl (by rfl) (by rfl) (fun iv1 pq1 => ?_)
  obtain ⟨rb1, rq1, trb1⟩ := hW.ref t_a0 1 rfl rfl rfl
  refine hv3 (hW.isz t_a0 rfl rfl rq1) (hF0.puti hX0 pq1 t_a0 rfl) (show iv1 a0 2 = 0 from by rw [pq1]; exact up2_s) (fun szrb1 F1 ie1 => ?_)
  have W1 := hW.isz_put pq1 t_a0 (show 0 ≤ 0 ∧ 0 ≤ 3000 by omega) rfl rfl rq1 (show 0 ≤ ((ln rb1 : Nat) : Int) by omega)
  have ri1 : 0 ≤ iv1 a0 2 ∧ iv1 a0 2 ≤ 3000 := W1.int t_a0 2
  exact c_vret C dX1_clear_5 rfl (by decide) (rom0 hph hph (by decide)) ⟨rfl, rfl, rfl, rfl, rfl, F1, W1, (by omega)⟩
set_option maxHeartbeats 4000000 in
set_option maxRecDepth 100000 in
theorem C_at_3 {l : Launch} {G : GT} {mi : Nat} {sk : Nat → Nat} {L : List Nat} {cl ln : Nat → Nat} {iv : Nat → Nat → Int} {rv : Nat → Nat → Option Nat}  {a0 : Nat} {i : Int} (hW : WT (g0 G) sk L cl ln iv rv) (hS : SKL sk L cl) (t_a0 : ty L cl a0 3) (h_i : -2147483648 ≤ i ∧ i ≤ 2147483647)  : Mc l G mi (Phi (g0 G) sk) PHM yX1_at cX1_at 2 (some .int) 0 [.ref a0, .int (iI i)] L cl ln iv rv 0 (fun v L2 cl2 ln2 iv2 rv2 => ∃ f : Int, v = some (.int (iI f)) ∧ L = L2 ∧ cl = cl2 ∧ ln = ln2 ∧ iv = iv2 ∧ rv = rv2 ∧ (-2147483648 ≤ f ∧ f ≤ 2147483647) ∧ (((0 ≤ i ∧ i < iv a0 2) ∨ f = 0) ∧ ∀ ss, CT iv rv a0 ss → 0 ≤ i → i < iv a0 2 → f = ss i.toNat)) := by
  refine Mc.mk (by decide) (Nat.le_of_ble_eq_true rfl) ?_
  intro p e s m args below meth c A C hM
  refine hv3 (Phi.le hW hS) (show XT L cl ln L cl ln from XT.refl) (show fT [] L cl iv rv iv rv from fT.refl) (fun hph hX0 hF0 => ?_)
  refine c_iload_n (j := 1) C dX1_at_0 rfl ?_
  refine c_if_lt (tgt := 21) C ⟨by omega, by omega⟩ dX1_at_1 (by decide) (fun c1 => ?_) (fun c1 => ?_)
  · refine c_iconst C dX1_at_21 ?_
    exact c_iret C dX1_at_22 rfl (by decide) (rom0 hph hph (by decide)) ⟨0, rfl, rfl, rfl, rfl, rfl, rfl, ⟨by decide, by decide⟩, ⟨by omega, fun ss hs h1 h2 => absurd h2 (by omega)⟩⟩
  · refine c_iload_n (j := 1) C dX1_at_4 rfl ?_
    refine c_aload_n (j := 0) (x := a0) C dX1_at_5 rfl ?_
    have ri1 : 0 ≤ iv a0 2 ∧ iv a0 2 ≤ 500 := hW.int t_a0 2
    refine c_get (k := 2) C ck_2 dX1_at_6 w1_43 (by decide) t_a0 rfl rfl (by decide) rfl ?_
    refine c_icmp_ge (tgt := 21) C ⟨by omega, by omega⟩ (r32_c (lo := 0) (hi := 500) ri1.1 ri1.2 (by decide) (by decide)) dX1_at_9 (by decide) (fun c2 => ?_) (fun c2 => ?_)
    · refine c_iconst C dX1_at_21 ?_
      exact c_iret C dX1_at_22 rfl (by decide) (rom0 hph hph (by decide)) ⟨0, rfl, rfl, rfl, rfl, rfl, rfl, ⟨by decide, by decide⟩, ⟨by omega, fun ss hs h1 h2 => absurd h2 (by omega)⟩⟩
    · refine c_aload_n (j := 0) (x := a0) C dX1_at_12 rfl ?_
      obtain ⟨rb1, rq1, trb1⟩ := hW.ref t_a0 1 rfl rfl rfl
      refine hv2 (show 16 ≤ ln rb1 ∧ ln rb1 ≤ 1000 from hW.len trb1 rfl) (hW.isz t_a0 rfl rfl rq1) (fun lnrb1 szrb1 => ?_)
      refine c_getr (k := 1) C ck_2 dX1_at_13 w1_39 (by decide) t_a0 rfl rfl (by decide) rfl rq1 ?_
      refine c_st (st2 := [.ref rb1]) rfl ?_
      refine c_iload_n (j := 1) C dX1_at_16 rfl ?_
      have ll1 : 16 ≤ ln rb1 ∧ ln rb1 ≤ 1000 := hW.len trb1 rfl
      refine c_iald C dX1_at_17 trb1 rfl (by omega) (by omega) (by omega) ?_
      have ri2 : (-2147483648) ≤ iv rb1 i.toNat ∧ iv rb1 i.toNat ≤ 2147483647 := hW.int trb1 i.toNat
      refine c_goto (tgt := 22) C dX1_at_18 (by decide) ?_
      exact c_iret C dX1_at_22 rfl (by decide) (rom0 hph hph (by decide)) ⟨(iv rb1 i.toNat), rfl, rfl, rfl, rfl, rfl, rfl, ⟨by omega, by omega⟩, ⟨by omega, fun ss hs h1 h2 => hs rb1 rq1 i.toNat (by omega)⟩⟩
set_option maxHeartbeats 4000000 in
set_option maxRecDepth 100000 in
theorem C_clear_3 {l : Launch} {G : GT} {mi : Nat} {sk : Nat → Nat} {L : List Nat} {cl ln : Nat → Nat} {iv : Nat → Nat → Int} {rv : Nat → Nat → Option Nat}  {a0 : Nat} (hW : WT (g0 G) sk L cl ln iv rv) (hS : SKL sk L cl) (t_a0 : ty L cl a0 3)  : Mc l G mi (Phi (g0 G) sk) PHM yX1_clear cX1_clear 1 none 0 [.ref a0] L cl ln iv rv 0 (fun v L2 cl2 ln2 iv2 rv2 => v = none ∧ L = L2 ∧ cl = cl2 ∧ ln = ln2 ∧ rv = rv2 ∧ fT [3] L cl iv rv iv2 rv2 ∧ WT (g0 G) sk L2 cl2 ln2 iv2 rv2 ∧ (iv2 a0 2 = 0)) := by
  refine Mc.mk (by decide) (Nat.le_of_ble_eq_true rfl) ?_
  intro p e s m args below meth c A C hM
  refine hv3 (Phi.le hW hS) (show XT L cl ln L cl ln from XT.refl) (show fT [3] L cl iv rv iv rv from fT.refl) (fun hph hX0 hF0 => ?_)
  refine c_aload_n (j := 0) (x := a0) C dX1_clear_0 rfl ?_
  refine c_iconst C dX1_clear_1 ?_
  refine c_put (z := 0) (k := 2) C ck_2 dX1_clear_2 w1_43 (by decide) rfl t_a0 rfl rfl (by decide) rfl (by rfl) (by rfl) (fun iv1 pq1 => ?_)
  obtain ⟨rb1, rq1, trb1⟩ := hW.ref t_a0 1 rfl rfl rfl
  refine hv3 (hW.isz t_a0 rfl rfl rq1) (hF0.puti hX0 pq1 t_a0 rfl) (show iv1 a0 2 = 0 from by rw [pq1]; exact up2_s) (fun szrb1 F1 ie1 => ?_)
  have W1 := hW.isz_put pq1 t_a0 (show 0 ≤ 0 ∧ 0 ≤ 500 by omega) rfl rfl rq1 (show 0 ≤ ((ln rb1 : Nat) : Int) by omega)
  have ri1 : 0 ≤ iv1 a0 2 ∧ iv1 a0 2 ≤ 500 := W1.int t_a0 2
  exact c_vret C dX1_clear_5 rfl (by decide) (rom0 hph hph (by decide)) ⟨rfl, rfl, rfl, rfl, rfl, F1, W1, (by omega)⟩
set_option maxHeartbeats 4000000 in
set_option maxRecDepth 100000 in
theorem C_at_4 {l : Launch} {G : GT} {mi : Nat} {sk : Nat → Nat} {L : List Nat} {cl ln : Nat → Nat} {iv : Nat → Nat → Int} {rv : Nat → Nat → Option Nat}  {a0 : Nat} {i : Int} (hW : WT (g0 G) sk L cl ln iv rv) (hS : SKL sk L cl) (t_a0 : ty L cl a0 4) (h_i : -2147483648 ≤ i ∧ i ≤ 2147483647)  : Mc l G mi (Phi (g0 G) sk) PHM yX1_at cX1_at 2 (some .int) 0 [.ref a0, .int (iI i)] L cl ln iv rv 0 (fun v L2 cl2 ln2 iv2 rv2 => ∃ f : Int, v = some (.int (iI f)) ∧ L = L2 ∧ cl = cl2 ∧ ln = ln2 ∧ iv = iv2 ∧ rv = rv2 ∧ (-2147483648 ≤ f ∧ f ≤ 2147483647) ∧ (((0 ≤ i ∧ i < iv a0 2) ∨ f = 0) ∧ ∀ ss, CT iv rv a0 ss → 0 ≤ i → i < iv a0 2 → f = ss i.toNat)) := by
  refine Mc.mk (by decide) (Nat.le_of_ble_eq_true rfl) ?_
  intro p e s m args below meth c A C hM
  refine hv3 (Phi.le hW hS) (show XT L cl ln L cl ln from XT.refl) (show fT [] L cl iv rv iv rv from fT.refl) (fun hph hX0 hF0 => ?_)
  refine c_iload_n (j := 1) C dX1_at_0 rfl ?_
  refine c_if_lt (tgt := 21) C ⟨by omega, by omega⟩ dX1_at_1 (by decide) (fun c1 => ?_) (fun c1 => ?_)
  · refine c_iconst C dX1_at_21 ?_
    exact c_iret C dX1_at_22 rfl (by decide) (rom0 hph hph (by decide)) ⟨0, rfl, rfl, rfl, rfl, rfl, rfl, ⟨by decide, by decide⟩, ⟨by omega, fun ss hs h1 h2 => absurd h2 (by omega)⟩⟩
  · refine c_iload_n (j := 1) C dX1_at_4 rfl ?_
    refine c_aload_n (j := 0) (x := a0) C dX1_at_5 rfl ?_
    have ri1 : 0 ≤ iv a0 2 ∧ iv a0 2 ≤ 4000 := hW.int t_a0 2
    refine c_get (k := 2) C ck_2 dX1_at_6 w1_43 (by decide) t_a0 rfl rfl (by decide) rfl ?_
    refine c_icmp_ge (tgt := 21) C ⟨by omega, by omega⟩ (r32_c (lo := 0) (hi := 4000) ri1.1 ri1.2 (by decide) (by decide)) dX1_at_9 (by decide) (fun c2 => ?_) (fun c2 => ?_)
    · refine c_iconst C dX1_at_21 ?_
      exact c_iret C dX1_at_22 rfl (by decide) (rom0 hph hph (by decide)) ⟨0, rfl, rfl, rfl, rfl, rfl, rfl, ⟨by decide, by decide⟩, ⟨by omega, fun ss hs h1 h2 => absurd h2 (by omega)⟩⟩
    · refine c_aload_n (j := 0) (x := a0) C dX1_at_12 rfl ?_
      obtain ⟨rb1, rq1, trb1⟩ := hW.ref t_a0 1 rfl rfl rfl
      refine hv2 (show 16 ≤ ln rb1 ∧ ln rb1 ≤ 8000 from hW.len trb1 rfl) (hW.isz t_a0 rfl rfl rq1) (fun lnrb1 szrb1 => ?_)
      refine c_getr (k := 1) C ck_2 dX1_at_13 w1_39 (by decide) t_a0 rfl rfl (by decide) rfl rq1 ?_
      refine c_st (st2 := [.ref rb1]) rfl ?_
      refine c_iload_n (j := 1) C dX1_at_16 rfl ?_
      have ll1 : 16 ≤ ln rb1 ∧ ln rb1 ≤ 8000 := hW.len trb1 rfl
      refine c_iald C dX1_at_17 trb1 rfl (by omega) (by omega) (by omega) ?_
      have ri2 : (-2147483648) ≤ iv rb1 i.toNat ∧ iv rb1 i.toNat ≤ 2147483647 := hW.int trb1 i.toNat
      refine c_goto (tgt := 22) C dX1_at_18 (by decide) ?_
      exact c_iret C dX1_at_22 rfl (by decide) (rom0 hph hph (by decide)) ⟨(iv rb1 i.toNat), rfl, rfl, rfl, rfl, rfl, rfl, ⟨by omega, by omega⟩, ⟨by omega, fun ss hs h1 h2 => hs rb1 rq1 i.toNat (by omega)⟩⟩
set_option maxHeartbeats 4000000 in
set_option maxRecDepth 100000 in
theorem C_clear_4 {l : Launch} {G : GT} {mi : Nat} {sk : Nat → Nat} {L : List Nat} {cl ln : Nat → Nat} {iv : Nat → Nat → Int} {rv : Nat → Nat → Option Nat}  {a0 : Nat} (hW : WT (g0 G) sk L cl ln iv rv) (hS : SKL sk L cl) (t_a0 : ty L cl a0 4)  : Mc l G mi (Phi (g0 G) sk) PHM yX1_clear cX1_clear 1 none 0 [.ref a0] L cl ln iv rv 0 (fun v L2 cl2 ln2 iv2 rv2 => v = none ∧ L = L2 ∧ cl = cl2 ∧ ln = ln2 ∧ rv = rv2 ∧ fT [4] L cl iv rv iv2 rv2 ∧ WT (g0 G) sk L2 cl2 ln2 iv2 rv2 ∧ (iv2 a0 2 = 0)) := by
  refine Mc.mk (by decide) (Nat.le_of_ble_eq_true rfl) ?_
  intro p e s m args below meth c A C hM
  refine hv3 (Phi.le hW hS) (show XT L cl ln L cl ln from XT.refl) (show fT [4] L cl iv rv iv rv from fT.refl) (fun hph hX0 hF0 => ?_)
  refine c_aload_n (j := 0) (x := a0) C dX1_clear_0 rfl ?_
  refine c_iconst C dX1_clear_1 ?_
  refine c_put (z := 0) (k := 2) C ck_2 dX1_clear_2 w1_43 (by decide) rfl t_a0 rfl rfl (by decide) rfl (by rfl) (by rfl) (fun iv1 pq1 => ?_)
  obtain ⟨rb1, rq1, trb1⟩ := hW.ref t_a0 1 rfl rfl rfl
  refine hv3 (hW.isz t_a0 rfl rfl rq1) (hF0.puti hX0 pq1 t_a0 rfl) (show iv1 a0 2 = 0 from by rw [pq1]; exact up2_s) (fun szrb1 F1 ie1 => ?_)
  have W1 := hW.isz_put pq1 t_a0 (show 0 ≤ 0 ∧ 0 ≤ 4000 by omega) rfl rfl rq1 (show 0 ≤ ((ln rb1 : Nat) : Int) by omega)
  have ri1 : 0 ≤ iv1 a0 2 ∧ iv1 a0 2 ≤ 4000 := W1.int t_a0 2
  exact c_vret C dX1_clear_5 rfl (by decide) (rom0 hph hph (by decide)) ⟨rfl, rfl, rfl, rfl, rfl, F1, W1, (by omega)⟩
set_option maxHeartbeats 4000000 in
set_option maxRecDepth 100000 in
theorem C_at_5 {l : Launch} {G : GT} {mi : Nat} {sk : Nat → Nat} {L : List Nat} {cl ln : Nat → Nat} {iv : Nat → Nat → Int} {rv : Nat → Nat → Option Nat}  {a0 : Nat} {i : Int} (hW : WT (g0 G) sk L cl ln iv rv) (hS : SKL sk L cl) (t_a0 : ty L cl a0 5) (h_i : -2147483648 ≤ i ∧ i ≤ 2147483647)  : Mc l G mi (Phi (g0 G) sk) PHM yX1_at cX1_at 2 (some .int) 0 [.ref a0, .int (iI i)] L cl ln iv rv 0 (fun v L2 cl2 ln2 iv2 rv2 => ∃ f : Int, v = some (.int (iI f)) ∧ L = L2 ∧ cl = cl2 ∧ ln = ln2 ∧ iv = iv2 ∧ rv = rv2 ∧ (-2147483648 ≤ f ∧ f ≤ 2147483647) ∧ (((0 ≤ i ∧ i < iv a0 2) ∨ f = 0) ∧ ∀ ss, CT iv rv a0 ss → 0 ≤ i → i < iv a0 2 → f = ss i.toNat)) := by
  refine Mc.mk (by decide) (Nat.le_of_ble_eq_true rfl) ?_
  intro p e s m args below meth c A C hM
  refine hv3 (Phi.le hW hS) (show XT L cl ln L cl ln from XT.refl) (show fT [] L cl iv rv iv rv from fT.refl) (fun hph hX0 hF0 => ?_)
  refine c_iload_n (j := 1) C dX1_at_0 rfl ?_
  refine c_if_lt (tgt := 21) C ⟨by omega, by omega⟩ dX1_at_1 (by decide) (fun c1 => ?_) (fun c1 => ?_)
  · refine c_iconst C dX1_at_21 ?_
    exact c_iret C dX1_at_22 rfl (by decide) (rom0 hph hph (by decide)) ⟨0, rfl, rfl, rfl, rfl, rfl, rfl, ⟨by decide, by decide⟩, ⟨by omega, fun ss hs h1 h2 => absurd h2 (by omega)⟩⟩
  · refine c_iload_n (j := 1) C dX1_at_4 rfl ?_
    refine c_aload_n (j := 0) (x := a0) C dX1_at_5 rfl ?_
    have ri1 : 0 ≤ iv a0 2 ∧ iv a0 2 ≤ 200 := hW.int t_a0 2
    refine c_get (k := 2) C ck_2 dX1_at_6 w1_43 (by decide) t_a0 rfl rfl (by decide) rfl ?_
    refine c_icmp_ge (tgt := 21) C ⟨by omega, by omega⟩ (r32_c (lo := 0) (hi := 200) ri1.1 ri1.2 (by decide) (by decide)) dX1_at_9 (by decide) (fun c2 => ?_) (fun c2 => ?_)
    · refine c_iconst C dX1_at_21 ?_
      exact c_iret C dX1_at_22 rfl (by decide) (rom0 hph hph (by decide)) ⟨0, rfl, rfl, rfl, rfl, rfl, rfl, ⟨by decide, by decide⟩, ⟨by omega, fun ss hs h1 h2 => absurd h2 (by omega)⟩⟩
    · refine c_aload_n (j := 0) (x := a0) C dX1_at_12 rfl ?_
      obtain ⟨rb1, rq1, trb1⟩ := hW.ref t_a0 1 rfl rfl rfl
      refine hv2 (show 16 ≤ ln rb1 ∧ ln rb1 ≤ 400 from hW.len trb1 rfl) (hW.isz t_a0 rfl rfl rq1) (fun lnrb1 szrb1 => ?_)
      refine c_getr (k := 1) C ck_2 dX1_at_13 w1_39 (by decide) t_a0 rfl rfl (by decide) rfl rq1 ?_
      refine c_st (st2 := [.ref rb1]) rfl ?_
      refine c_iload_n (j := 1) C dX1_at_16 rfl ?_
      have ll1 : 16 ≤ ln rb1 ∧ ln rb1 ≤ 400 := hW.len trb1 rfl
      refine c_iald C dX1_at_17 trb1 rfl (by omega) (by omega) (by omega) ?_
      have ri2 : (-2147483648) ≤ iv rb1 i.toNat ∧ iv rb1 i.toNat ≤ 2147483647 := hW.int trb1 i.toNat
      refine c_goto (tgt := 22) C dX1_at_18 (by decide) ?_
      exact c_iret C dX1_at_22 rfl (by decide) (rom0 hph hph (by decide)) ⟨(iv rb1 i.toNat), rfl, rfl, rfl, rfl, rfl, rfl, ⟨by omega, by omega⟩, ⟨by omega, fun ss hs h1 h2 => hs rb1 rq1 i.toNat (by omega)⟩⟩
set_option maxHeartbeats 4000000 in
set_option maxRecDepth 100000 in
theorem C_clear_5 {l : Launch} {G : GT} {mi : Nat} {sk : Nat → Nat} {L : List Nat} {cl ln : Nat → Nat} {iv : Nat → Nat → Int} {rv : Nat → Nat → Option Nat}  {a0 : Nat} (hW : WT (g0 G) sk L cl ln iv rv) (hS : SKL sk L cl) (t_a0 : ty L cl a0 5)  : Mc l G mi (Phi (g0 G) sk) PHM yX1_clear cX1_clear 1 none 0 [.ref a0] L cl ln iv rv 0 (fun v L2 cl2 ln2 iv2 rv2 => v = none ∧ L = L2 ∧ cl = cl2 ∧ ln = ln2 ∧ rv = rv2 ∧ fT [5] L cl iv rv iv2 rv2 ∧ WT (g0 G) sk L2 cl2 ln2 iv2 rv2 ∧ (iv2 a0 2 = 0)) := by
  refine Mc.mk (by decide) (Nat.le_of_ble_eq_true rfl) ?_
  intro p e s m args below meth c A C hM
  refine hv3 (Phi.le hW hS) (show XT L cl ln L cl ln from XT.refl) (show fT [5] L cl iv rv iv rv from fT.refl) (fun hph hX0 hF0 => ?_)
  refine c_aload_n (j := 0) (x := a0) C dX1_clear_0 rfl ?_
  refine c_iconst C dX1_clear_1 ?_
  refine c_put (z := 0) (k := 2) C ck_2 dX1_clear_2 w1_43 (by decide) rfl t_a0 rfl rfl (by decide) rfl (by rfl) (by rfl) (fun iv1 pq1 => ?_)
  obtain ⟨rb1, rq1, trb1⟩ := hW.ref t_a0 1 rfl rfl rfl
  refine hv3 (hW.isz t_a0 rfl rfl rq1) (hF0.puti hX0 pq1 t_a0 rfl) (show iv1 a0 2 = 0 from by rw [pq1]; exact up2_s) (fun szrb1 F1 ie1 => ?_)
  have W1 := hW.isz_put pq1 t_a0 (show 0 ≤ 0 ∧ 0 ≤ 200 by omega) rfl rfl rq1 (show 0 ≤ ((ln rb1 : Nat) : Int) by omega)
  have ri1 : 0 ≤ iv1 a0 2 ∧ iv1 a0 2 ≤ 200 := W1.int t_a0 2
  exact c_vret C dX1_clear_5 rfl (by decide) (rom0 hph hph (by decide)) ⟨rfl, rfl, rfl, rfl, rfl, F1, W1, (by omega)⟩
set_option maxHeartbeats 4000000 in
set_option maxRecDepth 100000 in
theorem C_clear_6 {l : Launch} {G : GT} {mi : Nat} {sk : Nat → Nat} {L : List Nat} {cl ln : Nat → Nat} {iv : Nat → Nat → Int} {rv : Nat → Nat → Option Nat}  {a0 : Nat} (hW : WT (g0 G) sk L cl ln iv rv) (hS : SKL sk L cl) (t_a0 : ty L cl a0 6)  : Mc l G mi (Phi (g0 G) sk) PHM yX1_clear cX1_clear 1 none 0 [.ref a0] L cl ln iv rv 0 (fun v L2 cl2 ln2 iv2 rv2 => v = none ∧ L = L2 ∧ cl = cl2 ∧ ln = ln2 ∧ rv = rv2 ∧ fT [6] L cl iv rv iv2 rv2 ∧ WT (g0 G) sk L2 cl2 ln2 iv2 rv2 ∧ (iv2 a0 2 = 0)) := by
  refine Mc.mk (by decide) (Nat.le_of_ble_eq_true rfl) ?_
  intro p e s m args below meth c A C hM
  refine hv3 (Phi.le hW hS) (show XT L cl ln L cl ln from XT.refl) (show fT [6] L cl iv rv iv rv from fT.refl) (fun hph hX0 hF0 => ?_)
  refine c_aload_n (j := 0) (x := a0) C dX1_clear_0 rfl ?_
  refine c_iconst C dX1_clear_1 ?_
  refine c_put (z := 0) (k := 2) C ck_2 dX1_clear_2 w1_43 (by decide) rfl t_a0 rfl rfl (by decide) rfl (by rfl) (by rfl) (fun iv1 pq1 => ?_)
  obtain ⟨rb1, rq1, trb1⟩ := hW.ref t_a0 1 rfl rfl rfl
  refine hv3 (hW.isz t_a0 rfl rfl rq1) (hF0.puti hX0 pq1 t_a0 rfl) (show iv1 a0 2 = 0 from by rw [pq1]; exact up2_s) (fun szrb1 F1 ie1 => ?_)
  have W1 := hW.isz_put pq1 t_a0 (show 0 ≤ 0 ∧ 0 ≤ 6003 by omega) rfl rfl rq1 (show 0 ≤ ((ln rb1 : Nat) : Int) by omega)
  have ri1 : 0 ≤ iv1 a0 2 ∧ iv1 a0 2 ≤ 6003 := W1.int t_a0 2
  exact c_vret C dX1_clear_5 rfl (by decide) (rom0 hph hph (by decide)) ⟨rfl, rfl, rfl, rfl, rfl, F1, W1, (by omega)⟩
set_option maxHeartbeats 4000000 in
set_option maxRecDepth 100000 in
theorem C_clear_7 {l : Launch} {G : GT} {mi : Nat} {sk : Nat → Nat} {L : List Nat} {cl ln : Nat → Nat} {iv : Nat → Nat → Int} {rv : Nat → Nat → Option Nat}  {a0 : Nat} (hW : WT (g0 G) sk L cl ln iv rv) (hS : SKL sk L cl) (t_a0 : ty L cl a0 7)  : Mc l G mi (Phi (g0 G) sk) PHM yX1_clear cX1_clear 1 none 0 [.ref a0] L cl ln iv rv 0 (fun v L2 cl2 ln2 iv2 rv2 => v = none ∧ L = L2 ∧ cl = cl2 ∧ ln = ln2 ∧ rv = rv2 ∧ fT [7] L cl iv rv iv2 rv2 ∧ WT (g0 G) sk L2 cl2 ln2 iv2 rv2 ∧ (iv2 a0 2 = 0)) := by
  refine Mc.mk (by decide) (Nat.le_of_ble_eq_true rfl) ?_
  intro p e s m args below meth c A C hM
  refine hv3 (Phi.le hW hS) (show XT L cl ln L cl ln from XT.refl) (show fT [7] L cl iv rv iv rv from fT.refl) (fun hph hX0 hF0 => ?_)
  refine c_aload_n (j := 0) (x := a0) C dX1_clear_0 rfl ?_
  refine c_iconst C dX1_clear_1 ?_
  refine c_put (z := 0) (k := 2) C ck_2 dX1_clear_2 w1_43 (by decide) rfl t_a0 rfl rfl (by decide) rfl (by rfl) (by rfl) (fun iv1 pq1 => ?_)
  obtain ⟨rb1, rq1, trb1⟩ := hW.ref t_a0 1 rfl rfl rfl
  refine hv3 (hW.isz t_a0 rfl rfl rq1) (hF0.puti hX0 pq1 t_a0 rfl) (show iv1 a0 2 = 0 from by rw [pq1]; exact up2_s) (fun szrb1 F1 ie1 => ?_)
  have W1 := hW.isz_put pq1 t_a0 (show 0 ≤ 0 ∧ 0 ≤ 6003 by omega) rfl rfl rq1 (show 0 ≤ ((ln rb1 : Nat) : Int) by omega)
  have ri1 : 0 ≤ iv1 a0 2 ∧ iv1 a0 2 ≤ 6003 := W1.int t_a0 2
  exact c_vret C dX1_clear_5 rfl (by decide) (rom0 hph hph (by decide)) ⟨rfl, rfl, rfl, rfl, rfl, F1, W1, (by omega)⟩
set_option maxHeartbeats 4000000 in
set_option maxRecDepth 100000 in
theorem C_at_8 {l : Launch} {G : GT} {mi : Nat} {sk : Nat → Nat} {L : List Nat} {cl ln : Nat → Nat} {iv : Nat → Nat → Int} {rv : Nat → Nat → Option Nat}  {a0 : Nat} {i : Int} (hW : WT (g0 G) sk L cl ln iv rv) (hS : SKL sk L cl) (t_a0 : ty L cl a0 8) (h_i : -2147483648 ≤ i ∧ i ≤ 2147483647)  : Mc l G mi (Phi (g0 G) sk) PHM yX1_at cX1_at 2 (some .int) 0 [.ref a0, .int (iI i)] L cl ln iv rv 0 (fun v L2 cl2 ln2 iv2 rv2 => ∃ f : Int, v = some (.int (iI f)) ∧ L = L2 ∧ cl = cl2 ∧ ln = ln2 ∧ iv = iv2 ∧ rv = rv2 ∧ (-2147483648 ≤ f ∧ f ≤ 2147483647) ∧ (((0 ≤ i ∧ i < iv a0 2) ∨ f = 0) ∧ ∀ ss, CT iv rv a0 ss → 0 ≤ i → i < iv a0 2 → f = ss i.toNat)) := by
  refine Mc.mk (by decide) (Nat.le_of_ble_eq_true rfl) ?_
  intro p e s m args below meth c A C hM
  refine hv3 (Phi.le hW hS) (show XT L cl ln L cl ln from XT.refl) (show fT [] L cl iv rv iv rv from fT.refl) (fun hph hX0 hF0 => ?_)
  refine c_iload_n (j := 1) C dX1_at_0 rfl ?_
  refine c_if_lt (tgt := 21) C ⟨by omega, by omega⟩ dX1_at_1 (by decide) (fun c1 => ?_) (fun c1 => ?_)
  · refine c_iconst C dX1_at_21 ?_
    exact c_iret C dX1_at_22 rfl (by decide) (rom0 hph hph (by decide)) ⟨0, rfl, rfl, rfl, rfl, rfl, rfl, ⟨by decide, by decide⟩, ⟨by omega, fun ss hs h1 h2 => absurd h2 (by omega)⟩⟩
  · refine c_iload_n (j := 1) C dX1_at_4 rfl ?_
    refine c_aload_n (j := 0) (x := a0) C dX1_at_5 rfl ?_
    have ri1 : 0 ≤ iv a0 2 ∧ iv a0 2 ≤ 40200 := hW.int t_a0 2
    refine c_get (k := 2) C ck_2 dX1_at_6 w1_43 (by decide) t_a0 rfl rfl (by decide) rfl ?_
    refine c_icmp_ge (tgt := 21) C ⟨by omega, by omega⟩ (r32_c (lo := 0) (hi := 40200) ri1.1 ri1.2 (by decide) (by decide)) dX1_at_9 (by decide) (fun c2 => ?_) (fun c2 => ?_)
    · refine c_iconst C dX1_at_21 ?_
      exact c_iret C dX1_at_22 rfl (by decide) (rom0 hph hph (by decide)) ⟨0, rfl, rfl, rfl, rfl, rfl, rfl, ⟨by decide, by decide⟩, ⟨by omega, fun ss hs h1 h2 => absurd h2 (by omega)⟩⟩
    · refine c_aload_n (j := 0) (x := a0) C dX1_at_12 rfl ?_
      obtain ⟨rb1, rq1, trb1⟩ := hW.ref t_a0 1 rfl rfl rfl
      refine hv2 (show 16 ≤ ln rb1 ∧ ln rb1 ≤ 80400 from hW.len trb1 rfl) (hW.isz t_a0 rfl rfl rq1) (fun lnrb1 szrb1 => ?_)
      refine c_getr (k := 1) C ck_2 dX1_at_13 w1_39 (by decide) t_a0 rfl rfl (by decide) rfl rq1 ?_
      refine c_st (st2 := [.ref rb1]) rfl ?_
      refine c_iload_n (j := 1) C dX1_at_16 rfl ?_
      have ll1 : 16 ≤ ln rb1 ∧ ln rb1 ≤ 80400 := hW.len trb1 rfl
      refine c_iald C dX1_at_17 trb1 rfl (by omega) (by omega) (by omega) ?_
      have ri2 : (-2147483648) ≤ iv rb1 i.toNat ∧ iv rb1 i.toNat ≤ 2147483647 := hW.int trb1 i.toNat
      refine c_goto (tgt := 22) C dX1_at_18 (by decide) ?_
      exact c_iret C dX1_at_22 rfl (by decide) (rom0 hph hph (by decide)) ⟨(iv rb1 i.toNat), rfl, rfl, rfl, rfl, rfl, rfl, ⟨by omega, by omega⟩, ⟨by omega, fun ss hs h1 h2 => hs rb1 rq1 i.toNat (by omega)⟩⟩
set_option maxHeartbeats 4000000 in
set_option maxRecDepth 100000 in
theorem C_clear_8 {l : Launch} {G : GT} {mi : Nat} {sk : Nat → Nat} {L : List Nat} {cl ln : Nat → Nat} {iv : Nat → Nat → Int} {rv : Nat → Nat → Option Nat}  {a0 : Nat} (hW : WT (g0 G) sk L cl ln iv rv) (hS : SKL sk L cl) (t_a0 : ty L cl a0 8)  : Mc l G mi (Phi (g0 G) sk) PHM yX1_clear cX1_clear 1 none 0 [.ref a0] L cl ln iv rv 0 (fun v L2 cl2 ln2 iv2 rv2 => v = none ∧ L = L2 ∧ cl = cl2 ∧ ln = ln2 ∧ rv = rv2 ∧ fT [8] L cl iv rv iv2 rv2 ∧ WT (g0 G) sk L2 cl2 ln2 iv2 rv2 ∧ (iv2 a0 2 = 0)) := by
  refine Mc.mk (by decide) (Nat.le_of_ble_eq_true rfl) ?_
  intro p e s m args below meth c A C hM
  refine hv3 (Phi.le hW hS) (show XT L cl ln L cl ln from XT.refl) (show fT [8] L cl iv rv iv rv from fT.refl) (fun hph hX0 hF0 => ?_)
  refine c_aload_n (j := 0) (x := a0) C dX1_clear_0 rfl ?_
  refine c_iconst C dX1_clear_1 ?_
  refine c_put (z := 0) (k := 2) C ck_2 dX1_clear_2 w1_43 (by decide) rfl t_a0 rfl rfl (by decide) rfl (by rfl) (by rfl) (fun iv1 pq1 => ?_)
  obtain ⟨rb1, rq1, trb1⟩ := hW.ref t_a0 1 rfl rfl rfl
  refine hv3 (hW.isz t_a0 rfl rfl rq1) (hF0.puti hX0 pq1 t_a0 rfl) (show iv1 a0 2 = 0 from by rw [pq1]; exact up2_s) (fun szrb1 F1 ie1 => ?_)
  have W1 := hW.isz_put pq1 t_a0 (show 0 ≤ 0 ∧ 0 ≤ 40200 by omega) rfl rfl rq1 (show 0 ≤ ((ln rb1 : Nat) : Int) by omega)
  have ri1 : 0 ≤ iv1 a0 2 ∧ iv1 a0 2 ≤ 40200 := W1.int t_a0 2
  exact c_vret C dX1_clear_5 rfl (by decide) (rom0 hph hph (by decide)) ⟨rfl, rfl, rfl, rfl, rfl, F1, W1, (by omega)⟩
set_option maxHeartbeats 4000000 in
set_option maxRecDepth 100000 in
theorem C_at_9 {l : Launch} {G : GT} {mi : Nat} {sk : Nat → Nat} {L : List Nat} {cl ln : Nat → Nat} {iv : Nat → Nat → Int} {rv : Nat → Nat → Option Nat}  {a0 : Nat} {i : Int} (hW : WT (g0 G) sk L cl ln iv rv) (hS : SKL sk L cl) (t_a0 : ty L cl a0 9) (h_i : -2147483648 ≤ i ∧ i ≤ 2147483647)  : Mc l G mi (Phi (g0 G) sk) PHM yX1_at cX1_at 2 (some .int) 0 [.ref a0, .int (iI i)] L cl ln iv rv 0 (fun v L2 cl2 ln2 iv2 rv2 => ∃ f : Int, v = some (.int (iI f)) ∧ L = L2 ∧ cl = cl2 ∧ ln = ln2 ∧ iv = iv2 ∧ rv = rv2 ∧ (-2147483648 ≤ f ∧ f ≤ 2147483647) ∧ (((0 ≤ i ∧ i < iv a0 2) ∨ f = 0) ∧ ∀ ss, CT iv rv a0 ss → 0 ≤ i → i < iv a0 2 → f = ss i.toNat)) := by
  refine Mc.mk (by decide) (Nat.le_of_ble_eq_true rfl) ?_
  intro p e s m args below meth c A C hM
  refine hv3 (Phi.le hW hS) (show XT L cl ln L cl ln from XT.refl) (show fT [] L cl iv rv iv rv from fT.refl) (fun hph hX0 hF0 => ?_)
  refine c_iload_n (j := 1) C dX1_at_0 rfl ?_
  refine c_if_lt (tgt := 21) C ⟨by omega, by omega⟩ dX1_at_1 (by decide) (fun c1 => ?_) (fun c1 => ?_)
  · refine c_iconst C dX1_at_21 ?_
    exact c_iret C dX1_at_22 rfl (by decide) (rom0 hph hph (by decide)) ⟨0, rfl, rfl, rfl, rfl, rfl, rfl, ⟨by decide, by decide⟩, ⟨by omega, fun ss hs h1 h2 => absurd h2 (by omega)⟩⟩
  · refine c_iload_n (j := 1) C dX1_at_4 rfl ?_
    refine c_aload_n (j := 0) (x := a0) C dX1_at_5 rfl ?_
    have ri1 : 0 ≤ iv a0 2 ∧ iv a0 2 ≤ 40200 := hW.int t_a0 2
    refine c_get (k := 2) C ck_2 dX1_at_6 w1_43 (by decide) t_a0 rfl rfl (by decide) rfl ?_
    refine c_icmp_ge (tgt := 21) C ⟨by omega, by omega⟩ (r32_c (lo := 0) (hi := 40200) ri1.1 ri1.2 (by decide) (by decide)) dX1_at_9 (by decide) (fun c2 => ?_) (fun c2 => ?_)
    · refine c_iconst C dX1_at_21 ?_
      exact c_iret C dX1_at_22 rfl (by decide) (rom0 hph hph (by decide)) ⟨0, rfl, rfl, rfl, rfl, rfl, rfl, ⟨by decide, by decide⟩, ⟨by omega, fun ss hs h1 h2 => absurd h2 (by omega)⟩⟩
    · refine c_aload_n (j := 0) (x := a0) C dX1_at_12 rfl ?_
      obtain ⟨rb1, rq1, trb1⟩ := hW.ref t_a0 1 rfl rfl rfl
      refine hv2 (show 16 ≤ ln rb1 ∧ ln rb1 ≤ 80400 from hW.len trb1 rfl) (hW.isz t_a0 rfl rfl rq1) (fun lnrb1 szrb1 => ?_)
      refine c_getr (k := 1) C ck_2 dX1_at_13 w1_39 (by decide) t_a0 rfl rfl (by decide) rfl rq1 ?_
      refine c_st (st2 := [.ref rb1]) rfl ?_
      refine c_iload_n (j := 1) C dX1_at_16 rfl ?_
      have ll1 : 16 ≤ ln rb1 ∧ ln rb1 ≤ 80400 := hW.len trb1 rfl
      refine c_iald C dX1_at_17 trb1 rfl (by omega) (by omega) (by omega) ?_
      have ri2 : (-2147483648) ≤ iv rb1 i.toNat ∧ iv rb1 i.toNat ≤ 2147483647 := hW.int trb1 i.toNat
      refine c_goto (tgt := 22) C dX1_at_18 (by decide) ?_
      exact c_iret C dX1_at_22 rfl (by decide) (rom0 hph hph (by decide)) ⟨(iv rb1 i.toNat), rfl, rfl, rfl, rfl, rfl, rfl, ⟨by omega, by omega⟩, ⟨by omega, fun ss hs h1 h2 => hs rb1 rq1 i.toNat (by omega)⟩⟩
set_option maxHeartbeats 4000000 in
set_option maxRecDepth 100000 in
theorem C_clear_9 {l : Launch} {G : GT} {mi : Nat} {sk : Nat → Nat} {L : List Nat} {cl ln : Nat → Nat} {iv : Nat → Nat → Int} {rv : Nat → Nat → Option Nat}  {a0 : Nat} (hW : WT (g0 G) sk L cl ln iv rv) (hS : SKL sk L cl) (t_a0 : ty L cl a0 9)  : Mc l G mi (Phi (g0 G) sk) PHM yX1_clear cX1_clear 1 none 0 [.ref a0] L cl ln iv rv 0 (fun v L2 cl2 ln2 iv2 rv2 => v = none ∧ L = L2 ∧ cl = cl2 ∧ ln = ln2 ∧ rv = rv2 ∧ fT [9] L cl iv rv iv2 rv2 ∧ WT (g0 G) sk L2 cl2 ln2 iv2 rv2 ∧ (iv2 a0 2 = 0)) := by
  refine Mc.mk (by decide) (Nat.le_of_ble_eq_true rfl) ?_
  intro p e s m args below meth c A C hM
  refine hv3 (Phi.le hW hS) (show XT L cl ln L cl ln from XT.refl) (show fT [9] L cl iv rv iv rv from fT.refl) (fun hph hX0 hF0 => ?_)
  refine c_aload_n (j := 0) (x := a0) C dX1_clear_0 rfl ?_
  refine c_iconst C dX1_clear_1 ?_
  refine c_put (z := 0) (k := 2) C ck_2 dX1_clear_2 w1_43 (by decide) rfl t_a0 rfl rfl (by decide) rfl (by rfl) (by rfl) (fun iv1 pq1 => ?_)
  obtain ⟨rb1, rq1, trb1⟩ := hW.ref t_a0 1 rfl rfl rfl
  refine hv3 (hW.isz t_a0 rfl rfl rq1) (hF0.puti hX0 pq1 t_a0 rfl) (show iv1 a0 2 = 0 from by rw [pq1]; exact up2_s) (fun szrb1 F1 ie1 => ?_)
  have W1 := hW.isz_put pq1 t_a0 (show 0 ≤ 0 ∧ 0 ≤ 40200 by omega) rfl rfl rq1 (show 0 ≤ ((ln rb1 : Nat) : Int) by omega)
  have ri1 : 0 ≤ iv1 a0 2 ∧ iv1 a0 2 ≤ 40200 := W1.int t_a0 2
  exact c_vret C dX1_clear_5 rfl (by decide) (rom0 hph hph (by decide)) ⟨rfl, rfl, rfl, rfl, rfl, F1, W1, (by omega)⟩
set_option maxHeartbeats 4000000 in
set_option maxRecDepth 100000 in
theorem C_at_10 {l : Launch} {G : GT} {mi : Nat} {sk : Nat → Nat} {L : List Nat} {cl ln : Nat → Nat} {iv : Nat → Nat → Int} {rv : Nat → Nat → Option Nat}  {a0 : Nat} {i : Int} (hW : WT (g0 G) sk L cl ln iv rv) (hS : SKL sk L cl) (t_a0 : ty L cl a0 10) (h_i : -2147483648 ≤ i ∧ i ≤ 2147483647)  : Mc l G mi (Phi (g0 G) sk) PHM yX1_at cX1_at 2 (some .int) 0 [.ref a0, .int (iI i)] L cl ln iv rv 0 (fun v L2 cl2 ln2 iv2 rv2 => ∃ f : Int, v = some (.int (iI f)) ∧ L = L2 ∧ cl = cl2 ∧ ln = ln2 ∧ iv = iv2 ∧ rv = rv2 ∧ (-2147483648 ≤ f ∧ f ≤ 2147483647) ∧ (((0 ≤ i ∧ i < iv a0 2) ∨ f = 0) ∧ ∀ ss, CT iv rv a0 ss → 0 ≤ i → i < iv a0 2 → f = ss i.toNat)) := by
  refine Mc.mk (by decide) (Nat.le_of_ble_eq_true rfl) ?_
  intro p e s m args below meth c A C hM
  refine hv3 (Phi.le hW hS) (show XT L cl ln L cl ln from XT.refl) (show fT [] L cl iv rv iv rv from fT.refl) (fun hph hX0 hF0 => ?_)
  refine c_iload_n (j := 1) C dX1_at_0 rfl ?_
  refine c_if_lt (tgt := 21) C ⟨by omega, by omega⟩ dX1_at_1 (by decide) (fun c1 => ?_) (fun c1 => ?_)
  · refine c_iconst C dX1_at_21 ?_
    exact c_iret C dX1_at_22 rfl (by decide) (rom0 hph hph (by decide)) ⟨0, rfl, rfl, rfl, rfl, rfl, rfl, ⟨by decide, by decide⟩, ⟨by omega, fun ss hs h1 h2 => absurd h2 (by omega)⟩⟩
  · refine c_iload_n (j := 1) C dX1_at_4 rfl ?_
    refine c_aload_n (j := 0) (x := a0) C dX1_at_5 rfl ?_
    have ri1 : 0 ≤ iv a0 2 ∧ iv a0 2 ≤ 4001 := hW.int t_a0 2
    refine c_get (k := 2) C ck_2 dX1_at_6 w1_43 (by decide) t_a0 rfl rfl (by decide) rfl ?_
    refine c_icmp_ge (tgt := 21) C ⟨by omega, by omega⟩ (r32_c (lo := 0) (hi := 4001) ri1.1 ri1.2 (by decide) (by decide)) dX1_at_9 (by decide) (fun c2 => ?_) (fun c2 => ?_)
    · refine c_iconst C dX1_at_21 ?_
      exact c_iret C dX1_at_22 rfl (by decide) (rom0 hph hph (by decide)) ⟨0, rfl, rfl, rfl, rfl, rfl, rfl, ⟨by decide, by decide⟩, ⟨by omega, fun ss hs h1 h2 => absurd h2 (by omega)⟩⟩
    · refine c_aload_n (j := 0) (x := a0) C dX1_at_12 rfl ?_
      obtain ⟨rb1, rq1, trb1⟩ := hW.ref t_a0 1 rfl rfl rfl
      refine hv2 (show 16 ≤ ln rb1 ∧ ln rb1 ≤ 8002 from hW.len trb1 rfl) (hW.isz t_a0 rfl rfl rq1) (fun lnrb1 szrb1 => ?_)
      refine c_getr (k := 1) C ck_2 dX1_at_13 w1_39 (by decide) t_a0 rfl rfl (by decide) rfl rq1 ?_
      refine c_st (st2 := [.ref rb1]) rfl ?_
      refine c_iload_n (j := 1) C dX1_at_16 rfl ?_
      have ll1 : 16 ≤ ln rb1 ∧ ln rb1 ≤ 8002 := hW.len trb1 rfl
      refine c_iald C dX1_at_17 trb1 rfl (by omega) (by omega) (by omega) ?_
      have ri2 : (-2147483648) ≤ iv rb1 i.toNat ∧ iv rb1 i.toNat ≤ 2147483647 := hW.int trb1 i.toNat
      refine c_goto (tgt := 22) C dX1_at_18 (by decide) ?_
      exact c_iret C dX1_at_22 rfl (by decide) (rom0 hph hph (by decide)) ⟨(iv rb1 i.toNat), rfl, rfl, rfl, rfl, rfl, rfl, ⟨by omega, by omega⟩, ⟨by omega, fun ss hs h1 h2 => hs rb1 rq1 i.toNat (by omega)⟩⟩
set_option maxHeartbeats 4000000 in
set_option maxRecDepth 100000 in
theorem C_clear_10 {l : Launch} {G : GT} {mi : Nat} {sk : Nat → Nat} {L : List Nat} {cl ln : Nat → Nat} {iv : Nat → Nat → Int} {rv : Nat → Nat → Option Nat}  {a0 : Nat} (hW : WT (g0 G) sk L cl ln iv rv) (hS : SKL sk L cl) (t_a0 : ty L cl a0 10)  : Mc l G mi (Phi (g0 G) sk) PHM yX1_clear cX1_clear 1 none 0 [.ref a0] L cl ln iv rv 0 (fun v L2 cl2 ln2 iv2 rv2 => v = none ∧ L = L2 ∧ cl = cl2 ∧ ln = ln2 ∧ rv = rv2 ∧ fT [10] L cl iv rv iv2 rv2 ∧ WT (g0 G) sk L2 cl2 ln2 iv2 rv2 ∧ (iv2 a0 2 = 0)) := by
  refine Mc.mk (by decide) (Nat.le_of_ble_eq_true rfl) ?_
  intro p e s m args below meth c A C hM
  refine hv3 (Phi.le hW hS) (show XT L cl ln L cl ln from XT.refl) (show fT [10] L cl iv rv iv rv from fT.refl) (fun hph hX0 hF0 => ?_)
  refine c_aload_n (j := 0) (x := a0) C dX1_clear_0 rfl ?_
  refine c_iconst C dX1_clear_1 ?_
  refine c_put (z := 0) (k := 2) C ck_2 dX1_clear_2 w1_43 (by decide) rfl t_a0 rfl rfl (by decide) rfl (by rfl) (by rfl) (fun iv1 pq1 => ?_)
  obtain ⟨rb1, rq1, trb1⟩ := hW.ref t_a0 1 rfl rfl rfl
  refine hv3 (hW.isz t_a0 rfl rfl rq1) (hF0.puti hX0 pq1 t_a0 rfl) (show iv1 a0 2 = 0 from by rw [pq1]; exact up2_s) (fun szrb1 F1 ie1 => ?_)
  have W1 := hW.isz_put pq1 t_a0 (show 0 ≤ 0 ∧ 0 ≤ 4001 by omega) rfl rfl rq1 (show 0 ≤ ((ln rb1 : Nat) : Int) by omega)
  have ri1 : 0 ≤ iv1 a0 2 ∧ iv1 a0 2 ≤ 4001 := W1.int t_a0 2
  exact c_vret C dX1_clear_5 rfl (by decide) (rom0 hph hph (by decide)) ⟨rfl, rfl, rfl, rfl, rfl, F1, W1, (by omega)⟩
set_option maxHeartbeats 4000000 in
set_option maxRecDepth 100000 in
theorem C_at_11 {l : Launch} {G : GT} {mi : Nat} {sk : Nat → Nat} {L : List Nat} {cl ln : Nat → Nat} {iv : Nat → Nat → Int} {rv : Nat → Nat → Option Nat}  {a0 : Nat} {i : Int} (hW : WT (g0 G) sk L cl ln iv rv) (hS : SKL sk L cl) (t_a0 : ty L cl a0 11) (h_i : -2147483648 ≤ i ∧ i ≤ 2147483647)  : Mc l G mi (Phi (g0 G) sk) PHM yX1_at cX1_at 2 (some .int) 0 [.ref a0, .int (iI i)] L cl ln iv rv 0 (fun v L2 cl2 ln2 iv2 rv2 => ∃ f : Int, v = some (.int (iI f)) ∧ L = L2 ∧ cl = cl2 ∧ ln = ln2 ∧ iv = iv2 ∧ rv = rv2 ∧ (-2147483648 ≤ f ∧ f ≤ 2147483647) ∧ (((0 ≤ i ∧ i < iv a0 2) ∨ f = 0) ∧ ∀ ss, CT iv rv a0 ss → 0 ≤ i → i < iv a0 2 → f = ss i.toNat)) := by
  refine Mc.mk (by decide) (Nat.le_of_ble_eq_true rfl) ?_
  intro p e s m args below meth c A C hM
  refine hv3 (Phi.le hW hS) (show XT L cl ln L cl ln from XT.refl) (show fT [] L cl iv rv iv rv from fT.refl) (fun hph hX0 hF0 => ?_)
  refine c_iload_n (j := 1) C dX1_at_0 rfl ?_
  refine c_if_lt (tgt := 21) C ⟨by omega, by omega⟩ dX1_at_1 (by decide) (fun c1 => ?_) (fun c1 => ?_)
  · refine c_iconst C dX1_at_21 ?_
    exact c_iret C dX1_at_22 rfl (by decide) (rom0 hph hph (by decide)) ⟨0, rfl, rfl, rfl, rfl, rfl, rfl, ⟨by decide, by decide⟩, ⟨by omega, fun ss hs h1 h2 => absurd h2 (by omega)⟩⟩
  · refine c_iload_n (j := 1) C dX1_at_4 rfl ?_
    refine c_aload_n (j := 0) (x := a0) C dX1_at_5 rfl ?_
    have ri1 : 0 ≤ iv a0 2 ∧ iv a0 2 ≤ 40000 := hW.int t_a0 2
    refine c_get (k := 2) C ck_2 dX1_at_6 w1_43 (by decide) t_a0 rfl rfl (by decide) rfl ?_
    refine c_icmp_ge (tgt := 21) C ⟨by omega, by omega⟩ (r32_c (lo := 0) (hi := 40000) ri1.1 ri1.2 (by decide) (by decide)) dX1_at_9 (by decide) (fun c2 => ?_) (fun c2 => ?_)
    · refine c_iconst C dX1_at_21 ?_
      exact c_iret C dX1_at_22 rfl (by decide) (rom0 hph hph (by decide)) ⟨0, rfl, rfl, rfl, rfl, rfl, rfl, ⟨by decide, by decide⟩, ⟨by omega, fun ss hs h1 h2 => absurd h2 (by omega)⟩⟩
    · refine c_aload_n (j := 0) (x := a0) C dX1_at_12 rfl ?_
      obtain ⟨rb1, rq1, trb1⟩ := hW.ref t_a0 1 rfl rfl rfl
      refine hv2 (show 16 ≤ ln rb1 ∧ ln rb1 ≤ 80000 from hW.len trb1 rfl) (hW.isz t_a0 rfl rfl rq1) (fun lnrb1 szrb1 => ?_)
      refine c_getr (k := 1) C ck_2 dX1_at_13 w1_39 (by decide) t_a0 rfl rfl (by decide) rfl rq1 ?_
      refine c_st (st2 := [.ref rb1]) rfl ?_
      refine c_iload_n (j := 1) C dX1_at_16 rfl ?_
      have ll1 : 16 ≤ ln rb1 ∧ ln rb1 ≤ 80000 := hW.len trb1 rfl
      refine c_iald C dX1_at_17 trb1 rfl (by omega) (by omega) (by omega) ?_
      have ri2 : (-2147483648) ≤ iv rb1 i.toNat ∧ iv rb1 i.toNat ≤ 2147483647 := hW.int trb1 i.toNat
      refine c_goto (tgt := 22) C dX1_at_18 (by decide) ?_
      exact c_iret C dX1_at_22 rfl (by decide) (rom0 hph hph (by decide)) ⟨(iv rb1 i.toNat), rfl, rfl, rfl, rfl, rfl, rfl, ⟨by omega, by omega⟩, ⟨by omega, fun ss hs h1 h2 => hs rb1 rq1 i.toNat (by omega)⟩⟩
set_option maxHeartbeats 4000000 in
set_option maxRecDepth 100000 in
theorem C_clear_11 {l : Launch} {G : GT} {mi : Nat} {sk : Nat → Nat} {L : List Nat} {cl ln : Nat → Nat} {iv : Nat → Nat → Int} {rv : Nat → Nat → Option Nat}  {a0 : Nat} (hW : WT (g0 G) sk L cl ln iv rv) (hS : SKL sk L cl) (t_a0 : ty L cl a0 11)  : Mc l G mi (Phi (g0 G) sk) PHM yX1_clear cX1_clear 1 none 0 [.ref a0] L cl ln iv rv 0 (fun v L2 cl2 ln2 iv2 rv2 => v = none ∧ L = L2 ∧ cl = cl2 ∧ ln = ln2 ∧ rv = rv2 ∧ fT [11] L cl iv rv iv2 rv2 ∧ WT (g0 G) sk L2 cl2 ln2 iv2 rv2 ∧ (iv2 a0 2 = 0)) := by
  refine Mc.mk (by decide) (Nat.le_of_ble_eq_true rfl) ?_
  intro p e s m args below meth c A C hM
  refine hv3 (Phi.le hW hS) (show XT L cl ln L cl ln from XT.refl) (show fT [11] L cl iv rv iv rv from fT.refl) (fun hph hX0 hF0 => ?_)
  refine c_aload_n (j := 0) (x := a0) C dX1_clear_0 rfl ?_
  refine c_iconst C dX1_clear_1 ?_
  refine c_put (z := 0) (k := 2) C ck_2 dX1_clear_2 w1_43 (by decide) rfl t_a0 rfl rfl (by decide) rfl (by rfl) (by rfl) (fun iv1 pq1 => ?_)
  obtain ⟨rb1, rq1, trb1⟩ := hW.ref t_a0 1 rfl rfl rfl
  refine hv3 (hW.isz t_a0 rfl rfl rq1) (hF0.puti hX0 pq1 t_a0 rfl) (show iv1 a0 2 = 0 from by rw [pq1]; exact up2_s) (fun szrb1 F1 ie1 => ?_)
  have W1 := hW.isz_put pq1 t_a0 (show 0 ≤ 0 ∧ 0 ≤ 40000 by omega) rfl rfl rq1 (show 0 ≤ ((ln rb1 : Nat) : Int) by omega)
  have ri1 : 0 ≤ iv1 a0 2 ∧ iv1 a0 2 ≤ 40000 := W1.int t_a0 2
  exact c_vret C dX1_clear_5 rfl (by decide) (rom0 hph hph (by decide)) ⟨rfl, rfl, rfl, rfl, rfl, F1, W1, (by omega)⟩
set_option maxHeartbeats 4000000 in
set_option maxRecDepth 100000 in
theorem C_keep_2 {l : Launch} {G : GT} {mi : Nat} {sk : Nat → Nat} {L : List Nat} {cl ln : Nat → Nat} {iv : Nat → Nat → Int} {rv : Nat → Nat → Option Nat}  {a0 : Nat} {n : Int} (hW : WT (g0 G) sk L cl ln iv rv) (hS : SKL sk L cl) (t_a0 : ty L cl a0 2) (h_n : -2147483648 ≤ n ∧ n ≤ 2147483647)  : Mc l G mi (Phi (g0 G) sk) PHM yX1_keep cX1_keep 2 none 1 [.ref a0, .int (iI n)] L cl ln iv rv 0 (fun v L2 cl2 ln2 iv2 rv2 => v = none ∧ L = L2 ∧ cl = cl2 ∧ ln = ln2 ∧ rv = rv2 ∧ fT [2] L cl iv rv iv2 rv2 ∧ WT (g0 G) sk L2 cl2 ln2 iv2 rv2 ∧ (iv2 a0 2 ≤ iv a0 2 ∧ (n < 0 ∨ iv a0 2 < n ∨ iv2 a0 2 = n))) := by
  refine Mc.mk (by decide) (Nat.le_of_ble_eq_true rfl) ?_
  intro p e s m args below meth c A C hM
  refine hv3 (Phi.le hW hS) (show XT L cl ln L cl ln from XT.refl) (show fT [2] L cl iv rv iv rv from fT.refl) (fun hph hX0 hF0 => ?_)
  refine c_aload_n (j := 0) (x := a0) C dX1_keep_0 rfl ?_
  refine c_iconst C dX1_keep_1 ?_
  refine c_aload_n (j := 0) (x := a0) C dX1_keep_2 rfl ?_
  have ri1 : 0 ≤ iv a0 2 ∧ iv a0 2 ≤ 3000 := hW.int t_a0 2
  refine c_get (k := 2) C ck_2 dX1_keep_3 w1_43 (by decide) t_a0 rfl rfl (by decide) rfl ?_
  refine c_iload_n (j := 1) C dX1_keep_6 rfl ?_
  obtain ⟨mn1, hmn1, emn1⟩ := mmin_c (x := iv a0 2) (y := n) (r32_c (lo := 0) (hi := 3000) ri1.1 ri1.2 (by decide) (by decide)) ⟨by omega, by omega⟩
  refine c_mmin (w := iI mn1) C dX1_keep_7 w2_146 w2_129 w1_14 w2_130 (by decide) (rom0 hph hph (by decide)) (Nat.le_of_ble_eq_true rfl) emn1 ?_
  obtain ⟨mn2, hmn2, emn2⟩ := mmax_c (x := 0) (y := mn1) ⟨by decide, by decide⟩ ⟨by omega, by omega⟩
  refine c_mmax (w := iI mn2) C dX1_keep_10 w2_147 w2_148 w1_14 w2_149 (by decide) (rom0 hph hph (by decide)) (Nat.le_of_ble_eq_true rfl) emn2 ?_
  refine c_put (z := mn2) (k := 2) C ck_2 dX1_keep_13 w1_43 (by decide) rfl t_a0 rfl rfl (by decide) rfl (by rfl) (by rfl) (fun iv1 pq1 => ?_)
  obtain ⟨rb1, rq1, trb1⟩ := hW.ref t_a0 1 rfl rfl rfl
  refine hv3 (hW.isz t_a0 rfl rfl rq1) (hF0.puti hX0 pq1 t_a0 rfl) (show iv1 a0 2 = mn2 from by rw [pq1]; exact up2_s) (fun szrb1 F1 ie1 => ?_)
  have W1 := hW.isz_put pq1 t_a0 (show 0 ≤ mn2 ∧ mn2 ≤ 3000 by omega) rfl rfl rq1 (show mn2 ≤ ((ln rb1 : Nat) : Int) by omega)
  have ri2 : 0 ≤ iv1 a0 2 ∧ iv1 a0 2 ≤ 3000 := W1.int t_a0 2
  exact c_vret C dX1_keep_16 rfl (by decide) (rom0 hph hph (by decide)) ⟨rfl, rfl, rfl, rfl, rfl, F1, W1, (by omega)⟩
set_option maxHeartbeats 4000000 in
set_option maxRecDepth 100000 in
theorem C_keep_12 {l : Launch} {G : GT} {mi : Nat} {sk : Nat → Nat} {L : List Nat} {cl ln : Nat → Nat} {iv : Nat → Nat → Int} {rv : Nat → Nat → Option Nat}  {a0 : Nat} {n : Int} (hW : WT (g0 G) sk L cl ln iv rv) (hS : SKL sk L cl) (t_a0 : ty L cl a0 12) (h_n : -2147483648 ≤ n ∧ n ≤ 2147483647)  : Mc l G mi (Phi (g0 G) sk) PHM yX1_keep cX1_keep 2 none 1 [.ref a0, .int (iI n)] L cl ln iv rv 0 (fun v L2 cl2 ln2 iv2 rv2 => v = none ∧ L = L2 ∧ cl = cl2 ∧ ln = ln2 ∧ rv = rv2 ∧ fT [12] L cl iv rv iv2 rv2 ∧ WT (g0 G) sk L2 cl2 ln2 iv2 rv2 ∧ (iv2 a0 2 ≤ iv a0 2 ∧ (n < 0 ∨ iv a0 2 < n ∨ iv2 a0 2 = n)) ∧ (∀ bb, ty L cl bb 12 → bb ≠ a0 → iv2 bb 2 = iv bb 2)) := by
  refine Mc.mk (by decide) (Nat.le_of_ble_eq_true rfl) ?_
  intro p e s m args below meth c A C hM
  refine hv3 (Phi.le hW hS) (show XT L cl ln L cl ln from XT.refl) (show fT [12] L cl iv rv iv rv from fT.refl) (fun hph hX0 hF0 => ?_)
  refine c_aload_n (j := 0) (x := a0) C dX1_keep_0 rfl ?_
  refine c_iconst C dX1_keep_1 ?_
  refine c_aload_n (j := 0) (x := a0) C dX1_keep_2 rfl ?_
  have ri1 : 0 ≤ iv a0 2 ∧ iv a0 2 ≤ 200 := hW.int t_a0 2
  refine c_get (k := 2) C ck_2 dX1_keep_3 w1_43 (by decide) t_a0 rfl rfl (by decide) rfl ?_
  refine c_iload_n (j := 1) C dX1_keep_6 rfl ?_
  obtain ⟨mn1, hmn1, emn1⟩ := mmin_c (x := iv a0 2) (y := n) (r32_c (lo := 0) (hi := 200) ri1.1 ri1.2 (by decide) (by decide)) ⟨by omega, by omega⟩
  refine c_mmin (w := iI mn1) C dX1_keep_7 w2_146 w2_129 w1_14 w2_130 (by decide) (rom0 hph hph (by decide)) (Nat.le_of_ble_eq_true rfl) emn1 ?_
  obtain ⟨mn2, hmn2, emn2⟩ := mmax_c (x := 0) (y := mn1) ⟨by decide, by decide⟩ ⟨by omega, by omega⟩
  refine c_mmax (w := iI mn2) C dX1_keep_10 w2_147 w2_148 w1_14 w2_149 (by decide) (rom0 hph hph (by decide)) (Nat.le_of_ble_eq_true rfl) emn2 ?_
  refine c_put (z := mn2) (k := 2) C ck_2 dX1_keep_13 w1_43 (by decide) rfl t_a0 rfl rfl (by decide) rfl (by rfl) (by rfl) (fun iv1 pq1 => ?_)
  obtain ⟨rb1, rq1, trb1⟩ := hW.ref t_a0 1 rfl rfl rfl
  refine hv3 (hW.isz t_a0 rfl rfl rq1) (hF0.puti hX0 pq1 t_a0 rfl) (show iv1 a0 2 = mn2 from by rw [pq1]; exact up2_s) (fun szrb1 F1 ie1 => ?_)
  have W1 := hW.isz_put pq1 t_a0 (show 0 ≤ mn2 ∧ mn2 ≤ 200 by omega) rfl rfl rq1 (show mn2 ≤ ((ln rb1 : Nat) : Int) by omega)
  have ri2 : 0 ≤ iv1 a0 2 ∧ iv1 a0 2 ≤ 200 := W1.int t_a0 2
  exact c_vret C dX1_keep_16 rfl (by decide) (rom0 hph hph (by decide)) ⟨rfl, rfl, rfl, rfl, rfl, F1, W1, (by omega), (fun bb tbb hbb => by exact (show iv1 bb 2 = iv bb 2 from (by rw [pq1]; exact up2_k hbb)))⟩
set_option maxHeartbeats 4000000 in
set_option maxRecDepth 100000 in
theorem C_isWithin_2 {l : Launch} {G : GT} {mi : Nat} {sk : Nat → Nat} {L : List Nat} {cl ln : Nat → Nat} {iv : Nat → Nat → Int} {rv : Nat → Nat → Option Nat}  {a0 : Nat} {i : Int} {j : Int} {lo : Int} {hi : Int} (hW : WT (g0 G) sk L cl ln iv rv) (hS : SKL sk L cl) (t_a0 : ty L cl a0 2) (h_i : -2147483648 ≤ i ∧ i ≤ 2147483647) (h_j : -2147483648 ≤ j ∧ j ≤ 2147483647) (h_lo : -2147483648 ≤ lo ∧ lo ≤ 2147483647) (h_hi : -2147483648 ≤ hi ∧ hi ≤ 2147483647)  : Mc l G mi (Phi (g0 G) sk) PHM yX1_isWithin cX1_isWithin 6 (some .boolean) 1 [.ref a0, .int (iI i), .int (iI j), .int (iI lo), .int (iI hi)] L cl ln iv rv 0 (fun v L2 cl2 ln2 iv2 rv2 => ∃ f : Int, v = some (.int (iI f)) ∧ L = L2 ∧ cl = cl2 ∧ ln = ln2 ∧ iv = iv2 ∧ rv = rv2 ∧ (f = 0 ∨ f = 1) ∧ (∀ ss, CT iv rv a0 ss → 0 ≤ i → j ≤ iv a0 2 → (f = 1 ↔ ∀ x : Nat, i ≤ (x : Int) → (x : Int) < j → lo ≤ ss x ∧ ss x ≤ hi))) := by
  refine Mc.mk (by decide) (Nat.le_of_ble_eq_true rfl) ?_
  intro p e s m args below meth c A C hM
  refine hv3 (Phi.le hW hS) (show XT L cl ln L cl ln from XT.refl) (show fT [] L cl iv rv iv rv from fT.refl) (fun hph hX0 hF0 => ?_)
  refine c_iload_n (j := 1) C dX1_isWithin_0 rfl ?_
  refine c_istore (lv2 := [(5, .int (iI i)), (0, .ref a0), (1, .int (iI i)), (2, .int (iI j)), (3, .int (iI lo)), (4, .int (iI hi))]) C dX1_isWithin_1 (by decide) rfl ?_
  have Lp1 : ∀ (nn : Nat) (k : Int) , max 0 (j - k) < (nn : Int) → (i ≤ k ∧ k ≤ 2147483647) → (∀ ss, CT iv rv a0 ss → 0 ≤ i → j ≤ iv a0 2 → ∀ x : Nat, i ≤ (x : Int) → (x : Int) < k → lo ≤ ss x ∧ ss x ≤ hi) → cw p l e 1 ((PHM) + 0 - ((Phi (g0 G) sk) ln rv)) s m args below meth c G A 6 (MQ below (Qu G A (Qp G (Phi (g0 G) sk) ((Phi (g0 G) sk) ln rv) 0 (fun v L2 cl2 ln2 iv2 rv2 => ∃ f : Int, v = some (.int (iI f)) ∧ L = L2 ∧ cl = cl2 ∧ ln = ln2 ∧ iv = iv2 ∧ rv = rv2 ∧ (f = 0 ∨ f = 1) ∧ (∀ ss, CT iv rv a0 ss → 0 ≤ i → j ≤ iv a0 2 → (f = 1 ↔ ∀ x : Nat, i ≤ (x : Int) → (x : Int) < j → lo ≤ ss x ∧ ss x ≤ hi))))) args s (((PHM) + 0 - ((Phi (g0 G) sk) ln rv)) / 16) ((PHM) + 0 - ((Phi (g0 G) sk) ln rv)) A) (Phi (g0 G) sk) ((Phi (g0 G) sk) ln rv) L cl ln iv rv 0 3 [(5, .int (iI k)), (0, .ref a0), (1, .int (iI i)), (2, .int (iI j)), (3, .int (iI lo)), (4, .int (iI hi))] [] := by
    intro nn
    induction nn with
    | zero =>
      intro  k  hm   hk hall
      exact absurd hm (by omega)
    | succ nn ih1 =>
      intro  k  hm   hk hall
      refine c_iload (j := 0) C dX1_isWithin_3 rfl ?_
      refine c_iload_n (j := 3) C dX1_isWithin_5 rfl ?_
      refine c_icmp_ge (tgt := 38) C ⟨by omega, by omega⟩ ⟨by omega, by omega⟩ dX1_isWithin_6 (by decide) (fun c1 => ?_) (fun c1 => ?_)
      · refine c_iconst C dX1_isWithin_38 ?_
        exact c_zret C dX1_isWithin_39 rfl (Or.inr rfl) (by decide) (rom0 hph hph (by decide)) ⟨1, rfl, rfl, rfl, rfl, rfl, rfl, (Or.inr rfl), (fun ss hs h0 h1 => ⟨fun _ x hx hy => hall ss hs h0 h1 x hx (by omega), fun _ => rfl⟩)⟩
      · refine c_aload_n (j := 1) (x := a0) C dX1_isWithin_9 rfl ?_
        refine c_iload (j := 0) C dX1_isWithin_10 rfl ?_
        have ri1 : 0 ≤ iv a0 2 ∧ iv a0 2 ≤ 3000 := hW.int t_a0 2
        refine d_callV (As := [.int (iI k)]) (rest := []) C hM (C_at_2 (a0 := a0) (i := k) hW hS t_a0 (by omega) ) dX1_isWithin_12 kV_X1_39 rfl t_a0 rfl rfl (by decide) ck_2 rfl (Nat.le_of_ble_eq_true rfl) ⟨(Nat.le_of_ble_eq_true rfl), (Nat.le_of_ble_eq_true rfl)⟩ hph hph (show 0 + 0 = 0 from rfl) (by decide) (fun rh1 Lh1 clh1 lnh1 ivh1 rvh1 h1 => ?_)
        obtain ⟨f1, rfl, rfl, rfl, rfl, rfl, rfl, rgf1, exf1⟩ := h1
        refine c_st (st2 := [.int (iI f1)]) rfl ?_
        have gf1 : ((0 ≤ k ∧ k < iv a0 2) ∨ f1 = 0) ∧ ∀ ss, CT iv rv a0 ss → 0 ≤ k → k < iv a0 2 → f1 = ss k.toNat := exf1
        refine c_iload_n (j := 4) C dX1_isWithin_15 rfl ?_
        refine c_icmp_lt (tgt := 30) C ⟨by omega, by omega⟩ ⟨by omega, by omega⟩ dX1_isWithin_16 (by decide) (fun c2 => ?_) (fun c2 => ?_)
        · refine c_iconst C dX1_isWithin_30 ?_
          exact c_zret C dX1_isWithin_31 rfl (Or.inl rfl) (by decide) (rom0 hph hph (by decide)) ⟨0, rfl, rfl, rfl, rfl, rfl, rfl, (Or.inl rfl), (fun ss hs h0 h1 => ⟨fun q => absurd q (by decide), fun q => by have e1 := gf1.2 ss hs (by omega) (by omega); have e2 := q k.toNat (by omega) (by omega); rw [← e1] at e2; omega⟩)⟩
        · refine c_aload_n (j := 1) (x := a0) C dX1_isWithin_19 rfl ?_
          refine c_iload (j := 0) C dX1_isWithin_20 rfl ?_
          refine d_callV (As := [.int (iI k)]) (rest := []) C hM (C_at_2 (a0 := a0) (i := k) hW hS t_a0 (by omega) ) dX1_isWithin_22 kV_X1_39 rfl t_a0 rfl rfl (by decide) ck_2 rfl (Nat.le_of_ble_eq_true rfl) ⟨(Nat.le_of_ble_eq_true rfl), (Nat.le_of_ble_eq_true rfl)⟩ hph hph (show 0 + 0 = 0 from rfl) (by decide) (fun rh2 Lh2 clh2 lnh2 ivh2 rvh2 h2 => ?_)
          obtain ⟨f2, rfl, rfl, rfl, rfl, rfl, rfl, rgf2, exf2⟩ := h2
          refine c_st (st2 := [.int (iI f2)]) rfl ?_
          have gf2 : ((0 ≤ k ∧ k < iv a0 2) ∨ f2 = 0) ∧ ∀ ss, CT iv rv a0 ss → 0 ≤ k → k < iv a0 2 → f2 = ss k.toNat := exf2
          refine c_iload (j := 5) C dX1_isWithin_25 rfl ?_
          refine c_icmp_le (tgt := 32) C ⟨by omega, by omega⟩ ⟨by omega, by omega⟩ dX1_isWithin_27 (by decide) (fun c3 => ?_) (fun c3 => ?_)
          · refine c_iinc (z := k) (j := 0) (lv2 := [(5, .int (iI (k + 1))), (0, .ref a0), (1, .int (iI i)), (2, .int (iI j)), (3, .int (iI lo)), (4, .int (iI hi))]) C dX1_isWithin_32 rfl (by decide) rfl ?_
            refine c_goto (tgt := 3) C dX1_isWithin_35 (by decide) ?_
            refine c_lv (lv2 := [(5, .int (iI (k + 1))), (0, .ref a0), (1, .int (iI i)), (2, .int (iI j)), (3, .int (iI lo)), (4, .int (iI hi))]) [0, 1, 2, 3, 4, 5] rfl ?_
            exact ih1  (k + 1)  (by omega)   (by omega) (fun ss hs h0 h1 x hx hy => by
                by_cases e : (x : Int) < k
                · exact hall ss hs h0 h1 x hx e
                · have e1 := gf1.2 ss hs (by omega) (by omega)
                  have e2 := gf2.2 ss hs (by omega) (by omega)
                  rw [show x = k.toNat by omega, ← e1]
                  have e3 : f1 = f2 := e1.trans e2.symm
                  exact ⟨by omega, by omega⟩)
          · refine c_iconst C dX1_isWithin_30 ?_
            exact c_zret C dX1_isWithin_31 rfl (Or.inl rfl) (by decide) (rom0 hph hph (by decide)) ⟨0, rfl, rfl, rfl, rfl, rfl, rfl, (Or.inl rfl), (fun ss hs h0 h1 => ⟨fun q => absurd q (by decide), fun q => by have e1 := gf2.2 ss hs (by omega) (by omega); have e2 := q k.toNat (by omega) (by omega); rw [← e1] at e2; omega⟩)⟩
  refine c_lv (lv2 := [(5, .int (iI i)), (0, .ref a0), (1, .int (iI i)), (2, .int (iI j)), (3, .int (iI lo)), (4, .int (iI hi))]) [0, 1, 2, 3, 4, 5] rfl ?_
  exact Lp1 4294967297 i  (by omega)   (by omega) (fun ss hs h0 h1 x hx hy => absurd hy (by omega))
end
section
set_option maxHeartbeats 4000000 in
set_option maxRecDepth 100000 in
theorem Z_copyOf_2 {l : Launch} {G : GT} {mi : Nat} {sk : Nat → Nat} {L : List Nat} {cl ln : Nat → Nat} {iv : Nat → Nat → Int} {rv : Nat → Nat → Option Nat}  {a0 : Nat} {n : Int} (hW : WT (g0 G) sk L cl ln iv rv) (hS : SKL sk L cl) (t_a0 : ty L cl a0 32) (h_n : -2147483648 ≤ n ∧ n ≤ 2147483647) (hn : ((ln a0 : Nat) : Int) < n ∧ 16 ≤ n ∧ n ≤ 6000) : Mc l G mi zPf 0 yJ7_copyOf_59c91 cJ7_copyOf_59c91 3 (some (.array .int)) 1 [.ref a0, .int (iI n)] L cl ln iv rv (16 + n.toNat) (fun v L2 cl2 ln2 iv2 rv2 => ∃ f : Nat, v = some (.ref f) ∧ XT L cl ln L2 cl2 ln2 ∧ fT [32] L cl iv rv iv2 rv2 ∧ WT (g0 G) sk L2 cl2 ln2 iv2 rv2 ∧ ty L2 cl2 f 32 ∧ (ln2 f = n.toNat ∧ ∀ j : Nat, j < ln a0 → iv2 f j = iv a0 j)) := by
  refine Mc.mk (by decide) (Nat.le_of_ble_eq_true rfl) ?_
  intro p e s m args below meth c A C hM
  refine hv3 ((show zPf ln rv ≤ 0 from Nat.le_refl 0)) (show XT L cl ln L cl ln from XT.refl) (show fT [32] L cl iv rv iv rv from fT.refl) (fun hph hX0 hF0 => ?_)
  refine c_iload_n (j := 1) C dJ7_copyOf_59c91_0 rfl ?_
  refine c_aload_n (j := 0) (x := a0) C dJ7_copyOf_59c91_1 rfl ?_
  have ll1 : 16 ≤ ln a0 ∧ ln a0 ≤ 6000 := hW.len t_a0 rfl
  refine c_alenI C dJ7_copyOf_59c91_2 t_a0 rfl ?_
  refine c_icmp_ne (tgt := 14) C ⟨by omega, by omega⟩ ⟨by omega, by omega⟩ dJ7_copyOf_59c91_3 (by decide) (fun _ => ?_) (fun z => absurd z (by omega))
  refine c_iload_n (j := 1) C dJ7_copyOf_59c91_14 rfl ?_
  refine c_newaI (z := n) (N := n.toNat) C 32 dJ7_copyOf_59c91_15 w1_57 rfl (by omega) (by omega) (rom2 hph hph (by omega)) (fun qn1 cln1 lnn1 ivn1 rvn1 hqn1 hcn1 hln1 hin1 hrn1 => ⟨(0 + (16 + n.toNat)), (z_in (by omega)), ?_⟩)
  refine c_g0 C (fun hg1 => ?_)
  refine hv5 (show ∀ b, b ≠ qn1 → lnn1 b = ln b from (fun b hb => by rw [hln1]; exact va_up_ne _ _ hb)) (show lnn1 qn1 = n.toNat from by rw [hln1]; exact va_up_self _ _ _) (hF0.new hX0 hqn1 hin1 hrn1) (show ty (L ++ [qn1]) cln1 qn1 32 from ty_new hcn1) (show qn1 ∉ L from fun h => hqn1 ((hX0 qn1 h).1)) (fun hxn1 lqn1 F1 tqn1 h0qn1 => ?_)
  refine hv2 (hW.new (ln2 := lnn1) hqn1 (hg1 qn1 (List.mem_append_right _ List.mem_cons_self)) hcn1 hxn1 hin1 hrn1 (fun _ => ⟨(show (-2147483648 : Int) ≤ 0 by decide), (show (0 : Int) ≤ 2147483647 by decide)⟩) (Or.inr (fun _ => rfl)) (fun _ => by show 16 ≤ lnn1 qn1 ∧ lnn1 qn1 ≤ 6000; omega) rfl rfl) (XT.new hqn1 hcn1 hxn1) (fun W1 xl1 => ?_)
  refine hv2 (hX0.trans xl1) (xl1.skl hS) (fun X1 sk1 => ?_)
  refine c_astore_n (lv2 := [(2, .ref qn1), (0, .ref a0), (1, .int (iI n))]) C dJ7_copyOf_59c91_17 (by decide) rfl ?_
  refine c_aload_n (j := 1) (x := a0) C dJ7_copyOf_59c91_18 rfl ?_
  refine c_iconst C dJ7_copyOf_59c91_19 ?_
  refine c_aload_n (j := 0) (x := qn1) C dJ7_copyOf_59c91_20 rfl ?_
  refine c_iconst C dJ7_copyOf_59c91_21 ?_
  refine c_aload_n (j := 1) (x := a0) C dJ7_copyOf_59c91_22 rfl ?_
  have ty1 := xl1.ty t_a0
  have ll2 : 16 ≤ lnn1 a0 ∧ lnn1 a0 ≤ 6000 := W1.len ty1 rfl
  refine c_alenI C dJ7_copyOf_59c91_23 ty1 rfl ?_
  refine c_iload_n (j := 2) C dJ7_copyOf_59c91_24 rfl ?_
  obtain ⟨mn1, hmn1, emn1⟩ := mmin_c (x := ((lnn1 a0 : Nat) : Int)) (y := n) ⟨by omega, by omega⟩ ⟨by omega, by omega⟩
  refine c_mmin (w := iI mn1) C dJ7_copyOf_59c91_25 w2_128 w2_129 w1_14 w2_130 (by decide) (rom0 hph (Nat.le_refl 0) (by omega)) (Nat.le_of_ble_eq_true rfl) emn1 ?_
  have ll3 : 16 ≤ lnn1 qn1 ∧ lnn1 qn1 ≤ 6000 := W1.len tqn1 rfl
  refine c_copyi (sp := 0) (dp := 0) (n := mn1) C dJ7_copyOf_59c91_28 w2_131 w2_133 w2_132 w1_15 ty1 rfl tqn1 rfl (by omega) (by omega) (by omega) (by omega) (by omega) (by omega) (by omega) (by decide) (Nat.le_of_ble_eq_true rfl) (fun iv1 pq1 => ?_)
  refine hv2 (W1.copy pq1 tqn1 ty1 (fun _ => rfl) (fun _ => rfl) (fun _ => rfl) (fun _ => rfl) rfl) (F1.copy X1 pq1 tqn1 rfl) (fun W2 F2 => ?_)
  refine c_aload_n (j := 0) (x := qn1) C dJ7_copyOf_59c91_31 rfl ?_
  have le1 : lnn1 a0 = ln a0 := (xl1 a0 t_a0.1).2.2
  exact c_aret (x := some qn1) C dJ7_copyOf_59c91_32 rfl (Or.inr ⟨_, rfl⟩) (by omega) (rom0 hph (Nat.le_refl 0) (by omega)) ⟨qn1, rfl, X1, F2, W2, tqn1, ⟨lqn1, fun j hj => by
      rw [pq1]
      show (if qn1 = qn1 then (if (0 : Int).toNat ≤ j ∧ j < (0 : Int).toNat + mn1.toNat then ivn1 a0 ((0 : Int).toNat + (j - (0 : Int).toNat)) else ivn1 qn1 j) else ivn1 qn1 j) = _
      rw [if_pos rfl, if_pos ⟨by omega, by omega⟩, hin1, congrFun (up0_a (ne_in t_a0.1 hqn1)) _]
      exact congrArg (iv a0) (by omega)⟩⟩
set_option maxHeartbeats 4000000 in
set_option maxRecDepth 100000 in
theorem Z_copyOf_3 {l : Launch} {G : GT} {mi : Nat} {sk : Nat → Nat} {L : List Nat} {cl ln : Nat → Nat} {iv : Nat → Nat → Int} {rv : Nat → Nat → Option Nat}  {a0 : Nat} {n : Int} (hW : WT (g0 G) sk L cl ln iv rv) (hS : SKL sk L cl) (t_a0 : ty L cl a0 33) (h_n : -2147483648 ≤ n ∧ n ≤ 2147483647) (hn : ((ln a0 : Nat) : Int) < n ∧ 16 ≤ n ∧ n ≤ 1000) : Mc l G mi zPf 0 yJ7_copyOf_59c91 cJ7_copyOf_59c91 3 (some (.array .int)) 1 [.ref a0, .int (iI n)] L cl ln iv rv (16 + n.toNat) (fun v L2 cl2 ln2 iv2 rv2 => ∃ f : Nat, v = some (.ref f) ∧ XT L cl ln L2 cl2 ln2 ∧ fT [33] L cl iv rv iv2 rv2 ∧ WT (g0 G) sk L2 cl2 ln2 iv2 rv2 ∧ ty L2 cl2 f 33 ∧ (ln2 f = n.toNat ∧ ∀ j : Nat, j < ln a0 → iv2 f j = iv a0 j)) := by
  refine Mc.mk (by decide) (Nat.le_of_ble_eq_true rfl) ?_
  intro p e s m args below meth c A C hM
  refine hv3 ((show zPf ln rv ≤ 0 from Nat.le_refl 0)) (show XT L cl ln L cl ln from XT.refl) (show fT [33] L cl iv rv iv rv from fT.refl) (fun hph hX0 hF0 => ?_)
  refine c_iload_n (j := 1) C dJ7_copyOf_59c91_0 rfl ?_
  refine c_aload_n (j := 0) (x := a0) C dJ7_copyOf_59c91_1 rfl ?_
  have ll1 : 16 ≤ ln a0 ∧ ln a0 ≤ 1000 := hW.len t_a0 rfl
  refine c_alenI C dJ7_copyOf_59c91_2 t_a0 rfl ?_
  refine c_icmp_ne (tgt := 14) C ⟨by omega, by omega⟩ ⟨by omega, by omega⟩ dJ7_copyOf_59c91_3 (by decide) (fun _ => ?_) (fun z => absurd z (by omega))
  refine c_iload_n (j := 1) C dJ7_copyOf_59c91_14 rfl ?_
  refine c_newaI (z := n) (N := n.toNat) C 33 dJ7_copyOf_59c91_15 w1_57 rfl (by omega) (by omega) (rom2 hph hph (by omega)) (fun qn1 cln1 lnn1 ivn1 rvn1 hqn1 hcn1 hln1 hin1 hrn1 => ⟨(0 + (16 + n.toNat)), (z_in (by omega)), ?_⟩)
  refine c_g0 C (fun hg1 => ?_)
  refine hv5 (show ∀ b, b ≠ qn1 → lnn1 b = ln b from (fun b hb => by rw [hln1]; exact va_up_ne _ _ hb)) (show lnn1 qn1 = n.toNat from by rw [hln1]; exact va_up_self _ _ _) (hF0.new hX0 hqn1 hin1 hrn1) (show ty (L ++ [qn1]) cln1 qn1 33 from ty_new hcn1) (show qn1 ∉ L from fun h => hqn1 ((hX0 qn1 h).1)) (fun hxn1 lqn1 F1 tqn1 h0qn1 => ?_)
  refine hv2 (hW.new (ln2 := lnn1) hqn1 (hg1 qn1 (List.mem_append_right _ List.mem_cons_self)) hcn1 hxn1 hin1 hrn1 (fun _ => ⟨(show (-2147483648 : Int) ≤ 0 by decide), (show (0 : Int) ≤ 2147483647 by decide)⟩) (Or.inr (fun _ => rfl)) (fun _ => by show 16 ≤ lnn1 qn1 ∧ lnn1 qn1 ≤ 1000; omega) rfl rfl) (XT.new hqn1 hcn1 hxn1) (fun W1 xl1 => ?_)
  refine hv2 (hX0.trans xl1) (xl1.skl hS) (fun X1 sk1 => ?_)
  refine c_astore_n (lv2 := [(2, .ref qn1), (0, .ref a0), (1, .int (iI n))]) C dJ7_copyOf_59c91_17 (by decide) rfl ?_
  refine c_aload_n (j := 1) (x := a0) C dJ7_copyOf_59c91_18 rfl ?_
  refine c_iconst C dJ7_copyOf_59c91_19 ?_
  refine c_aload_n (j := 0) (x := qn1) C dJ7_copyOf_59c91_20 rfl ?_
  refine c_iconst C dJ7_copyOf_59c91_21 ?_
  refine c_aload_n (j := 1) (x := a0) C dJ7_copyOf_59c91_22 rfl ?_
  have ty1 := xl1.ty t_a0
  have ll2 : 16 ≤ lnn1 a0 ∧ lnn1 a0 ≤ 1000 := W1.len ty1 rfl
  refine c_alenI C dJ7_copyOf_59c91_23 ty1 rfl ?_
  refine c_iload_n (j := 2) C dJ7_copyOf_59c91_24 rfl ?_
  obtain ⟨mn1, hmn1, emn1⟩ := mmin_c (x := ((lnn1 a0 : Nat) : Int)) (y := n) ⟨by omega, by omega⟩ ⟨by omega, by omega⟩
  refine c_mmin (w := iI mn1) C dJ7_copyOf_59c91_25 w2_128 w2_129 w1_14 w2_130 (by decide) (rom0 hph (Nat.le_refl 0) (by omega)) (Nat.le_of_ble_eq_true rfl) emn1 ?_
  have ll3 : 16 ≤ lnn1 qn1 ∧ lnn1 qn1 ≤ 1000 := W1.len tqn1 rfl
  refine c_copyi (sp := 0) (dp := 0) (n := mn1) C dJ7_copyOf_59c91_28 w2_131 w2_133 w2_132 w1_15 ty1 rfl tqn1 rfl (by omega) (by omega) (by omega) (by omega) (by omega) (by omega) (by omega) (by decide) (Nat.le_of_ble_eq_true rfl) (fun iv1 pq1 => ?_)
  refine hv2 (W1.copy pq1 tqn1 ty1 (fun _ => rfl) (fun _ => rfl) (fun _ => rfl) (fun _ => rfl) rfl) (F1.copy X1 pq1 tqn1 rfl) (fun W2 F2 => ?_)
  refine c_aload_n (j := 0) (x := qn1) C dJ7_copyOf_59c91_31 rfl ?_
  have le1 : lnn1 a0 = ln a0 := (xl1 a0 t_a0.1).2.2
  exact c_aret (x := some qn1) C dJ7_copyOf_59c91_32 rfl (Or.inr ⟨_, rfl⟩) (by omega) (rom0 hph (Nat.le_refl 0) (by omega)) ⟨qn1, rfl, X1, F2, W2, tqn1, ⟨lqn1, fun j hj => by
      rw [pq1]
      show (if qn1 = qn1 then (if (0 : Int).toNat ≤ j ∧ j < (0 : Int).toNat + mn1.toNat then ivn1 a0 ((0 : Int).toNat + (j - (0 : Int).toNat)) else ivn1 qn1 j) else ivn1 qn1 j) = _
      rw [if_pos rfl, if_pos ⟨by omega, by omega⟩, hin1, congrFun (up0_a (ne_in t_a0.1 hqn1)) _]
      exact congrArg (iv a0) (by omega)⟩⟩
set_option maxHeartbeats 4000000 in
set_option maxRecDepth 100000 in
theorem Z_copyOf_4 {l : Launch} {G : GT} {mi : Nat} {sk : Nat → Nat} {L : List Nat} {cl ln : Nat → Nat} {iv : Nat → Nat → Int} {rv : Nat → Nat → Option Nat}  {a0 : Nat} {n : Int} (hW : WT (g0 G) sk L cl ln iv rv) (hS : SKL sk L cl) (t_a0 : ty L cl a0 34) (h_n : -2147483648 ≤ n ∧ n ≤ 2147483647) (hn : ((ln a0 : Nat) : Int) < n ∧ 16 ≤ n ∧ n ≤ 8000) : Mc l G mi zPf 0 yJ7_copyOf_59c91 cJ7_copyOf_59c91 3 (some (.array .int)) 1 [.ref a0, .int (iI n)] L cl ln iv rv (16 + n.toNat) (fun v L2 cl2 ln2 iv2 rv2 => ∃ f : Nat, v = some (.ref f) ∧ XT L cl ln L2 cl2 ln2 ∧ fT [34] L cl iv rv iv2 rv2 ∧ WT (g0 G) sk L2 cl2 ln2 iv2 rv2 ∧ ty L2 cl2 f 34 ∧ (ln2 f = n.toNat)) := by
  refine Mc.mk (by decide) (Nat.le_of_ble_eq_true rfl) ?_
  intro p e s m args below meth c A C hM
  refine hv3 ((show zPf ln rv ≤ 0 from Nat.le_refl 0)) (show XT L cl ln L cl ln from XT.refl) (show fT [34] L cl iv rv iv rv from fT.refl) (fun hph hX0 hF0 => ?_)
  refine c_iload_n (j := 1) C dJ7_copyOf_59c91_0 rfl ?_
  refine c_aload_n (j := 0) (x := a0) C dJ7_copyOf_59c91_1 rfl ?_
  have ll1 : 16 ≤ ln a0 ∧ ln a0 ≤ 8000 := hW.len t_a0 rfl
  refine c_alenI C dJ7_copyOf_59c91_2 t_a0 rfl ?_
  refine c_icmp_ne (tgt := 14) C ⟨by omega, by omega⟩ ⟨by omega, by omega⟩ dJ7_copyOf_59c91_3 (by decide) (fun _ => ?_) (fun z => absurd z (by omega))
  refine c_iload_n (j := 1) C dJ7_copyOf_59c91_14 rfl ?_
  refine c_newaI (z := n) (N := n.toNat) C 34 dJ7_copyOf_59c91_15 w1_57 rfl (by omega) (by omega) (rom2 hph hph (by omega)) (fun qn1 cln1 lnn1 ivn1 rvn1 hqn1 hcn1 hln1 hin1 hrn1 => ⟨(0 + (16 + n.toNat)), (z_in (by omega)), ?_⟩)
  refine c_g0 C (fun hg1 => ?_)
  refine hv5 (show ∀ b, b ≠ qn1 → lnn1 b = ln b from (fun b hb => by rw [hln1]; exact va_up_ne _ _ hb)) (show lnn1 qn1 = n.toNat from by rw [hln1]; exact va_up_self _ _ _) (hF0.new hX0 hqn1 hin1 hrn1) (show ty (L ++ [qn1]) cln1 qn1 34 from ty_new hcn1) (show qn1 ∉ L from fun h => hqn1 ((hX0 qn1 h).1)) (fun hxn1 lqn1 F1 tqn1 h0qn1 => ?_)
  refine hv2 (hW.new (ln2 := lnn1) hqn1 (hg1 qn1 (List.mem_append_right _ List.mem_cons_self)) hcn1 hxn1 hin1 hrn1 (fun _ => ⟨(show (-2147483648 : Int) ≤ 0 by decide), (show (0 : Int) ≤ 2147483647 by decide)⟩) (Or.inr (fun _ => rfl)) (fun _ => by show 16 ≤ lnn1 qn1 ∧ lnn1 qn1 ≤ 8000; omega) rfl rfl) (XT.new hqn1 hcn1 hxn1) (fun W1 xl1 => ?_)
  refine hv2 (hX0.trans xl1) (xl1.skl hS) (fun X1 sk1 => ?_)
  refine c_astore_n (lv2 := [(2, .ref qn1), (0, .ref a0), (1, .int (iI n))]) C dJ7_copyOf_59c91_17 (by decide) rfl ?_
  refine c_aload_n (j := 1) (x := a0) C dJ7_copyOf_59c91_18 rfl ?_
  refine c_iconst C dJ7_copyOf_59c91_19 ?_
  refine c_aload_n (j := 0) (x := qn1) C dJ7_copyOf_59c91_20 rfl ?_
  refine c_iconst C dJ7_copyOf_59c91_21 ?_
  refine c_aload_n (j := 1) (x := a0) C dJ7_copyOf_59c91_22 rfl ?_
  have ty1 := xl1.ty t_a0
  have ll2 : 16 ≤ lnn1 a0 ∧ lnn1 a0 ≤ 8000 := W1.len ty1 rfl
  refine c_alenI C dJ7_copyOf_59c91_23 ty1 rfl ?_
  refine c_iload_n (j := 2) C dJ7_copyOf_59c91_24 rfl ?_
  obtain ⟨mn1, hmn1, emn1⟩ := mmin_c (x := ((lnn1 a0 : Nat) : Int)) (y := n) ⟨by omega, by omega⟩ ⟨by omega, by omega⟩
  refine c_mmin (w := iI mn1) C dJ7_copyOf_59c91_25 w2_128 w2_129 w1_14 w2_130 (by decide) (rom0 hph (Nat.le_refl 0) (by omega)) (Nat.le_of_ble_eq_true rfl) emn1 ?_
  have ll3 : 16 ≤ lnn1 qn1 ∧ lnn1 qn1 ≤ 8000 := W1.len tqn1 rfl
  refine c_copyi (sp := 0) (dp := 0) (n := mn1) C dJ7_copyOf_59c91_28 w2_131 w2_133 w2_132 w1_15 ty1 rfl tqn1 rfl (by omega) (by omega) (by omega) (by omega) (by omega) (by omega) (by omega) (by decide) (Nat.le_of_ble_eq_true rfl) (fun iv1 pq1 => ?_)
  refine hv2 (W1.copy pq1 tqn1 ty1 (fun _ => rfl) (fun _ => rfl) (fun _ => rfl) (fun _ => rfl) rfl) (F1.copy X1 pq1 tqn1 rfl) (fun W2 F2 => ?_)
  refine c_aload_n (j := 0) (x := qn1) C dJ7_copyOf_59c91_31 rfl ?_
  exact c_aret (x := some qn1) C dJ7_copyOf_59c91_32 rfl (Or.inr ⟨_, rfl⟩) (by omega) (rom0 hph (Nat.le_refl 0) (by omega)) ⟨qn1, rfl, X1, F2, W2, tqn1, lqn1⟩
set_option maxHeartbeats 4000000 in
set_option maxRecDepth 100000 in
theorem Z_copyOf_5 {l : Launch} {G : GT} {mi : Nat} {sk : Nat → Nat} {L : List Nat} {cl ln : Nat → Nat} {iv : Nat → Nat → Int} {rv : Nat → Nat → Option Nat}  {a0 : Nat} {n : Int} (hW : WT (g0 G) sk L cl ln iv rv) (hS : SKL sk L cl) (t_a0 : ty L cl a0 35) (h_n : -2147483648 ≤ n ∧ n ≤ 2147483647) (hn : ((ln a0 : Nat) : Int) < n ∧ 16 ≤ n ∧ n ≤ 400) : Mc l G mi zPf 0 yJ7_copyOf_59c91 cJ7_copyOf_59c91 3 (some (.array .int)) 1 [.ref a0, .int (iI n)] L cl ln iv rv (16 + n.toNat) (fun v L2 cl2 ln2 iv2 rv2 => ∃ f : Nat, v = some (.ref f) ∧ XT L cl ln L2 cl2 ln2 ∧ fT [35] L cl iv rv iv2 rv2 ∧ WT (g0 G) sk L2 cl2 ln2 iv2 rv2 ∧ ty L2 cl2 f 35 ∧ (ln2 f = n.toNat)) := by
  refine Mc.mk (by decide) (Nat.le_of_ble_eq_true rfl) ?_
  intro p e s m args below meth c A C hM
  refine hv3 ((show zPf ln rv ≤ 0 from Nat.le_refl 0)) (show XT L cl ln L cl ln from XT.refl) (show fT [35] L cl iv rv iv rv from fT.refl) (fun hph hX0 hF0 => ?_)
  refine c_iload_n (j := 1) C dJ7_copyOf_59c91_0 rfl ?_
  refine c_aload_n (j := 0) (x := a0) C dJ7_copyOf_59c91_1 rfl ?_
  have ll1 : 16 ≤ ln a0 ∧ ln a0 ≤ 400 := hW.len t_a0 rfl
  refine c_alenI C dJ7_copyOf_59c91_2 t_a0 rfl ?_
  refine c_icmp_ne (tgt := 14) C ⟨by omega, by omega⟩ ⟨by omega, by omega⟩ dJ7_copyOf_59c91_3 (by decide) (fun _ => ?_) (fun z => absurd z (by omega))
  refine c_iload_n (j := 1) C dJ7_copyOf_59c91_14 rfl ?_
  refine c_newaI (z := n) (N := n.toNat) C 35 dJ7_copyOf_59c91_15 w1_57 rfl (by omega) (by omega) (rom2 hph hph (by omega)) (fun qn1 cln1 lnn1 ivn1 rvn1 hqn1 hcn1 hln1 hin1 hrn1 => ⟨(0 + (16 + n.toNat)), (z_in (by omega)), ?_⟩)
  refine c_g0 C (fun hg1 => ?_)
  refine hv5 (show ∀ b, b ≠ qn1 → lnn1 b = ln b from (fun b hb => by rw [hln1]; exact va_up_ne _ _ hb)) (show lnn1 qn1 = n.toNat from by rw [hln1]; exact va_up_self _ _ _) (hF0.new hX0 hqn1 hin1 hrn1) (show ty (L ++ [qn1]) cln1 qn1 35 from ty_new hcn1) (show qn1 ∉ L from fun h => hqn1 ((hX0 qn1 h).1)) (fun hxn1 lqn1 F1 tqn1 h0qn1 => ?_)
  refine hv2 (hW.new (ln2 := lnn1) hqn1 (hg1 qn1 (List.mem_append_right _ List.mem_cons_self)) hcn1 hxn1 hin1 hrn1 (fun _ => ⟨(show (-2147483648 : Int) ≤ 0 by decide), (show (0 : Int) ≤ 2147483647 by decide)⟩) (Or.inr (fun _ => rfl)) (fun _ => by show 16 ≤ lnn1 qn1 ∧ lnn1 qn1 ≤ 400; omega) rfl rfl) (XT.new hqn1 hcn1 hxn1) (fun W1 xl1 => ?_)
  refine hv2 (hX0.trans xl1) (xl1.skl hS) (fun X1 sk1 => ?_)
  refine c_astore_n (lv2 := [(2, .ref qn1), (0, .ref a0), (1, .int (iI n))]) C dJ7_copyOf_59c91_17 (by decide) rfl ?_
  refine c_aload_n (j := 1) (x := a0) C dJ7_copyOf_59c91_18 rfl ?_
  refine c_iconst C dJ7_copyOf_59c91_19 ?_
  refine c_aload_n (j := 0) (x := qn1) C dJ7_copyOf_59c91_20 rfl ?_
  refine c_iconst C dJ7_copyOf_59c91_21 ?_
  refine c_aload_n (j := 1) (x := a0) C dJ7_copyOf_59c91_22 rfl ?_
  have ty1 := xl1.ty t_a0
  have ll2 : 16 ≤ lnn1 a0 ∧ lnn1 a0 ≤ 400 := W1.len ty1 rfl
  refine c_alenI C dJ7_copyOf_59c91_23 ty1 rfl ?_
  refine c_iload_n (j := 2) C dJ7_copyOf_59c91_24 rfl ?_
  obtain ⟨mn1, hmn1, emn1⟩ := mmin_c (x := ((lnn1 a0 : Nat) : Int)) (y := n) ⟨by omega, by omega⟩ ⟨by omega, by omega⟩
  refine c_mmin (w := iI mn1) C dJ7_copyOf_59c91_25 w2_128 w2_129 w1_14 w2_130 (by decide) (rom0 hph (Nat.le_refl 0) (by omega)) (Nat.le_of_ble_eq_true rfl) emn1 ?_
  have ll3 : 16 ≤ lnn1 qn1 ∧ lnn1 qn1 ≤ 400 := W1.len tqn1 rfl
  refine c_copyi (sp := 0) (dp := 0) (n := mn1) C dJ7_copyOf_59c91_28 w2_131 w2_133 w2_132 w1_15 ty1 rfl tqn1 rfl (by omega) (by omega) (by omega) (by omega) (by omega) (by omega) (by omega) (by decide) (Nat.le_of_ble_eq_true rfl) (fun iv1 pq1 => ?_)
  refine hv2 (W1.copy pq1 tqn1 ty1 (fun _ => rfl) (fun _ => rfl) (fun _ => rfl) (fun _ => rfl) rfl) (F1.copy X1 pq1 tqn1 rfl) (fun W2 F2 => ?_)
  refine c_aload_n (j := 0) (x := qn1) C dJ7_copyOf_59c91_31 rfl ?_
  exact c_aret (x := some qn1) C dJ7_copyOf_59c91_32 rfl (Or.inr ⟨_, rfl⟩) (by omega) (rom0 hph (Nat.le_refl 0) (by omega)) ⟨qn1, rfl, X1, F2, W2, tqn1, lqn1⟩
set_option maxHeartbeats 4000000 in
set_option maxRecDepth 100000 in
theorem Z_copyOf_6 {l : Launch} {G : GT} {mi : Nat} {sk : Nat → Nat} {L : List Nat} {cl ln : Nat → Nat} {iv : Nat → Nat → Int} {rv : Nat → Nat → Option Nat}  {a0 : Nat} {n : Int} (hW : WT (g0 G) sk L cl ln iv rv) (hS : SKL sk L cl) (t_a0 : ty L cl a0 36) (h_n : -2147483648 ≤ n ∧ n ≤ 2147483647) (hn : ((ln a0 : Nat) : Int) < n ∧ 16 ≤ n ∧ n ≤ 12006) : Mc l G mi zPf 0 yJ7_copyOf_59c91 cJ7_copyOf_59c91 3 (some (.array .int)) 1 [.ref a0, .int (iI n)] L cl ln iv rv (16 + n.toNat) (fun v L2 cl2 ln2 iv2 rv2 => ∃ f : Nat, v = some (.ref f) ∧ XT L cl ln L2 cl2 ln2 ∧ fT [36] L cl iv rv iv2 rv2 ∧ WT (g0 G) sk L2 cl2 ln2 iv2 rv2 ∧ ty L2 cl2 f 36 ∧ (ln2 f = n.toNat)) := by
  refine Mc.mk (by decide) (Nat.le_of_ble_eq_true rfl) ?_
  intro p e s m args below meth c A C hM
  refine hv3 ((show zPf ln rv ≤ 0 from Nat.le_refl 0)) (show XT L cl ln L cl ln from XT.refl) (show fT [36] L cl iv rv iv rv from fT.refl) (fun hph hX0 hF0 => ?_)
  refine c_iload_n (j := 1) C dJ7_copyOf_59c91_0 rfl ?_
  refine c_aload_n (j := 0) (x := a0) C dJ7_copyOf_59c91_1 rfl ?_
  have ll1 : 16 ≤ ln a0 ∧ ln a0 ≤ 12006 := hW.len t_a0 rfl
  refine c_alenI C dJ7_copyOf_59c91_2 t_a0 rfl ?_
  refine c_icmp_ne (tgt := 14) C ⟨by omega, by omega⟩ ⟨by omega, by omega⟩ dJ7_copyOf_59c91_3 (by decide) (fun _ => ?_) (fun z => absurd z (by omega))
  refine c_iload_n (j := 1) C dJ7_copyOf_59c91_14 rfl ?_
  refine c_newaI (z := n) (N := n.toNat) C 36 dJ7_copyOf_59c91_15 w1_57 rfl (by omega) (by omega) (rom2 hph hph (by omega)) (fun qn1 cln1 lnn1 ivn1 rvn1 hqn1 hcn1 hln1 hin1 hrn1 => ⟨(0 + (16 + n.toNat)), (z_in (by omega)), ?_⟩)
  refine c_g0 C (fun hg1 => ?_)
  refine hv5 (show ∀ b, b ≠ qn1 → lnn1 b = ln b from (fun b hb => by rw [hln1]; exact va_up_ne _ _ hb)) (show lnn1 qn1 = n.toNat from by rw [hln1]; exact va_up_self _ _ _) (hF0.new hX0 hqn1 hin1 hrn1) (show ty (L ++ [qn1]) cln1 qn1 36 from ty_new hcn1) (show qn1 ∉ L from fun h => hqn1 ((hX0 qn1 h).1)) (fun hxn1 lqn1 F1 tqn1 h0qn1 => ?_)
  refine hv2 (hW.new (ln2 := lnn1) hqn1 (hg1 qn1 (List.mem_append_right _ List.mem_cons_self)) hcn1 hxn1 hin1 hrn1 (fun _ => ⟨(show (-2147483648 : Int) ≤ 0 by decide), (show (0 : Int) ≤ 2147483647 by decide)⟩) (Or.inr (fun _ => rfl)) (fun _ => by show 16 ≤ lnn1 qn1 ∧ lnn1 qn1 ≤ 12006; omega) rfl rfl) (XT.new hqn1 hcn1 hxn1) (fun W1 xl1 => ?_)
  refine hv2 (hX0.trans xl1) (xl1.skl hS) (fun X1 sk1 => ?_)
  refine c_astore_n (lv2 := [(2, .ref qn1), (0, .ref a0), (1, .int (iI n))]) C dJ7_copyOf_59c91_17 (by decide) rfl ?_
  refine c_aload_n (j := 1) (x := a0) C dJ7_copyOf_59c91_18 rfl ?_
  refine c_iconst C dJ7_copyOf_59c91_19 ?_
  refine c_aload_n (j := 0) (x := qn1) C dJ7_copyOf_59c91_20 rfl ?_
  refine c_iconst C dJ7_copyOf_59c91_21 ?_
  refine c_aload_n (j := 1) (x := a0) C dJ7_copyOf_59c91_22 rfl ?_
  have ty1 := xl1.ty t_a0
  have ll2 : 16 ≤ lnn1 a0 ∧ lnn1 a0 ≤ 12006 := W1.len ty1 rfl
  refine c_alenI C dJ7_copyOf_59c91_23 ty1 rfl ?_
  refine c_iload_n (j := 2) C dJ7_copyOf_59c91_24 rfl ?_
  obtain ⟨mn1, hmn1, emn1⟩ := mmin_c (x := ((lnn1 a0 : Nat) : Int)) (y := n) ⟨by omega, by omega⟩ ⟨by omega, by omega⟩
  refine c_mmin (w := iI mn1) C dJ7_copyOf_59c91_25 w2_128 w2_129 w1_14 w2_130 (by decide) (rom0 hph (Nat.le_refl 0) (by omega)) (Nat.le_of_ble_eq_true rfl) emn1 ?_
  have ll3 : 16 ≤ lnn1 qn1 ∧ lnn1 qn1 ≤ 12006 := W1.len tqn1 rfl
  refine c_copyi (sp := 0) (dp := 0) (n := mn1) C dJ7_copyOf_59c91_28 w2_131 w2_133 w2_132 w1_15 ty1 rfl tqn1 rfl (by omega) (by omega) (by omega) (by omega) (by omega) (by omega) (by omega) (by decide) (Nat.le_of_ble_eq_true rfl) (fun iv1 pq1 => ?_)
  refine hv2 (W1.copy pq1 tqn1 ty1 (fun _ => rfl) (fun _ => rfl) (fun _ => rfl) (fun _ => rfl) rfl) (F1.copy X1 pq1 tqn1 rfl) (fun W2 F2 => ?_)
  refine c_aload_n (j := 0) (x := qn1) C dJ7_copyOf_59c91_31 rfl ?_
  exact c_aret (x := some qn1) C dJ7_copyOf_59c91_32 rfl (Or.inr ⟨_, rfl⟩) (by omega) (rom0 hph (Nat.le_refl 0) (by omega)) ⟨qn1, rfl, X1, F2, W2, tqn1, lqn1⟩
set_option maxHeartbeats 4000000 in
set_option maxRecDepth 100000 in
theorem Z_copyOf_7 {l : Launch} {G : GT} {mi : Nat} {sk : Nat → Nat} {L : List Nat} {cl ln : Nat → Nat} {iv : Nat → Nat → Int} {rv : Nat → Nat → Option Nat}  {a0 : Nat} {n : Int} (hW : WT (g0 G) sk L cl ln iv rv) (hS : SKL sk L cl) (t_a0 : ty L cl a0 37) (h_n : -2147483648 ≤ n ∧ n ≤ 2147483647) (hn : ((ln a0 : Nat) : Int) < n ∧ 16 ≤ n ∧ n ≤ 12006) : Mc l G mi zPf 0 yJ7_copyOf_59c91 cJ7_copyOf_59c91 3 (some (.array .int)) 1 [.ref a0, .int (iI n)] L cl ln iv rv (16 + n.toNat) (fun v L2 cl2 ln2 iv2 rv2 => ∃ f : Nat, v = some (.ref f) ∧ XT L cl ln L2 cl2 ln2 ∧ fT [37] L cl iv rv iv2 rv2 ∧ WT (g0 G) sk L2 cl2 ln2 iv2 rv2 ∧ ty L2 cl2 f 37 ∧ (ln2 f = n.toNat)) := by
  refine Mc.mk (by decide) (Nat.le_of_ble_eq_true rfl) ?_
  intro p e s m args below meth c A C hM
  refine hv3 ((show zPf ln rv ≤ 0 from Nat.le_refl 0)) (show XT L cl ln L cl ln from XT.refl) (show fT [37] L cl iv rv iv rv from fT.refl) (fun hph hX0 hF0 => ?_)
  refine c_iload_n (j := 1) C dJ7_copyOf_59c91_0 rfl ?_
  refine c_aload_n (j := 0) (x := a0) C dJ7_copyOf_59c91_1 rfl ?_
  have ll1 : 16 ≤ ln a0 ∧ ln a0 ≤ 12006 := hW.len t_a0 rfl
  refine c_alenI C dJ7_copyOf_59c91_2 t_a0 rfl ?_
  refine c_icmp_ne (tgt := 14) C ⟨by omega, by omega⟩ ⟨by omega, by omega⟩ dJ7_copyOf_59c91_3 (by decide) (fun _ => ?_) (fun z => absurd z (by omega))
  refine c_iload_n (j := 1) C dJ7_copyOf_59c91_14 rfl ?_
  refine c_newaI (z := n) (N := n.toNat) C 37 dJ7_copyOf_59c91_15 w1_57 rfl (by omega) (by omega) (rom2 hph hph (by omega)) (fun qn1 cln1 lnn1 ivn1 rvn1 hqn1 hcn1 hln1 hin1 hrn1 => ⟨(0 + (16 + n.toNat)), (z_in (by omega)), ?_⟩)
  refine c_g0 C (fun hg1 => ?_)
  refine hv5 (show ∀ b, b ≠ qn1 → lnn1 b = ln b from (fun b hb => by rw [hln1]; exact va_up_ne _ _ hb)) (show lnn1 qn1 = n.toNat from by rw [hln1]; exact va_up_self _ _ _) (hF0.new hX0 hqn1 hin1 hrn1) (show ty (L ++ [qn1]) cln1 qn1 37 from ty_new hcn1) (show qn1 ∉ L from fun h => hqn1 ((hX0 qn1 h).1)) (fun hxn1 lqn1 F1 tqn1 h0qn1 => ?_)
  refine hv2 (hW.new (ln2 := lnn1) hqn1 (hg1 qn1 (List.mem_append_right _ List.mem_cons_self)) hcn1 hxn1 hin1 hrn1 (fun _ => ⟨(show (-2147483648 : Int) ≤ 0 by decide), (show (0 : Int) ≤ 2147483647 by decide)⟩) (Or.inr (fun _ => rfl)) (fun _ => by show 16 ≤ lnn1 qn1 ∧ lnn1 qn1 ≤ 12006; omega) rfl rfl) (XT.new hqn1 hcn1 hxn1) (fun W1 xl1 => ?_)
  refine hv2 (hX0.trans xl1) (xl1.skl hS) (fun X1 sk1 => ?_)
  refine c_astore_n (lv2 := [(2, .ref qn1), (0, .ref a0), (1, .int (iI n))]) C dJ7_copyOf_59c91_17 (by decide) rfl ?_
  refine c_aload_n (j := 1) (x := a0) C dJ7_copyOf_59c91_18 rfl ?_
  refine c_iconst C dJ7_copyOf_59c91_19 ?_
  refine c_aload_n (j := 0) (x := qn1) C dJ7_copyOf_59c91_20 rfl ?_
  refine c_iconst C dJ7_copyOf_59c91_21 ?_
  refine c_aload_n (j := 1) (x := a0) C dJ7_copyOf_59c91_22 rfl ?_
  have ty1 := xl1.ty t_a0
  have ll2 : 16 ≤ lnn1 a0 ∧ lnn1 a0 ≤ 12006 := W1.len ty1 rfl
  refine c_alenI C dJ7_copyOf_59c91_23 ty1 rfl ?_
  refine c_iload_n (j := 2) C dJ7_copyOf_59c91_24 rfl ?_
  obtain ⟨mn1, hmn1, emn1⟩ := mmin_c (x := ((lnn1 a0 : Nat) : Int)) (y := n) ⟨by omega, by omega⟩ ⟨by omega, by omega⟩
  refine c_mmin (w := iI mn1) C dJ7_copyOf_59c91_25 w2_128 w2_129 w1_14 w2_130 (by decide) (rom0 hph (Nat.le_refl 0) (by omega)) (Nat.le_of_ble_eq_true rfl) emn1 ?_
  have ll3 : 16 ≤ lnn1 qn1 ∧ lnn1 qn1 ≤ 12006 := W1.len tqn1 rfl
  refine c_copyi (sp := 0) (dp := 0) (n := mn1) C dJ7_copyOf_59c91_28 w2_131 w2_133 w2_132 w1_15 ty1 rfl tqn1 rfl (by omega) (by omega) (by omega) (by omega) (by omega) (by omega) (by omega) (by decide) (Nat.le_of_ble_eq_true rfl) (fun iv1 pq1 => ?_)
  refine hv2 (W1.copy pq1 tqn1 ty1 (fun _ => rfl) (fun _ => rfl) (fun _ => rfl) (fun _ => rfl) rfl) (F1.copy X1 pq1 tqn1 rfl) (fun W2 F2 => ?_)
  refine c_aload_n (j := 0) (x := qn1) C dJ7_copyOf_59c91_31 rfl ?_
  exact c_aret (x := some qn1) C dJ7_copyOf_59c91_32 rfl (Or.inr ⟨_, rfl⟩) (by omega) (rom0 hph (Nat.le_refl 0) (by omega)) ⟨qn1, rfl, X1, F2, W2, tqn1, lqn1⟩
set_option maxHeartbeats 4000000 in
set_option maxRecDepth 100000 in
theorem Z_copyOf_8 {l : Launch} {G : GT} {mi : Nat} {sk : Nat → Nat} {L : List Nat} {cl ln : Nat → Nat} {iv : Nat → Nat → Int} {rv : Nat → Nat → Option Nat}  {a0 : Nat} {n : Int} (hW : WT (g0 G) sk L cl ln iv rv) (hS : SKL sk L cl) (t_a0 : ty L cl a0 38) (h_n : -2147483648 ≤ n ∧ n ≤ 2147483647) (hn : ((ln a0 : Nat) : Int) < n ∧ 16 ≤ n ∧ n ≤ 80400) : Mc l G mi zPf 0 yJ7_copyOf_59c91 cJ7_copyOf_59c91 3 (some (.array .int)) 1 [.ref a0, .int (iI n)] L cl ln iv rv (16 + n.toNat) (fun v L2 cl2 ln2 iv2 rv2 => ∃ f : Nat, v = some (.ref f) ∧ XT L cl ln L2 cl2 ln2 ∧ fT [38] L cl iv rv iv2 rv2 ∧ WT (g0 G) sk L2 cl2 ln2 iv2 rv2 ∧ ty L2 cl2 f 38 ∧ (ln2 f = n.toNat)) := by
  refine Mc.mk (by decide) (Nat.le_of_ble_eq_true rfl) ?_
  intro p e s m args below meth c A C hM
  refine hv3 ((show zPf ln rv ≤ 0 from Nat.le_refl 0)) (show XT L cl ln L cl ln from XT.refl) (show fT [38] L cl iv rv iv rv from fT.refl) (fun hph hX0 hF0 => ?_)
  refine c_iload_n (j := 1) C dJ7_copyOf_59c91_0 rfl ?_
  refine c_aload_n (j := 0) (x := a0) C dJ7_copyOf_59c91_1 rfl ?_
  have ll1 : 16 ≤ ln a0 ∧ ln a0 ≤ 80400 := hW.len t_a0 rfl
  refine c_alenI C dJ7_copyOf_59c91_2 t_a0 rfl ?_
  refine c_icmp_ne (tgt := 14) C ⟨by omega, by omega⟩ ⟨by omega, by omega⟩ dJ7_copyOf_59c91_3 (by decide) (fun _ => ?_) (fun z => absurd z (by omega))
  refine c_iload_n (j := 1) C dJ7_copyOf_59c91_14 rfl ?_
  refine c_newaI (z := n) (N := n.toNat) C 38 dJ7_copyOf_59c91_15 w1_57 rfl (by omega) (by omega) (rom2 hph hph (by omega)) (fun qn1 cln1 lnn1 ivn1 rvn1 hqn1 hcn1 hln1 hin1 hrn1 => ⟨(0 + (16 + n.toNat)), (z_in (by omega)), ?_⟩)
  refine c_g0 C (fun hg1 => ?_)
  refine hv5 (show ∀ b, b ≠ qn1 → lnn1 b = ln b from (fun b hb => by rw [hln1]; exact va_up_ne _ _ hb)) (show lnn1 qn1 = n.toNat from by rw [hln1]; exact va_up_self _ _ _) (hF0.new hX0 hqn1 hin1 hrn1) (show ty (L ++ [qn1]) cln1 qn1 38 from ty_new hcn1) (show qn1 ∉ L from fun h => hqn1 ((hX0 qn1 h).1)) (fun hxn1 lqn1 F1 tqn1 h0qn1 => ?_)
  refine hv2 (hW.new (ln2 := lnn1) hqn1 (hg1 qn1 (List.mem_append_right _ List.mem_cons_self)) hcn1 hxn1 hin1 hrn1 (fun _ => ⟨(show (-2147483648 : Int) ≤ 0 by decide), (show (0 : Int) ≤ 2147483647 by decide)⟩) (Or.inr (fun _ => rfl)) (fun _ => by show 16 ≤ lnn1 qn1 ∧ lnn1 qn1 ≤ 80400; omega) rfl rfl) (XT.new hqn1 hcn1 hxn1) (fun W1 xl1 => ?_)
  refine hv2 (hX0.trans xl1) (xl1.skl hS) (fun X1 sk1 => ?_)
  refine c_astore_n (lv2 := [(2, .ref qn1), (0, .ref a0), (1, .int (iI n))]) C dJ7_copyOf_59c91_17 (by decide) rfl ?_
  refine c_aload_n (j := 1) (x := a0) C dJ7_copyOf_59c91_18 rfl ?_
  refine c_iconst C dJ7_copyOf_59c91_19 ?_
  refine c_aload_n (j := 0) (x := qn1) C dJ7_copyOf_59c91_20 rfl ?_
  refine c_iconst C dJ7_copyOf_59c91_21 ?_
  refine c_aload_n (j := 1) (x := a0) C dJ7_copyOf_59c91_22 rfl ?_
  have ty1 := xl1.ty t_a0
  have ll2 : 16 ≤ lnn1 a0 ∧ lnn1 a0 ≤ 80400 := W1.len ty1 rfl
  refine c_alenI C dJ7_copyOf_59c91_23 ty1 rfl ?_
  refine c_iload_n (j := 2) C dJ7_copyOf_59c91_24 rfl ?_
  obtain ⟨mn1, hmn1, emn1⟩ := mmin_c (x := ((lnn1 a0 : Nat) : Int)) (y := n) ⟨by omega, by omega⟩ ⟨by omega, by omega⟩
  refine c_mmin (w := iI mn1) C dJ7_copyOf_59c91_25 w2_128 w2_129 w1_14 w2_130 (by decide) (rom0 hph (Nat.le_refl 0) (by omega)) (Nat.le_of_ble_eq_true rfl) emn1 ?_
  have ll3 : 16 ≤ lnn1 qn1 ∧ lnn1 qn1 ≤ 80400 := W1.len tqn1 rfl
  refine c_copyi (sp := 0) (dp := 0) (n := mn1) C dJ7_copyOf_59c91_28 w2_131 w2_133 w2_132 w1_15 ty1 rfl tqn1 rfl (by omega) (by omega) (by omega) (by omega) (by omega) (by omega) (by omega) (by decide) (Nat.le_of_ble_eq_true rfl) (fun iv1 pq1 => ?_)
  refine hv2 (W1.copy pq1 tqn1 ty1 (fun _ => rfl) (fun _ => rfl) (fun _ => rfl) (fun _ => rfl) rfl) (F1.copy X1 pq1 tqn1 rfl) (fun W2 F2 => ?_)
  refine c_aload_n (j := 0) (x := qn1) C dJ7_copyOf_59c91_31 rfl ?_
  exact c_aret (x := some qn1) C dJ7_copyOf_59c91_32 rfl (Or.inr ⟨_, rfl⟩) (by omega) (rom0 hph (Nat.le_refl 0) (by omega)) ⟨qn1, rfl, X1, F2, W2, tqn1, lqn1⟩
set_option maxHeartbeats 4000000 in
set_option maxRecDepth 100000 in
theorem Z_copyOf_9 {l : Launch} {G : GT} {mi : Nat} {sk : Nat → Nat} {L : List Nat} {cl ln : Nat → Nat} {iv : Nat → Nat → Int} {rv : Nat → Nat → Option Nat}  {a0 : Nat} {n : Int} (hW : WT (g0 G) sk L cl ln iv rv) (hS : SKL sk L cl) (t_a0 : ty L cl a0 39) (h_n : -2147483648 ≤ n ∧ n ≤ 2147483647) (hn : ((ln a0 : Nat) : Int) < n ∧ 16 ≤ n ∧ n ≤ 80400) : Mc l G mi zPf 0 yJ7_copyOf_59c91 cJ7_copyOf_59c91 3 (some (.array .int)) 1 [.ref a0, .int (iI n)] L cl ln iv rv (16 + n.toNat) (fun v L2 cl2 ln2 iv2 rv2 => ∃ f : Nat, v = some (.ref f) ∧ XT L cl ln L2 cl2 ln2 ∧ fT [39] L cl iv rv iv2 rv2 ∧ WT (g0 G) sk L2 cl2 ln2 iv2 rv2 ∧ ty L2 cl2 f 39 ∧ (ln2 f = n.toNat)) := by
  refine Mc.mk (by decide) (Nat.le_of_ble_eq_true rfl) ?_
  intro p e s m args below meth c A C hM
  refine hv3 ((show zPf ln rv ≤ 0 from Nat.le_refl 0)) (show XT L cl ln L cl ln from XT.refl) (show fT [39] L cl iv rv iv rv from fT.refl) (fun hph hX0 hF0 => ?_)
  refine c_iload_n (j := 1) C dJ7_copyOf_59c91_0 rfl ?_
  refine c_aload_n (j := 0) (x := a0) C dJ7_copyOf_59c91_1 rfl ?_
  have ll1 : 16 ≤ ln a0 ∧ ln a0 ≤ 80400 := hW.len t_a0 rfl
  refine c_alenI C dJ7_copyOf_59c91_2 t_a0 rfl ?_
  refine c_icmp_ne (tgt := 14) C ⟨by omega, by omega⟩ ⟨by omega, by omega⟩ dJ7_copyOf_59c91_3 (by decide) (fun _ => ?_) (fun z => absurd z (by omega))
  refine c_iload_n (j := 1) C dJ7_copyOf_59c91_14 rfl ?_
  refine c_newaI (z := n) (N := n.toNat) C 39 dJ7_copyOf_59c91_15 w1_57 rfl (by omega) (by omega) (rom2 hph hph (by omega)) (fun qn1 cln1 lnn1 ivn1 rvn1 hqn1 hcn1 hln1 hin1 hrn1 => ⟨(0 + (16 + n.toNat)), (z_in (by omega)), ?_⟩)
  refine c_g0 C (fun hg1 => ?_)
  refine hv5 (show ∀ b, b ≠ qn1 → lnn1 b = ln b from (fun b hb => by rw [hln1]; exact va_up_ne _ _ hb)) (show lnn1 qn1 = n.toNat from by rw [hln1]; exact va_up_self _ _ _) (hF0.new hX0 hqn1 hin1 hrn1) (show ty (L ++ [qn1]) cln1 qn1 39 from ty_new hcn1) (show qn1 ∉ L from fun h => hqn1 ((hX0 qn1 h).1)) (fun hxn1 lqn1 F1 tqn1 h0qn1 => ?_)
  refine hv2 (hW.new (ln2 := lnn1) hqn1 (hg1 qn1 (List.mem_append_right _ List.mem_cons_self)) hcn1 hxn1 hin1 hrn1 (fun _ => ⟨(show (-2147483648 : Int) ≤ 0 by decide), (show (0 : Int) ≤ 2147483647 by decide)⟩) (Or.inr (fun _ => rfl)) (fun _ => by show 16 ≤ lnn1 qn1 ∧ lnn1 qn1 ≤ 80400; omega) rfl rfl) (XT.new hqn1 hcn1 hxn1) (fun W1 xl1 => ?_)
  refine hv2 (hX0.trans xl1) (xl1.skl hS) (fun X1 sk1 => ?_)
  refine c_astore_n (lv2 := [(2, .ref qn1), (0, .ref a0), (1, .int (iI n))]) C dJ7_copyOf_59c91_17 (by decide) rfl ?_
  refine c_aload_n (j := 1) (x := a0) C dJ7_copyOf_59c91_18 rfl ?_
  refine c_iconst C dJ7_copyOf_59c91_19 ?_
  refine c_aload_n (j := 0) (x := qn1) C dJ7_copyOf_59c91_20 rfl ?_
  refine c_iconst C dJ7_copyOf_59c91_21 ?_
  refine c_aload_n (j := 1) (x := a0) C dJ7_copyOf_59c91_22 rfl ?_
  have ty1 := xl1.ty t_a0
  have ll2 : 16 ≤ lnn1 a0 ∧ lnn1 a0 ≤ 80400 := W1.len ty1 rfl
  refine c_alenI C dJ7_copyOf_59c91_23 ty1 rfl ?_
  refine c_iload_n (j := 2) C dJ7_copyOf_59c91_24 rfl ?_
  obtain ⟨mn1, hmn1, emn1⟩ := mmin_c (x := ((lnn1 a0 : Nat) : Int)) (y := n) ⟨by omega, by omega⟩ ⟨by omega, by omega⟩
  refine c_mmin (w := iI mn1) C dJ7_copyOf_59c91_25 w2_128 w2_129 w1_14 w2_130 (by decide) (rom0 hph (Nat.le_refl 0) (by omega)) (Nat.le_of_ble_eq_true rfl) emn1 ?_
  have ll3 : 16 ≤ lnn1 qn1 ∧ lnn1 qn1 ≤ 80400 := W1.len tqn1 rfl
  refine c_copyi (sp := 0) (dp := 0) (n := mn1) C dJ7_copyOf_59c91_28 w2_131 w2_133 w2_132 w1_15 ty1 rfl tqn1 rfl (by omega) (by omega) (by omega) (by omega) (by omega) (by omega) (by omega) (by decide) (Nat.le_of_ble_eq_true rfl) (fun iv1 pq1 => ?_)
  refine hv2 (W1.copy pq1 tqn1 ty1 (fun _ => rfl) (fun _ => rfl) (fun _ => rfl) (fun _ => rfl) rfl) (F1.copy X1 pq1 tqn1 rfl) (fun W2 F2 => ?_)
  refine c_aload_n (j := 0) (x := qn1) C dJ7_copyOf_59c91_31 rfl ?_
  exact c_aret (x := some qn1) C dJ7_copyOf_59c91_32 rfl (Or.inr ⟨_, rfl⟩) (by omega) (rom0 hph (Nat.le_refl 0) (by omega)) ⟨qn1, rfl, X1, F2, W2, tqn1, lqn1⟩
set_option maxHeartbeats 4000000 in
set_option maxRecDepth 100000 in
theorem Z_copyOf_10 {l : Launch} {G : GT} {mi : Nat} {sk : Nat → Nat} {L : List Nat} {cl ln : Nat → Nat} {iv : Nat → Nat → Int} {rv : Nat → Nat → Option Nat}  {a0 : Nat} {n : Int} (hW : WT (g0 G) sk L cl ln iv rv) (hS : SKL sk L cl) (t_a0 : ty L cl a0 40) (h_n : -2147483648 ≤ n ∧ n ≤ 2147483647) (hn : ((ln a0 : Nat) : Int) < n ∧ 16 ≤ n ∧ n ≤ 8002) : Mc l G mi zPf 0 yJ7_copyOf_59c91 cJ7_copyOf_59c91 3 (some (.array .int)) 1 [.ref a0, .int (iI n)] L cl ln iv rv (16 + n.toNat) (fun v L2 cl2 ln2 iv2 rv2 => ∃ f : Nat, v = some (.ref f) ∧ XT L cl ln L2 cl2 ln2 ∧ fT [40] L cl iv rv iv2 rv2 ∧ WT (g0 G) sk L2 cl2 ln2 iv2 rv2 ∧ ty L2 cl2 f 40 ∧ (ln2 f = n.toNat)) := by
  refine Mc.mk (by decide) (Nat.le_of_ble_eq_true rfl) ?_
  intro p e s m args below meth c A C hM
  refine hv3 ((show zPf ln rv ≤ 0 from Nat.le_refl 0)) (show XT L cl ln L cl ln from XT.refl) (show fT [40] L cl iv rv iv rv from fT.refl) (fun hph hX0 hF0 => ?_)
  refine c_iload_n (j := 1) C dJ7_copyOf_59c91_0 rfl ?_
  refine c_aload_n (j := 0) (x := a0) C dJ7_copyOf_59c91_1 rfl ?_
  have ll1 : 16 ≤ ln a0 ∧ ln a0 ≤ 8002 := hW.len t_a0 rfl
  refine c_alenI C dJ7_copyOf_59c91_2 t_a0 rfl ?_
  refine c_icmp_ne (tgt := 14) C ⟨by omega, by omega⟩ ⟨by omega, by omega⟩ dJ7_copyOf_59c91_3 (by decide) (fun _ => ?_) (fun z => absurd z (by omega))
  refine c_iload_n (j := 1) C dJ7_copyOf_59c91_14 rfl ?_
  refine c_newaI (z := n) (N := n.toNat) C 40 dJ7_copyOf_59c91_15 w1_57 rfl (by omega) (by omega) (rom2 hph hph (by omega)) (fun qn1 cln1 lnn1 ivn1 rvn1 hqn1 hcn1 hln1 hin1 hrn1 => ⟨(0 + (16 + n.toNat)), (z_in (by omega)), ?_⟩)
  refine c_g0 C (fun hg1 => ?_)
  refine hv5 (show ∀ b, b ≠ qn1 → lnn1 b = ln b from (fun b hb => by rw [hln1]; exact va_up_ne _ _ hb)) (show lnn1 qn1 = n.toNat from by rw [hln1]; exact va_up_self _ _ _) (hF0.new hX0 hqn1 hin1 hrn1) (show ty (L ++ [qn1]) cln1 qn1 40 from ty_new hcn1) (show qn1 ∉ L from fun h => hqn1 ((hX0 qn1 h).1)) (fun hxn1 lqn1 F1 tqn1 h0qn1 => ?_)
  refine hv2 (hW.new (ln2 := lnn1) hqn1 (hg1 qn1 (List.mem_append_right _ List.mem_cons_self)) hcn1 hxn1 hin1 hrn1 (fun _ => ⟨(show (-2147483648 : Int) ≤ 0 by decide), (show (0 : Int) ≤ 2147483647 by decide)⟩) (Or.inr (fun _ => rfl)) (fun _ => by show 16 ≤ lnn1 qn1 ∧ lnn1 qn1 ≤ 8002; omega) rfl rfl) (XT.new hqn1 hcn1 hxn1) (fun W1 xl1 => ?_)
  refine hv2 (hX0.trans xl1) (xl1.skl hS) (fun X1 sk1 => ?_)
  refine c_astore_n (lv2 := [(2, .ref qn1), (0, .ref a0), (1, .int (iI n))]) C dJ7_copyOf_59c91_17 (by decide) rfl ?_
  refine c_aload_n (j := 1) (x := a0) C dJ7_copyOf_59c91_18 rfl ?_
  refine c_iconst C dJ7_copyOf_59c91_19 ?_
  refine c_aload_n (j := 0) (x := qn1) C dJ7_copyOf_59c91_20 rfl ?_
  refine c_iconst C dJ7_copyOf_59c91_21 ?_
  refine c_aload_n (j := 1) (x := a0) C dJ7_copyOf_59c91_22 rfl ?_
  have ty1 := xl1.ty t_a0
  have ll2 : 16 ≤ lnn1 a0 ∧ lnn1 a0 ≤ 8002 := W1.len ty1 rfl
  refine c_alenI C dJ7_copyOf_59c91_23 ty1 rfl ?_
  refine c_iload_n (j := 2) C dJ7_copyOf_59c91_24 rfl ?_
  obtain ⟨mn1, hmn1, emn1⟩ := mmin_c (x := ((lnn1 a0 : Nat) : Int)) (y := n) ⟨by omega, by omega⟩ ⟨by omega, by omega⟩
  refine c_mmin (w := iI mn1) C dJ7_copyOf_59c91_25 w2_128 w2_129 w1_14 w2_130 (by decide) (rom0 hph (Nat.le_refl 0) (by omega)) (Nat.le_of_ble_eq_true rfl) emn1 ?_
  have ll3 : 16 ≤ lnn1 qn1 ∧ lnn1 qn1 ≤ 8002 := W1.len tqn1 rfl
  refine c_copyi (sp := 0) (dp := 0) (n := mn1) C dJ7_copyOf_59c91_28 w2_131 w2_133 w2_132 w1_15 ty1 rfl tqn1 rfl (by omega) (by omega) (by omega) (by omega) (by omega) (by omega) (by omega) (by decide) (Nat.le_of_ble_eq_true rfl) (fun iv1 pq1 => ?_)
  refine hv2 (W1.copy pq1 tqn1 ty1 (fun _ => rfl) (fun _ => rfl) (fun _ => rfl) (fun _ => rfl) rfl) (F1.copy X1 pq1 tqn1 rfl) (fun W2 F2 => ?_)
  refine c_aload_n (j := 0) (x := qn1) C dJ7_copyOf_59c91_31 rfl ?_
  exact c_aret (x := some qn1) C dJ7_copyOf_59c91_32 rfl (Or.inr ⟨_, rfl⟩) (by omega) (rom0 hph (Nat.le_refl 0) (by omega)) ⟨qn1, rfl, X1, F2, W2, tqn1, lqn1⟩
set_option maxHeartbeats 4000000 in
set_option maxRecDepth 100000 in
theorem Z_copyOf_12 {l : Launch} {G : GT} {mi : Nat} {sk : Nat → Nat} {L : List Nat} {cl ln : Nat → Nat} {iv : Nat → Nat → Int} {rv : Nat → Nat → Option Nat}  {a0 : Nat} {n : Int} (hW : WT (g0 G) sk L cl ln iv rv) (hS : SKL sk L cl) (t_a0 : ty L cl a0 42) (h_n : -2147483648 ≤ n ∧ n ≤ 2147483647) (hn : ((ln a0 : Nat) : Int) < n ∧ 16 ≤ n ∧ n ≤ 400) : Mc l G mi zPf 0 yJ7_copyOf_59c91 cJ7_copyOf_59c91 3 (some (.array .int)) 1 [.ref a0, .int (iI n)] L cl ln iv rv (16 + n.toNat) (fun v L2 cl2 ln2 iv2 rv2 => ∃ f : Nat, v = some (.ref f) ∧ XT L cl ln L2 cl2 ln2 ∧ fT [42] L cl iv rv iv2 rv2 ∧ WT (g0 G) sk L2 cl2 ln2 iv2 rv2 ∧ ty L2 cl2 f 42 ∧ (ln2 f = n.toNat ∧ ∀ j : Nat, j < ln a0 → iv2 f j = iv a0 j) ∧ (f ∉ L) ∧ (∀ bb, ty L cl bb 42 → ∀ k, iv2 bb k = iv bb k)) := by
  refine Mc.mk (by decide) (Nat.le_of_ble_eq_true rfl) ?_
  intro p e s m args below meth c A C hM
  refine hv3 ((show zPf ln rv ≤ 0 from Nat.le_refl 0)) (show XT L cl ln L cl ln from XT.refl) (show fT [42] L cl iv rv iv rv from fT.refl) (fun hph hX0 hF0 => ?_)
  refine c_iload_n (j := 1) C dJ7_copyOf_59c91_0 rfl ?_
  refine c_aload_n (j := 0) (x := a0) C dJ7_copyOf_59c91_1 rfl ?_
  have ll1 : 16 ≤ ln a0 ∧ ln a0 ≤ 400 := hW.len t_a0 rfl
  refine c_alenI C dJ7_copyOf_59c91_2 t_a0 rfl ?_
  refine c_icmp_ne (tgt := 14) C ⟨by omega, by omega⟩ ⟨by omega, by omega⟩ dJ7_copyOf_59c91_3 (by decide) (fun _ => ?_) (fun z => absurd z (by omega))
  refine c_iload_n (j := 1) C dJ7_copyOf_59c91_14 rfl ?_
  refine c_newaI (z := n) (N := n.toNat) C 42 dJ7_copyOf_59c91_15 w1_57 rfl (by omega) (by omega) (rom2 hph hph (by omega)) (fun qn1 cln1 lnn1 ivn1 rvn1 hqn1 hcn1 hln1 hin1 hrn1 => ⟨(0 + (16 + n.toNat)), (z_in (by omega)), ?_⟩)
  refine c_g0 C (fun hg1 => ?_)
  refine hv5 (show ∀ b, b ≠ qn1 → lnn1 b = ln b from (fun b hb => by rw [hln1]; exact va_up_ne _ _ hb)) (show lnn1 qn1 = n.toNat from by rw [hln1]; exact va_up_self _ _ _) (hF0.new hX0 hqn1 hin1 hrn1) (show ty (L ++ [qn1]) cln1 qn1 42 from ty_new hcn1) (show qn1 ∉ L from fun h => hqn1 ((hX0 qn1 h).1)) (fun hxn1 lqn1 F1 tqn1 h0qn1 => ?_)
  refine hv2 (hW.new (ln2 := lnn1) hqn1 (hg1 qn1 (List.mem_append_right _ List.mem_cons_self)) hcn1 hxn1 hin1 hrn1 (fun _ => ⟨(show (-2147483648 : Int) ≤ 0 by decide), (show (0 : Int) ≤ 2147483647 by decide)⟩) (Or.inr (fun _ => rfl)) (fun _ => by show 16 ≤ lnn1 qn1 ∧ lnn1 qn1 ≤ 400; omega) rfl rfl) (XT.new hqn1 hcn1 hxn1) (fun W1 xl1 => ?_)
  refine hv2 (hX0.trans xl1) (xl1.skl hS) (fun X1 sk1 => ?_)
  refine c_astore_n (lv2 := [(2, .ref qn1), (0, .ref a0), (1, .int (iI n))]) C dJ7_copyOf_59c91_17 (by decide) rfl ?_
  refine c_aload_n (j := 1) (x := a0) C dJ7_copyOf_59c91_18 rfl ?_
  refine c_iconst C dJ7_copyOf_59c91_19 ?_
  refine c_aload_n (j := 0) (x := qn1) C dJ7_copyOf_59c91_20 rfl ?_
  refine c_iconst C dJ7_copyOf_59c91_21 ?_
  refine c_aload_n (j := 1) (x := a0) C dJ7_copyOf_59c91_22 rfl ?_
  have ty1 := xl1.ty t_a0
  have ll2 : 16 ≤ lnn1 a0 ∧ lnn1 a0 ≤ 400 := W1.len ty1 rfl
  refine c_alenI C dJ7_copyOf_59c91_23 ty1 rfl ?_
  refine c_iload_n (j := 2) C dJ7_copyOf_59c91_24 rfl ?_
  obtain ⟨mn1, hmn1, emn1⟩ := mmin_c (x := ((lnn1 a0 : Nat) : Int)) (y := n) ⟨by omega, by omega⟩ ⟨by omega, by omega⟩
  refine c_mmin (w := iI mn1) C dJ7_copyOf_59c91_25 w2_128 w2_129 w1_14 w2_130 (by decide) (rom0 hph (Nat.le_refl 0) (by omega)) (Nat.le_of_ble_eq_true rfl) emn1 ?_
  have ll3 : 16 ≤ lnn1 qn1 ∧ lnn1 qn1 ≤ 400 := W1.len tqn1 rfl
  refine c_copyi (sp := 0) (dp := 0) (n := mn1) C dJ7_copyOf_59c91_28 w2_131 w2_133 w2_132 w1_15 ty1 rfl tqn1 rfl (by omega) (by omega) (by omega) (by omega) (by omega) (by omega) (by omega) (by decide) (Nat.le_of_ble_eq_true rfl) (fun iv1 pq1 => ?_)
  refine hv2 (W1.copy pq1 tqn1 ty1 (fun _ => rfl) (fun _ => rfl) (fun _ => rfl) (fun _ => rfl) rfl) (F1.copy X1 pq1 tqn1 rfl) (fun W2 F2 => ?_)
  refine c_aload_n (j := 0) (x := qn1) C dJ7_copyOf_59c91_31 rfl ?_
  have le1 : lnn1 a0 = ln a0 := (xl1 a0 t_a0.1).2.2
  exact c_aret (x := some qn1) C dJ7_copyOf_59c91_32 rfl (Or.inr ⟨_, rfl⟩) (by omega) (rom0 hph (Nat.le_refl 0) (by omega)) ⟨qn1, rfl, X1, F2, W2, tqn1, ⟨lqn1, fun j hj => by
      rw [pq1]
      show (if qn1 = qn1 then (if (0 : Int).toNat ≤ j ∧ j < (0 : Int).toNat + mn1.toNat then ivn1 a0 ((0 : Int).toNat + (j - (0 : Int).toNat)) else ivn1 qn1 j) else ivn1 qn1 j) = _
      rw [if_pos rfl, if_pos ⟨by omega, by omega⟩, hin1, congrFun (up0_a (ne_in t_a0.1 hqn1)) _]
      exact congrArg (iv a0) (by omega)⟩, hqn1, (fun bb tbb kk => by have tb1 := xl1.ty tbb; exact (Eq.trans (show iv1 bb kk = ivn1 bb kk from (by rw [pq1]; exact if_neg (ne_in tbb.1 hqn1))) (show ivn1 bb kk = iv bb kk from (by rw [hin1]; exact congrFun (up0_a (ne_in tbb.1 hqn1)) _))))⟩
set_option maxHeartbeats 4000000 in
set_option maxRecDepth 100000 in
theorem C_add_2 {l : Launch} {G : GT} {mi : Nat} {sk : Nat → Nat} {L : List Nat} {cl ln : Nat → Nat} {iv : Nat → Nat → Int} {rv : Nat → Nat → Option Nat}  {a0 : Nat} {x : Int} (hW : WT (g0 G) sk L cl ln iv rv) (hS : SKL sk L cl) (t_a0 : ty L cl a0 2) (h_x : -2147483648 ≤ x ∧ x ≤ 2147483647)  : Mc l G mi (Phi (g0 G) sk) PHM yX1_add cX1_add 2 none 2 [.ref a0, .int (iI x)] L cl ln iv rv 0 (fun v L2 cl2 ln2 iv2 rv2 => v = none ∧ XT L cl ln L2 cl2 ln2 ∧ fT [2, 32] L cl iv rv iv2 rv2 ∧ WT (g0 G) sk L2 cl2 ln2 iv2 rv2 ∧ (((iv2 a0 2 = iv a0 2 ∧ iv a0 2 = 3000) ∨ (iv2 a0 2 = iv a0 2 + 1 ∧ iv a0 2 < 3000)) ∧ ∀ ss, CT iv rv a0 ss → iv a0 2 < 3000 → CT iv2 rv2 a0 (va_up ss (iv a0 2).toNat x))) := by
  refine Mc.mk (by decide) (Nat.le_of_ble_eq_true rfl) ?_
  intro p e s m args below meth c A C hM
  refine hv3 (Phi.le hW hS) (show XT L cl ln L cl ln from XT.refl) (show fT [2, 32] L cl iv rv iv rv from fT.refl) (fun hph hX0 hF0 => ?_)
  refine c_aload_n (j := 0) (x := a0) C dX1_add_0 rfl ?_
  have ri1 : 0 ≤ iv a0 2 ∧ iv a0 2 ≤ 3000 := hW.int t_a0 2
  refine c_get (k := 2) C ck_2 dX1_add_1 w1_43 (by decide) t_a0 rfl rfl (by decide) rfl ?_
  refine c_aload_n (j := 0) (x := a0) C dX1_add_4 rfl ?_
  have ri2 : 3000 ≤ iv a0 0 ∧ iv a0 0 ≤ 3000 := hW.int t_a0 0
  refine c_get (k := 0) C ck_2 dX1_add_5 w1_38 (by decide) t_a0 rfl rfl (by decide) rfl ?_
  refine c_icmp_lt (tgt := 12) C (r32_c (lo := 0) (hi := 3000) ri1.1 ri1.2 (by decide) (by decide)) (r32_c (lo := 3000) (hi := 3000) ri2.1 ri2.2 (by decide) (by decide)) dX1_add_8 (by decide) (fun c1 => ?_) (fun c1 => ?_)
  · refine c_aload_n (j := 0) (x := a0) C dX1_add_12 rfl ?_
    refine c_get (k := 2) C ck_2 dX1_add_13 w1_43 (by decide) t_a0 rfl rfl (by decide) rfl ?_
    refine c_aload_n (j := 0) (x := a0) C dX1_add_16 rfl ?_
    obtain ⟨rb1, rq1, trb1⟩ := hW.ref t_a0 1 rfl rfl rfl
    refine hv2 (show 16 ≤ ln rb1 ∧ ln rb1 ≤ 6000 from hW.len trb1 rfl) (hW.isz t_a0 rfl rfl rq1) (fun lnrb1 szrb1 => ?_)
    refine c_getr (k := 1) C ck_2 dX1_add_17 w1_39 (by decide) t_a0 rfl rfl (by decide) rfl rq1 ?_
    refine c_st (st2 := [.ref rb1, .int (iI (iv a0 2))]) rfl ?_
    have ll1 : 16 ≤ ln rb1 ∧ ln rb1 ≤ 6000 := hW.len trb1 rfl
    refine c_alenI C dX1_add_20 trb1 rfl ?_
    refine c_icmp_lt (tgt := 42) C (r32_c (lo := 0) (hi := 3000) ri1.1 ri1.2 (by decide) (by decide)) ⟨by omega, by omega⟩ dX1_add_21 (by decide) (fun c2 => ?_) (fun c2 => ?_)
    · refine c_aload_n (j := 0) (x := a0) C dX1_add_42 rfl ?_
      refine c_getr (k := 1) C ck_2 dX1_add_43 w1_39 (by decide) t_a0 rfl rfl (by decide) rfl rq1 ?_
      refine c_st (st2 := [.ref rb1]) rfl ?_
      refine c_aload_n (j := 0) (x := a0) C dX1_add_46 rfl ?_
      refine c_get (k := 2) C ck_2 dX1_add_47 w1_43 (by decide) t_a0 rfl rfl (by decide) rfl ?_
      refine c_iload_n (j := 1) C dX1_add_50 rfl ?_
      refine c_iast (x := x) C dX1_add_51 trb1 rfl (by omega) (by omega) (by omega) (fun iv1 pq1 => ?_)
      refine hv2 (hW.puti pq1 trb1 (show (-2147483648) ≤ x ∧ x ≤ 2147483647 by omega) rfl) (hF0.puti hX0 pq1 trb1 rfl) (fun W1 F1 => ?_)
      refine c_aload_n (j := 0) (x := a0) C dX1_add_52 rfl ?_
      refine c_dup C dX1_add_53 rfl ?_
      refine hv2 (show 0 ≤ iv1 a0 2 ∧ iv1 a0 2 ≤ 3000 from W1.int t_a0 2) (show iv1 a0 2 = iv a0 2 from by rw [pq1]; exact up2_k (ne_ty t_a0 trb1 (by decide))) (fun ri3 ie1 => ?_)
      refine c_get (k := 2) C ck_2 dX1_add_54 w1_43 (by decide) t_a0 rfl rfl (by decide) rfl ?_
      refine c_iconst C dX1_add_57 ?_
      refine c_iadd C dX1_add_58 ?_
      refine c_put (z := (iv1 a0 2) + 1) (k := 2) C ck_2 dX1_add_59 w1_43 (by decide) rfl t_a0 rfl rfl (by decide) rfl (by rfl) (by rfl) (fun iv2 pq2 => ?_)
      refine hv3 (W1.isz_put pq2 t_a0 (show 0 ≤ ((iv1 a0 2) + 1) ∧ ((iv1 a0 2) + 1) ≤ 3000 by omega) rfl rfl rq1 (show ((iv1 a0 2) + 1) ≤ ((ln rb1 : Nat) : Int) by omega)) (F1.puti hX0 pq2 t_a0 rfl) (show iv2 a0 2 = (iv1 a0 2) + 1 from by rw [pq2]; exact up2_s) (fun W2 F2 ie2 => ?_)
      have ri4 : 0 ≤ iv2 a0 2 ∧ iv2 a0 2 ≤ 3000 := W2.int t_a0 2
      exact c_vret C dX1_add_62 rfl (by decide) (rom0 hph hph (by decide)) ⟨rfl, hX0, F2, W2, ⟨by omega, fun ss hs hq b2 hb j hj => by
          rw [rq1] at hb
          cases hb
          rw [pq2, up2_k (ne_ty trb1 t_a0 (by decide)), pq1]
          by_cases e : j = (iv a0 2).toNat
          · subst e; rw [up2_s, va_up_self]
          · rw [up2_j e, va_up_ne _ _ e]; exact hs _ rq1 j (by omega)⟩⟩
    · refine c_aload_n (j := 0) (x := a0) C dX1_add_24 rfl ?_
      refine c_aload_n (j := 0) (x := a0) C dX1_add_25 rfl ?_
      refine c_getr (k := 1) C ck_2 dX1_add_26 w1_39 (by decide) t_a0 rfl rfl (by decide) rfl rq1 ?_
      refine c_st (st2 := [.ref rb1, .ref a0]) rfl ?_
      refine c_aload_n (j := 0) (x := a0) C dX1_add_29 rfl ?_
      refine c_getr (k := 1) C ck_2 dX1_add_30 w1_39 (by decide) t_a0 rfl rfl (by decide) rfl rq1 ?_
      refine c_st (st2 := [.ref rb1, .ref rb1, .ref a0]) rfl ?_
      refine c_alenI C dX1_add_33 trb1 rfl ?_
      refine c_iconst C dX1_add_34 ?_
      refine c_imul C dX1_add_35 ?_
      refine c_g0 C (fun hg0 => ?_)
      refine hv2 (hW.sk t_a0 (by decide) rfl) (cap_of (ln := ln) rq1 (hg0 rb1 trb1.1)) (fun ask0 cp0 => ?_)
      have sl0 := Phi.slack (t := 2) (n := ln rb1) hW hS ⟨by decide, by decide⟩ (by rw [← ask0]; exact cp0) (by show ln rb1 ≤ 3000; omega)
      refine c_callS (As := [.ref rb1, .int (iI (((ln rb1 : Nat) : Int) * 2))]) (rest := [.ref a0]) C hM (Z_copyOf_2 (a0 := rb1) (n := ((ln rb1 : Nat) : Int) * 2) hW hS trb1 (by omega) (by show ((ln rb1 : Nat) : Int) < (((ln rb1 : Nat) : Int) * 2) ∧ 16 ≤ (((ln rb1 : Nat) : Int) * 2) ∧ (((ln rb1 : Nat) : Int) * 2) ≤ 6000; omega)) dX1_add_36 kS_X1_20 rfl rfl (Nat.le_of_ble_eq_true rfl) ⟨(Nat.le_of_ble_eq_true rfl), (Nat.le_of_ble_eq_true rfl)⟩ (by unfold zPf; omega) (fun rh1 Lh1 clh1 lnh1 ivh1 rvh1 h1 => ⟨(0 + (16 + (((ln rb1 : Nat) : Int) * 2).toNat)), (zk1 (by obtain ⟨_, _, xlh1x, flh1x, Wh1x, _⟩ := h1; exact Phi.fr hW hS xlh1x flh1x rfl)), ?_⟩)
      obtain ⟨f1, rfl, xl1, fl1, W3, rgf1, exf1⟩ := h1
      refine hv3 (hF0.call hX0 fl1 rfl) (hX0.trans xl1) (xl1.skl hS) (fun F3 X1 sk1 => ?_)
      refine c_st (st2 := [.ref f1, .ref a0]) rfl ?_
      refine hv3 (show lnh1 f1 = (((ln rb1 : Nat) : Int) * 2).toNat ∧ ∀ j : Nat, j < ln rb1 → ivh1 f1 j = iv rb1 j from exf1) (xl1.ty t_a0) (show rvh1 a0 1 = rv a0 1 from (fl1.r t_a0 rfl 1)) (fun gf1 ty1 re1 => ?_)
      rw [rq1] at re1
      refine hv4 (show 0 ≤ ivh1 a0 2 ∧ ivh1 a0 2 ≤ 3000 from W3.int ty1 2) (show ivh1 a0 2 = iv a0 2 from fl1.i t_a0 rfl 2) (xl1.ty trb1) (show lnh1 rb1 = ln rb1 from (xl1 rb1 trb1.1).2.2) (fun ri5 ie3 ty2 le1 => ?_)
      refine c_g0 C (fun hg1 => ?_)
      refine hv2 (W3.sk ty1 (by decide) rfl) (cap_of (ln := lnh1) re1 (hg1 rb1 ty2.1)) (fun ask cpo => ?_)
      refine c_putr (x := (some f1)) (k := 1) C ck_2 dX1_add_39 w1_39 (by decide) rfl ty1 rfl rfl (by decide) rfl (by rfl) (by rfl) (fun rv1 pq3 => ⟨0, (by have gr := Phi.grow (g := g0 G) (rv2 := rv1) (rv := rvh1) (b := f1) (ln := lnh1) (t := 2) sk1 (by rw [← ask]; exact pq3) (hg1 f1 rgf1.1) (Or.inl ⟨by decide, by decide⟩); rw [← ask] at gr; have gr2 : Phi (g0 G) sk lnh1 rv1 + 3 * cap (g0 G) lnh1 rvh1 a0 = Phi (g0 G) sk lnh1 rvh1 + 3 * lnh1 f1 := gr; omega), ?_⟩)
      refine hv2 (W3.putit pq3 ty1 rfl rfl rgf1 (by omega)) (F3.putr X1 pq3 ty1 rfl) (fun W4 F4 => ?_)
      refine c_aload_n (j := 0) (x := a0) C dX1_add_42 rfl ?_
      have rp1 : rv1 a0 1 = (some f1) := by rw [pq3]; exact upr_s
      refine c_getr (k := 1) C ck_2 dX1_add_43 w1_39 (by decide) ty1 rfl rfl (by decide) rfl rp1 ?_
      refine c_st (st2 := [.ref f1]) rfl ?_
      refine c_aload_n (j := 0) (x := a0) C dX1_add_46 rfl ?_
      refine c_get (k := 2) C ck_2 dX1_add_47 w1_43 (by decide) ty1 rfl rfl (by decide) rfl ?_
      refine c_iload_n (j := 1) C dX1_add_50 rfl ?_
      have ll2 : 16 ≤ lnh1 f1 ∧ lnh1 f1 ≤ 6000 := W4.len rgf1 rfl
      refine c_iast (x := x) C dX1_add_51 rgf1 rfl (by omega) (by omega) (by omega) (fun iv3 pq4 => ?_)
      refine hv2 (W4.puti pq4 rgf1 (show (-2147483648) ≤ x ∧ x ≤ 2147483647 by omega) rfl) (F4.puti X1 pq4 rgf1 rfl) (fun W5 F5 => ?_)
      refine c_aload_n (j := 0) (x := a0) C dX1_add_52 rfl ?_
      refine c_dup C dX1_add_53 rfl ?_
      refine hv2 (show 0 ≤ iv3 a0 2 ∧ iv3 a0 2 ≤ 3000 from W5.int ty1 2) (show iv3 a0 2 = ivh1 a0 2 from by rw [pq4]; exact up2_k (ne_ty ty1 rgf1 (by decide))) (fun ri6 ie4 => ?_)
      refine c_get (k := 2) C ck_2 dX1_add_54 w1_43 (by decide) ty1 rfl rfl (by decide) rfl ?_
      refine c_iconst C dX1_add_57 ?_
      refine c_iadd C dX1_add_58 ?_
      refine c_put (z := (iv3 a0 2) + 1) (k := 2) C ck_2 dX1_add_59 w1_43 (by decide) rfl ty1 rfl rfl (by decide) rfl (by rfl) (by rfl) (fun iv4 pq5 => ?_)
      refine hv3 (W5.isz_put pq5 ty1 (show 0 ≤ ((iv3 a0 2) + 1) ∧ ((iv3 a0 2) + 1) ≤ 3000 by omega) rfl rfl rp1 (show ((iv3 a0 2) + 1) ≤ ((lnh1 f1 : Nat) : Int) by omega)) (F5.puti X1 pq5 ty1 rfl) (show iv4 a0 2 = (iv3 a0 2) + 1 from by rw [pq5]; exact up2_s) (fun W6 F6 ie5 => ?_)
      refine hv2 (show 0 ≤ iv4 a0 2 ∧ iv4 a0 2 ≤ 3000 from W6.int ty1 2) (Phi.le W6 sk1) (fun ri7 pl1 => ?_)
      exact c_vret C dX1_add_62 rfl (by decide) (rom0 hph pl1 (by decide)) ⟨rfl, X1, F6, W6, ⟨by omega, fun ss hs hq b2 hb j hj => by
          rw [rp1] at hb
          cases hb
          rw [pq5, up2_k (ne_ty rgf1 ty1 (by decide)), pq4]
          by_cases e : j = (iv a0 2).toNat
          · subst e; rw [show (iv a0 2).toNat = (ivh1 a0 2).toNat from congrArg Int.toNat (by omega), up2_s, va_up_self]
          · rw [up2_j (fun e2 => e (e2.trans (congrArg Int.toNat (by omega)))), va_up_ne _ _ e, gf1.2 j (by omega)]; exact hs _ rq1 j (by omega)⟩⟩
  · exact c_vret C dX1_add_11 rfl (by decide) (rom0 hph hph (by decide)) ⟨rfl, hX0, hF0, hW, ⟨by omega, fun ss hs hq => absurd hq (by omega)⟩⟩
set_option maxHeartbeats 4000000 in
set_option maxRecDepth 100000 in
theorem C_add_3 {l : Launch} {G : GT} {mi : Nat} {sk : Nat → Nat} {L : List Nat} {cl ln : Nat → Nat} {iv : Nat → Nat → Int} {rv : Nat → Nat → Option Nat}  {a0 : Nat} {x : Int} (hW : WT (g0 G) sk L cl ln iv rv) (hS : SKL sk L cl) (t_a0 : ty L cl a0 3) (h_x : -2147483648 ≤ x ∧ x ≤ 2147483647)  : Mc l G mi (Phi (g0 G) sk) PHM yX1_add cX1_add 2 none 2 [.ref a0, .int (iI x)] L cl ln iv rv 0 (fun v L2 cl2 ln2 iv2 rv2 => v = none ∧ XT L cl ln L2 cl2 ln2 ∧ fT [3, 33] L cl iv rv iv2 rv2 ∧ WT (g0 G) sk L2 cl2 ln2 iv2 rv2 ∧ (((iv2 a0 2 = iv a0 2 ∧ iv a0 2 = 500) ∨ (iv2 a0 2 = iv a0 2 + 1 ∧ iv a0 2 < 500)) ∧ ∀ ss, CT iv rv a0 ss → iv a0 2 < 500 → CT iv2 rv2 a0 (va_up ss (iv a0 2).toNat x))) := by
  refine Mc.mk (by decide) (Nat.le_of_ble_eq_true rfl) ?_
  intro p e s m args below meth c A C hM
  refine hv3 (Phi.le hW hS) (show XT L cl ln L cl ln from XT.refl) (show fT [3, 33] L cl iv rv iv rv from fT.refl) (fun hph hX0 hF0 => ?_)
  refine c_aload_n (j := 0) (x := a0) C dX1_add_0 rfl ?_
  have ri1 : 0 ≤ iv a0 2 ∧ iv a0 2 ≤ 500 := hW.int t_a0 2
  refine c_get (k := 2) C ck_2 dX1_add_1 w1_43 (by decide) t_a0 rfl rfl (by decide) rfl ?_
  refine c_aload_n (j := 0) (x := a0) C dX1_add_4 rfl ?_
  have ri2 : 500 ≤ iv a0 0 ∧ iv a0 0 ≤ 500 := hW.int t_a0 0
  refine c_get (k := 0) C ck_2 dX1_add_5 w1_38 (by decide) t_a0 rfl rfl (by decide) rfl ?_
  refine c_icmp_lt (tgt := 12) C (r32_c (lo := 0) (hi := 500) ri1.1 ri1.2 (by decide) (by decide)) (r32_c (lo := 500) (hi := 500) ri2.1 ri2.2 (by decide) (by decide)) dX1_add_8 (by decide) (fun c1 => ?_) (fun c1 => ?_)
  · refine c_aload_n (j := 0) (x := a0) C dX1_add_12 rfl ?_
    refine c_get (k := 2) C ck_2 dX1_add_13 w1_43 (by decide) t_a0 rfl rfl (by decide) rfl ?_
    refine c_aload_n (j := 0) (x := a0) C dX1_add_16 rfl ?_
    obtain ⟨rb1, rq1, trb1⟩ := hW.ref t_a0 1 rfl rfl rfl
    refine hv2 (show 16 ≤ ln rb1 ∧ ln rb1 ≤ 1000 from hW.len trb1 rfl) (hW.isz t_a0 rfl rfl rq1) (fun lnrb1 szrb1 => ?_)
    refine c_getr (k := 1) C ck_2 dX1_add_17 w1_39 (by decide) t_a0 rfl rfl (by decide) rfl rq1 ?_
    refine c_st (st2 := [.ref rb1, .int (iI (iv a0 2))]) rfl ?_
    have ll1 : 16 ≤ ln rb1 ∧ ln rb1 ≤ 1000 := hW.len trb1 rfl
    refine c_alenI C dX1_add_20 trb1 rfl ?_
    refine c_icmp_lt (tgt := 42) C (r32_c (lo := 0) (hi := 500) ri1.1 ri1.2 (by decide) (by decide)) ⟨by omega, by omega⟩ dX1_add_21 (by decide) (fun c2 => ?_) (fun c2 => ?_)
    · refine c_aload_n (j := 0) (x := a0) C dX1_add_42 rfl ?_
      refine c_getr (k := 1) C ck_2 dX1_add_43 w1_39 (by decide) t_a0 rfl rfl (by decide) rfl rq1 ?_
      refine c_st (st2 := [.ref rb1]) rfl ?_
      refine c_aload_n (j := 0) (x := a0) C dX1_add_46 rfl ?_
      refine c_get (k := 2) C ck_2 dX1_add_47 w1_43 (by decide) t_a0 rfl rfl (by decide) rfl ?_
      refine c_iload_n (j := 1) C dX1_add_50 rfl ?_
      refine c_iast (x := x) C dX1_add_51 trb1 rfl (by omega) (by omega) (by omega) (fun iv1 pq1 => ?_)
      refine hv2 (hW.puti pq1 trb1 (show (-2147483648) ≤ x ∧ x ≤ 2147483647 by omega) rfl) (hF0.puti hX0 pq1 trb1 rfl) (fun W1 F1 => ?_)
      refine c_aload_n (j := 0) (x := a0) C dX1_add_52 rfl ?_
      refine c_dup C dX1_add_53 rfl ?_
      refine hv2 (show 0 ≤ iv1 a0 2 ∧ iv1 a0 2 ≤ 500 from W1.int t_a0 2) (show iv1 a0 2 = iv a0 2 from by rw [pq1]; exact up2_k (ne_ty t_a0 trb1 (by decide))) (fun ri3 ie1 => ?_)
      refine c_get (k := 2) C ck_2 dX1_add_54 w1_43 (by decide) t_a0 rfl rfl (by decide) rfl ?_
      refine c_iconst C dX1_add_57 ?_
      refine c_iadd C dX1_add_58 ?_
      refine c_put (z := (iv1 a0 2) + 1) (k := 2) C ck_2 dX1_add_59 w1_43 (by decide) rfl t_a0 rfl rfl (by decide) rfl (by rfl) (by rfl) (fun iv2 pq2 => ?_)
      refine hv3 (W1.isz_put pq2 t_a0 (show 0 ≤ ((iv1 a0 2) + 1) ∧ ((iv1 a0 2) + 1) ≤ 500 by omega) rfl rfl rq1 (show ((iv1 a0 2) + 1) ≤ ((ln rb1 : Nat) : Int) by omega)) (F1.puti hX0 pq2 t_a0 rfl) (show iv2 a0 2 = (iv1 a0 2) + 1 from by rw [pq2]; exact up2_s) (fun W2 F2 ie2 => ?_)
      have ri4 : 0 ≤ iv2 a0 2 ∧ iv2 a0 2 ≤ 500 := W2.int t_a0 2
      exact c_vret C dX1_add_62 rfl (by decide) (rom0 hph hph (by decide)) ⟨rfl, hX0, F2, W2, ⟨by omega, fun ss hs hq b2 hb j hj => by
          rw [rq1] at hb
          cases hb
          rw [pq2, up2_k (ne_ty trb1 t_a0 (by decide)), pq1]
          by_cases e : j = (iv a0 2).toNat
          · subst e; rw [up2_s, va_up_self]
          · rw [up2_j e, va_up_ne _ _ e]; exact hs _ rq1 j (by omega)⟩⟩
    · refine c_aload_n (j := 0) (x := a0) C dX1_add_24 rfl ?_
      refine c_aload_n (j := 0) (x := a0) C dX1_add_25 rfl ?_
      refine c_getr (k := 1) C ck_2 dX1_add_26 w1_39 (by decide) t_a0 rfl rfl (by decide) rfl rq1 ?_
      refine c_st (st2 := [.ref rb1, .ref a0]) rfl ?_
      refine c_aload_n (j := 0) (x := a0) C dX1_add_29 rfl ?_
      refine c_getr (k := 1) C ck_2 dX1_add_30 w1_39 (by decide) t_a0 rfl rfl (by decide) rfl rq1 ?_
      refine c_st (st2 := [.ref rb1, .ref rb1, .ref a0]) rfl ?_
      refine c_alenI C dX1_add_33 trb1 rfl ?_
      refine c_iconst C dX1_add_34 ?_
      refine c_imul C dX1_add_35 ?_
      refine c_g0 C (fun hg0 => ?_)
      refine hv2 (hW.sk t_a0 (by decide) rfl) (cap_of (ln := ln) rq1 (hg0 rb1 trb1.1)) (fun ask0 cp0 => ?_)
      have sl0 := Phi.slack (t := 3) (n := ln rb1) hW hS ⟨by decide, by decide⟩ (by rw [← ask0]; exact cp0) (by show ln rb1 ≤ 500; omega)
      refine c_callS (As := [.ref rb1, .int (iI (((ln rb1 : Nat) : Int) * 2))]) (rest := [.ref a0]) C hM (Z_copyOf_3 (a0 := rb1) (n := ((ln rb1 : Nat) : Int) * 2) hW hS trb1 (by omega) (by show ((ln rb1 : Nat) : Int) < (((ln rb1 : Nat) : Int) * 2) ∧ 16 ≤ (((ln rb1 : Nat) : Int) * 2) ∧ (((ln rb1 : Nat) : Int) * 2) ≤ 1000; omega)) dX1_add_36 kS_X1_20 rfl rfl (Nat.le_of_ble_eq_true rfl) ⟨(Nat.le_of_ble_eq_true rfl), (Nat.le_of_ble_eq_true rfl)⟩ (by unfold zPf; omega) (fun rh1 Lh1 clh1 lnh1 ivh1 rvh1 h1 => ⟨(0 + (16 + (((ln rb1 : Nat) : Int) * 2).toNat)), (zk1 (by obtain ⟨_, _, xlh1x, flh1x, Wh1x, _⟩ := h1; exact Phi.fr hW hS xlh1x flh1x rfl)), ?_⟩)
      obtain ⟨f1, rfl, xl1, fl1, W3, rgf1, exf1⟩ := h1
      refine hv3 (hF0.call hX0 fl1 rfl) (hX0.trans xl1) (xl1.skl hS) (fun F3 X1 sk1 => ?_)
      refine c_st (st2 := [.ref f1, .ref a0]) rfl ?_
      refine hv3 (show lnh1 f1 = (((ln rb1 : Nat) : Int) * 2).toNat ∧ ∀ j : Nat, j < ln rb1 → ivh1 f1 j = iv rb1 j from exf1) (xl1.ty t_a0) (show rvh1 a0 1 = rv a0 1 from (fl1.r t_a0 rfl 1)) (fun gf1 ty1 re1 => ?_)
      rw [rq1] at re1
      refine hv4 (show 0 ≤ ivh1 a0 2 ∧ ivh1 a0 2 ≤ 500 from W3.int ty1 2) (show ivh1 a0 2 = iv a0 2 from fl1.i t_a0 rfl 2) (xl1.ty trb1) (show lnh1 rb1 = ln rb1 from (xl1 rb1 trb1.1).2.2) (fun ri5 ie3 ty2 le1 => ?_)
      refine c_g0 C (fun hg1 => ?_)
      refine hv2 (W3.sk ty1 (by decide) rfl) (cap_of (ln := lnh1) re1 (hg1 rb1 ty2.1)) (fun ask cpo => ?_)
      refine c_putr (x := (some f1)) (k := 1) C ck_2 dX1_add_39 w1_39 (by decide) rfl ty1 rfl rfl (by decide) rfl (by rfl) (by rfl) (fun rv1 pq3 => ⟨0, (by have gr := Phi.grow (g := g0 G) (rv2 := rv1) (rv := rvh1) (b := f1) (ln := lnh1) (t := 3) sk1 (by rw [← ask]; exact pq3) (hg1 f1 rgf1.1) (Or.inl ⟨by decide, by decide⟩); rw [← ask] at gr; have gr2 : Phi (g0 G) sk lnh1 rv1 + 3 * cap (g0 G) lnh1 rvh1 a0 = Phi (g0 G) sk lnh1 rvh1 + 3 * lnh1 f1 := gr; omega), ?_⟩)
      refine hv2 (W3.putit pq3 ty1 rfl rfl rgf1 (by omega)) (F3.putr X1 pq3 ty1 rfl) (fun W4 F4 => ?_)
      refine c_aload_n (j := 0) (x := a0) C dX1_add_42 rfl ?_
      have rp1 : rv1 a0 1 = (some f1) := by rw [pq3]; exact upr_s
      refine c_getr (k := 1) C ck_2 dX1_add_43 w1_39 (by decide) ty1 rfl rfl (by decide) rfl rp1 ?_
      refine c_st (st2 := [.ref f1]) rfl ?_
      refine c_aload_n (j := 0) (x := a0) C dX1_add_46 rfl ?_
      refine c_get (k := 2) C ck_2 dX1_add_47 w1_43 (by decide) ty1 rfl rfl (by decide) rfl ?_
      refine c_iload_n (j := 1) C dX1_add_50 rfl ?_
      have ll2 : 16 ≤ lnh1 f1 ∧ lnh1 f1 ≤ 1000 := W4.len rgf1 rfl
      refine c_iast (x := x) C dX1_add_51 rgf1 rfl (by omega) (by omega) (by omega) (fun iv3 pq4 => ?_)
      refine hv2 (W4.puti pq4 rgf1 (show (-2147483648) ≤ x ∧ x ≤ 2147483647 by omega) rfl) (F4.puti X1 pq4 rgf1 rfl) (fun W5 F5 => ?_)
      refine c_aload_n (j := 0) (x := a0) C dX1_add_52 rfl ?_
      refine c_dup C dX1_add_53 rfl ?_
      refine hv2 (show 0 ≤ iv3 a0 2 ∧ iv3 a0 2 ≤ 500 from W5.int ty1 2) (show iv3 a0 2 = ivh1 a0 2 from by rw [pq4]; exact up2_k (ne_ty ty1 rgf1 (by decide))) (fun ri6 ie4 => ?_)
      refine c_get (k := 2) C ck_2 dX1_add_54 w1_43 (by decide) ty1 rfl rfl (by decide) rfl ?_
      refine c_iconst C dX1_add_57 ?_
      refine c_iadd C dX1_add_58 ?_
      refine c_put (z := (iv3 a0 2) + 1) (k := 2) C ck_2 dX1_add_59 w1_43 (by decide) rfl ty1 rfl rfl (by decide) rfl (by rfl) (by rfl) (fun iv4 pq5 => ?_)
      refine hv3 (W5.isz_put pq5 ty1 (show 0 ≤ ((iv3 a0 2) + 1) ∧ ((iv3 a0 2) + 1) ≤ 500 by omega) rfl rfl rp1 (show ((iv3 a0 2) + 1) ≤ ((lnh1 f1 : Nat) : Int) by omega)) (F5.puti X1 pq5 ty1 rfl) (show iv4 a0 2 = (iv3 a0 2) + 1 from by rw [pq5]; exact up2_s) (fun W6 F6 ie5 => ?_)
      refine hv2 (show 0 ≤ iv4 a0 2 ∧ iv4 a0 2 ≤ 500 from W6.int ty1 2) (Phi.le W6 sk1) (fun ri7 pl1 => ?_)
      exact c_vret C dX1_add_62 rfl (by decide) (rom0 hph pl1 (by decide)) ⟨rfl, X1, F6, W6, ⟨by omega, fun ss hs hq b2 hb j hj => by
          rw [rp1] at hb
          cases hb
          rw [pq5, up2_k (ne_ty rgf1 ty1 (by decide)), pq4]
          by_cases e : j = (iv a0 2).toNat
          · subst e; rw [show (iv a0 2).toNat = (ivh1 a0 2).toNat from congrArg Int.toNat (by omega), up2_s, va_up_self]
          · rw [up2_j (fun e2 => e (e2.trans (congrArg Int.toNat (by omega)))), va_up_ne _ _ e, gf1.2 j (by omega)]; exact hs _ rq1 j (by omega)⟩⟩
  · exact c_vret C dX1_add_11 rfl (by decide) (rom0 hph hph (by decide)) ⟨rfl, hX0, hF0, hW, ⟨by omega, fun ss hs hq => absurd hq (by omega)⟩⟩
set_option maxHeartbeats 4000000 in
set_option maxRecDepth 100000 in
theorem C_add_4 {l : Launch} {G : GT} {mi : Nat} {sk : Nat → Nat} {L : List Nat} {cl ln : Nat → Nat} {iv : Nat → Nat → Int} {rv : Nat → Nat → Option Nat}  {a0 : Nat} {x : Int} (hW : WT (g0 G) sk L cl ln iv rv) (hS : SKL sk L cl) (t_a0 : ty L cl a0 4) (h_x : -2147483648 ≤ x ∧ x ≤ 2147483647)  : Mc l G mi (Phi (g0 G) sk) PHM yX1_add cX1_add 2 none 2 [.ref a0, .int (iI x)] L cl ln iv rv 0 (fun v L2 cl2 ln2 iv2 rv2 => v = none ∧ XT L cl ln L2 cl2 ln2 ∧ fT [4, 34] L cl iv rv iv2 rv2 ∧ WT (g0 G) sk L2 cl2 ln2 iv2 rv2 ∧ (((iv2 a0 2 = iv a0 2 ∧ iv a0 2 = 4000) ∨ (iv2 a0 2 = iv a0 2 + 1 ∧ iv a0 2 < 4000)))) := by
  refine Mc.mk (by decide) (Nat.le_of_ble_eq_true rfl) ?_
  intro p e s m args below meth c A C hM
  refine hv3 (Phi.le hW hS) (show XT L cl ln L cl ln from XT.refl) (show fT [4, 34] L cl iv rv iv rv from fT.refl) (fun hph hX0 hF0 => ?_)
  refine c_aload_n (j := 0) (x := a0) C dX1_add_0 rfl ?_
  have ri1 : 0 ≤ iv a0 2 ∧ iv a0 2 ≤ 4000 := hW.int t_a0 2
  refine c_get (k := 2) C ck_2 dX1_add_1 w1_43 (by decide) t_a0 rfl rfl (by decide) rfl ?_
  refine c_aload_n (j := 0) (x := a0) C dX1_add_4 rfl ?_
  have ri2 : 4000 ≤ iv a0 0 ∧ iv a0 0 ≤ 4000 := hW.int t_a0 0
  refine c_get (k := 0) C ck_2 dX1_add_5 w1_38 (by decide) t_a0 rfl rfl (by decide) rfl ?_
  refine c_icmp_lt (tgt := 12) C (r32_c (lo := 0) (hi := 4000) ri1.1 ri1.2 (by decide) (by decide)) (r32_c (lo := 4000) (hi := 4000) ri2.1 ri2.2 (by decide) (by decide)) dX1_add_8 (by decide) (fun c1 => ?_) (fun c1 => ?_)
  · refine c_aload_n (j := 0) (x := a0) C dX1_add_12 rfl ?_
    refine c_get (k := 2) C ck_2 dX1_add_13 w1_43 (by decide) t_a0 rfl rfl (by decide) rfl ?_
    refine c_aload_n (j := 0) (x := a0) C dX1_add_16 rfl ?_
    obtain ⟨rb1, rq1, trb1⟩ := hW.ref t_a0 1 rfl rfl rfl
    refine hv2 (show 16 ≤ ln rb1 ∧ ln rb1 ≤ 8000 from hW.len trb1 rfl) (hW.isz t_a0 rfl rfl rq1) (fun lnrb1 szrb1 => ?_)
    refine c_getr (k := 1) C ck_2 dX1_add_17 w1_39 (by decide) t_a0 rfl rfl (by decide) rfl rq1 ?_
    refine c_st (st2 := [.ref rb1, .int (iI (iv a0 2))]) rfl ?_
    have ll1 : 16 ≤ ln rb1 ∧ ln rb1 ≤ 8000 := hW.len trb1 rfl
    refine c_alenI C dX1_add_20 trb1 rfl ?_
    refine c_icmp_lt (tgt := 42) C (r32_c (lo := 0) (hi := 4000) ri1.1 ri1.2 (by decide) (by decide)) ⟨by omega, by omega⟩ dX1_add_21 (by decide) (fun c2 => ?_) (fun c2 => ?_)
    · refine c_aload_n (j := 0) (x := a0) C dX1_add_42 rfl ?_
      refine c_getr (k := 1) C ck_2 dX1_add_43 w1_39 (by decide) t_a0 rfl rfl (by decide) rfl rq1 ?_
      refine c_st (st2 := [.ref rb1]) rfl ?_
      refine c_aload_n (j := 0) (x := a0) C dX1_add_46 rfl ?_
      refine c_get (k := 2) C ck_2 dX1_add_47 w1_43 (by decide) t_a0 rfl rfl (by decide) rfl ?_
      refine c_iload_n (j := 1) C dX1_add_50 rfl ?_
      refine c_iast (x := x) C dX1_add_51 trb1 rfl (by omega) (by omega) (by omega) (fun iv1 pq1 => ?_)
      refine hv2 (hW.puti pq1 trb1 (show (-2147483648) ≤ x ∧ x ≤ 2147483647 by omega) rfl) (hF0.puti hX0 pq1 trb1 rfl) (fun W1 F1 => ?_)
      refine c_aload_n (j := 0) (x := a0) C dX1_add_52 rfl ?_
      refine c_dup C dX1_add_53 rfl ?_
      refine hv2 (show 0 ≤ iv1 a0 2 ∧ iv1 a0 2 ≤ 4000 from W1.int t_a0 2) (show iv1 a0 2 = iv a0 2 from by rw [pq1]; exact up2_k (ne_ty t_a0 trb1 (by decide))) (fun ri3 ie1 => ?_)
      refine c_get (k := 2) C ck_2 dX1_add_54 w1_43 (by decide) t_a0 rfl rfl (by decide) rfl ?_
      refine c_iconst C dX1_add_57 ?_
      refine c_iadd C dX1_add_58 ?_
      refine c_put (z := (iv1 a0 2) + 1) (k := 2) C ck_2 dX1_add_59 w1_43 (by decide) rfl t_a0 rfl rfl (by decide) rfl (by rfl) (by rfl) (fun iv2 pq2 => ?_)
      refine hv3 (W1.isz_put pq2 t_a0 (show 0 ≤ ((iv1 a0 2) + 1) ∧ ((iv1 a0 2) + 1) ≤ 4000 by omega) rfl rfl rq1 (show ((iv1 a0 2) + 1) ≤ ((ln rb1 : Nat) : Int) by omega)) (F1.puti hX0 pq2 t_a0 rfl) (show iv2 a0 2 = (iv1 a0 2) + 1 from by rw [pq2]; exact up2_s) (fun W2 F2 ie2 => ?_)
      have ri4 : 0 ≤ iv2 a0 2 ∧ iv2 a0 2 ≤ 4000 := W2.int t_a0 2
      exact c_vret C dX1_add_62 rfl (by decide) (rom0 hph hph (by decide)) ⟨rfl, hX0, F2, W2, (by omega)⟩
    · refine c_aload_n (j := 0) (x := a0) C dX1_add_24 rfl ?_
      refine c_aload_n (j := 0) (x := a0) C dX1_add_25 rfl ?_
      refine c_getr (k := 1) C ck_2 dX1_add_26 w1_39 (by decide) t_a0 rfl rfl (by decide) rfl rq1 ?_
      refine c_st (st2 := [.ref rb1, .ref a0]) rfl ?_
      refine c_aload_n (j := 0) (x := a0) C dX1_add_29 rfl ?_
      refine c_getr (k := 1) C ck_2 dX1_add_30 w1_39 (by decide) t_a0 rfl rfl (by decide) rfl rq1 ?_
      refine c_st (st2 := [.ref rb1, .ref rb1, .ref a0]) rfl ?_
      refine c_alenI C dX1_add_33 trb1 rfl ?_
      refine c_iconst C dX1_add_34 ?_
      refine c_imul C dX1_add_35 ?_
      refine c_g0 C (fun hg0 => ?_)
      refine hv2 (hW.sk t_a0 (by decide) rfl) (cap_of (ln := ln) rq1 (hg0 rb1 trb1.1)) (fun ask0 cp0 => ?_)
      have sl0 := Phi.slack (t := 4) (n := ln rb1) hW hS ⟨by decide, by decide⟩ (by rw [← ask0]; exact cp0) (by show ln rb1 ≤ 4000; omega)
      refine c_callS (As := [.ref rb1, .int (iI (((ln rb1 : Nat) : Int) * 2))]) (rest := [.ref a0]) C hM (Z_copyOf_4 (a0 := rb1) (n := ((ln rb1 : Nat) : Int) * 2) hW hS trb1 (by omega) (by show ((ln rb1 : Nat) : Int) < (((ln rb1 : Nat) : Int) * 2) ∧ 16 ≤ (((ln rb1 : Nat) : Int) * 2) ∧ (((ln rb1 : Nat) : Int) * 2) ≤ 8000; omega)) dX1_add_36 kS_X1_20 rfl rfl (Nat.le_of_ble_eq_true rfl) ⟨(Nat.le_of_ble_eq_true rfl), (Nat.le_of_ble_eq_true rfl)⟩ (by unfold zPf; omega) (fun rh1 Lh1 clh1 lnh1 ivh1 rvh1 h1 => ⟨(0 + (16 + (((ln rb1 : Nat) : Int) * 2).toNat)), (zk1 (by obtain ⟨_, _, xlh1x, flh1x, Wh1x, _⟩ := h1; exact Phi.fr hW hS xlh1x flh1x rfl)), ?_⟩)
      obtain ⟨f1, rfl, xl1, fl1, W3, rgf1, exf1⟩ := h1
      refine hv3 (hF0.call hX0 fl1 rfl) (hX0.trans xl1) (xl1.skl hS) (fun F3 X1 sk1 => ?_)
      refine c_st (st2 := [.ref f1, .ref a0]) rfl ?_
      refine hv3 (show lnh1 f1 = (((ln rb1 : Nat) : Int) * 2).toNat from exf1) (xl1.ty t_a0) (show rvh1 a0 1 = rv a0 1 from (fl1.r t_a0 rfl 1)) (fun gf1 ty1 re1 => ?_)
      rw [rq1] at re1
      refine hv4 (show 0 ≤ ivh1 a0 2 ∧ ivh1 a0 2 ≤ 4000 from W3.int ty1 2) (show ivh1 a0 2 = iv a0 2 from fl1.i t_a0 rfl 2) (xl1.ty trb1) (show lnh1 rb1 = ln rb1 from (xl1 rb1 trb1.1).2.2) (fun ri5 ie3 ty2 le1 => ?_)
      refine c_g0 C (fun hg1 => ?_)
      refine hv2 (W3.sk ty1 (by decide) rfl) (cap_of (ln := lnh1) re1 (hg1 rb1 ty2.1)) (fun ask cpo => ?_)
      refine c_putr (x := (some f1)) (k := 1) C ck_2 dX1_add_39 w1_39 (by decide) rfl ty1 rfl rfl (by decide) rfl (by rfl) (by rfl) (fun rv1 pq3 => ⟨0, (by have gr := Phi.grow (g := g0 G) (rv2 := rv1) (rv := rvh1) (b := f1) (ln := lnh1) (t := 4) sk1 (by rw [← ask]; exact pq3) (hg1 f1 rgf1.1) (Or.inl ⟨by decide, by decide⟩); rw [← ask] at gr; have gr2 : Phi (g0 G) sk lnh1 rv1 + 3 * cap (g0 G) lnh1 rvh1 a0 = Phi (g0 G) sk lnh1 rvh1 + 3 * lnh1 f1 := gr; omega), ?_⟩)
      refine hv2 (W3.putit pq3 ty1 rfl rfl rgf1 (by omega)) (F3.putr X1 pq3 ty1 rfl) (fun W4 F4 => ?_)
      refine c_aload_n (j := 0) (x := a0) C dX1_add_42 rfl ?_
      have rp1 : rv1 a0 1 = (some f1) := by rw [pq3]; exact upr_s
      refine c_getr (k := 1) C ck_2 dX1_add_43 w1_39 (by decide) ty1 rfl rfl (by decide) rfl rp1 ?_
      refine c_st (st2 := [.ref f1]) rfl ?_
      refine c_aload_n (j := 0) (x := a0) C dX1_add_46 rfl ?_
      refine c_get (k := 2) C ck_2 dX1_add_47 w1_43 (by decide) ty1 rfl rfl (by decide) rfl ?_
      refine c_iload_n (j := 1) C dX1_add_50 rfl ?_
      have ll2 : 16 ≤ lnh1 f1 ∧ lnh1 f1 ≤ 8000 := W4.len rgf1 rfl
      refine c_iast (x := x) C dX1_add_51 rgf1 rfl (by omega) (by omega) (by omega) (fun iv3 pq4 => ?_)
      refine hv2 (W4.puti pq4 rgf1 (show (-2147483648) ≤ x ∧ x ≤ 2147483647 by omega) rfl) (F4.puti X1 pq4 rgf1 rfl) (fun W5 F5 => ?_)
      refine c_aload_n (j := 0) (x := a0) C dX1_add_52 rfl ?_
      refine c_dup C dX1_add_53 rfl ?_
      refine hv2 (show 0 ≤ iv3 a0 2 ∧ iv3 a0 2 ≤ 4000 from W5.int ty1 2) (show iv3 a0 2 = ivh1 a0 2 from by rw [pq4]; exact up2_k (ne_ty ty1 rgf1 (by decide))) (fun ri6 ie4 => ?_)
      refine c_get (k := 2) C ck_2 dX1_add_54 w1_43 (by decide) ty1 rfl rfl (by decide) rfl ?_
      refine c_iconst C dX1_add_57 ?_
      refine c_iadd C dX1_add_58 ?_
      refine c_put (z := (iv3 a0 2) + 1) (k := 2) C ck_2 dX1_add_59 w1_43 (by decide) rfl ty1 rfl rfl (by decide) rfl (by rfl) (by rfl) (fun iv4 pq5 => ?_)
      refine hv3 (W5.isz_put pq5 ty1 (show 0 ≤ ((iv3 a0 2) + 1) ∧ ((iv3 a0 2) + 1) ≤ 4000 by omega) rfl rfl rp1 (show ((iv3 a0 2) + 1) ≤ ((lnh1 f1 : Nat) : Int) by omega)) (F5.puti X1 pq5 ty1 rfl) (show iv4 a0 2 = (iv3 a0 2) + 1 from by rw [pq5]; exact up2_s) (fun W6 F6 ie5 => ?_)
      refine hv2 (show 0 ≤ iv4 a0 2 ∧ iv4 a0 2 ≤ 4000 from W6.int ty1 2) (Phi.le W6 sk1) (fun ri7 pl1 => ?_)
      exact c_vret C dX1_add_62 rfl (by decide) (rom0 hph pl1 (by decide)) ⟨rfl, X1, F6, W6, (by omega)⟩
  · exact c_vret C dX1_add_11 rfl (by decide) (rom0 hph hph (by decide)) ⟨rfl, hX0, hF0, hW, (by omega)⟩
set_option maxHeartbeats 4000000 in
set_option maxRecDepth 100000 in
theorem C_add_5 {l : Launch} {G : GT} {mi : Nat} {sk : Nat → Nat} {L : List Nat} {cl ln : Nat → Nat} {iv : Nat → Nat → Int} {rv : Nat → Nat → Option Nat}  {a0 : Nat} {x : Int} (hW : WT (g0 G) sk L cl ln iv rv) (hS : SKL sk L cl) (t_a0 : ty L cl a0 5) (h_x : -2147483648 ≤ x ∧ x ≤ 2147483647)  : Mc l G mi (Phi (g0 G) sk) PHM yX1_add cX1_add 2 none 2 [.ref a0, .int (iI x)] L cl ln iv rv 0 (fun v L2 cl2 ln2 iv2 rv2 => v = none ∧ XT L cl ln L2 cl2 ln2 ∧ fT [5, 35] L cl iv rv iv2 rv2 ∧ WT (g0 G) sk L2 cl2 ln2 iv2 rv2 ∧ (((iv2 a0 2 = iv a0 2 ∧ iv a0 2 = 200) ∨ (iv2 a0 2 = iv a0 2 + 1 ∧ iv a0 2 < 200)))) := by
  refine Mc.mk (by decide) (Nat.le_of_ble_eq_true rfl) ?_
  intro p e s m args below meth c A C hM
  refine hv3 (Phi.le hW hS) (show XT L cl ln L cl ln from XT.refl) (show fT [5, 35] L cl iv rv iv rv from fT.refl) (fun hph hX0 hF0 => ?_)
  refine c_aload_n (j := 0) (x := a0) C dX1_add_0 rfl ?_
  have ri1 : 0 ≤ iv a0 2 ∧ iv a0 2 ≤ 200 := hW.int t_a0 2
  refine c_get (k := 2) C ck_2 dX1_add_1 w1_43 (by decide) t_a0 rfl rfl (by decide) rfl ?_
  refine c_aload_n (j := 0) (x := a0) C dX1_add_4 rfl ?_
  have ri2 : 200 ≤ iv a0 0 ∧ iv a0 0 ≤ 200 := hW.int t_a0 0
  refine c_get (k := 0) C ck_2 dX1_add_5 w1_38 (by decide) t_a0 rfl rfl (by decide) rfl ?_
  refine c_icmp_lt (tgt := 12) C (r32_c (lo := 0) (hi := 200) ri1.1 ri1.2 (by decide) (by decide)) (r32_c (lo := 200) (hi := 200) ri2.1 ri2.2 (by decide) (by decide)) dX1_add_8 (by decide) (fun c1 => ?_) (fun c1 => ?_)
  · refine c_aload_n (j := 0) (x := a0) C dX1_add_12 rfl ?_
    refine c_get (k := 2) C ck_2 dX1_add_13 w1_43 (by decide) t_a0 rfl rfl (by decide) rfl ?_
    refine c_aload_n (j := 0) (x := a0) C dX1_add_16 rfl ?_
    obtain ⟨rb1, rq1, trb1⟩ := hW.ref t_a0 1 rfl rfl rfl
    refine hv2 (show 16 ≤ ln rb1 ∧ ln rb1 ≤ 400 from hW.len trb1 rfl) (hW.isz t_a0 rfl rfl rq1) (fun lnrb1 szrb1 => ?_)
    refine c_getr (k := 1) C ck_2 dX1_add_17 w1_39 (by decide) t_a0 rfl rfl (by decide) rfl rq1 ?_
    refine c_st (st2 := [.ref rb1, .int (iI (iv a0 2))]) rfl ?_
    have ll1 : 16 ≤ ln rb1 ∧ ln rb1 ≤ 400 := hW.len trb1 rfl
    refine c_alenI C dX1_add_20 trb1 rfl ?_
    refine c_icmp_lt (tgt := 42) C (r32_c (lo := 0) (hi := 200) ri1.1 ri1.2 (by decide) (by decide)) ⟨by omega, by omega⟩ dX1_add_21 (by decide) (fun c2 => ?_) (fun c2 => ?_)
    · refine c_aload_n (j := 0) (x := a0) C dX1_add_42 rfl ?_
      refine c_getr (k := 1) C ck_2 dX1_add_43 w1_39 (by decide) t_a0 rfl rfl (by decide) rfl rq1 ?_
      refine c_st (st2 := [.ref rb1]) rfl ?_
      refine c_aload_n (j := 0) (x := a0) C dX1_add_46 rfl ?_
      refine c_get (k := 2) C ck_2 dX1_add_47 w1_43 (by decide) t_a0 rfl rfl (by decide) rfl ?_
      refine c_iload_n (j := 1) C dX1_add_50 rfl ?_
      refine c_iast (x := x) C dX1_add_51 trb1 rfl (by omega) (by omega) (by omega) (fun iv1 pq1 => ?_)
      refine hv2 (hW.puti pq1 trb1 (show (-2147483648) ≤ x ∧ x ≤ 2147483647 by omega) rfl) (hF0.puti hX0 pq1 trb1 rfl) (fun W1 F1 => ?_)
      refine c_aload_n (j := 0) (x := a0) C dX1_add_52 rfl ?_
      refine c_dup C dX1_add_53 rfl ?_
      refine hv2 (show 0 ≤ iv1 a0 2 ∧ iv1 a0 2 ≤ 200 from W1.int t_a0 2) (show iv1 a0 2 = iv a0 2 from by rw [pq1]; exact up2_k (ne_ty t_a0 trb1 (by decide))) (fun ri3 ie1 => ?_)
      refine c_get (k := 2) C ck_2 dX1_add_54 w1_43 (by decide) t_a0 rfl rfl (by decide) rfl ?_
      refine c_iconst C dX1_add_57 ?_
      refine c_iadd C dX1_add_58 ?_
      refine c_put (z := (iv1 a0 2) + 1) (k := 2) C ck_2 dX1_add_59 w1_43 (by decide) rfl t_a0 rfl rfl (by decide) rfl (by rfl) (by rfl) (fun iv2 pq2 => ?_)
      refine hv3 (W1.isz_put pq2 t_a0 (show 0 ≤ ((iv1 a0 2) + 1) ∧ ((iv1 a0 2) + 1) ≤ 200 by omega) rfl rfl rq1 (show ((iv1 a0 2) + 1) ≤ ((ln rb1 : Nat) : Int) by omega)) (F1.puti hX0 pq2 t_a0 rfl) (show iv2 a0 2 = (iv1 a0 2) + 1 from by rw [pq2]; exact up2_s) (fun W2 F2 ie2 => ?_)
      have ri4 : 0 ≤ iv2 a0 2 ∧ iv2 a0 2 ≤ 200 := W2.int t_a0 2
      exact c_vret C dX1_add_62 rfl (by decide) (rom0 hph hph (by decide)) ⟨rfl, hX0, F2, W2, (by omega)⟩
    · refine c_aload_n (j := 0) (x := a0) C dX1_add_24 rfl ?_
      refine c_aload_n (j := 0) (x := a0) C dX1_add_25 rfl ?_
      refine c_getr (k := 1) C ck_2 dX1_add_26 w1_39 (by decide) t_a0 rfl rfl (by decide) rfl rq1 ?_
      refine c_st (st2 := [.ref rb1, .ref a0]) rfl ?_
      refine c_aload_n (j := 0) (x := a0) C dX1_add_29 rfl ?_
      refine c_getr (k := 1) C ck_2 dX1_add_30 w1_39 (by decide) t_a0 rfl rfl (by decide) rfl rq1 ?_
      refine c_st (st2 := [.ref rb1, .ref rb1, .ref a0]) rfl ?_
      refine c_alenI C dX1_add_33 trb1 rfl ?_
      refine c_iconst C dX1_add_34 ?_
      refine c_imul C dX1_add_35 ?_
      refine c_g0 C (fun hg0 => ?_)
      refine hv2 (hW.sk t_a0 (by decide) rfl) (cap_of (ln := ln) rq1 (hg0 rb1 trb1.1)) (fun ask0 cp0 => ?_)
      have sl0 := Phi.slack (t := 5) (n := ln rb1) hW hS ⟨by decide, by decide⟩ (by rw [← ask0]; exact cp0) (by show ln rb1 ≤ 200; omega)
      refine c_callS (As := [.ref rb1, .int (iI (((ln rb1 : Nat) : Int) * 2))]) (rest := [.ref a0]) C hM (Z_copyOf_5 (a0 := rb1) (n := ((ln rb1 : Nat) : Int) * 2) hW hS trb1 (by omega) (by show ((ln rb1 : Nat) : Int) < (((ln rb1 : Nat) : Int) * 2) ∧ 16 ≤ (((ln rb1 : Nat) : Int) * 2) ∧ (((ln rb1 : Nat) : Int) * 2) ≤ 400; omega)) dX1_add_36 kS_X1_20 rfl rfl (Nat.le_of_ble_eq_true rfl) ⟨(Nat.le_of_ble_eq_true rfl), (Nat.le_of_ble_eq_true rfl)⟩ (by unfold zPf; omega) (fun rh1 Lh1 clh1 lnh1 ivh1 rvh1 h1 => ⟨(0 + (16 + (((ln rb1 : Nat) : Int) * 2).toNat)), (zk1 (by obtain ⟨_, _, xlh1x, flh1x, Wh1x, _⟩ := h1; exact Phi.fr hW hS xlh1x flh1x rfl)), ?_⟩)
      obtain ⟨f1, rfl, xl1, fl1, W3, rgf1, exf1⟩ := h1
      refine hv3 (hF0.call hX0 fl1 rfl) (hX0.trans xl1) (xl1.skl hS) (fun F3 X1 sk1 => ?_)
      refine c_st (st2 := [.ref f1, .ref a0]) rfl ?_
      refine hv3 (show lnh1 f1 = (((ln rb1 : Nat) : Int) * 2).toNat from exf1) (xl1.ty t_a0) (show rvh1 a0 1 = rv a0 1 from (fl1.r t_a0 rfl 1)) (fun gf1 ty1 re1 => ?_)
      rw [rq1] at re1
      refine hv4 (show 0 ≤ ivh1 a0 2 ∧ ivh1 a0 2 ≤ 200 from W3.int ty1 2) (show ivh1 a0 2 = iv a0 2 from fl1.i t_a0 rfl 2) (xl1.ty trb1) (show lnh1 rb1 = ln rb1 from (xl1 rb1 trb1.1).2.2) (fun ri5 ie3 ty2 le1 => ?_)
      refine c_g0 C (fun hg1 => ?_)
      refine hv2 (W3.sk ty1 (by decide) rfl) (cap_of (ln := lnh1) re1 (hg1 rb1 ty2.1)) (fun ask cpo => ?_)
      refine c_putr (x := (some f1)) (k := 1) C ck_2 dX1_add_39 w1_39 (by decide) rfl ty1 rfl rfl (by decide) rfl (by rfl) (by rfl) (fun rv1 pq3 => ⟨0, (by have gr := Phi.grow (g := g0 G) (rv2 := rv1) (rv := rvh1) (b := f1) (ln := lnh1) (t := 5) sk1 (by rw [← ask]; exact pq3) (hg1 f1 rgf1.1) (Or.inl ⟨by decide, by decide⟩); rw [← ask] at gr; have gr2 : Phi (g0 G) sk lnh1 rv1 + 3 * cap (g0 G) lnh1 rvh1 a0 = Phi (g0 G) sk lnh1 rvh1 + 3 * lnh1 f1 := gr; omega), ?_⟩)
      refine hv2 (W3.putit pq3 ty1 rfl rfl rgf1 (by omega)) (F3.putr X1 pq3 ty1 rfl) (fun W4 F4 => ?_)
      refine c_aload_n (j := 0) (x := a0) C dX1_add_42 rfl ?_
      have rp1 : rv1 a0 1 = (some f1) := by rw [pq3]; exact upr_s
      refine c_getr (k := 1) C ck_2 dX1_add_43 w1_39 (by decide) ty1 rfl rfl (by decide) rfl rp1 ?_
      refine c_st (st2 := [.ref f1]) rfl ?_
      refine c_aload_n (j := 0) (x := a0) C dX1_add_46 rfl ?_
      refine c_get (k := 2) C ck_2 dX1_add_47 w1_43 (by decide) ty1 rfl rfl (by decide) rfl ?_
      refine c_iload_n (j := 1) C dX1_add_50 rfl ?_
      have ll2 : 16 ≤ lnh1 f1 ∧ lnh1 f1 ≤ 400 := W4.len rgf1 rfl
      refine c_iast (x := x) C dX1_add_51 rgf1 rfl (by omega) (by omega) (by omega) (fun iv3 pq4 => ?_)
      refine hv2 (W4.puti pq4 rgf1 (show (-2147483648) ≤ x ∧ x ≤ 2147483647 by omega) rfl) (F4.puti X1 pq4 rgf1 rfl) (fun W5 F5 => ?_)
      refine c_aload_n (j := 0) (x := a0) C dX1_add_52 rfl ?_
      refine c_dup C dX1_add_53 rfl ?_
      refine hv2 (show 0 ≤ iv3 a0 2 ∧ iv3 a0 2 ≤ 200 from W5.int ty1 2) (show iv3 a0 2 = ivh1 a0 2 from by rw [pq4]; exact up2_k (ne_ty ty1 rgf1 (by decide))) (fun ri6 ie4 => ?_)
      refine c_get (k := 2) C ck_2 dX1_add_54 w1_43 (by decide) ty1 rfl rfl (by decide) rfl ?_
      refine c_iconst C dX1_add_57 ?_
      refine c_iadd C dX1_add_58 ?_
      refine c_put (z := (iv3 a0 2) + 1) (k := 2) C ck_2 dX1_add_59 w1_43 (by decide) rfl ty1 rfl rfl (by decide) rfl (by rfl) (by rfl) (fun iv4 pq5 => ?_)
      refine hv3 (W5.isz_put pq5 ty1 (show 0 ≤ ((iv3 a0 2) + 1) ∧ ((iv3 a0 2) + 1) ≤ 200 by omega) rfl rfl rp1 (show ((iv3 a0 2) + 1) ≤ ((lnh1 f1 : Nat) : Int) by omega)) (F5.puti X1 pq5 ty1 rfl) (show iv4 a0 2 = (iv3 a0 2) + 1 from by rw [pq5]; exact up2_s) (fun W6 F6 ie5 => ?_)
      refine hv2 (show 0 ≤ iv4 a0 2 ∧ iv4 a0 2 ≤ 200 from W6.int ty1 2) (Phi.le W6 sk1) (fun ri7 pl1 => ?_)
      exact c_vret C dX1_add_62 rfl (by decide) (rom0 hph pl1 (by decide)) ⟨rfl, X1, F6, W6, (by omega)⟩
  · exact c_vret C dX1_add_11 rfl (by decide) (rom0 hph hph (by decide)) ⟨rfl, hX0, hF0, hW, (by omega)⟩
set_option maxHeartbeats 4000000 in
set_option maxRecDepth 100000 in
theorem C_add_6 {l : Launch} {G : GT} {mi : Nat} {sk : Nat → Nat} {L : List Nat} {cl ln : Nat → Nat} {iv : Nat → Nat → Int} {rv : Nat → Nat → Option Nat}  {a0 : Nat} {x : Int} (hW : WT (g0 G) sk L cl ln iv rv) (hS : SKL sk L cl) (t_a0 : ty L cl a0 6) (h_x : -2147483648 ≤ x ∧ x ≤ 2147483647)  : Mc l G mi (Phi (g0 G) sk) PHM yX1_add cX1_add 2 none 2 [.ref a0, .int (iI x)] L cl ln iv rv 0 (fun v L2 cl2 ln2 iv2 rv2 => v = none ∧ XT L cl ln L2 cl2 ln2 ∧ fT [6, 36] L cl iv rv iv2 rv2 ∧ WT (g0 G) sk L2 cl2 ln2 iv2 rv2 ∧ (((iv2 a0 2 = iv a0 2 ∧ iv a0 2 = 6003) ∨ (iv2 a0 2 = iv a0 2 + 1 ∧ iv a0 2 < 6003)))) := by
  refine Mc.mk (by decide) (Nat.le_of_ble_eq_true rfl) ?_
  intro p e s m args below meth c A C hM
  refine hv3 (Phi.le hW hS) (show XT L cl ln L cl ln from XT.refl) (show fT [6, 36] L cl iv rv iv rv from fT.refl) (fun hph hX0 hF0 => ?_)
  refine c_aload_n (j := 0) (x := a0) C dX1_add_0 rfl ?_
  have ri1 : 0 ≤ iv a0 2 ∧ iv a0 2 ≤ 6003 := hW.int t_a0 2
  refine c_get (k := 2) C ck_2 dX1_add_1 w1_43 (by decide) t_a0 rfl rfl (by decide) rfl ?_
  refine c_aload_n (j := 0) (x := a0) C dX1_add_4 rfl ?_
  have ri2 : 6003 ≤ iv a0 0 ∧ iv a0 0 ≤ 6003 := hW.int t_a0 0
  refine c_get (k := 0) C ck_2 dX1_add_5 w1_38 (by decide) t_a0 rfl rfl (by decide) rfl ?_
  refine c_icmp_lt (tgt := 12) C (r32_c (lo := 0) (hi := 6003) ri1.1 ri1.2 (by decide) (by decide)) (r32_c (lo := 6003) (hi := 6003) ri2.1 ri2.2 (by decide) (by decide)) dX1_add_8 (by decide) (fun c1 => ?_) (fun c1 => ?_)
  · refine c_aload_n (j := 0) (x := a0) C dX1_add_12 rfl ?_
    refine c_get (k := 2) C ck_2 dX1_add_13 w1_43 (by decide) t_a0 rfl rfl (by decide) rfl ?_
    refine c_aload_n (j := 0) (x := a0) C dX1_add_16 rfl ?_
    obtain ⟨rb1, rq1, trb1⟩ := hW.ref t_a0 1 rfl rfl rfl
    refine hv2 (show 16 ≤ ln rb1 ∧ ln rb1 ≤ 12006 from hW.len trb1 rfl) (hW.isz t_a0 rfl rfl rq1) (fun lnrb1 szrb1 => ?_)
    refine c_getr (k := 1) C ck_2 dX1_add_17 w1_39 (by decide) t_a0 rfl rfl (by decide) rfl rq1 ?_
    refine c_st (st2 := [.ref rb1, .int (iI (iv a0 2))]) rfl ?_
    have ll1 : 16 ≤ ln rb1 ∧ ln rb1 ≤ 12006 := hW.len trb1 rfl
    refine c_alenI C dX1_add_20 trb1 rfl ?_
    refine c_icmp_lt (tgt := 42) C (r32_c (lo := 0) (hi := 6003) ri1.1 ri1.2 (by decide) (by decide)) ⟨by omega, by omega⟩ dX1_add_21 (by decide) (fun c2 => ?_) (fun c2 => ?_)
    · refine c_aload_n (j := 0) (x := a0) C dX1_add_42 rfl ?_
      refine c_getr (k := 1) C ck_2 dX1_add_43 w1_39 (by decide) t_a0 rfl rfl (by decide) rfl rq1 ?_
      refine c_st (st2 := [.ref rb1]) rfl ?_
      refine c_aload_n (j := 0) (x := a0) C dX1_add_46 rfl ?_
      refine c_get (k := 2) C ck_2 dX1_add_47 w1_43 (by decide) t_a0 rfl rfl (by decide) rfl ?_
      refine c_iload_n (j := 1) C dX1_add_50 rfl ?_
      refine c_iast (x := x) C dX1_add_51 trb1 rfl (by omega) (by omega) (by omega) (fun iv1 pq1 => ?_)
      refine hv2 (hW.puti pq1 trb1 (show (-2147483648) ≤ x ∧ x ≤ 2147483647 by omega) rfl) (hF0.puti hX0 pq1 trb1 rfl) (fun W1 F1 => ?_)
      refine c_aload_n (j := 0) (x := a0) C dX1_add_52 rfl ?_
      refine c_dup C dX1_add_53 rfl ?_
      refine hv2 (show 0 ≤ iv1 a0 2 ∧ iv1 a0 2 ≤ 6003 from W1.int t_a0 2) (show iv1 a0 2 = iv a0 2 from by rw [pq1]; exact up2_k (ne_ty t_a0 trb1 (by decide))) (fun ri3 ie1 => ?_)
      refine c_get (k := 2) C ck_2 dX1_add_54 w1_43 (by decide) t_a0 rfl rfl (by decide) rfl ?_
      refine c_iconst C dX1_add_57 ?_
      refine c_iadd C dX1_add_58 ?_
      refine c_put (z := (iv1 a0 2) + 1) (k := 2) C ck_2 dX1_add_59 w1_43 (by decide) rfl t_a0 rfl rfl (by decide) rfl (by rfl) (by rfl) (fun iv2 pq2 => ?_)
      refine hv3 (W1.isz_put pq2 t_a0 (show 0 ≤ ((iv1 a0 2) + 1) ∧ ((iv1 a0 2) + 1) ≤ 6003 by omega) rfl rfl rq1 (show ((iv1 a0 2) + 1) ≤ ((ln rb1 : Nat) : Int) by omega)) (F1.puti hX0 pq2 t_a0 rfl) (show iv2 a0 2 = (iv1 a0 2) + 1 from by rw [pq2]; exact up2_s) (fun W2 F2 ie2 => ?_)
      have ri4 : 0 ≤ iv2 a0 2 ∧ iv2 a0 2 ≤ 6003 := W2.int t_a0 2
      exact c_vret C dX1_add_62 rfl (by decide) (rom0 hph hph (by decide)) ⟨rfl, hX0, F2, W2, (by omega)⟩
    · refine c_aload_n (j := 0) (x := a0) C dX1_add_24 rfl ?_
      refine c_aload_n (j := 0) (x := a0) C dX1_add_25 rfl ?_
      refine c_getr (k := 1) C ck_2 dX1_add_26 w1_39 (by decide) t_a0 rfl rfl (by decide) rfl rq1 ?_
      refine c_st (st2 := [.ref rb1, .ref a0]) rfl ?_
      refine c_aload_n (j := 0) (x := a0) C dX1_add_29 rfl ?_
      refine c_getr (k := 1) C ck_2 dX1_add_30 w1_39 (by decide) t_a0 rfl rfl (by decide) rfl rq1 ?_
      refine c_st (st2 := [.ref rb1, .ref rb1, .ref a0]) rfl ?_
      refine c_alenI C dX1_add_33 trb1 rfl ?_
      refine c_iconst C dX1_add_34 ?_
      refine c_imul C dX1_add_35 ?_
      refine c_g0 C (fun hg0 => ?_)
      refine hv2 (hW.sk t_a0 (by decide) rfl) (cap_of (ln := ln) rq1 (hg0 rb1 trb1.1)) (fun ask0 cp0 => ?_)
      have sl0 := Phi.slack (t := 6) (n := ln rb1) hW hS ⟨by decide, by decide⟩ (by rw [← ask0]; exact cp0) (by show ln rb1 ≤ 6003; omega)
      refine c_callS (As := [.ref rb1, .int (iI (((ln rb1 : Nat) : Int) * 2))]) (rest := [.ref a0]) C hM (Z_copyOf_6 (a0 := rb1) (n := ((ln rb1 : Nat) : Int) * 2) hW hS trb1 (by omega) (by show ((ln rb1 : Nat) : Int) < (((ln rb1 : Nat) : Int) * 2) ∧ 16 ≤ (((ln rb1 : Nat) : Int) * 2) ∧ (((ln rb1 : Nat) : Int) * 2) ≤ 12006; omega)) dX1_add_36 kS_X1_20 rfl rfl (Nat.le_of_ble_eq_true rfl) ⟨(Nat.le_of_ble_eq_true rfl), (Nat.le_of_ble_eq_true rfl)⟩ (by unfold zPf; omega) (fun rh1 Lh1 clh1 lnh1 ivh1 rvh1 h1 => ⟨(0 + (16 + (((ln rb1 : Nat) : Int) * 2).toNat)), (zk1 (by obtain ⟨_, _, xlh1x, flh1x, Wh1x, _⟩ := h1; exact Phi.fr hW hS xlh1x flh1x rfl)), ?_⟩)
      obtain ⟨f1, rfl, xl1, fl1, W3, rgf1, exf1⟩ := h1
      refine hv3 (hF0.call hX0 fl1 rfl) (hX0.trans xl1) (xl1.skl hS) (fun F3 X1 sk1 => ?_)
      refine c_st (st2 := [.ref f1, .ref a0]) rfl ?_
      refine hv3 (show lnh1 f1 = (((ln rb1 : Nat) : Int) * 2).toNat from exf1) (xl1.ty t_a0) (show rvh1 a0 1 = rv a0 1 from (fl1.r t_a0 rfl 1)) (fun gf1 ty1 re1 => ?_)
      rw [rq1] at re1
      refine hv4 (show 0 ≤ ivh1 a0 2 ∧ ivh1 a0 2 ≤ 6003 from W3.int ty1 2) (show ivh1 a0 2 = iv a0 2 from fl1.i t_a0 rfl 2) (xl1.ty trb1) (show lnh1 rb1 = ln rb1 from (xl1 rb1 trb1.1).2.2) (fun ri5 ie3 ty2 le1 => ?_)
      refine c_g0 C (fun hg1 => ?_)
      refine hv2 (W3.sk ty1 (by decide) rfl) (cap_of (ln := lnh1) re1 (hg1 rb1 ty2.1)) (fun ask cpo => ?_)
      refine c_putr (x := (some f1)) (k := 1) C ck_2 dX1_add_39 w1_39 (by decide) rfl ty1 rfl rfl (by decide) rfl (by rfl) (by rfl) (fun rv1 pq3 => ⟨0, (by have gr := Phi.grow (g := g0 G) (rv2 := rv1) (rv := rvh1) (b := f1) (ln := lnh1) (t := 6) sk1 (by rw [← ask]; exact pq3) (hg1 f1 rgf1.1) (Or.inl ⟨by decide, by decide⟩); rw [← ask] at gr; have gr2 : Phi (g0 G) sk lnh1 rv1 + 3 * cap (g0 G) lnh1 rvh1 a0 = Phi (g0 G) sk lnh1 rvh1 + 3 * lnh1 f1 := gr; omega), ?_⟩)
      refine hv2 (W3.putit pq3 ty1 rfl rfl rgf1 (by omega)) (F3.putr X1 pq3 ty1 rfl) (fun W4 F4 => ?_)
      refine c_aload_n (j := 0) (x := a0) C dX1_add_42 rfl ?_
      have rp1 : rv1 a0 1 = (some f1) := by rw [pq3]; exact upr_s
      refine c_getr (k := 1) C ck_2 dX1_add_43 w1_39 (by decide) ty1 rfl rfl (by decide) rfl rp1 ?_
      refine c_st (st2 := [.ref f1]) rfl ?_
      refine c_aload_n (j := 0) (x := a0) C dX1_add_46 rfl ?_
      refine c_get (k := 2) C ck_2 dX1_add_47 w1_43 (by decide) ty1 rfl rfl (by decide) rfl ?_
      refine c_iload_n (j := 1) C dX1_add_50 rfl ?_
      have ll2 : 16 ≤ lnh1 f1 ∧ lnh1 f1 ≤ 12006 := W4.len rgf1 rfl
      refine c_iast (x := x) C dX1_add_51 rgf1 rfl (by omega) (by omega) (by omega) (fun iv3 pq4 => ?_)
      refine hv2 (W4.puti pq4 rgf1 (show (-2147483648) ≤ x ∧ x ≤ 2147483647 by omega) rfl) (F4.puti X1 pq4 rgf1 rfl) (fun W5 F5 => ?_)
      refine c_aload_n (j := 0) (x := a0) C dX1_add_52 rfl ?_
      refine c_dup C dX1_add_53 rfl ?_
      refine hv2 (show 0 ≤ iv3 a0 2 ∧ iv3 a0 2 ≤ 6003 from W5.int ty1 2) (show iv3 a0 2 = ivh1 a0 2 from by rw [pq4]; exact up2_k (ne_ty ty1 rgf1 (by decide))) (fun ri6 ie4 => ?_)
      refine c_get (k := 2) C ck_2 dX1_add_54 w1_43 (by decide) ty1 rfl rfl (by decide) rfl ?_
      refine c_iconst C dX1_add_57 ?_
      refine c_iadd C dX1_add_58 ?_
      refine c_put (z := (iv3 a0 2) + 1) (k := 2) C ck_2 dX1_add_59 w1_43 (by decide) rfl ty1 rfl rfl (by decide) rfl (by rfl) (by rfl) (fun iv4 pq5 => ?_)
      refine hv3 (W5.isz_put pq5 ty1 (show 0 ≤ ((iv3 a0 2) + 1) ∧ ((iv3 a0 2) + 1) ≤ 6003 by omega) rfl rfl rp1 (show ((iv3 a0 2) + 1) ≤ ((lnh1 f1 : Nat) : Int) by omega)) (F5.puti X1 pq5 ty1 rfl) (show iv4 a0 2 = (iv3 a0 2) + 1 from by rw [pq5]; exact up2_s) (fun W6 F6 ie5 => ?_)
      refine hv2 (show 0 ≤ iv4 a0 2 ∧ iv4 a0 2 ≤ 6003 from W6.int ty1 2) (Phi.le W6 sk1) (fun ri7 pl1 => ?_)
      exact c_vret C dX1_add_62 rfl (by decide) (rom0 hph pl1 (by decide)) ⟨rfl, X1, F6, W6, (by omega)⟩
  · exact c_vret C dX1_add_11 rfl (by decide) (rom0 hph hph (by decide)) ⟨rfl, hX0, hF0, hW, (by omega)⟩
set_option maxHeartbeats 4000000 in
set_option maxRecDepth 100000 in
theorem C_add_7 {l : Launch} {G : GT} {mi : Nat} {sk : Nat → Nat} {L : List Nat} {cl ln : Nat → Nat} {iv : Nat → Nat → Int} {rv : Nat → Nat → Option Nat}  {a0 : Nat} {x : Int} (hW : WT (g0 G) sk L cl ln iv rv) (hS : SKL sk L cl) (t_a0 : ty L cl a0 7) (h_x : -2147483648 ≤ x ∧ x ≤ 2147483647)  : Mc l G mi (Phi (g0 G) sk) PHM yX1_add cX1_add 2 none 2 [.ref a0, .int (iI x)] L cl ln iv rv 0 (fun v L2 cl2 ln2 iv2 rv2 => v = none ∧ XT L cl ln L2 cl2 ln2 ∧ fT [7, 37] L cl iv rv iv2 rv2 ∧ WT (g0 G) sk L2 cl2 ln2 iv2 rv2 ∧ (((iv2 a0 2 = iv a0 2 ∧ iv a0 2 = 6003) ∨ (iv2 a0 2 = iv a0 2 + 1 ∧ iv a0 2 < 6003)))) := by
  refine Mc.mk (by decide) (Nat.le_of_ble_eq_true rfl) ?_
  intro p e s m args below meth c A C hM
  refine hv3 (Phi.le hW hS) (show XT L cl ln L cl ln from XT.refl) (show fT [7, 37] L cl iv rv iv rv from fT.refl) (fun hph hX0 hF0 => ?_)
  refine c_aload_n (j := 0) (x := a0) C dX1_add_0 rfl ?_
  have ri1 : 0 ≤ iv a0 2 ∧ iv a0 2 ≤ 6003 := hW.int t_a0 2
  refine c_get (k := 2) C ck_2 dX1_add_1 w1_43 (by decide) t_a0 rfl rfl (by decide) rfl ?_
  refine c_aload_n (j := 0) (x := a0) C dX1_add_4 rfl ?_
  have ri2 : 6003 ≤ iv a0 0 ∧ iv a0 0 ≤ 6003 := hW.int t_a0 0
  refine c_get (k := 0) C ck_2 dX1_add_5 w1_38 (by decide) t_a0 rfl rfl (by decide) rfl ?_
  refine c_icmp_lt (tgt := 12) C (r32_c (lo := 0) (hi := 6003) ri1.1 ri1.2 (by decide) (by decide)) (r32_c (lo := 6003) (hi := 6003) ri2.1 ri2.2 (by decide) (by decide)) dX1_add_8 (by decide) (fun c1 => ?_) (fun c1 => ?_)
  · refine c_aload_n (j := 0) (x := a0) C dX1_add_12 rfl ?_
    refine c_get (k := 2) C ck_2 dX1_add_13 w1_43 (by decide) t_a0 rfl rfl (by decide) rfl ?_
    refine c_aload_n (j := 0) (x := a0) C dX1_add_16 rfl ?_
    obtain ⟨rb1, rq1, trb1⟩ := hW.ref t_a0 1 rfl rfl rfl
    refine hv2 (show 16 ≤ ln rb1 ∧ ln rb1 ≤ 12006 from hW.len trb1 rfl) (hW.isz t_a0 rfl rfl rq1) (fun lnrb1 szrb1 => ?_)
    refine c_getr (k := 1) C ck_2 dX1_add_17 w1_39 (by decide) t_a0 rfl rfl (by decide) rfl rq1 ?_
    refine c_st (st2 := [.ref rb1, .int (iI (iv a0 2))]) rfl ?_
    have ll1 : 16 ≤ ln rb1 ∧ ln rb1 ≤ 12006 := hW.len trb1 rfl
    refine c_alenI C dX1_add_20 trb1 rfl ?_
    refine c_icmp_lt (tgt := 42) C (r32_c (lo := 0) (hi := 6003) ri1.1 ri1.2 (by decide) (by decide)) ⟨by omega, by omega⟩ dX1_add_21 (by decide) (fun c2 => ?_) (fun c2 => ?_)
    · refine c_aload_n (j := 0) (x := a0) C dX1_add_42 rfl ?_
      refine c_getr (k := 1) C ck_2 dX1_add_43 w1_39 (by decide) t_a0 rfl rfl (by decide) rfl rq1 ?_
      refine c_st (st2 := [.ref rb1]) rfl ?_
      refine c_aload_n (j := 0) (x := a0) C dX1_add_46 rfl ?_
      refine c_get (k := 2) C ck_2 dX1_add_47 w1_43 (by decide) t_a0 rfl rfl (by decide) rfl ?_
      refine c_iload_n (j := 1) C dX1_add_50 rfl ?_
      refine c_iast (x := x) C dX1_add_51 trb1 rfl (by omega) (by omega) (by omega) (fun iv1 pq1 => ?_)
      refine hv2 (hW.puti pq1 trb1 (show (-2147483648) ≤ x ∧ x ≤ 2147483647 by omega) rfl) (hF0.puti hX0 pq1 trb1 rfl) (fun W1 F1 => ?_)
      refine c_aload_n (j := 0) (x := a0) C dX1_add_52 rfl ?_
      refine c_dup C dX1_add_53 rfl ?_
      refine hv2 (show 0 ≤ iv1 a0 2 ∧ iv1 a0 2 ≤ 6003 from W1.int t_a0 2) (show iv1 a0 2 = iv a0 2 from by rw [pq1]; exact up2_k (ne_ty t_a0 trb1 (by decide))) (fun ri3 ie1 => ?_)
      refine c_get (k := 2) C ck_2 dX1_add_54 w1_43 (by decide) t_a0 rfl rfl (by decide) rfl ?_
      refine c_iconst C dX1_add_57 ?_
      refine c_iadd C dX1_add_58 ?_
      refine c_put (z := (iv1 a0 2) + 1) (k := 2) C ck_2 dX1_add_59 w1_43 (by decide) rfl t_a0 rfl rfl (by decide) rfl (by rfl) (by rfl) (fun iv2 pq2 => ?_)
      refine hv3 (W1.isz_put pq2 t_a0 (show 0 ≤ ((iv1 a0 2) + 1) ∧ ((iv1 a0 2) + 1) ≤ 6003 by omega) rfl rfl rq1 (show ((iv1 a0 2) + 1) ≤ ((ln rb1 : Nat) : Int) by omega)) (F1.puti hX0 pq2 t_a0 rfl) (show iv2 a0 2 = (iv1 a0 2) + 1 from by rw [pq2]; exact up2_s) (fun W2 F2 ie2 => ?_)
      have ri4 : 0 ≤ iv2 a0 2 ∧ iv2 a0 2 ≤ 6003 := W2.int t_a0 2
      exact c_vret C dX1_add_62 rfl (by decide) (rom0 hph hph (by decide)) ⟨rfl, hX0, F2, W2, (by omega)⟩
    · refine c_aload_n (j := 0) (x := a0) C dX1_add_24 rfl ?_
      refine c_aload_n (j := 0) (x := a0) C dX1_add_25 rfl ?_
      refine c_getr (k := 1) C ck_2 dX1_add_26 w1_39 (by decide) t_a0 rfl rfl (by decide) rfl rq1 ?_
      refine c_st (st2 := [.ref rb1, .ref a0]) rfl ?_
      refine c_aload_n (j := 0) (x := a0) C dX1_add_29 rfl ?_
      refine c_getr (k := 1) C ck_2 dX1_add_30 w1_39 (by decide) t_a0 rfl rfl (by decide) rfl rq1 ?_
      refine c_st (st2 := [.ref rb1, .ref rb1, .ref a0]) rfl ?_
      refine c_alenI C dX1_add_33 trb1 rfl ?_
      refine c_iconst C dX1_add_34 ?_
      refine c_imul C dX1_add_35 ?_
      refine c_g0 C (fun hg0 => ?_)
      refine hv2 (hW.sk t_a0 (by decide) rfl) (cap_of (ln := ln) rq1 (hg0 rb1 trb1.1)) (fun ask0 cp0 => ?_)
      have sl0 := Phi.slack (t := 7) (n := ln rb1) hW hS ⟨by decide, by decide⟩ (by rw [← ask0]; exact cp0) (by show ln rb1 ≤ 6003; omega)
      refine c_callS (As := [.ref rb1, .int (iI (((ln rb1 : Nat) : Int) * 2))]) (rest := [.ref a0]) C hM (Z_copyOf_7 (a0 := rb1) (n := ((ln rb1 : Nat) : Int) * 2) hW hS trb1 (by omega) (by show ((ln rb1 : Nat) : Int) < (((ln rb1 : Nat) : Int) * 2) ∧ 16 ≤ (((ln rb1 : Nat) : Int) * 2) ∧ (((ln rb1 : Nat) : Int) * 2) ≤ 12006; omega)) dX1_add_36 kS_X1_20 rfl rfl (Nat.le_of_ble_eq_true rfl) ⟨(Nat.le_of_ble_eq_true rfl), (Nat.le_of_ble_eq_true rfl)⟩ (by unfold zPf; omega) (fun rh1 Lh1 clh1 lnh1 ivh1 rvh1 h1 => ⟨(0 + (16 + (((ln rb1 : Nat) : Int) * 2).toNat)), (zk1 (by obtain ⟨_, _, xlh1x, flh1x, Wh1x, _⟩ := h1; exact Phi.fr hW hS xlh1x flh1x rfl)), ?_⟩)
      obtain ⟨f1, rfl, xl1, fl1, W3, rgf1, exf1⟩ := h1
      refine hv3 (hF0.call hX0 fl1 rfl) (hX0.trans xl1) (xl1.skl hS) (fun F3 X1 sk1 => ?_)
      refine c_st (st2 := [.ref f1, .ref a0]) rfl ?_
      refine hv3 (show lnh1 f1 = (((ln rb1 : Nat) : Int) * 2).toNat from exf1) (xl1.ty t_a0) (show rvh1 a0 1 = rv a0 1 from (fl1.r t_a0 rfl 1)) (fun gf1 ty1 re1 => ?_)
      rw [rq1] at re1
      refine hv4 (show 0 ≤ ivh1 a0 2 ∧ ivh1 a0 2 ≤ 6003 from W3.int ty1 2) (show ivh1 a0 2 = iv a0 2 from fl1.i t_a0 rfl 2) (xl1.ty trb1) (show lnh1 rb1 = ln rb1 from (xl1 rb1 trb1.1).2.2) (fun ri5 ie3 ty2 le1 => ?_)
      refine c_g0 C (fun hg1 => ?_)
      refine hv2 (W3.sk ty1 (by decide) rfl) (cap_of (ln := lnh1) re1 (hg1 rb1 ty2.1)) (fun ask cpo => ?_)
      refine c_putr (x := (some f1)) (k := 1) C ck_2 dX1_add_39 w1_39 (by decide) rfl ty1 rfl rfl (by decide) rfl (by rfl) (by rfl) (fun rv1 pq3 => ⟨0, (by have gr := Phi.grow (g := g0 G) (rv2 := rv1) (rv := rvh1) (b := f1) (ln := lnh1) (t := 7) sk1 (by rw [← ask]; exact pq3) (hg1 f1 rgf1.1) (Or.inl ⟨by decide, by decide⟩); rw [← ask] at gr; have gr2 : Phi (g0 G) sk lnh1 rv1 + 3 * cap (g0 G) lnh1 rvh1 a0 = Phi (g0 G) sk lnh1 rvh1 + 3 * lnh1 f1 := gr; omega), ?_⟩)
      refine hv2 (W3.putit pq3 ty1 rfl rfl rgf1 (by omega)) (F3.putr X1 pq3 ty1 rfl) (fun W4 F4 => ?_)
      refine c_aload_n (j := 0) (x := a0) C dX1_add_42 rfl ?_
      have rp1 : rv1 a0 1 = (some f1) := by rw [pq3]; exact upr_s
      refine c_getr (k := 1) C ck_2 dX1_add_43 w1_39 (by decide) ty1 rfl rfl (by decide) rfl rp1 ?_
      refine c_st (st2 := [.ref f1]) rfl ?_
      refine c_aload_n (j := 0) (x := a0) C dX1_add_46 rfl ?_
      refine c_get (k := 2) C ck_2 dX1_add_47 w1_43 (by decide) ty1 rfl rfl (by decide) rfl ?_
      refine c_iload_n (j := 1) C dX1_add_50 rfl ?_
      have ll2 : 16 ≤ lnh1 f1 ∧ lnh1 f1 ≤ 12006 := W4.len rgf1 rfl
      refine c_iast (x := x) C dX1_add_51 rgf1 rfl (by omega) (by omega) (by omega) (fun iv3 pq4 => ?_)
      refine hv2 (W4.puti pq4 rgf1 (show (-2147483648) ≤ x ∧ x ≤ 2147483647 by omega) rfl) (F4.puti X1 pq4 rgf1 rfl) (fun W5 F5 => ?_)
      refine c_aload_n (j := 0) (x := a0) C dX1_add_52 rfl ?_
      refine c_dup C dX1_add_53 rfl ?_
      refine hv2 (show 0 ≤ iv3 a0 2 ∧ iv3 a0 2 ≤ 6003 from W5.int ty1 2) (show iv3 a0 2 = ivh1 a0 2 from by rw [pq4]; exact up2_k (ne_ty ty1 rgf1 (by decide))) (fun ri6 ie4 => ?_)
      refine c_get (k := 2) C ck_2 dX1_add_54 w1_43 (by decide) ty1 rfl rfl (by decide) rfl ?_
      refine c_iconst C dX1_add_57 ?_
      refine c_iadd C dX1_add_58 ?_
      refine c_put (z := (iv3 a0 2) + 1) (k := 2) C ck_2 dX1_add_59 w1_43 (by decide) rfl ty1 rfl rfl (by decide) rfl (by rfl) (by rfl) (fun iv4 pq5 => ?_)
      refine hv3 (W5.isz_put pq5 ty1 (show 0 ≤ ((iv3 a0 2) + 1) ∧ ((iv3 a0 2) + 1) ≤ 6003 by omega) rfl rfl rp1 (show ((iv3 a0 2) + 1) ≤ ((lnh1 f1 : Nat) : Int) by omega)) (F5.puti X1 pq5 ty1 rfl) (show iv4 a0 2 = (iv3 a0 2) + 1 from by rw [pq5]; exact up2_s) (fun W6 F6 ie5 => ?_)
      refine hv2 (show 0 ≤ iv4 a0 2 ∧ iv4 a0 2 ≤ 6003 from W6.int ty1 2) (Phi.le W6 sk1) (fun ri7 pl1 => ?_)
      exact c_vret C dX1_add_62 rfl (by decide) (rom0 hph pl1 (by decide)) ⟨rfl, X1, F6, W6, (by omega)⟩
  · exact c_vret C dX1_add_11 rfl (by decide) (rom0 hph hph (by decide)) ⟨rfl, hX0, hF0, hW, (by omega)⟩
set_option maxHeartbeats 4000000 in
set_option maxRecDepth 100000 in
theorem C_add_8 {l : Launch} {G : GT} {mi : Nat} {sk : Nat → Nat} {L : List Nat} {cl ln : Nat → Nat} {iv : Nat → Nat → Int} {rv : Nat → Nat → Option Nat}  {a0 : Nat} {x : Int} (hW : WT (g0 G) sk L cl ln iv rv) (hS : SKL sk L cl) (t_a0 : ty L cl a0 8) (h_x : -2147483648 ≤ x ∧ x ≤ 2147483647)  : Mc l G mi (Phi (g0 G) sk) PHM yX1_add cX1_add 2 none 2 [.ref a0, .int (iI x)] L cl ln iv rv 0 (fun v L2 cl2 ln2 iv2 rv2 => v = none ∧ XT L cl ln L2 cl2 ln2 ∧ fT [8, 38] L cl iv rv iv2 rv2 ∧ WT (g0 G) sk L2 cl2 ln2 iv2 rv2 ∧ (((iv2 a0 2 = iv a0 2 ∧ iv a0 2 = 40200) ∨ (iv2 a0 2 = iv a0 2 + 1 ∧ iv a0 2 < 40200)))) := by
  refine Mc.mk (by decide) (Nat.le_of_ble_eq_true rfl) ?_
  intro p e s m args below meth c A C hM
  refine hv3 (Phi.le hW hS) (show XT L cl ln L cl ln from XT.refl) (show fT [8, 38] L cl iv rv iv rv from fT.refl) (fun hph hX0 hF0 => ?_)
  refine c_aload_n (j := 0) (x := a0) C dX1_add_0 rfl ?_
  have ri1 : 0 ≤ iv a0 2 ∧ iv a0 2 ≤ 40200 := hW.int t_a0 2
  refine c_get (k := 2) C ck_2 dX1_add_1 w1_43 (by decide) t_a0 rfl rfl (by decide) rfl ?_
  refine c_aload_n (j := 0) (x := a0) C dX1_add_4 rfl ?_
  have ri2 : 40200 ≤ iv a0 0 ∧ iv a0 0 ≤ 40200 := hW.int t_a0 0
  refine c_get (k := 0) C ck_2 dX1_add_5 w1_38 (by decide) t_a0 rfl rfl (by decide) rfl ?_
  refine c_icmp_lt (tgt := 12) C (r32_c (lo := 0) (hi := 40200) ri1.1 ri1.2 (by decide) (by decide)) (r32_c (lo := 40200) (hi := 40200) ri2.1 ri2.2 (by decide) (by decide)) dX1_add_8 (by decide) (fun c1 => ?_) (fun c1 => ?_)
  · refine c_aload_n (j := 0) (x := a0) C dX1_add_12 rfl ?_
    refine c_get (k := 2) C ck_2 dX1_add_13 w1_43 (by decide) t_a0 rfl rfl (by decide) rfl ?_
    refine c_aload_n (j := 0) (x := a0) C dX1_add_16 rfl ?_
    obtain ⟨rb1, rq1, trb1⟩ := hW.ref t_a0 1 rfl rfl rfl
    refine hv2 (show 16 ≤ ln rb1 ∧ ln rb1 ≤ 80400 from hW.len trb1 rfl) (hW.isz t_a0 rfl rfl rq1) (fun lnrb1 szrb1 => ?_)
    refine c_getr (k := 1) C ck_2 dX1_add_17 w1_39 (by decide) t_a0 rfl rfl (by decide) rfl rq1 ?_
    refine c_st (st2 := [.ref rb1, .int (iI (iv a0 2))]) rfl ?_
    have ll1 : 16 ≤ ln rb1 ∧ ln rb1 ≤ 80400 := hW.len trb1 rfl
    refine c_alenI C dX1_add_20 trb1 rfl ?_
    refine c_icmp_lt (tgt := 42) C (r32_c (lo := 0) (hi := 40200) ri1.1 ri1.2 (by decide) (by decide)) ⟨by omega, by omega⟩ dX1_add_21 (by decide) (fun c2 => ?_) (fun c2 => ?_)
    · refine c_aload_n (j := 0) (x := a0) C dX1_add_42 rfl ?_
      refine c_getr (k := 1) C ck_2 dX1_add_43 w1_39 (by decide) t_a0 rfl rfl (by decide) rfl rq1 ?_
      refine c_st (st2 := [.ref rb1]) rfl ?_
      refine c_aload_n (j := 0) (x := a0) C dX1_add_46 rfl ?_
      refine c_get (k := 2) C ck_2 dX1_add_47 w1_43 (by decide) t_a0 rfl rfl (by decide) rfl ?_
      refine c_iload_n (j := 1) C dX1_add_50 rfl ?_
      refine c_iast (x := x) C dX1_add_51 trb1 rfl (by omega) (by omega) (by omega) (fun iv1 pq1 => ?_)
      refine hv2 (hW.puti pq1 trb1 (show (-2147483648) ≤ x ∧ x ≤ 2147483647 by omega) rfl) (hF0.puti hX0 pq1 trb1 rfl) (fun W1 F1 => ?_)
      refine c_aload_n (j := 0) (x := a0) C dX1_add_52 rfl ?_
      refine c_dup C dX1_add_53 rfl ?_
      refine hv2 (show 0 ≤ iv1 a0 2 ∧ iv1 a0 2 ≤ 40200 from W1.int t_a0 2) (show iv1 a0 2 = iv a0 2 from by rw [pq1]; exact up2_k (ne_ty t_a0 trb1 (by decide))) (fun ri3 ie1 => ?_)
      refine c_get (k := 2) C ck_2 dX1_add_54 w1_43 (by decide) t_a0 rfl rfl (by decide) rfl ?_
      refine c_iconst C dX1_add_57 ?_
      refine c_iadd C dX1_add_58 ?_
      refine c_put (z := (iv1 a0 2) + 1) (k := 2) C ck_2 dX1_add_59 w1_43 (by decide) rfl t_a0 rfl rfl (by decide) rfl (by rfl) (by rfl) (fun iv2 pq2 => ?_)
      refine hv3 (W1.isz_put pq2 t_a0 (show 0 ≤ ((iv1 a0 2) + 1) ∧ ((iv1 a0 2) + 1) ≤ 40200 by omega) rfl rfl rq1 (show ((iv1 a0 2) + 1) ≤ ((ln rb1 : Nat) : Int) by omega)) (F1.puti hX0 pq2 t_a0 rfl) (show iv2 a0 2 = (iv1 a0 2) + 1 from by rw [pq2]; exact up2_s) (fun W2 F2 ie2 => ?_)
      have ri4 : 0 ≤ iv2 a0 2 ∧ iv2 a0 2 ≤ 40200 := W2.int t_a0 2
      exact c_vret C dX1_add_62 rfl (by decide) (rom0 hph hph (by decide)) ⟨rfl, hX0, F2, W2, (by omega)⟩
    · refine c_aload_n (j := 0) (x := a0) C dX1_add_24 rfl ?_
      refine c_aload_n (j := 0) (x := a0) C dX1_add_25 rfl ?_
      refine c_getr (k := 1) C ck_2 dX1_add_26 w1_39 (by decide) t_a0 rfl rfl (by decide) rfl rq1 ?_
      refine c_st (st2 := [.ref rb1, .ref a0]) rfl ?_
      refine c_aload_n (j := 0) (x := a0) C dX1_add_29 rfl ?_
      refine c_getr (k := 1) C ck_2 dX1_add_30 w1_39 (by decide) t_a0 rfl rfl (by decide) rfl rq1 ?_
      refine c_st (st2 := [.ref rb1, .ref rb1, .ref a0]) rfl ?_
      refine c_alenI C dX1_add_33 trb1 rfl ?_
      refine c_iconst C dX1_add_34 ?_
      refine c_imul C dX1_add_35 ?_
      refine c_g0 C (fun hg0 => ?_)
      refine hv2 (hW.sk t_a0 (by decide) rfl) (cap_of (ln := ln) rq1 (hg0 rb1 trb1.1)) (fun ask0 cp0 => ?_)
      have sl0 := Phi.slack (t := 8) (n := ln rb1) hW hS ⟨by decide, by decide⟩ (by rw [← ask0]; exact cp0) (by show ln rb1 ≤ 40200; omega)
      refine c_callS (As := [.ref rb1, .int (iI (((ln rb1 : Nat) : Int) * 2))]) (rest := [.ref a0]) C hM (Z_copyOf_8 (a0 := rb1) (n := ((ln rb1 : Nat) : Int) * 2) hW hS trb1 (by omega) (by show ((ln rb1 : Nat) : Int) < (((ln rb1 : Nat) : Int) * 2) ∧ 16 ≤ (((ln rb1 : Nat) : Int) * 2) ∧ (((ln rb1 : Nat) : Int) * 2) ≤ 80400; omega)) dX1_add_36 kS_X1_20 rfl rfl (Nat.le_of_ble_eq_true rfl) ⟨(Nat.le_of_ble_eq_true rfl), (Nat.le_of_ble_eq_true rfl)⟩ (by unfold zPf; omega) (fun rh1 Lh1 clh1 lnh1 ivh1 rvh1 h1 => ⟨(0 + (16 + (((ln rb1 : Nat) : Int) * 2).toNat)), (zk1 (by obtain ⟨_, _, xlh1x, flh1x, Wh1x, _⟩ := h1; exact Phi.fr hW hS xlh1x flh1x rfl)), ?_⟩)
      obtain ⟨f1, rfl, xl1, fl1, W3, rgf1, exf1⟩ := h1
      refine hv3 (hF0.call hX0 fl1 rfl) (hX0.trans xl1) (xl1.skl hS) (fun F3 X1 sk1 => ?_)
      refine c_st (st2 := [.ref f1, .ref a0]) rfl ?_
      refine hv3 (show lnh1 f1 = (((ln rb1 : Nat) : Int) * 2).toNat from exf1) (xl1.ty t_a0) (show rvh1 a0 1 = rv a0 1 from (fl1.r t_a0 rfl 1)) (fun gf1 ty1 re1 => ?_)
      rw [rq1] at re1
      refine hv4 (show 0 ≤ ivh1 a0 2 ∧ ivh1 a0 2 ≤ 40200 from W3.int ty1 2) (show ivh1 a0 2 = iv a0 2 from fl1.i t_a0 rfl 2) (xl1.ty trb1) (show lnh1 rb1 = ln rb1 from (xl1 rb1 trb1.1).2.2) (fun ri5 ie3 ty2 le1 => ?_)
      refine c_g0 C (fun hg1 => ?_)
      refine hv2 (W3.sk ty1 (by decide) rfl) (cap_of (ln := lnh1) re1 (hg1 rb1 ty2.1)) (fun ask cpo => ?_)
      refine c_putr (x := (some f1)) (k := 1) C ck_2 dX1_add_39 w1_39 (by decide) rfl ty1 rfl rfl (by decide) rfl (by rfl) (by rfl) (fun rv1 pq3 => ⟨0, (by have gr := Phi.grow (g := g0 G) (rv2 := rv1) (rv := rvh1) (b := f1) (ln := lnh1) (t := 8) sk1 (by rw [← ask]; exact pq3) (hg1 f1 rgf1.1) (Or.inl ⟨by decide, by decide⟩); rw [← ask] at gr; have gr2 : Phi (g0 G) sk lnh1 rv1 + 3 * cap (g0 G) lnh1 rvh1 a0 = Phi (g0 G) sk lnh1 rvh1 + 3 * lnh1 f1 := gr; omega), ?_⟩)
      refine hv2 (W3.putit pq3 ty1 rfl rfl rgf1 (by omega)) (F3.putr X1 pq3 ty1 rfl) (fun W4 F4 => ?_)
      refine c_aload_n (j := 0) (x := a0) C dX1_add_42 rfl ?_
      have rp1 : rv1 a0 1 = (some f1) := by rw [pq3]; exact upr_s
      refine c_getr (k := 1) C ck_2 dX1_add_43 w1_39 (by decide) ty1 rfl rfl (by decide) rfl rp1 ?_
      refine c_st (st2 := [.ref f1]) rfl ?_
      refine c_aload_n (j := 0) (x := a0) C dX1_add_46 rfl ?_
      refine c_get (k := 2) C ck_2 dX1_add_47 w1_43 (by decide) ty1 rfl rfl (by decide) rfl ?_
      refine c_iload_n (j := 1) C dX1_add_50 rfl ?_
      have ll2 : 16 ≤ lnh1 f1 ∧ lnh1 f1 ≤ 80400 := W4.len rgf1 rfl
      refine c_iast (x := x) C dX1_add_51 rgf1 rfl (by omega) (by omega) (by omega) (fun iv3 pq4 => ?_)
      refine hv2 (W4.puti pq4 rgf1 (show (-2147483648) ≤ x ∧ x ≤ 2147483647 by omega) rfl) (F4.puti X1 pq4 rgf1 rfl) (fun W5 F5 => ?_)
      refine c_aload_n (j := 0) (x := a0) C dX1_add_52 rfl ?_
      refine c_dup C dX1_add_53 rfl ?_
      refine hv2 (show 0 ≤ iv3 a0 2 ∧ iv3 a0 2 ≤ 40200 from W5.int ty1 2) (show iv3 a0 2 = ivh1 a0 2 from by rw [pq4]; exact up2_k (ne_ty ty1 rgf1 (by decide))) (fun ri6 ie4 => ?_)
      refine c_get (k := 2) C ck_2 dX1_add_54 w1_43 (by decide) ty1 rfl rfl (by decide) rfl ?_
      refine c_iconst C dX1_add_57 ?_
      refine c_iadd C dX1_add_58 ?_
      refine c_put (z := (iv3 a0 2) + 1) (k := 2) C ck_2 dX1_add_59 w1_43 (by decide) rfl ty1 rfl rfl (by decide) rfl (by rfl) (by rfl) (fun iv4 pq5 => ?_)
      refine hv3 (W5.isz_put pq5 ty1 (show 0 ≤ ((iv3 a0 2) + 1) ∧ ((iv3 a0 2) + 1) ≤ 40200 by omega) rfl rfl rp1 (show ((iv3 a0 2) + 1) ≤ ((lnh1 f1 : Nat) : Int) by omega)) (F5.puti X1 pq5 ty1 rfl) (show iv4 a0 2 = (iv3 a0 2) + 1 from by rw [pq5]; exact up2_s) (fun W6 F6 ie5 => ?_)
      refine hv2 (show 0 ≤ iv4 a0 2 ∧ iv4 a0 2 ≤ 40200 from W6.int ty1 2) (Phi.le W6 sk1) (fun ri7 pl1 => ?_)
      exact c_vret C dX1_add_62 rfl (by decide) (rom0 hph pl1 (by decide)) ⟨rfl, X1, F6, W6, (by omega)⟩
  · exact c_vret C dX1_add_11 rfl (by decide) (rom0 hph hph (by decide)) ⟨rfl, hX0, hF0, hW, (by omega)⟩
set_option maxHeartbeats 4000000 in
set_option maxRecDepth 100000 in
theorem C_add_9 {l : Launch} {G : GT} {mi : Nat} {sk : Nat → Nat} {L : List Nat} {cl ln : Nat → Nat} {iv : Nat → Nat → Int} {rv : Nat → Nat → Option Nat}  {a0 : Nat} {x : Int} (hW : WT (g0 G) sk L cl ln iv rv) (hS : SKL sk L cl) (t_a0 : ty L cl a0 9) (h_x : -2147483648 ≤ x ∧ x ≤ 2147483647)  : Mc l G mi (Phi (g0 G) sk) PHM yX1_add cX1_add 2 none 2 [.ref a0, .int (iI x)] L cl ln iv rv 0 (fun v L2 cl2 ln2 iv2 rv2 => v = none ∧ XT L cl ln L2 cl2 ln2 ∧ fT [9, 39] L cl iv rv iv2 rv2 ∧ WT (g0 G) sk L2 cl2 ln2 iv2 rv2 ∧ (((iv2 a0 2 = iv a0 2 ∧ iv a0 2 = 40200) ∨ (iv2 a0 2 = iv a0 2 + 1 ∧ iv a0 2 < 40200)))) := by
  refine Mc.mk (by decide) (Nat.le_of_ble_eq_true rfl) ?_
  intro p e s m args below meth c A C hM
  refine hv3 (Phi.le hW hS) (show XT L cl ln L cl ln from XT.refl) (show fT [9, 39] L cl iv rv iv rv from fT.refl) (fun hph hX0 hF0 => ?_)
  refine c_aload_n (j := 0) (x := a0) C dX1_add_0 rfl ?_
  have ri1 : 0 ≤ iv a0 2 ∧ iv a0 2 ≤ 40200 := hW.int t_a0 2
  refine c_get (k := 2) C ck_2 dX1_add_1 w1_43 (by decide) t_a0 rfl rfl (by decide) rfl ?_
  refine c_aload_n (j := 0) (x := a0) C dX1_add_4 rfl ?_
  have ri2 : 40200 ≤ iv a0 0 ∧ iv a0 0 ≤ 40200 := hW.int t_a0 0
  refine c_get (k := 0) C ck_2 dX1_add_5 w1_38 (by decide) t_a0 rfl rfl (by decide) rfl ?_
  refine c_icmp_lt (tgt := 12) C (r32_c (lo := 0) (hi := 40200) ri1.1 ri1.2 (by decide) (by decide)) (r32_c (lo := 40200) (hi := 40200) ri2.1 ri2.2 (by decide) (by decide)) dX1_add_8 (by decide) (fun c1 => ?_) (fun c1 => ?_)
  · refine c_aload_n (j := 0) (x := a0) C dX1_add_12 rfl ?_
    refine c_get (k := 2) C ck_2 dX1_add_13 w1_43 (by decide) t_a0 rfl rfl (by decide) rfl ?_
    refine c_aload_n (j := 0) (x := a0) C dX1_add_16 rfl ?_
    obtain ⟨rb1, rq1, trb1⟩ := hW.ref t_a0 1 rfl rfl rfl
    refine hv2 (show 16 ≤ ln rb1 ∧ ln rb1 ≤ 80400 from hW.len trb1 rfl) (hW.isz t_a0 rfl rfl rq1) (fun lnrb1 szrb1 => ?_)
    refine c_getr (k := 1) C ck_2 dX1_add_17 w1_39 (by decide) t_a0 rfl rfl (by decide) rfl rq1 ?_
    refine c_st (st2 := [.ref rb1, .int (iI (iv a0 2))]) rfl ?_
    have ll1 : 16 ≤ ln rb1 ∧ ln rb1 ≤ 80400 := hW.len trb1 rfl
    refine c_alenI C dX1_add_20 trb1 rfl ?_
    refine c_icmp_lt (tgt := 42) C (r32_c (lo := 0) (hi := 40200) ri1.1 ri1.2 (by decide) (by decide)) ⟨by omega, by omega⟩ dX1_add_21 (by decide) (fun c2 => ?_) (fun c2 => ?_)
    · refine c_aload_n (j := 0) (x := a0) C dX1_add_42 rfl ?_
      refine c_getr (k := 1) C ck_2 dX1_add_43 w1_39 (by decide) t_a0 rfl rfl (by decide) rfl rq1 ?_
      refine c_st (st2 := [.ref rb1]) rfl ?_
      refine c_aload_n (j := 0) (x := a0) C dX1_add_46 rfl ?_
      refine c_get (k := 2) C ck_2 dX1_add_47 w1_43 (by decide) t_a0 rfl rfl (by decide) rfl ?_
      refine c_iload_n (j := 1) C dX1_add_50 rfl ?_
      refine c_iast (x := x) C dX1_add_51 trb1 rfl (by omega) (by omega) (by omega) (fun iv1 pq1 => ?_)
      refine hv2 (hW.puti pq1 trb1 (show (-2147483648) ≤ x ∧ x ≤ 2147483647 by omega) rfl) (hF0.puti hX0 pq1 trb1 rfl) (fun W1 F1 => ?_)
      refine c_aload_n (j := 0) (x := a0) C dX1_add_52 rfl ?_
      refine c_dup C dX1_add_53 rfl ?_
      refine hv2 (show 0 ≤ iv1 a0 2 ∧ iv1 a0 2 ≤ 40200 from W1.int t_a0 2) (show iv1 a0 2 = iv a0 2 from by rw [pq1]; exact up2_k (ne_ty t_a0 trb1 (by decide))) (fun ri3 ie1 => ?_)
      refine c_get (k := 2) C ck_2 dX1_add_54 w1_43 (by decide) t_a0 rfl rfl (by decide) rfl ?_
      refine c_iconst C dX1_add_57 ?_
      refine c_iadd C dX1_add_58 ?_
      refine c_put (z := (iv1 a0 2) + 1) (k := 2) C ck_2 dX1_add_59 w1_43 (by decide) rfl t_a0 rfl rfl (by decide) rfl (by rfl) (by rfl) (fun iv2 pq2 => ?_)
      refine hv3 (W1.isz_put pq2 t_a0 (show 0 ≤ ((iv1 a0 2) + 1) ∧ ((iv1 a0 2) + 1) ≤ 40200 by omega) rfl rfl rq1 (show ((iv1 a0 2) + 1) ≤ ((ln rb1 : Nat) : Int) by omega)) (F1.puti hX0 pq2 t_a0 rfl) (show iv2 a0 2 = (iv1 a0 2) + 1 from by rw [pq2]; exact up2_s) (fun W2 F2 ie2 => ?_)
      have ri4 : 0 ≤ iv2 a0 2 ∧ iv2 a0 2 ≤ 40200 := W2.int t_a0 2
      exact c_vret C dX1_add_62 rfl (by decide) (rom0 hph hph (by decide)) ⟨rfl, hX0, F2, W2, (by omega)⟩
    · refine c_aload_n (j := 0) (x := a0) C dX1_add_24 rfl ?_
      refine c_aload_n (j := 0) (x := a0) C dX1_add_25 rfl ?_
      refine c_getr (k := 1) C ck_2 dX1_add_26 w1_39 (by decide) t_a0 rfl rfl (by decide) rfl rq1 ?_
      refine c_st (st2 := [.ref rb1, .ref a0]) rfl ?_
      refine c_aload_n (j := 0) (x := a0) C dX1_add_29 rfl ?_
      refine c_getr (k := 1) C ck_2 dX1_add_30 w1_39 (by decide) t_a0 rfl rfl (by decide) rfl rq1 ?_
      refine c_st (st2 := [.ref rb1, .ref rb1, .ref a0]) rfl ?_
      refine c_alenI C dX1_add_33 trb1 rfl ?_
      refine c_iconst C dX1_add_34 ?_
      refine c_imul C dX1_add_35 ?_
      refine c_g0 C (fun hg0 => ?_)
      refine hv2 (hW.sk t_a0 (by decide) rfl) (cap_of (ln := ln) rq1 (hg0 rb1 trb1.1)) (fun ask0 cp0 => ?_)
      have sl0 := Phi.slack (t := 9) (n := ln rb1) hW hS ⟨by decide, by decide⟩ (by rw [← ask0]; exact cp0) (by show ln rb1 ≤ 40200; omega)
      refine c_callS (As := [.ref rb1, .int (iI (((ln rb1 : Nat) : Int) * 2))]) (rest := [.ref a0]) C hM (Z_copyOf_9 (a0 := rb1) (n := ((ln rb1 : Nat) : Int) * 2) hW hS trb1 (by omega) (by show ((ln rb1 : Nat) : Int) < (((ln rb1 : Nat) : Int) * 2) ∧ 16 ≤ (((ln rb1 : Nat) : Int) * 2) ∧ (((ln rb1 : Nat) : Int) * 2) ≤ 80400; omega)) dX1_add_36 kS_X1_20 rfl rfl (Nat.le_of_ble_eq_true rfl) ⟨(Nat.le_of_ble_eq_true rfl), (Nat.le_of_ble_eq_true rfl)⟩ (by unfold zPf; omega) (fun rh1 Lh1 clh1 lnh1 ivh1 rvh1 h1 => ⟨(0 + (16 + (((ln rb1 : Nat) : Int) * 2).toNat)), (zk1 (by obtain ⟨_, _, xlh1x, flh1x, Wh1x, _⟩ := h1; exact Phi.fr hW hS xlh1x flh1x rfl)), ?_⟩)
      obtain ⟨f1, rfl, xl1, fl1, W3, rgf1, exf1⟩ := h1
      refine hv3 (hF0.call hX0 fl1 rfl) (hX0.trans xl1) (xl1.skl hS) (fun F3 X1 sk1 => ?_)
      refine c_st (st2 := [.ref f1, .ref a0]) rfl ?_
      refine hv3 (show lnh1 f1 = (((ln rb1 : Nat) : Int) * 2).toNat from exf1) (xl1.ty t_a0) (show rvh1 a0 1 = rv a0 1 from (fl1.r t_a0 rfl 1)) (fun gf1 ty1 re1 => ?_)
      rw [rq1] at re1
      refine hv4 (show 0 ≤ ivh1 a0 2 ∧ ivh1 a0 2 ≤ 40200 from W3.int ty1 2) (show ivh1 a0 2 = iv a0 2 from fl1.i t_a0 rfl 2) (xl1.ty trb1) (show lnh1 rb1 = ln rb1 from (xl1 rb1 trb1.1).2.2) (fun ri5 ie3 ty2 le1 => ?_)
      refine c_g0 C (fun hg1 => ?_)
      refine hv2 (W3.sk ty1 (by decide) rfl) (cap_of (ln := lnh1) re1 (hg1 rb1 ty2.1)) (fun ask cpo => ?_)
      refine c_putr (x := (some f1)) (k := 1) C ck_2 dX1_add_39 w1_39 (by decide) rfl ty1 rfl rfl (by decide) rfl (by rfl) (by rfl) (fun rv1 pq3 => ⟨0, (by have gr := Phi.grow (g := g0 G) (rv2 := rv1) (rv := rvh1) (b := f1) (ln := lnh1) (t := 9) sk1 (by rw [← ask]; exact pq3) (hg1 f1 rgf1.1) (Or.inl ⟨by decide, by decide⟩); rw [← ask] at gr; have gr2 : Phi (g0 G) sk lnh1 rv1 + 3 * cap (g0 G) lnh1 rvh1 a0 = Phi (g0 G) sk lnh1 rvh1 + 3 * lnh1 f1 := gr; omega), ?_⟩)
      refine hv2 (W3.putit pq3 ty1 rfl rfl rgf1 (by omega)) (F3.putr X1 pq3 ty1 rfl) (fun W4 F4 => ?_)
      refine c_aload_n (j := 0) (x := a0) C dX1_add_42 rfl ?_
      have rp1 : rv1 a0 1 = (some f1) := by rw [pq3]; exact upr_s
      refine c_getr (k := 1) C ck_2 dX1_add_43 w1_39 (by decide) ty1 rfl rfl (by decide) rfl rp1 ?_
      refine c_st (st2 := [.ref f1]) rfl ?_
      refine c_aload_n (j := 0) (x := a0) C dX1_add_46 rfl ?_
      refine c_get (k := 2) C ck_2 dX1_add_47 w1_43 (by decide) ty1 rfl rfl (by decide) rfl ?_
      refine c_iload_n (j := 1) C dX1_add_50 rfl ?_
      have ll2 : 16 ≤ lnh1 f1 ∧ lnh1 f1 ≤ 80400 := W4.len rgf1 rfl
      refine c_iast (x := x) C dX1_add_51 rgf1 rfl (by omega) (by omega) (by omega) (fun iv3 pq4 => ?_)
      refine hv2 (W4.puti pq4 rgf1 (show (-2147483648) ≤ x ∧ x ≤ 2147483647 by omega) rfl) (F4.puti X1 pq4 rgf1 rfl) (fun W5 F5 => ?_)
      refine c_aload_n (j := 0) (x := a0) C dX1_add_52 rfl ?_
      refine c_dup C dX1_add_53 rfl ?_
      refine hv2 (show 0 ≤ iv3 a0 2 ∧ iv3 a0 2 ≤ 40200 from W5.int ty1 2) (show iv3 a0 2 = ivh1 a0 2 from by rw [pq4]; exact up2_k (ne_ty ty1 rgf1 (by decide))) (fun ri6 ie4 => ?_)
      refine c_get (k := 2) C ck_2 dX1_add_54 w1_43 (by decide) ty1 rfl rfl (by decide) rfl ?_
      refine c_iconst C dX1_add_57 ?_
      refine c_iadd C dX1_add_58 ?_
      refine c_put (z := (iv3 a0 2) + 1) (k := 2) C ck_2 dX1_add_59 w1_43 (by decide) rfl ty1 rfl rfl (by decide) rfl (by rfl) (by rfl) (fun iv4 pq5 => ?_)
      refine hv3 (W5.isz_put pq5 ty1 (show 0 ≤ ((iv3 a0 2) + 1) ∧ ((iv3 a0 2) + 1) ≤ 40200 by omega) rfl rfl rp1 (show ((iv3 a0 2) + 1) ≤ ((lnh1 f1 : Nat) : Int) by omega)) (F5.puti X1 pq5 ty1 rfl) (show iv4 a0 2 = (iv3 a0 2) + 1 from by rw [pq5]; exact up2_s) (fun W6 F6 ie5 => ?_)
      refine hv2 (show 0 ≤ iv4 a0 2 ∧ iv4 a0 2 ≤ 40200 from W6.int ty1 2) (Phi.le W6 sk1) (fun ri7 pl1 => ?_)
      exact c_vret C dX1_add_62 rfl (by decide) (rom0 hph pl1 (by decide)) ⟨rfl, X1, F6, W6, (by omega)⟩
  · exact c_vret C dX1_add_11 rfl (by decide) (rom0 hph hph (by decide)) ⟨rfl, hX0, hF0, hW, (by omega)⟩
set_option maxHeartbeats 4000000 in
set_option maxRecDepth 100000 in
theorem C_add_10 {l : Launch} {G : GT} {mi : Nat} {sk : Nat → Nat} {L : List Nat} {cl ln : Nat → Nat} {iv : Nat → Nat → Int} {rv : Nat → Nat → Option Nat}  {a0 : Nat} {x : Int} (hW : WT (g0 G) sk L cl ln iv rv) (hS : SKL sk L cl) (t_a0 : ty L cl a0 10) (h_x : -2147483648 ≤ x ∧ x ≤ 2147483647)  : Mc l G mi (Phi (g0 G) sk) PHM yX1_add cX1_add 2 none 2 [.ref a0, .int (iI x)] L cl ln iv rv 0 (fun v L2 cl2 ln2 iv2 rv2 => v = none ∧ XT L cl ln L2 cl2 ln2 ∧ fT [10, 40] L cl iv rv iv2 rv2 ∧ WT (g0 G) sk L2 cl2 ln2 iv2 rv2 ∧ (((iv2 a0 2 = iv a0 2 ∧ iv a0 2 = 4001) ∨ (iv2 a0 2 = iv a0 2 + 1 ∧ iv a0 2 < 4001)))) := by
  refine Mc.mk (by decide) (Nat.le_of_ble_eq_true rfl) ?_
  intro p e s m args below meth c A C hM
  refine hv3 (Phi.le hW hS) (show XT L cl ln L cl ln from XT.refl) (show fT [10, 40] L cl iv rv iv rv from fT.refl) (fun hph hX0 hF0 => ?_)
  refine c_aload_n (j := 0) (x := a0) C dX1_add_0 rfl ?_
  have ri1 : 0 ≤ iv a0 2 ∧ iv a0 2 ≤ 4001 := hW.int t_a0 2
  refine c_get (k := 2) C ck_2 dX1_add_1 w1_43 (by decide) t_a0 rfl rfl (by decide) rfl ?_
  refine c_aload_n (j := 0) (x := a0) C dX1_add_4 rfl ?_
  have ri2 : 4001 ≤ iv a0 0 ∧ iv a0 0 ≤ 4001 := hW.int t_a0 0
  refine c_get (k := 0) C ck_2 dX1_add_5 w1_38 (by decide) t_a0 rfl rfl (by decide) rfl ?_
  refine c_icmp_lt (tgt := 12) C (r32_c (lo := 0) (hi := 4001) ri1.1 ri1.2 (by decide) (by decide)) (r32_c (lo := 4001) (hi := 4001) ri2.1 ri2.2 (by decide) (by decide)) dX1_add_8 (by decide) (fun c1 => ?_) (fun c1 => ?_)
  · refine c_aload_n (j := 0) (x := a0) C dX1_add_12 rfl ?_
    refine c_get (k := 2) C ck_2 dX1_add_13 w1_43 (by decide) t_a0 rfl rfl (by decide) rfl ?_
    refine c_aload_n (j := 0) (x := a0) C dX1_add_16 rfl ?_
    obtain ⟨rb1, rq1, trb1⟩ := hW.ref t_a0 1 rfl rfl rfl
    refine hv2 (show 16 ≤ ln rb1 ∧ ln rb1 ≤ 8002 from hW.len trb1 rfl) (hW.isz t_a0 rfl rfl rq1) (fun lnrb1 szrb1 => ?_)
    refine c_getr (k := 1) C ck_2 dX1_add_17 w1_39 (by decide) t_a0 rfl rfl (by decide) rfl rq1 ?_
    refine c_st (st2 := [.ref rb1, .int (iI (iv a0 2))]) rfl ?_
    have ll1 : 16 ≤ ln rb1 ∧ ln rb1 ≤ 8002 := hW.len trb1 rfl
    refine c_alenI C dX1_add_20 trb1 rfl ?_
    refine c_icmp_lt (tgt := 42) C (r32_c (lo := 0) (hi := 4001) ri1.1 ri1.2 (by decide) (by decide)) ⟨by omega, by omega⟩ dX1_add_21 (by decide) (fun c2 => ?_) (fun c2 => ?_)
    · refine c_aload_n (j := 0) (x := a0) C dX1_add_42 rfl ?_
      refine c_getr (k := 1) C ck_2 dX1_add_43 w1_39 (by decide) t_a0 rfl rfl (by decide) rfl rq1 ?_
      refine c_st (st2 := [.ref rb1]) rfl ?_
      refine c_aload_n (j := 0) (x := a0) C dX1_add_46 rfl ?_
      refine c_get (k := 2) C ck_2 dX1_add_47 w1_43 (by decide) t_a0 rfl rfl (by decide) rfl ?_
      refine c_iload_n (j := 1) C dX1_add_50 rfl ?_
      refine c_iast (x := x) C dX1_add_51 trb1 rfl (by omega) (by omega) (by omega) (fun iv1 pq1 => ?_)
      refine hv2 (hW.puti pq1 trb1 (show (-2147483648) ≤ x ∧ x ≤ 2147483647 by omega) rfl) (hF0.puti hX0 pq1 trb1 rfl) (fun W1 F1 => ?_)
      refine c_aload_n (j := 0) (x := a0) C dX1_add_52 rfl ?_
      refine c_dup C dX1_add_53 rfl ?_
      refine hv2 (show 0 ≤ iv1 a0 2 ∧ iv1 a0 2 ≤ 4001 from W1.int t_a0 2) (show iv1 a0 2 = iv a0 2 from by rw [pq1]; exact up2_k (ne_ty t_a0 trb1 (by decide))) (fun ri3 ie1 => ?_)
      refine c_get (k := 2) C ck_2 dX1_add_54 w1_43 (by decide) t_a0 rfl rfl (by decide) rfl ?_
      refine c_iconst C dX1_add_57 ?_
      refine c_iadd C dX1_add_58 ?_
      refine c_put (z := (iv1 a0 2) + 1) (k := 2) C ck_2 dX1_add_59 w1_43 (by decide) rfl t_a0 rfl rfl (by decide) rfl (by rfl) (by rfl) (fun iv2 pq2 => ?_)
      refine hv3 (W1.isz_put pq2 t_a0 (show 0 ≤ ((iv1 a0 2) + 1) ∧ ((iv1 a0 2) + 1) ≤ 4001 by omega) rfl rfl rq1 (show ((iv1 a0 2) + 1) ≤ ((ln rb1 : Nat) : Int) by omega)) (F1.puti hX0 pq2 t_a0 rfl) (show iv2 a0 2 = (iv1 a0 2) + 1 from by rw [pq2]; exact up2_s) (fun W2 F2 ie2 => ?_)
      have ri4 : 0 ≤ iv2 a0 2 ∧ iv2 a0 2 ≤ 4001 := W2.int t_a0 2
      exact c_vret C dX1_add_62 rfl (by decide) (rom0 hph hph (by decide)) ⟨rfl, hX0, F2, W2, (by omega)⟩
    · refine c_aload_n (j := 0) (x := a0) C dX1_add_24 rfl ?_
      refine c_aload_n (j := 0) (x := a0) C dX1_add_25 rfl ?_
      refine c_getr (k := 1) C ck_2 dX1_add_26 w1_39 (by decide) t_a0 rfl rfl (by decide) rfl rq1 ?_
      refine c_st (st2 := [.ref rb1, .ref a0]) rfl ?_
      refine c_aload_n (j := 0) (x := a0) C dX1_add_29 rfl ?_
      refine c_getr (k := 1) C ck_2 dX1_add_30 w1_39 (by decide) t_a0 rfl rfl (by decide) rfl rq1 ?_
      refine c_st (st2 := [.ref rb1, .ref rb1, .ref a0]) rfl ?_
      refine c_alenI C dX1_add_33 trb1 rfl ?_
      refine c_iconst C dX1_add_34 ?_
      refine c_imul C dX1_add_35 ?_
      refine c_g0 C (fun hg0 => ?_)
      refine hv2 (hW.sk t_a0 (by decide) rfl) (cap_of (ln := ln) rq1 (hg0 rb1 trb1.1)) (fun ask0 cp0 => ?_)
      have sl0 := Phi.slack (t := 10) (n := ln rb1) hW hS ⟨by decide, by decide⟩ (by rw [← ask0]; exact cp0) (by show ln rb1 ≤ 4001; omega)
      refine c_callS (As := [.ref rb1, .int (iI (((ln rb1 : Nat) : Int) * 2))]) (rest := [.ref a0]) C hM (Z_copyOf_10 (a0 := rb1) (n := ((ln rb1 : Nat) : Int) * 2) hW hS trb1 (by omega) (by show ((ln rb1 : Nat) : Int) < (((ln rb1 : Nat) : Int) * 2) ∧ 16 ≤ (((ln rb1 : Nat) : Int) * 2) ∧ (((ln rb1 : Nat) : Int) * 2) ≤ 8002; omega)) dX1_add_36 kS_X1_20 rfl rfl (Nat.le_of_ble_eq_true rfl) ⟨(Nat.le_of_ble_eq_true rfl), (Nat.le_of_ble_eq_true rfl)⟩ (by unfold zPf; omega) (fun rh1 Lh1 clh1 lnh1 ivh1 rvh1 h1 => ⟨(0 + (16 + (((ln rb1 : Nat) : Int) * 2).toNat)), (zk1 (by obtain ⟨_, _, xlh1x, flh1x, Wh1x, _⟩ := h1; exact Phi.fr hW hS xlh1x flh1x rfl)), ?_⟩)
      obtain ⟨f1, rfl, xl1, fl1, W3, rgf1, exf1⟩ := h1
      refine hv3 (hF0.call hX0 fl1 rfl) (hX0.trans xl1) (xl1.skl hS) (fun F3 X1 sk1 => ?_)
      refine c_st (st2 := [.ref f1, .ref a0]) rfl ?_
      refine hv3 (show lnh1 f1 = (((ln rb1 : Nat) : Int) * 2).toNat from exf1) (xl1.ty t_a0) (show rvh1 a0 1 = rv a0 1 from (fl1.r t_a0 rfl 1)) (fun gf1 ty1 re1 => ?_)
      rw [rq1] at re1
      refine hv4 (show 0 ≤ ivh1 a0 2 ∧ ivh1 a0 2 ≤ 4001 from W3.int ty1 2) (show ivh1 a0 2 = iv a0 2 from fl1.i t_a0 rfl 2) (xl1.ty trb1) (show lnh1 rb1 = ln rb1 from (xl1 rb1 trb1.1).2.2) (fun ri5 ie3 ty2 le1 => ?_)
      refine c_g0 C (fun hg1 => ?_)
      refine hv2 (W3.sk ty1 (by decide) rfl) (cap_of (ln := lnh1) re1 (hg1 rb1 ty2.1)) (fun ask cpo => ?_)
      refine c_putr (x := (some f1)) (k := 1) C ck_2 dX1_add_39 w1_39 (by decide) rfl ty1 rfl rfl (by decide) rfl (by rfl) (by rfl) (fun rv1 pq3 => ⟨0, (by have gr := Phi.grow (g := g0 G) (rv2 := rv1) (rv := rvh1) (b := f1) (ln := lnh1) (t := 10) sk1 (by rw [← ask]; exact pq3) (hg1 f1 rgf1.1) (Or.inl ⟨by decide, by decide⟩); rw [← ask] at gr; have gr2 : Phi (g0 G) sk lnh1 rv1 + 3 * cap (g0 G) lnh1 rvh1 a0 = Phi (g0 G) sk lnh1 rvh1 + 3 * lnh1 f1 := gr; omega), ?_⟩)
      refine hv2 (W3.putit pq3 ty1 rfl rfl rgf1 (by omega)) (F3.putr X1 pq3 ty1 rfl) (fun W4 F4 => ?_)
      refine c_aload_n (j := 0) (x := a0) C dX1_add_42 rfl ?_
      have rp1 : rv1 a0 1 = (some f1) := by rw [pq3]; exact upr_s
      refine c_getr (k := 1) C ck_2 dX1_add_43 w1_39 (by decide) ty1 rfl rfl (by decide) rfl rp1 ?_
      refine c_st (st2 := [.ref f1]) rfl ?_
      refine c_aload_n (j := 0) (x := a0) C dX1_add_46 rfl ?_
      refine c_get (k := 2) C ck_2 dX1_add_47 w1_43 (by decide) ty1 rfl rfl (by decide) rfl ?_
      refine c_iload_n (j := 1) C dX1_add_50 rfl ?_
      have ll2 : 16 ≤ lnh1 f1 ∧ lnh1 f1 ≤ 8002 := W4.len rgf1 rfl
      refine c_iast (x := x) C dX1_add_51 rgf1 rfl (by omega) (by omega) (by omega) (fun iv3 pq4 => ?_)
      refine hv2 (W4.puti pq4 rgf1 (show (-2147483648) ≤ x ∧ x ≤ 2147483647 by omega) rfl) (F4.puti X1 pq4 rgf1 rfl) (fun W5 F5 => ?_)
      refine c_aload_n (j := 0) (x := a0) C dX1_add_52 rfl ?_
      refine c_dup C dX1_add_53 rfl ?_
      refine hv2 (show 0 ≤ iv3 a0 2 ∧ iv3 a0 2 ≤ 4001 from W5.int ty1 2) (show iv3 a0 2 = ivh1 a0 2 from by rw [pq4]; exact up2_k (ne_ty ty1 rgf1 (by decide))) (fun ri6 ie4 => ?_)
      refine c_get (k := 2) C ck_2 dX1_add_54 w1_43 (by decide) ty1 rfl rfl (by decide) rfl ?_
      refine c_iconst C dX1_add_57 ?_
      refine c_iadd C dX1_add_58 ?_
      refine c_put (z := (iv3 a0 2) + 1) (k := 2) C ck_2 dX1_add_59 w1_43 (by decide) rfl ty1 rfl rfl (by decide) rfl (by rfl) (by rfl) (fun iv4 pq5 => ?_)
      refine hv3 (W5.isz_put pq5 ty1 (show 0 ≤ ((iv3 a0 2) + 1) ∧ ((iv3 a0 2) + 1) ≤ 4001 by omega) rfl rfl rp1 (show ((iv3 a0 2) + 1) ≤ ((lnh1 f1 : Nat) : Int) by omega)) (F5.puti X1 pq5 ty1 rfl) (show iv4 a0 2 = (iv3 a0 2) + 1 from by rw [pq5]; exact up2_s) (fun W6 F6 ie5 => ?_)
      refine hv2 (show 0 ≤ iv4 a0 2 ∧ iv4 a0 2 ≤ 4001 from W6.int ty1 2) (Phi.le W6 sk1) (fun ri7 pl1 => ?_)
      exact c_vret C dX1_add_62 rfl (by decide) (rom0 hph pl1 (by decide)) ⟨rfl, X1, F6, W6, (by omega)⟩
  · exact c_vret C dX1_add_11 rfl (by decide) (rom0 hph hph (by decide)) ⟨rfl, hX0, hF0, hW, (by omega)⟩
set_option maxHeartbeats 4000000 in
set_option maxRecDepth 100000 in
theorem C_add_12 {l : Launch} {G : GT} {mi : Nat} {sk : Nat → Nat} {L : List Nat} {cl ln : Nat → Nat} {iv : Nat → Nat → Int} {rv : Nat → Nat → Option Nat}  {a0 : Nat} {x : Int} (hW : WT (g0 G) sk L cl ln iv rv) (hS : SKL sk L cl) (t_a0 : ty L cl a0 12) (h_x : -2147483648 ≤ x ∧ x ≤ 2147483647)  : Mc l G mi (Phi (g0 G) sk) PHM yX1_add cX1_add 2 none 2 [.ref a0, .int (iI x)] L cl ln iv rv 600 (fun v L2 cl2 ln2 iv2 rv2 => v = none ∧ XT L cl ln L2 cl2 ln2 ∧ fT [12, 42] L cl iv rv iv2 rv2 ∧ WT (g0 G) sk L2 cl2 ln2 iv2 rv2 ∧ (((iv2 a0 2 = iv a0 2 ∧ iv a0 2 = 200) ∨ (iv2 a0 2 = iv a0 2 + 1 ∧ iv a0 2 < 200)) ∧ ∀ ss, CT iv rv a0 ss → iv a0 2 < 200 → CT iv2 rv2 a0 (va_up ss (iv a0 2).toNat x)) ∧ (∀ bb, ty L cl bb 12 → bb ≠ a0 → iv2 bb 2 = iv bb 2 ∧ rv2 bb 1 = rv bb 1) ∧ (∀ bb, ty L cl bb 42 → rv a0 1 ≠ some bb → ∀ k, iv2 bb k = iv bb k) ∧ (∀ x2, rv2 a0 1 = some x2 → rv a0 1 = some x2 ∨ x2 ∉ L)) := by
  refine Mc.mk (by decide) (Nat.le_of_ble_eq_true rfl) ?_
  intro p e s m args below meth c A C hM
  refine hv3 (Phi.le hW hS) (show XT L cl ln L cl ln from XT.refl) (show fT [12, 42] L cl iv rv iv rv from fT.refl) (fun hph hX0 hF0 => ?_)
  refine c_aload_n (j := 0) (x := a0) C dX1_add_0 rfl ?_
  have ri1 : 0 ≤ iv a0 2 ∧ iv a0 2 ≤ 200 := hW.int t_a0 2
  refine c_get (k := 2) C ck_2 dX1_add_1 w1_43 (by decide) t_a0 rfl rfl (by decide) rfl ?_
  refine c_aload_n (j := 0) (x := a0) C dX1_add_4 rfl ?_
  have ri2 : 200 ≤ iv a0 0 ∧ iv a0 0 ≤ 200 := hW.int t_a0 0
  refine c_get (k := 0) C ck_2 dX1_add_5 w1_38 (by decide) t_a0 rfl rfl (by decide) rfl ?_
  refine c_icmp_lt (tgt := 12) C (r32_c (lo := 0) (hi := 200) ri1.1 ri1.2 (by decide) (by decide)) (r32_c (lo := 200) (hi := 200) ri2.1 ri2.2 (by decide) (by decide)) dX1_add_8 (by decide) (fun c1 => ?_) (fun c1 => ?_)
  · refine c_aload_n (j := 0) (x := a0) C dX1_add_12 rfl ?_
    refine c_get (k := 2) C ck_2 dX1_add_13 w1_43 (by decide) t_a0 rfl rfl (by decide) rfl ?_
    refine c_aload_n (j := 0) (x := a0) C dX1_add_16 rfl ?_
    obtain ⟨rb1, rq1, trb1⟩ := hW.ref t_a0 1 rfl rfl rfl
    refine hv2 (show 16 ≤ ln rb1 ∧ ln rb1 ≤ 400 from hW.len trb1 rfl) (hW.isz t_a0 rfl rfl rq1) (fun lnrb1 szrb1 => ?_)
    refine c_getr (k := 1) C ck_2 dX1_add_17 w1_39 (by decide) t_a0 rfl rfl (by decide) rfl rq1 ?_
    refine c_st (st2 := [.ref rb1, .int (iI (iv a0 2))]) rfl ?_
    have ll1 : 16 ≤ ln rb1 ∧ ln rb1 ≤ 400 := hW.len trb1 rfl
    refine c_alenI C dX1_add_20 trb1 rfl ?_
    refine c_icmp_lt (tgt := 42) C (r32_c (lo := 0) (hi := 200) ri1.1 ri1.2 (by decide) (by decide)) ⟨by omega, by omega⟩ dX1_add_21 (by decide) (fun c2 => ?_) (fun c2 => ?_)
    · refine c_aload_n (j := 0) (x := a0) C dX1_add_42 rfl ?_
      refine c_getr (k := 1) C ck_2 dX1_add_43 w1_39 (by decide) t_a0 rfl rfl (by decide) rfl rq1 ?_
      refine c_st (st2 := [.ref rb1]) rfl ?_
      refine c_aload_n (j := 0) (x := a0) C dX1_add_46 rfl ?_
      refine c_get (k := 2) C ck_2 dX1_add_47 w1_43 (by decide) t_a0 rfl rfl (by decide) rfl ?_
      refine c_iload_n (j := 1) C dX1_add_50 rfl ?_
      refine c_iast (x := x) C dX1_add_51 trb1 rfl (by omega) (by omega) (by omega) (fun iv1 pq1 => ?_)
      refine hv2 (hW.puti pq1 trb1 (show (-2147483648) ≤ x ∧ x ≤ 2147483647 by omega) rfl) (hF0.puti hX0 pq1 trb1 rfl) (fun W1 F1 => ?_)
      refine c_aload_n (j := 0) (x := a0) C dX1_add_52 rfl ?_
      refine c_dup C dX1_add_53 rfl ?_
      refine hv2 (show 0 ≤ iv1 a0 2 ∧ iv1 a0 2 ≤ 200 from W1.int t_a0 2) (show iv1 a0 2 = iv a0 2 from by rw [pq1]; exact up2_k (ne_ty t_a0 trb1 (by decide))) (fun ri3 ie1 => ?_)
      refine c_get (k := 2) C ck_2 dX1_add_54 w1_43 (by decide) t_a0 rfl rfl (by decide) rfl ?_
      refine c_iconst C dX1_add_57 ?_
      refine c_iadd C dX1_add_58 ?_
      refine c_put (z := (iv1 a0 2) + 1) (k := 2) C ck_2 dX1_add_59 w1_43 (by decide) rfl t_a0 rfl rfl (by decide) rfl (by rfl) (by rfl) (fun iv2 pq2 => ?_)
      refine hv3 (W1.isz_put pq2 t_a0 (show 0 ≤ ((iv1 a0 2) + 1) ∧ ((iv1 a0 2) + 1) ≤ 200 by omega) rfl rfl rq1 (show ((iv1 a0 2) + 1) ≤ ((ln rb1 : Nat) : Int) by omega)) (F1.puti hX0 pq2 t_a0 rfl) (show iv2 a0 2 = (iv1 a0 2) + 1 from by rw [pq2]; exact up2_s) (fun W2 F2 ie2 => ?_)
      have ri4 : 0 ≤ iv2 a0 2 ∧ iv2 a0 2 ≤ 200 := W2.int t_a0 2
      exact c_vret C dX1_add_62 rfl (by decide) (rom0 hph hph (by decide)) ⟨rfl, hX0, F2, W2, ⟨by omega, fun ss hs hq b2 hb j hj => by
          rw [rq1] at hb
          cases hb
          rw [pq2, up2_k (ne_ty trb1 t_a0 (by decide)), pq1]
          by_cases e : j = (iv a0 2).toNat
          · subst e; rw [up2_s, va_up_self]
          · rw [up2_j e, va_up_ne _ _ e]; exact hs _ rq1 j (by omega)⟩, (fun bb tbb hbb => ⟨by exact (Eq.trans (show iv2 bb 2 = iv1 bb 2 from (by rw [pq2]; exact up2_k hbb)) (show iv1 bb 2 = iv bb 2 from (by rw [pq1]; exact up2_k (ne_ty tbb trb1 (by decide))))), by exact rfl⟩), (fun bb tbb hbb kk => by exact (Eq.trans (show iv2 bb kk = iv1 bb kk from (by rw [pq2]; exact up2_k (ne_ty tbb t_a0 (by decide)))) (show iv1 bb kk = iv bb kk from (by rw [pq1]; exact up2_k (fun e => hbb (by rw [e]; exact rq1)))))), (fun x2 h2 => Or.inl h2)⟩
    · refine c_aload_n (j := 0) (x := a0) C dX1_add_24 rfl ?_
      refine c_aload_n (j := 0) (x := a0) C dX1_add_25 rfl ?_
      refine c_getr (k := 1) C ck_2 dX1_add_26 w1_39 (by decide) t_a0 rfl rfl (by decide) rfl rq1 ?_
      refine c_st (st2 := [.ref rb1, .ref a0]) rfl ?_
      refine c_aload_n (j := 0) (x := a0) C dX1_add_29 rfl ?_
      refine c_getr (k := 1) C ck_2 dX1_add_30 w1_39 (by decide) t_a0 rfl rfl (by decide) rfl rq1 ?_
      refine c_st (st2 := [.ref rb1, .ref rb1, .ref a0]) rfl ?_
      refine c_alenI C dX1_add_33 trb1 rfl ?_
      refine c_iconst C dX1_add_34 ?_
      refine c_imul C dX1_add_35 ?_
      refine c_callS (As := [.ref rb1, .int (iI (((ln rb1 : Nat) : Int) * 2))]) (rest := [.ref a0]) C hM (Z_copyOf_12 (a0 := rb1) (n := ((ln rb1 : Nat) : Int) * 2) hW hS trb1 (by omega) (by show ((ln rb1 : Nat) : Int) < (((ln rb1 : Nat) : Int) * 2) ∧ 16 ≤ (((ln rb1 : Nat) : Int) * 2) ∧ (((ln rb1 : Nat) : Int) * 2) ≤ 400; omega)) dX1_add_36 kS_X1_20 rfl rfl (Nat.le_of_ble_eq_true rfl) ⟨(Nat.le_of_ble_eq_true rfl), (Nat.le_of_ble_eq_true rfl)⟩ (rz1 hph hph (by omega)) (fun rh1 Lh1 clh1 lnh1 ivh1 rvh1 h1 => ⟨(0 + (16 + (((ln rb1 : Nat) : Int) * 2).toNat)), (zk1 (by obtain ⟨_, _, xlh1x, flh1x, Wh1x, _⟩ := h1; exact Phi.fr hW hS xlh1x flh1x rfl)), ?_⟩)
      obtain ⟨f1, rfl, xl1, fl1, W3, rgf1, exf1, cnff1, ocpf1⟩ := h1
      refine hv3 (hF0.call hX0 fl1 rfl) (hX0.trans xl1) (xl1.skl hS) (fun F3 X1 sk1 => ?_)
      refine c_st (st2 := [.ref f1, .ref a0]) rfl ?_
      refine hv3 (show lnh1 f1 = (((ln rb1 : Nat) : Int) * 2).toNat ∧ ∀ j : Nat, j < ln rb1 → ivh1 f1 j = iv rb1 j from exf1) (xl1.ty t_a0) (show rvh1 a0 1 = rv a0 1 from (fl1.r t_a0 rfl 1)) (fun gf1 ty1 re1 => ?_)
      rw [rq1] at re1
      refine hv4 (show 0 ≤ ivh1 a0 2 ∧ ivh1 a0 2 ≤ 200 from W3.int ty1 2) (show ivh1 a0 2 = iv a0 2 from fl1.i t_a0 rfl 2) (xl1.ty trb1) (show lnh1 rb1 = ln rb1 from (xl1 rb1 trb1.1).2.2) (fun ri5 ie3 ty2 le1 => ?_)
      refine c_putr (x := (some f1)) (k := 1) C ck_2 dX1_add_39 w1_39 (by decide) rfl ty1 rfl rfl (by decide) rfl (by rfl) (by rfl) (fun rv1 pq3 => ⟨600, (by rw [Phi.putr sk1 pq3 ty1 rfl]; omega), ?_⟩)
      refine hv2 (W3.putit pq3 ty1 rfl rfl rgf1 (by omega)) (F3.putr X1 pq3 ty1 rfl) (fun W4 F4 => ?_)
      refine c_aload_n (j := 0) (x := a0) C dX1_add_42 rfl ?_
      have rp1 : rv1 a0 1 = (some f1) := by rw [pq3]; exact upr_s
      refine c_getr (k := 1) C ck_2 dX1_add_43 w1_39 (by decide) ty1 rfl rfl (by decide) rfl rp1 ?_
      refine c_st (st2 := [.ref f1]) rfl ?_
      refine c_aload_n (j := 0) (x := a0) C dX1_add_46 rfl ?_
      refine c_get (k := 2) C ck_2 dX1_add_47 w1_43 (by decide) ty1 rfl rfl (by decide) rfl ?_
      refine c_iload_n (j := 1) C dX1_add_50 rfl ?_
      have ll2 : 16 ≤ lnh1 f1 ∧ lnh1 f1 ≤ 400 := W4.len rgf1 rfl
      refine c_iast (x := x) C dX1_add_51 rgf1 rfl (by omega) (by omega) (by omega) (fun iv3 pq4 => ?_)
      refine hv2 (W4.puti pq4 rgf1 (show (-2147483648) ≤ x ∧ x ≤ 2147483647 by omega) rfl) (F4.puti X1 pq4 rgf1 rfl) (fun W5 F5 => ?_)
      refine c_aload_n (j := 0) (x := a0) C dX1_add_52 rfl ?_
      refine c_dup C dX1_add_53 rfl ?_
      refine hv2 (show 0 ≤ iv3 a0 2 ∧ iv3 a0 2 ≤ 200 from W5.int ty1 2) (show iv3 a0 2 = ivh1 a0 2 from by rw [pq4]; exact up2_k (ne_ty ty1 rgf1 (by decide))) (fun ri6 ie4 => ?_)
      refine c_get (k := 2) C ck_2 dX1_add_54 w1_43 (by decide) ty1 rfl rfl (by decide) rfl ?_
      refine c_iconst C dX1_add_57 ?_
      refine c_iadd C dX1_add_58 ?_
      refine c_put (z := (iv3 a0 2) + 1) (k := 2) C ck_2 dX1_add_59 w1_43 (by decide) rfl ty1 rfl rfl (by decide) rfl (by rfl) (by rfl) (fun iv4 pq5 => ?_)
      refine hv3 (W5.isz_put pq5 ty1 (show 0 ≤ ((iv3 a0 2) + 1) ∧ ((iv3 a0 2) + 1) ≤ 200 by omega) rfl rfl rp1 (show ((iv3 a0 2) + 1) ≤ ((lnh1 f1 : Nat) : Int) by omega)) (F5.puti X1 pq5 ty1 rfl) (show iv4 a0 2 = (iv3 a0 2) + 1 from by rw [pq5]; exact up2_s) (fun W6 F6 ie5 => ?_)
      refine hv2 (show 0 ≤ iv4 a0 2 ∧ iv4 a0 2 ≤ 200 from W6.int ty1 2) (Phi.le W6 sk1) (fun ri7 pl1 => ?_)
      exact c_vret C dX1_add_62 rfl (by decide) (rom0 hph pl1 (by decide)) ⟨rfl, X1, F6, W6, ⟨by omega, fun ss hs hq b2 hb j hj => by
          rw [rp1] at hb
          cases hb
          rw [pq5, up2_k (ne_ty rgf1 ty1 (by decide)), pq4]
          by_cases e : j = (iv a0 2).toNat
          · subst e; rw [show (iv a0 2).toNat = (ivh1 a0 2).toNat from congrArg Int.toNat (by omega), up2_s, va_up_self]
          · rw [up2_j (fun e2 => e (e2.trans (congrArg Int.toNat (by omega)))), va_up_ne _ _ e, gf1.2 j (by omega)]; exact hs _ rq1 j (by omega)⟩, (fun bb tbb hbb => ⟨by have tb1 := xl1.ty tbb; exact (Eq.trans (show iv4 bb 2 = iv3 bb 2 from (by rw [pq5]; exact up2_k hbb)) (Eq.trans (show iv3 bb 2 = ivh1 bb 2 from (by rw [pq4]; exact up2_k (ne_ty tb1 rgf1 (by decide)))) (show ivh1 bb 2 = iv bb 2 from (fl1.i tbb rfl 2)))), by have tb1 := xl1.ty tbb; exact (Eq.trans (show rv1 bb 1 = rvh1 bb 1 from (by rw [pq3]; exact congrFun (upr_a hbb) _)) (show rvh1 bb 1 = rv bb 1 from (fl1.r tbb rfl 1)))⟩), (fun bb tbb hbb kk => by have tb1 := xl1.ty tbb; exact (Eq.trans (show iv4 bb kk = iv3 bb kk from (by rw [pq5]; exact up2_k (ne_ty tb1 ty1 (by decide)))) (Eq.trans (show iv3 bb kk = ivh1 bb kk from (by rw [pq4]; exact up2_k (ne_in tbb.1 cnff1))) (show ivh1 bb kk = iv bb kk from (ocpf1 bb tbb kk))))), (fun x2 h2 => Or.inr (by rw [rp1] at h2; cases h2; exact cnff1))⟩
  · exact c_vret C dX1_add_11 rfl (by decide) (rom0 hph hph (by decide)) ⟨rfl, hX0, hF0, hW, ⟨by omega, fun ss hs hq => absurd hq (by omega)⟩, (fun bb tbb hbb => ⟨by exact rfl, by exact rfl⟩), (fun bb tbb hbb kk => by exact rfl), (fun x2 h2 => Or.inl h2)⟩
end
section
set_option maxHeartbeats 4000000 in
set_option maxRecDepth 100000 in
theorem C_addAll_3 {l : Launch} {G : GT} {mi : Nat} {sk : Nat → Nat} {L : List Nat} {cl ln : Nat → Nat} {iv : Nat → Nat → Int} {rv : Nat → Nat → Option Nat}  {a0 : Nat} {a1 : Nat} (hW : WT (g0 G) sk L cl ln iv rv) (hS : SKL sk L cl) (t_a0 : ty L cl a0 3) (t_a1 : ty L cl a1 2)  : Mc l G mi (Phi (g0 G) sk) PHM yX1_addAll cX1_addAll 3 none 3 [.ref a0, .ref a1] L cl ln iv rv 0 (fun v L2 cl2 ln2 iv2 rv2 => v = none ∧ XT L cl ln L2 cl2 ln2 ∧ fT [3, 33] L cl iv rv iv2 rv2 ∧ WT (g0 G) sk L2 cl2 ln2 iv2 rv2 ∧ (iv2 a0 2 = min (iv a0 2 + iv a1 2) 500 ∧ APD iv rv a0 a1 iv2 rv2)) := by
  refine Mc.mk (by decide) (Nat.le_of_ble_eq_true rfl) ?_
  intro p e s m args below meth c A C hM
  refine hv5 (Phi.le hW hS) (show XT L cl ln L cl ln from XT.refl) (show fT [3, 33] L cl iv rv iv rv from fT.refl) (show 0 ≤ iv a0 2 ∧ iv a0 2 ≤ 500 from hW.int t_a0 2) (show 0 ≤ iv a1 2 ∧ iv a1 2 ≤ 3000 from hW.int t_a1 2) (fun hph hX0 hF0 ri1 ri2 => ?_)
  refine c_iconst C dX1_addAll_0 ?_
  refine c_istore_n (lv2 := [(2, .int (iI 0)), (0, .ref a0), (1, .ref a1)]) C dX1_addAll_1 (by decide) rfl ?_
  have Lp1 : ∀ (nn : Nat) (k : Int) (Lb1 : List Nat) (clb1 lnb1 : Nat → Nat) (ivb1 : Nat → Nat → Int) (rvb1 : Nat → Nat → Option Nat) , 3001 - k < (nn : Int) → XT L cl ln Lb1 clb1 lnb1 → WT (g0 G) sk Lb1 clb1 lnb1 ivb1 rvb1 → fT [3, 33] L cl iv rv ivb1 rvb1 → (0 ≤ k ∧ k ≤ iv a1 2) → (ivb1 a0 2 = min (iv a0 2 + k) 500) → (APD iv rv a0 a1 ivb1 rvb1) → cw p l e 3 ((PHM) + 0 - ((Phi (g0 G) sk) ln rv)) s m args below meth c G A 3 (MQ below (Qu G A (Qp G (Phi (g0 G) sk) ((Phi (g0 G) sk) ln rv) 0 (fun v L2 cl2 ln2 iv2 rv2 => v = none ∧ XT L cl ln L2 cl2 ln2 ∧ fT [3, 33] L cl iv rv iv2 rv2 ∧ WT (g0 G) sk L2 cl2 ln2 iv2 rv2 ∧ (iv2 a0 2 = min (iv a0 2 + iv a1 2) 500 ∧ APD iv rv a0 a1 iv2 rv2)))) args s (((PHM) + 0 - ((Phi (g0 G) sk) ln rv)) / 16) ((PHM) + 0 - ((Phi (g0 G) sk) ln rv)) A) (Phi (g0 G) sk) ((Phi (g0 G) sk) ln rv) Lb1 clb1 lnb1 ivb1 rvb1 0 2 [(2, .int (iI k)), (0, .ref a0), (1, .ref a1)] [] := by
    intro nn
    induction nn with
    | zero =>
      intro  k Lb1 clb1 lnb1 ivb1 rvb1 hm Xb1 Wb1 Fb1  hk hmn hap
      have skb1 := Xb1.skl hS
      exact absurd hm (by omega)
    | succ nn ih1 =>
      intro  k Lb1 clb1 lnb1 ivb1 rvb1 hm Xb1 Wb1 Fb1  hk hmn hap
      have skb1 := Xb1.skl hS
      refine c_iload_n (j := 0) C dX1_addAll_2 rfl ?_
      refine c_aload_n (j := 2) (x := a1) C dX1_addAll_3 rfl ?_
      refine hv2 (Xb1.ty t_a1) (show ivb1 a1 2 = iv a1 2 from Fb1.i t_a1 rfl 2) (fun ty1 ie1 => ?_)
      have ri3 : 0 ≤ ivb1 a1 2 ∧ ivb1 a1 2 ≤ 3000 := Wb1.int ty1 2
      refine c_get (k := 2) C ck_2 dX1_addAll_4 w1_43 (by decide) ty1 rfl rfl (by decide) rfl ?_
      refine c_icmp_ge (tgt := 26) C ⟨by omega, by omega⟩ (r32_c (lo := 0) (hi := 3000) ri3.1 ri3.2 (by decide) (by decide)) dX1_addAll_7 (by decide) (fun c1 => ?_) (fun c1 => ?_)
      · have ty2 := Xb1.ty t_a0
        refine hv2 (show 0 ≤ ivb1 a0 2 ∧ ivb1 a0 2 ≤ 500 from Wb1.int ty2 2) (Phi.le Wb1 skb1) (fun ri4 pl1 => ?_)
        exact c_vret C dX1_addAll_26 rfl (by decide) (rom0 hph pl1 (by decide)) ⟨rfl, Xb1, Fb1, Wb1, ⟨by omega, hap⟩⟩
      · refine c_aload_n (j := 1) (x := a0) C dX1_addAll_10 rfl ?_
        refine c_aload_n (j := 2) (x := a1) C dX1_addAll_11 rfl ?_
        obtain ⟨rb1, rq1, trb1⟩ := Wb1.ref ty1 1 rfl rfl rfl
        refine hv2 (show 16 ≤ lnb1 rb1 ∧ lnb1 rb1 ≤ 6000 from Wb1.len trb1 rfl) (Wb1.isz ty1 rfl rfl rq1) (fun lnrb1 szrb1 => ?_)
        refine c_getr (k := 1) C ck_2 dX1_addAll_12 w1_39 (by decide) ty1 rfl rfl (by decide) rfl rq1 ?_
        refine c_st (st2 := [.ref rb1, .ref a0]) rfl ?_
        refine c_iload_n (j := 0) C dX1_addAll_15 rfl ?_
        have ll1 : 16 ≤ lnb1 rb1 ∧ lnb1 rb1 ≤ 6000 := Wb1.len trb1 rfl
        refine c_iald C dX1_addAll_16 trb1 rfl (by omega) (by omega) (by omega) ?_
        refine hv3 (show (-2147483648) ≤ ivb1 rb1 k.toNat ∧ ivb1 rb1 k.toNat ≤ 2147483647 from Wb1.int trb1 k.toNat) (Xb1.ty t_a0) (Phi.le Wb1 skb1) (fun ri5 ty3 pl2 => ?_)
        have ri6 : 0 ≤ ivb1 a0 2 ∧ ivb1 a0 2 ≤ 500 := Wb1.int ty3 2
        refine d_callV (As := [.int (iI (ivb1 rb1 k.toNat))]) (rest := []) C hM (C_add_3 (a0 := a0) (x := ivb1 rb1 k.toNat) Wb1 skb1 ty3 (by omega) ) dX1_addAll_17 kV_X1_26 rfl ty3 rfl rfl (by decide) ck_2 rfl (Nat.le_of_ble_eq_true rfl) ⟨(Nat.le_of_ble_eq_true rfl), (Nat.le_of_ble_eq_true rfl)⟩ hph pl2 (show 0 + 0 = 0 from rfl) (by decide) (fun rh1 Lh1 clh1 lnh1 ivh1 rvh1 h1 => ?_)
        obtain ⟨rfl, xl1, fl1, W1, exf1⟩ := h1
        refine hv3 (Fb1.call Xb1 fl1 rfl) (Xb1.trans xl1) (xl1.skl skb1) (fun F1 X1 sk1 => ?_)
        refine c_st (st2 := []) rfl ?_
        refine hv2 (xl1.ty ty3) (show ((ivh1 a0 2 = ivb1 a0 2 ∧ ivb1 a0 2 = 500) ∨ (ivh1 a0 2 = ivb1 a0 2 + 1 ∧ ivb1 a0 2 < 500)) ∧ ∀ ss, CT ivb1 rvb1 a0 ss → ivb1 a0 2 < 500 → CT ivh1 rvh1 a0 (va_up ss (ivb1 a0 2).toNat (ivb1 rb1 k.toNat)) from exf1) (fun ty4 gf1 => ?_)
        have ri7 : 0 ≤ ivh1 a0 2 ∧ ivh1 a0 2 ≤ 500 := W1.int ty4 2
        refine c_iinc (z := k) (j := 0) (lv2 := [(2, .int (iI (k + 1))), (0, .ref a0), (1, .ref a1)]) C dX1_addAll_20 rfl (by decide) rfl ?_
        refine c_goto (tgt := 2) C dX1_addAll_23 (by decide) ?_
        refine c_lv (lv2 := [(2, .int (iI (k + 1))), (0, .ref a0), (1, .ref a1)]) [0, 1, 2] rfl ?_
        exact ih1  (k + 1) _ _ _ _ _ (by omega) X1 W1 F1  (by omega) (by show ivh1 a0 2 = min (iv a0 2 + (k + 1)) 500; omega) (hap.step gf1.2 hmn (fun ss hs => (CT.fr hs hW t_a1 Fb1 rfl rfl rfl rfl rfl) _ rq1 k.toNat (by omega)) ⟨by omega, by omega⟩ (by omega))
  refine c_lv (lv2 := [(2, .int (iI 0)), (0, .ref a0), (1, .ref a1)]) [0, 1, 2] rfl ?_
  exact Lp1 3002 0 _ _ _ _ _ (by omega) hX0 hW hF0  (by omega) (by show iv a0 2 = min (iv a0 2 + 0) 500; omega) APD.zero
set_option maxHeartbeats 4000000 in
set_option maxRecDepth 100000 in
theorem C_addAll_4 {l : Launch} {G : GT} {mi : Nat} {sk : Nat → Nat} {L : List Nat} {cl ln : Nat → Nat} {iv : Nat → Nat → Int} {rv : Nat → Nat → Option Nat}  {a0 : Nat} {a1 : Nat} (hW : WT (g0 G) sk L cl ln iv rv) (hS : SKL sk L cl) (t_a0 : ty L cl a0 4) (t_a1 : ty L cl a1 10)  : Mc l G mi (Phi (g0 G) sk) PHM yX1_addAll cX1_addAll 3 none 3 [.ref a0, .ref a1] L cl ln iv rv 0 (fun v L2 cl2 ln2 iv2 rv2 => v = none ∧ XT L cl ln L2 cl2 ln2 ∧ fT [4, 34] L cl iv rv iv2 rv2 ∧ WT (g0 G) sk L2 cl2 ln2 iv2 rv2 ∧ (iv2 a0 2 = min (iv a0 2 + iv a1 2) 4000)) := by
  refine Mc.mk (by decide) (Nat.le_of_ble_eq_true rfl) ?_
  intro p e s m args below meth c A C hM
  refine hv5 (Phi.le hW hS) (show XT L cl ln L cl ln from XT.refl) (show fT [4, 34] L cl iv rv iv rv from fT.refl) (show 0 ≤ iv a0 2 ∧ iv a0 2 ≤ 4000 from hW.int t_a0 2) (show 0 ≤ iv a1 2 ∧ iv a1 2 ≤ 4001 from hW.int t_a1 2) (fun hph hX0 hF0 ri1 ri2 => ?_)
  refine c_iconst C dX1_addAll_0 ?_
  refine c_istore_n (lv2 := [(2, .int (iI 0)), (0, .ref a0), (1, .ref a1)]) C dX1_addAll_1 (by decide) rfl ?_
  have Lp1 : ∀ (nn : Nat) (k : Int) (Lb1 : List Nat) (clb1 lnb1 : Nat → Nat) (ivb1 : Nat → Nat → Int) (rvb1 : Nat → Nat → Option Nat) , 4002 - k < (nn : Int) → XT L cl ln Lb1 clb1 lnb1 → WT (g0 G) sk Lb1 clb1 lnb1 ivb1 rvb1 → fT [4, 34] L cl iv rv ivb1 rvb1 → (0 ≤ k ∧ k ≤ iv a1 2) → (ivb1 a0 2 = min (iv a0 2 + k) 4000) → cw p l e 3 ((PHM) + 0 - ((Phi (g0 G) sk) ln rv)) s m args below meth c G A 3 (MQ below (Qu G A (Qp G (Phi (g0 G) sk) ((Phi (g0 G) sk) ln rv) 0 (fun v L2 cl2 ln2 iv2 rv2 => v = none ∧ XT L cl ln L2 cl2 ln2 ∧ fT [4, 34] L cl iv rv iv2 rv2 ∧ WT (g0 G) sk L2 cl2 ln2 iv2 rv2 ∧ (iv2 a0 2 = min (iv a0 2 + iv a1 2) 4000)))) args s (((PHM) + 0 - ((Phi (g0 G) sk) ln rv)) / 16) ((PHM) + 0 - ((Phi (g0 G) sk) ln rv)) A) (Phi (g0 G) sk) ((Phi (g0 G) sk) ln rv) Lb1 clb1 lnb1 ivb1 rvb1 0 2 [(2, .int (iI k)), (0, .ref a0), (1, .ref a1)] [] := by
    intro nn
    induction nn with
    | zero =>
      intro  k Lb1 clb1 lnb1 ivb1 rvb1 hm Xb1 Wb1 Fb1  hk hmn
      have skb1 := Xb1.skl hS
      exact absurd hm (by omega)
    | succ nn ih1 =>
      intro  k Lb1 clb1 lnb1 ivb1 rvb1 hm Xb1 Wb1 Fb1  hk hmn
      have skb1 := Xb1.skl hS
      refine c_iload_n (j := 0) C dX1_addAll_2 rfl ?_
      refine c_aload_n (j := 2) (x := a1) C dX1_addAll_3 rfl ?_
      refine hv2 (Xb1.ty t_a1) (show ivb1 a1 2 = iv a1 2 from Fb1.i t_a1 rfl 2) (fun ty1 ie1 => ?_)
      have ri3 : 0 ≤ ivb1 a1 2 ∧ ivb1 a1 2 ≤ 4001 := Wb1.int ty1 2
      refine c_get (k := 2) C ck_2 dX1_addAll_4 w1_43 (by decide) ty1 rfl rfl (by decide) rfl ?_
      refine c_icmp_ge (tgt := 26) C ⟨by omega, by omega⟩ (r32_c (lo := 0) (hi := 4001) ri3.1 ri3.2 (by decide) (by decide)) dX1_addAll_7 (by decide) (fun c1 => ?_) (fun c1 => ?_)
      · have ty2 := Xb1.ty t_a0
        refine hv2 (show 0 ≤ ivb1 a0 2 ∧ ivb1 a0 2 ≤ 4000 from Wb1.int ty2 2) (Phi.le Wb1 skb1) (fun ri4 pl1 => ?_)
        exact c_vret C dX1_addAll_26 rfl (by decide) (rom0 hph pl1 (by decide)) ⟨rfl, Xb1, Fb1, Wb1, (by omega)⟩
      · refine c_aload_n (j := 1) (x := a0) C dX1_addAll_10 rfl ?_
        refine c_aload_n (j := 2) (x := a1) C dX1_addAll_11 rfl ?_
        obtain ⟨rb1, rq1, trb1⟩ := Wb1.ref ty1 1 rfl rfl rfl
        refine hv2 (show 16 ≤ lnb1 rb1 ∧ lnb1 rb1 ≤ 8002 from Wb1.len trb1 rfl) (Wb1.isz ty1 rfl rfl rq1) (fun lnrb1 szrb1 => ?_)
        refine c_getr (k := 1) C ck_2 dX1_addAll_12 w1_39 (by decide) ty1 rfl rfl (by decide) rfl rq1 ?_
        refine c_st (st2 := [.ref rb1, .ref a0]) rfl ?_
        refine c_iload_n (j := 0) C dX1_addAll_15 rfl ?_
        have ll1 : 16 ≤ lnb1 rb1 ∧ lnb1 rb1 ≤ 8002 := Wb1.len trb1 rfl
        refine c_iald C dX1_addAll_16 trb1 rfl (by omega) (by omega) (by omega) ?_
        refine hv3 (show (-2147483648) ≤ ivb1 rb1 k.toNat ∧ ivb1 rb1 k.toNat ≤ 2147483647 from Wb1.int trb1 k.toNat) (Xb1.ty t_a0) (Phi.le Wb1 skb1) (fun ri5 ty3 pl2 => ?_)
        have ri6 : 0 ≤ ivb1 a0 2 ∧ ivb1 a0 2 ≤ 4000 := Wb1.int ty3 2
        refine d_callV (As := [.int (iI (ivb1 rb1 k.toNat))]) (rest := []) C hM (C_add_4 (a0 := a0) (x := ivb1 rb1 k.toNat) Wb1 skb1 ty3 (by omega) ) dX1_addAll_17 kV_X1_26 rfl ty3 rfl rfl (by decide) ck_2 rfl (Nat.le_of_ble_eq_true rfl) ⟨(Nat.le_of_ble_eq_true rfl), (Nat.le_of_ble_eq_true rfl)⟩ hph pl2 (show 0 + 0 = 0 from rfl) (by decide) (fun rh1 Lh1 clh1 lnh1 ivh1 rvh1 h1 => ?_)
        obtain ⟨rfl, xl1, fl1, W1, exf1⟩ := h1
        refine hv3 (Fb1.call Xb1 fl1 rfl) (Xb1.trans xl1) (xl1.skl skb1) (fun F1 X1 sk1 => ?_)
        refine c_st (st2 := []) rfl ?_
        refine hv2 (xl1.ty ty3) (show ((ivh1 a0 2 = ivb1 a0 2 ∧ ivb1 a0 2 = 4000) ∨ (ivh1 a0 2 = ivb1 a0 2 + 1 ∧ ivb1 a0 2 < 4000)) from exf1) (fun ty4 gf1 => ?_)
        have ri7 : 0 ≤ ivh1 a0 2 ∧ ivh1 a0 2 ≤ 4000 := W1.int ty4 2
        refine c_iinc (z := k) (j := 0) (lv2 := [(2, .int (iI (k + 1))), (0, .ref a0), (1, .ref a1)]) C dX1_addAll_20 rfl (by decide) rfl ?_
        refine c_goto (tgt := 2) C dX1_addAll_23 (by decide) ?_
        refine c_lv (lv2 := [(2, .int (iI (k + 1))), (0, .ref a0), (1, .ref a1)]) [0, 1, 2] rfl ?_
        exact ih1  (k + 1) _ _ _ _ _ (by omega) X1 W1 F1  (by omega) (by show ivh1 a0 2 = min (iv a0 2 + (k + 1)) 4000; omega)
  refine c_lv (lv2 := [(2, .int (iI 0)), (0, .ref a0), (1, .ref a1)]) [0, 1, 2] rfl ?_
  exact Lp1 4003 0 _ _ _ _ _ (by omega) hX0 hW hF0  (by omega) (by show iv a0 2 = min (iv a0 2 + 0) 4000; omega)
set_option maxHeartbeats 4000000 in
set_option maxRecDepth 100000 in
theorem C_lends {l : Launch} {G : GT} {mi : Nat} {sk : Nat → Nat} {L : List Nat} {cl ln : Nat → Nat} {iv : Nat → Nat → Int} {rv : Nat → Nat → Option Nat}  {a0 : Nat} {x : Int} (hW : WT (g0 G) sk L cl ln iv rv) (hS : SKL sk L cl) (t_a0 : ty L cl a0 19) (h_x : -2147483648 ≤ x ∧ x ≤ 2147483647)  : Mc l G mi (Phi (g0 G) sk) PHM yX2_endsWith cX2_endsWith 2 (some .boolean) 0 [.ref a0, .int (iI x)] L cl ln iv rv 0 (fun v L2 cl2 ln2 iv2 rv2 => ∃ f : Int, v = some (.int (iI f)) ∧ L = L2 ∧ cl = cl2 ∧ ln = ln2 ∧ iv = iv2 ∧ rv = rv2 ∧ (f = 0 ∨ f = 1) ∧ (f = 0 ∨ 0 < iv a0 1)) := by
  refine Mc.mk (by decide) (Nat.le_of_ble_eq_true rfl) ?_
  intro p e s m args below meth c A C hM
  refine hv3 (Phi.le hW hS) (show XT L cl ln L cl ln from XT.refl) (show fT [] L cl iv rv iv rv from fT.refl) (fun hph hX0 hF0 => ?_)
  refine c_aload_n (j := 0) (x := a0) C dX2_endsWith_0 rfl ?_
  have ri1 : 0 ≤ iv a0 1 ∧ iv a0 1 ≤ 200 := hW.int t_a0 1
  refine c_get (k := 1) C ck_3 dX2_endsWith_1 w4_49 (by decide) t_a0 rfl rfl (by decide) rfl ?_
  refine c_if_le (tgt := 26) C (r32_c (lo := 0) (hi := 200) ri1.1 ri1.2 (by decide) (by decide)) dX2_endsWith_4 (by decide) (fun c1 => ?_) (fun c1 => ?_)
  · refine c_iconst C dX2_endsWith_26 ?_
    exact c_zret C dX2_endsWith_27 rfl (Or.inl rfl) (by decide) (rom0 hph hph (by decide)) ⟨0, rfl, rfl, rfl, rfl, rfl, rfl, (Or.inl rfl), (by omega)⟩
  · refine c_aload_n (j := 0) (x := a0) C dX2_endsWith_7 rfl ?_
    obtain ⟨rb1, rq1, trb1⟩ := hW.ref t_a0 0 rfl rfl rfl
    have lnrb1 : 200 ≤ ln rb1 ∧ ln rb1 ≤ 200 := hW.len trb1 rfl
    refine c_getr (k := 0) C ck_3 dX2_endsWith_8 w4_44 (by decide) t_a0 rfl rfl (by decide) rfl rq1 ?_
    refine c_st (st2 := [.ref rb1]) rfl ?_
    refine c_aload_n (j := 0) (x := a0) C dX2_endsWith_11 rfl ?_
    refine c_get (k := 1) C ck_3 dX2_endsWith_12 w4_49 (by decide) t_a0 rfl rfl (by decide) rfl ?_
    refine c_iconst C dX2_endsWith_15 ?_
    refine c_isub C dX2_endsWith_16 ?_
    have ll1 : 200 ≤ ln rb1 ∧ ln rb1 ≤ 200 := hW.len trb1 rfl
    refine c_iald C dX2_endsWith_17 trb1 rfl (by omega) (by omega) (by omega) ?_
    have ri2 : (-2147483648) ≤ iv rb1 (((iv a0 1) - 1).toNat) ∧ iv rb1 (((iv a0 1) - 1).toNat) ≤ 2147483647 := hW.int trb1 (((iv a0 1) - 1).toNat)
    refine c_iload_n (j := 1) C dX2_endsWith_18 rfl ?_
    refine c_icmp_ne (tgt := 26) C ⟨by omega, by omega⟩ ⟨by omega, by omega⟩ dX2_endsWith_19 (by decide) (fun c2 => ?_) (fun c2 => ?_)
    · refine c_iconst C dX2_endsWith_26 ?_
      exact c_zret C dX2_endsWith_27 rfl (Or.inl rfl) (by decide) (rom0 hph hph (by decide)) ⟨0, rfl, rfl, rfl, rfl, rfl, rfl, (Or.inl rfl), (by omega)⟩
    · refine c_iconst C dX2_endsWith_22 ?_
      refine c_goto (tgt := 27) C dX2_endsWith_23 (by decide) ?_
      exact c_zret C dX2_endsWith_27 rfl (Or.inr rfl) (by decide) (rom0 hph hph (by decide)) ⟨1, rfl, rfl, rfl, rfl, rfl, rfl, (Or.inr rfl), (by omega)⟩
end
section
set_option maxHeartbeats 4000000 in
set_option maxRecDepth 100000 in
theorem C_beginsSmall {l : Launch} {G : GT} {mi : Nat} {sk : Nat → Nat} {L : List Nat} {cl ln : Nat → Nat} {iv : Nat → Nat → Int} {rv : Nat → Nat → Option Nat}  {a0 : Nat} (hW : WT (g0 G) sk L cl ln iv rv) (hS : SKL sk L cl) (t_a0 : ty L cl a0 20)  : Mc l G mi (Phi (g0 G) sk) PHM yX5_beginsSmall cX5_beginsSmall 1 (some .boolean) 1 [.ref a0] L cl ln iv rv 0 (fun v L2 cl2 ln2 iv2 rv2 => ∃ f : Int, v = some (.int (iI f)) ∧ L = L2 ∧ cl = cl2 ∧ ln = ln2 ∧ iv = iv2 ∧ rv = rv2 ∧ (f = 0 ∨ f = 1) ∧ (True)) := by
  refine Mc.mk (by decide) (Nat.le_of_ble_eq_true rfl) ?_
  intro p e s m args below meth c A C hM
  refine hv3 (Phi.le hW hS) (show XT L cl ln L cl ln from XT.refl) (show fT [] L cl iv rv iv rv from fT.refl) (fun hph hX0 hF0 => ?_)
  refine c_aload_n (j := 0) (x := a0) C dX5_beginsSmall_0 rfl ?_
  have ri1 : (-2147483648) ≤ iv a0 0 ∧ iv a0 0 ≤ 2147483647 := hW.int t_a0 0
  refine c_get (k := 0) C ck_6 dX5_beginsSmall_1 w3_135 (by decide) t_a0 rfl rfl (by decide) rfl ?_
  refine c_iconst C dX5_beginsSmall_4 ?_
  refine c_icmp_ne (tgt := 32) C (r32_c (lo := (-2147483648)) (hi := 2147483647) ri1.1 ri1.2 (by decide) (by decide)) ⟨by decide, by decide⟩ dX5_beginsSmall_5 (by decide) (fun c1 => ?_) (fun c1 => ?_)
  · refine c_iconst C dX5_beginsSmall_32 ?_
    exact c_zret C dX5_beginsSmall_33 rfl (Or.inl rfl) (by decide) (rom0 hph hph (by decide)) ⟨0, rfl, rfl, rfl, rfl, rfl, rfl, (Or.inl rfl), trivial⟩
  · refine c_aload_n (j := 0) (x := a0) C dX5_beginsSmall_8 rfl ?_
    obtain ⟨rb1, rq1, trb1⟩ := hW.ref t_a0 1 rfl rfl rfl
    have lnrb1 : 0 ≤ ln rb1 ∧ ln rb1 ≤ 8 := hW.len trb1 rfl
    refine c_getr (k := 1) C ck_6 dX5_beginsSmall_9 w3_138 (by decide) t_a0 rfl rfl (by decide) rfl rq1 ?_
    refine c_st (st2 := [.ref rb1]) rfl ?_
    have ll1 : 0 ≤ ln rb1 ∧ ln rb1 ≤ 8 := hW.len trb1 rfl
    refine c_alenI C dX5_beginsSmall_12 trb1 rfl ?_
    refine c_if_le (tgt := 32) C ⟨by omega, by omega⟩ dX5_beginsSmall_13 (by decide) (fun c2 => ?_) (fun c2 => ?_)
    · refine c_iconst C dX5_beginsSmall_32 ?_
      exact c_zret C dX5_beginsSmall_33 rfl (Or.inl rfl) (by decide) (rom0 hph hph (by decide)) ⟨0, rfl, rfl, rfl, rfl, rfl, rfl, (Or.inl rfl), trivial⟩
    · refine c_aload_n (j := 0) (x := a0) C dX5_beginsSmall_16 rfl ?_
      refine c_getr (k := 1) C ck_6 dX5_beginsSmall_17 w3_138 (by decide) t_a0 rfl rfl (by decide) rfl rq1 ?_
      refine c_st (st2 := [.ref rb1]) rfl ?_
      refine c_iconst C dX5_beginsSmall_20 ?_
      refine c_iald C dX5_beginsSmall_21 trb1 rfl (by omega) (by omega) (by omega) ?_
      have ri2 : (-2147483648) ≤ iv rb1 ((0 : Int).toNat) ∧ iv rb1 ((0 : Int).toNat) ≤ 2147483647 := hW.int trb1 ((0 : Int).toNat)
      refine c_callSN0 (As := [.int (iI (iv rb1 (0 : Int).toNat))]) (rest := []) C (fun L E => s11_isSmall (iI (iv rb1 (0 : Int).toNat))) dX5_beginsSmall_22 kSN_X5_25 rfl rfl (Nat.le_of_ble_eq_true rfl) ⟨(Nat.le_of_ble_eq_true rfl), (Nat.le_of_ble_eq_true rfl)⟩ (rom0 hph hph (by decide)) ?_
      rcases inn_c (x := iv rb1 (0 : Int).toNat) (lo := 97) (hi := 122) ⟨by omega, by omega⟩ ⟨by decide, by decide⟩ ⟨by decide, by decide⟩ with ⟨hs1a, hs1b, hs1e⟩ | ⟨hs1a, hs1e⟩
      · refine c_st (st2 := [.int (iI 1)]) (by rw [show inn (iI (iv rb1 (0 : Int).toNat)) 97 122 = iI 1 from hs1e]) ?_
        refine c_if_eq (tgt := 32) C ⟨by decide, by decide⟩ dX5_beginsSmall_25 (by decide) (fun z => absurd z (by omega)) (fun _ => ?_)
        refine c_iconst C dX5_beginsSmall_28 ?_
        refine c_goto (tgt := 33) C dX5_beginsSmall_29 (by decide) ?_
        exact c_zret C dX5_beginsSmall_33 rfl (Or.inr rfl) (by decide) (rom0 hph hph (by decide)) ⟨1, rfl, rfl, rfl, rfl, rfl, rfl, (Or.inr rfl), trivial⟩
      · refine c_st (st2 := [.int (iI 0)]) (by rw [show inn (iI (iv rb1 (0 : Int).toNat)) 97 122 = iI 0 from hs1e]) ?_
        refine c_if_eq (tgt := 32) C ⟨by decide, by decide⟩ dX5_beginsSmall_25 (by decide) (fun _ => ?_) (fun z => absurd z (by omega))
        refine c_iconst C dX5_beginsSmall_32 ?_
        exact c_zret C dX5_beginsSmall_33 rfl (Or.inl rfl) (by decide) (rom0 hph hph (by decide)) ⟨0, rfl, rfl, rfl, rfl, rfl, rfl, (Or.inl rfl), trivial⟩
set_option maxHeartbeats 4000000 in
set_option maxRecDepth 100000 in
theorem C_alike {l : Launch} {G : GT} {mi : Nat} {sk : Nat → Nat} {L : List Nat} {cl ln : Nat → Nat} {iv : Nat → Nat → Int} {rv : Nat → Nat → Option Nat}  {a0 : Nat} {a1 : Nat} (hW : WT (g0 G) sk L cl ln iv rv) (hS : SKL sk L cl) (t_a0 : ty L cl a0 20) (t_a1 : ty L cl a1 20)  : Mc l G mi (Phi (g0 G) sk) PHM yX5_alike cX5_alike 4 (some .int) 1 [.ref a0, .ref a1] L cl ln iv rv 0 (fun v L2 cl2 ln2 iv2 rv2 => ∃ f : Int, v = some (.int (iI f)) ∧ L = L2 ∧ cl = cl2 ∧ ln = ln2 ∧ iv = iv2 ∧ rv = rv2 ∧ (-2147483648 ≤ f ∧ f ≤ 2147483647) ∧ (0 ≤ f ∧ f ≤ 4)) := by
  refine Mc.mk (by decide) (Nat.le_of_ble_eq_true rfl) ?_
  intro p e s m args below meth c A C hM
  refine hv3 (Phi.le hW hS) (show XT L cl ln L cl ln from XT.refl) (show fT [] L cl iv rv iv rv from fT.refl) (fun hph hX0 hF0 => ?_)
  refine c_aload_n (j := 0) (x := a0) C dX5_alike_0 rfl ?_
  obtain ⟨rb1, rq1, trb1⟩ := hW.ref t_a0 2 rfl rfl rfl
  have lnrb1 : 1 ≤ ln rb1 ∧ ln rb1 ≤ 4 := hW.len trb1 rfl
  refine c_getr (k := 2) C ck_6 dX5_alike_1 w3_142 (by decide) t_a0 rfl rfl (by decide) rfl rq1 ?_
  refine c_st (st2 := [.ref rb1]) rfl ?_
  have ll1 : 1 ≤ ln rb1 ∧ ln rb1 ≤ 4 := hW.len trb1 rfl
  refine c_alenI C dX5_alike_4 trb1 rfl ?_
  refine c_aload_n (j := 1) (x := a1) C dX5_alike_5 rfl ?_
  obtain ⟨rb2, rq2, trb2⟩ := hW.ref t_a1 2 rfl rfl rfl
  have lnrb2 : 1 ≤ ln rb2 ∧ ln rb2 ≤ 4 := hW.len trb2 rfl
  refine c_getr (k := 2) C ck_6 dX5_alike_6 w3_142 (by decide) t_a1 rfl rfl (by decide) rfl rq2 ?_
  refine c_st (st2 := [.ref rb2, .int (iI ((ln rb1 : Nat) : Int))]) rfl ?_
  have ll2 : 1 ≤ ln rb2 ∧ ln rb2 ≤ 4 := hW.len trb2 rfl
  refine c_alenI C dX5_alike_9 trb2 rfl ?_
  obtain ⟨mn1, hmn1, emn1⟩ := mmin_c (x := ((ln rb1 : Nat) : Int)) (y := ((ln rb2 : Nat) : Int)) ⟨by omega, by omega⟩ ⟨by omega, by omega⟩
  refine c_mmin (w := iI mn1) C dX5_alike_10 w5_205 w2_129 w1_14 w2_130 (by decide) (rom0 hph hph (by decide)) (Nat.le_of_ble_eq_true rfl) emn1 ?_
  refine c_istore_n (lv2 := [(2, .int (iI mn1)), (0, .ref a0), (1, .ref a1)]) C dX5_alike_13 (by decide) rfl ?_
  refine c_iconst C dX5_alike_14 ?_
  refine c_istore_n (lv2 := [(3, .int (iI 0)), (2, .int (iI mn1)), (0, .ref a0), (1, .ref a1)]) C dX5_alike_15 (by decide) rfl ?_
  have Lp1 : ∀ (nn : Nat) (k : Int) , 5 - k < (nn : Int) → (0 ≤ k ∧ k ≤ 4) → cw p l e 1 ((PHM) + 0 - ((Phi (g0 G) sk) ln rv)) s m args below meth c G A 4 (MQ below (Qu G A (Qp G (Phi (g0 G) sk) ((Phi (g0 G) sk) ln rv) 0 (fun v L2 cl2 ln2 iv2 rv2 => ∃ f : Int, v = some (.int (iI f)) ∧ L = L2 ∧ cl = cl2 ∧ ln = ln2 ∧ iv = iv2 ∧ rv = rv2 ∧ (-2147483648 ≤ f ∧ f ≤ 2147483647) ∧ (0 ≤ f ∧ f ≤ 4)))) args s (((PHM) + 0 - ((Phi (g0 G) sk) ln rv)) / 16) ((PHM) + 0 - ((Phi (g0 G) sk) ln rv)) A) (Phi (g0 G) sk) ((Phi (g0 G) sk) ln rv) L cl ln iv rv 0 16 [(3, .int (iI k)), (2, .int (iI mn1)), (0, .ref a0), (1, .ref a1)] [] := by
    intro nn
    induction nn with
    | zero =>
      intro  k  hm   hk
      exact absurd hm (by omega)
    | succ nn ih1 =>
      intro  k  hm   hk
      refine c_iload_n (j := 0) C dX5_alike_16 rfl ?_
      refine c_iload_n (j := 1) C dX5_alike_17 rfl ?_
      refine c_icmp_ge (tgt := 44) C (r32_c (lo := 0) (hi := 4) hk.1 hk.2 (by decide) (by decide)) ⟨by omega, by omega⟩ dX5_alike_18 (by decide) (fun c1 => ?_) (fun c1 => ?_)
      · refine c_iload_n (j := 1) C dX5_alike_44 rfl ?_
        exact c_iret C dX5_alike_45 rfl (by decide) (rom0 hph hph (by decide)) ⟨mn1, rfl, rfl, rfl, rfl, rfl, rfl, ⟨by omega, by omega⟩, (by omega)⟩
      · refine c_aload_n (j := 2) (x := a0) C dX5_alike_21 rfl ?_
        refine c_getr (k := 2) C ck_6 dX5_alike_22 w3_142 (by decide) t_a0 rfl rfl (by decide) rfl rq1 ?_
        refine c_st (st2 := [.ref rb1]) rfl ?_
        refine c_iload_n (j := 0) C dX5_alike_25 rfl ?_
        refine c_iald C dX5_alike_26 trb1 rfl (by omega) (by omega) (by omega) ?_
        have ri1 : (-2147483648) ≤ iv rb1 k.toNat ∧ iv rb1 k.toNat ≤ 2147483647 := hW.int trb1 k.toNat
        refine c_aload_n (j := 3) (x := a1) C dX5_alike_27 rfl ?_
        refine c_getr (k := 2) C ck_6 dX5_alike_28 w3_142 (by decide) t_a1 rfl rfl (by decide) rfl rq2 ?_
        refine c_st (st2 := [.ref rb2, .int (iI (iv rb1 k.toNat))]) rfl ?_
        refine c_iload_n (j := 0) C dX5_alike_31 rfl ?_
        refine c_iald C dX5_alike_32 trb2 rfl (by omega) (by omega) (by omega) ?_
        have ri2 : (-2147483648) ≤ iv rb2 k.toNat ∧ iv rb2 k.toNat ≤ 2147483647 := hW.int trb2 k.toNat
        refine c_icmp_eq (tgt := 38) C (r32_c (lo := (-2147483648)) (hi := 2147483647) ri1.1 ri1.2 (by decide) (by decide)) (r32_c (lo := (-2147483648)) (hi := 2147483647) ri2.1 ri2.2 (by decide) (by decide)) dX5_alike_33 (by decide) (fun c2 => ?_) (fun c2 => ?_)
        · refine c_iinc (z := k) (j := 0) (lv2 := [(3, .int (iI (k + 1))), (2, .int (iI mn1)), (0, .ref a0), (1, .ref a1)]) C dX5_alike_38 rfl (by decide) rfl ?_
          refine c_goto (tgt := 16) C dX5_alike_41 (by decide) ?_
          refine c_lv (lv2 := [(3, .int (iI (k + 1))), (2, .int (iI mn1)), (0, .ref a0), (1, .ref a1)]) [0, 1, 2, 3] rfl ?_
          exact ih1  (k + 1)  (by omega)   (by omega)
        · refine c_iload_n (j := 0) C dX5_alike_36 rfl ?_
          exact c_iret C dX5_alike_37 rfl (by decide) (rom0 hph hph (by decide)) ⟨k, rfl, rfl, rfl, rfl, rfl, rfl, ⟨by omega, by omega⟩, (by omega)⟩
  refine c_lv (lv2 := [(3, .int (iI 0)), (2, .int (iI mn1)), (0, .ref a0), (1, .ref a1)]) [0, 1, 2, 3] rfl ?_
  exact Lp1 6 0  (by omega)   (by omega)
set_option maxHeartbeats 4000000 in
set_option maxRecDepth 100000 in
theorem C_isAtBegin {l : Launch} {G : GT} {mi : Nat} {sk : Nat → Nat} {L : List Nat} {cl ln : Nat → Nat} {iv : Nat → Nat → Int} {rv : Nat → Nat → Option Nat}  {a0 : Nat} {a1 : Nat} (hW : WT (g0 G) sk L cl ln iv rv) (hS : SKL sk L cl) (t_a0 : ty L cl a0 20) (t_a1 : ty L cl a1 20)  : Mc l G mi (Phi (g0 G) sk) PHM yX5_isAtBeginOf cX5_isAtBeginOf 2 (some .boolean) 2 [.ref a0, .ref a1] L cl ln iv rv 0 (fun v L2 cl2 ln2 iv2 rv2 => ∃ f : Int, v = some (.int (iI f)) ∧ L = L2 ∧ cl = cl2 ∧ ln = ln2 ∧ iv = iv2 ∧ rv = rv2 ∧ (f = 0 ∨ f = 1) ∧ (True)) := by
  refine Mc.mk (by decide) (Nat.le_of_ble_eq_true rfl) ?_
  intro p e s m args below meth c A C hM
  refine hv3 (Phi.le hW hS) (show XT L cl ln L cl ln from XT.refl) (show fT [] L cl iv rv iv rv from fT.refl) (fun hph hX0 hF0 => ?_)
  refine c_aload_n (j := 0) (x := a0) C dX5_isAtBeginOf_0 rfl ?_
  refine c_aload_n (j := 1) (x := a1) C dX5_isAtBeginOf_1 rfl ?_
  refine d_callV (As := [.ref a1]) (rest := []) C hM (C_alike (a0 := a0) (a1 := a1) hW hS t_a0 t_a1  ) dX5_isAtBeginOf_2 kV_X5_35 rfl t_a0 rfl rfl (by decide) ck_6 rfl (Nat.le_of_ble_eq_true rfl) ⟨(Nat.le_of_ble_eq_true rfl), (Nat.le_of_ble_eq_true rfl)⟩ hph hph (show 0 + 0 = 0 from rfl) (by decide) (fun rh1 Lh1 clh1 lnh1 ivh1 rvh1 h1 => ?_)
  obtain ⟨f1, rfl, rfl, rfl, rfl, rfl, rfl, rgf1, exf1⟩ := h1
  refine c_st (st2 := [.int (iI f1)]) rfl ?_
  have gf1 : 0 ≤ f1 ∧ f1 ≤ 4 := exf1
  refine c_aload_n (j := 0) (x := a0) C dX5_isAtBeginOf_5 rfl ?_
  obtain ⟨rb1, rq1, trb1⟩ := hW.ref t_a0 2 rfl rfl rfl
  have lnrb1 : 1 ≤ ln rb1 ∧ ln rb1 ≤ 4 := hW.len trb1 rfl
  refine c_getr (k := 2) C ck_6 dX5_isAtBeginOf_6 w3_142 (by decide) t_a0 rfl rfl (by decide) rfl rq1 ?_
  refine c_st (st2 := [.ref rb1, .int (iI f1)]) rfl ?_
  have ll1 : 1 ≤ ln rb1 ∧ ln rb1 ≤ 4 := hW.len trb1 rfl
  refine c_alenI C dX5_isAtBeginOf_9 trb1 rfl ?_
  refine c_icmp_ne (tgt := 17) C (r32_c (lo := 0) (hi := 4) gf1.1 gf1.2 (by decide) (by decide)) ⟨by omega, by omega⟩ dX5_isAtBeginOf_10 (by decide) (fun c1 => ?_) (fun c1 => ?_)
  · refine c_iconst C dX5_isAtBeginOf_17 ?_
    exact c_zret C dX5_isAtBeginOf_18 rfl (Or.inl rfl) (by decide) (rom0 hph hph (by decide)) ⟨0, rfl, rfl, rfl, rfl, rfl, rfl, (Or.inl rfl), trivial⟩
  · refine c_iconst C dX5_isAtBeginOf_13 ?_
    refine c_goto (tgt := 18) C dX5_isAtBeginOf_14 (by decide) ?_
    exact c_zret C dX5_isAtBeginOf_18 rfl (Or.inr rfl) (by decide) (rom0 hph hph (by decide)) ⟨1, rfl, rfl, rfl, rfl, rfl, rfl, (Or.inr rfl), trivial⟩
set_option maxHeartbeats 4000000 in
set_option maxRecDepth 100000 in
theorem C_rends {l : Launch} {G : GT} {mi : Nat} {sk : Nat → Nat} {L : List Nat} {cl ln : Nat → Nat} {iv : Nat → Nat → Int} {rv : Nat → Nat → Option Nat}  {a0 : Nat} {x : Int} (hW : WT (g0 G) sk L cl ln iv rv) (hS : SKL sk L cl) (t_a0 : ty L cl a0 20) (h_x : -2147483648 ≤ x ∧ x ≤ 2147483647)  : Mc l G mi (Phi (g0 G) sk) PHM yX5_endsWith cX5_endsWith 2 (some .boolean) 0 [.ref a0, .int (iI x)] L cl ln iv rv 0 (fun v L2 cl2 ln2 iv2 rv2 => ∃ f : Int, v = some (.int (iI f)) ∧ L = L2 ∧ cl = cl2 ∧ ln = ln2 ∧ iv = iv2 ∧ rv = rv2 ∧ (f = 0 ∨ f = 1) ∧ (True)) := by
  refine Mc.mk (by decide) (Nat.le_of_ble_eq_true rfl) ?_
  intro p e s m args below meth c A C hM
  refine hv3 (Phi.le hW hS) (show XT L cl ln L cl ln from XT.refl) (show fT [] L cl iv rv iv rv from fT.refl) (fun hph hX0 hF0 => ?_)
  refine c_aload_n (j := 0) (x := a0) C dX5_endsWith_0 rfl ?_
  obtain ⟨rb1, rq1, trb1⟩ := hW.ref t_a0 2 rfl rfl rfl
  have lnrb1 : 1 ≤ ln rb1 ∧ ln rb1 ≤ 4 := hW.len trb1 rfl
  refine c_getr (k := 2) C ck_6 dX5_endsWith_1 w3_142 (by decide) t_a0 rfl rfl (by decide) rfl rq1 ?_
  refine c_st (st2 := [.ref rb1]) rfl ?_
  have ll1 : 1 ≤ ln rb1 ∧ ln rb1 ≤ 4 := hW.len trb1 rfl
  refine c_alenI C dX5_endsWith_4 trb1 rfl ?_
  refine c_if_le (tgt := 28) C ⟨by omega, by omega⟩ dX5_endsWith_5 (by decide) (fun c1 => ?_) (fun c1 => ?_)
  · refine c_iconst C dX5_endsWith_28 ?_
    exact c_zret C dX5_endsWith_29 rfl (Or.inl rfl) (by decide) (rom0 hph hph (by decide)) ⟨0, rfl, rfl, rfl, rfl, rfl, rfl, (Or.inl rfl), trivial⟩
  · refine c_aload_n (j := 0) (x := a0) C dX5_endsWith_8 rfl ?_
    refine c_getr (k := 2) C ck_6 dX5_endsWith_9 w3_142 (by decide) t_a0 rfl rfl (by decide) rfl rq1 ?_
    refine c_st (st2 := [.ref rb1]) rfl ?_
    refine c_aload_n (j := 0) (x := a0) C dX5_endsWith_12 rfl ?_
    refine c_getr (k := 2) C ck_6 dX5_endsWith_13 w3_142 (by decide) t_a0 rfl rfl (by decide) rfl rq1 ?_
    refine c_st (st2 := [.ref rb1, .ref rb1]) rfl ?_
    refine c_alenI C dX5_endsWith_16 trb1 rfl ?_
    refine c_iconst C dX5_endsWith_17 ?_
    refine c_isub C dX5_endsWith_18 ?_
    refine c_iald C dX5_endsWith_19 trb1 rfl (by omega) (by omega) (by omega) ?_
    have ri1 : (-2147483648) ≤ iv rb1 ((((ln rb1 : Nat) : Int) - 1).toNat) ∧ iv rb1 ((((ln rb1 : Nat) : Int) - 1).toNat) ≤ 2147483647 := hW.int trb1 ((((ln rb1 : Nat) : Int) - 1).toNat)
    refine c_iload_n (j := 1) C dX5_endsWith_20 rfl ?_
    refine c_icmp_ne (tgt := 28) C ⟨by omega, by omega⟩ ⟨by omega, by omega⟩ dX5_endsWith_21 (by decide) (fun c2 => ?_) (fun c2 => ?_)
    · refine c_iconst C dX5_endsWith_28 ?_
      exact c_zret C dX5_endsWith_29 rfl (Or.inl rfl) (by decide) (rom0 hph hph (by decide)) ⟨0, rfl, rfl, rfl, rfl, rfl, rfl, (Or.inl rfl), trivial⟩
    · refine c_iconst C dX5_endsWith_24 ?_
      refine c_goto (tgt := 29) C dX5_endsWith_25 (by decide) ?_
      exact c_zret C dX5_endsWith_29 rfl (Or.inr rfl) (by decide) (rom0 hph hph (by decide)) ⟨1, rfl, rfl, rfl, rfl, rfl, rfl, (Or.inr rfl), trivial⟩
set_option maxHeartbeats 4000000 in
set_option maxRecDepth 100000 in
theorem C_standsAt {l : Launch} {G : GT} {mi : Nat} {sk : Nat → Nat} {L : List Nat} {cl ln : Nat → Nat} {iv : Nat → Nat → Int} {rv : Nat → Nat → Option Nat}  {a0 : Nat} {a1 : Nat} {i : Int} (hW : WT (g0 G) sk L cl ln iv rv) (hS : SKL sk L cl) (t_a0 : ty L cl a0 20) (t_a1 : ty L cl a1 8) (h_i : -2147483648 ≤ i ∧ i ≤ 2147483647)  : Mc l G mi (Phi (g0 G) sk) PHM yX5_standsAt cX5_standsAt 4 (some .boolean) 0 [.ref a0, .ref a1, .int (iI i)] L cl ln iv rv 0 (fun v L2 cl2 ln2 iv2 rv2 => ∃ f : Int, v = some (.int (iI f)) ∧ L = L2 ∧ cl = cl2 ∧ ln = ln2 ∧ iv = iv2 ∧ rv = rv2 ∧ (f = 0 ∨ f = 1) ∧ (True)) := by
  refine Mc.mk (by decide) (Nat.le_of_ble_eq_true rfl) ?_
  intro p e s m args below meth c A C hM
  refine hv3 (Phi.le hW hS) (show XT L cl ln L cl ln from XT.refl) (show fT [] L cl iv rv iv rv from fT.refl) (fun hph hX0 hF0 => ?_)
  refine c_iload_n (j := 2) C dX5_standsAt_0 rfl ?_
  refine c_if_lt (tgt := 18) C ⟨by omega, by omega⟩ dX5_standsAt_1 (by decide) (fun c1 => ?_) (fun c1 => ?_)
  · refine c_iconst C dX5_standsAt_18 ?_
    exact c_zret C dX5_standsAt_19 rfl (Or.inl rfl) (by decide) (rom0 hph hph (by decide)) ⟨0, rfl, rfl, rfl, rfl, rfl, rfl, (Or.inl rfl), trivial⟩
  · refine c_aload_n (j := 0) (x := a0) C dX5_standsAt_4 rfl ?_
    obtain ⟨rb1, rq1, trb1⟩ := hW.ref t_a0 2 rfl rfl rfl
    have lnrb1 : 1 ≤ ln rb1 ∧ ln rb1 ≤ 4 := hW.len trb1 rfl
    refine c_getr (k := 2) C ck_6 dX5_standsAt_5 w3_142 (by decide) t_a0 rfl rfl (by decide) rfl rq1 ?_
    refine c_st (st2 := [.ref rb1]) rfl ?_
    have ll1 : 1 ≤ ln rb1 ∧ ln rb1 ≤ 4 := hW.len trb1 rfl
    refine c_alenI C dX5_standsAt_8 trb1 rfl ?_
    refine c_aload_n (j := 1) (x := a1) C dX5_standsAt_9 rfl ?_
    have ri1 : 0 ≤ iv a1 2 ∧ iv a1 2 ≤ 40200 := hW.int t_a1 2
    refine c_get (k := 2) C ck_2 dX5_standsAt_10 w1_46 (by decide) t_a1 rfl rfl (by decide) rfl ?_
    refine c_iload_n (j := 2) C dX5_standsAt_13 rfl ?_
    refine c_isub C dX5_standsAt_14 ?_
    refine c_icmp_le (tgt := 20) C ⟨by omega, by omega⟩ ⟨by omega, by omega⟩ dX5_standsAt_15 (by decide) (fun c2 => ?_) (fun c2 => ?_)
    · refine c_iconst C dX5_standsAt_20 ?_
      refine c_istore_n (lv2 := [(3, .int (iI 0)), (0, .ref a0), (1, .ref a1), (2, .int (iI i))]) C dX5_standsAt_21 (by decide) rfl ?_
      have Lp1 : ∀ (nn : Nat) (k : Int) , 5 - k < (nn : Int) → (0 ≤ k ∧ k ≤ 4) → (0 ≤ i) → cw p l e 0 ((PHM) + 0 - ((Phi (g0 G) sk) ln rv)) s m args below meth c G A 4 (MQ below (Qu G A (Qp G (Phi (g0 G) sk) ((Phi (g0 G) sk) ln rv) 0 (fun v L2 cl2 ln2 iv2 rv2 => ∃ f : Int, v = some (.int (iI f)) ∧ L = L2 ∧ cl = cl2 ∧ ln = ln2 ∧ iv = iv2 ∧ rv = rv2 ∧ (f = 0 ∨ f = 1) ∧ (True)))) args s (((PHM) + 0 - ((Phi (g0 G) sk) ln rv)) / 16) ((PHM) + 0 - ((Phi (g0 G) sk) ln rv)) A) (Phi (g0 G) sk) ((Phi (g0 G) sk) ln rv) L cl ln iv rv 0 22 [(3, .int (iI k)), (0, .ref a0), (1, .ref a1), (2, .int (iI i))] [] := by
        intro nn
        induction nn with
        | zero =>
          intro  k  hm   hk hi0
          exact absurd hm (by omega)
        | succ nn ih1 =>
          intro  k  hm   hk hi0
          refine c_iload_n (j := 0) C dX5_standsAt_22 rfl ?_
          refine c_aload_n (j := 1) (x := a0) C dX5_standsAt_23 rfl ?_
          refine c_getr (k := 2) C ck_6 dX5_standsAt_24 w3_142 (by decide) t_a0 rfl rfl (by decide) rfl rq1 ?_
          refine c_st (st2 := [.ref rb1, .int (iI k)]) rfl ?_
          refine c_alenI C dX5_standsAt_27 trb1 rfl ?_
          refine c_icmp_ge (tgt := 56) C (r32_c (lo := 0) (hi := 4) hk.1 hk.2 (by decide) (by decide)) ⟨by omega, by omega⟩ dX5_standsAt_28 (by decide) (fun c3 => ?_) (fun c3 => ?_)
          · refine c_iconst C dX5_standsAt_56 ?_
            exact c_zret C dX5_standsAt_57 rfl (Or.inr rfl) (by decide) (rom0 hph hph (by decide)) ⟨1, rfl, rfl, rfl, rfl, rfl, rfl, (Or.inr rfl), trivial⟩
          · refine c_aload_n (j := 1) (x := a0) C dX5_standsAt_31 rfl ?_
            refine c_getr (k := 2) C ck_6 dX5_standsAt_32 w3_142 (by decide) t_a0 rfl rfl (by decide) rfl rq1 ?_
            refine c_st (st2 := [.ref rb1]) rfl ?_
            refine c_iload_n (j := 0) C dX5_standsAt_35 rfl ?_
            refine c_iald C dX5_standsAt_36 trb1 rfl (by omega) (by omega) (by omega) ?_
            have ri2 : (-2147483648) ≤ iv rb1 k.toNat ∧ iv rb1 k.toNat ≤ 2147483647 := hW.int trb1 k.toNat
            refine c_aload_n (j := 2) (x := a1) C dX5_standsAt_37 rfl ?_
            obtain ⟨rb2, rq2, trb2⟩ := hW.ref t_a1 1 rfl rfl rfl
            refine hv2 (show 16 ≤ ln rb2 ∧ ln rb2 ≤ 80400 from hW.len trb2 rfl) (hW.isz t_a1 rfl rfl rq2) (fun lnrb2 szrb2 => ?_)
            refine c_getr (k := 1) C ck_2 dX5_standsAt_38 w1_40 (by decide) t_a1 rfl rfl (by decide) rfl rq2 ?_
            refine c_st (st2 := [.ref rb2, .int (iI (iv rb1 k.toNat))]) rfl ?_
            refine c_iload_n (j := 3) C dX5_standsAt_41 rfl ?_
            refine c_iload_n (j := 0) C dX5_standsAt_42 rfl ?_
            refine c_iadd C dX5_standsAt_43 ?_
            have ll2 : 16 ≤ ln rb2 ∧ ln rb2 ≤ 80400 := hW.len trb2 rfl
            refine c_iald C dX5_standsAt_44 trb2 rfl (by omega) (by omega) (by omega) ?_
            have ri3 : (-2147483648) ≤ iv rb2 ((i + k).toNat) ∧ iv rb2 ((i + k).toNat) ≤ 2147483647 := hW.int trb2 ((i + k).toNat)
            refine c_icmp_eq (tgt := 50) C (r32_c (lo := (-2147483648)) (hi := 2147483647) ri2.1 ri2.2 (by decide) (by decide)) ⟨by omega, by omega⟩ dX5_standsAt_45 (by decide) (fun c4 => ?_) (fun c4 => ?_)
            · refine c_iinc (z := k) (j := 0) (lv2 := [(3, .int (iI (k + 1))), (0, .ref a0), (1, .ref a1), (2, .int (iI i))]) C dX5_standsAt_50 rfl (by decide) rfl ?_
              refine c_goto (tgt := 22) C dX5_standsAt_53 (by decide) ?_
              refine c_lv (lv2 := [(3, .int (iI (k + 1))), (0, .ref a0), (1, .ref a1), (2, .int (iI i))]) [0, 1, 2, 3] rfl ?_
              exact ih1  (k + 1)  (by omega)   (by omega) (by omega)
            · refine c_iconst C dX5_standsAt_48 ?_
              exact c_zret C dX5_standsAt_49 rfl (Or.inl rfl) (by decide) (rom0 hph hph (by decide)) ⟨0, rfl, rfl, rfl, rfl, rfl, rfl, (Or.inl rfl), trivial⟩
      refine c_lv (lv2 := [(3, .int (iI 0)), (0, .ref a0), (1, .ref a1), (2, .int (iI i))]) [0, 1, 2, 3] rfl ?_
      exact Lp1 6 0  (by omega)   (by omega) (by omega)
    · refine c_iconst C dX5_standsAt_18 ?_
      exact c_zret C dX5_standsAt_19 rfl (Or.inl rfl) (by decide) (rom0 hph hph (by decide)) ⟨0, rfl, rfl, rfl, rfl, rfl, rfl, (Or.inl rfl), trivial⟩
set_option maxHeartbeats 4000000 in
set_option maxRecDepth 100000 in
theorem C_wl_10 {l : Launch} {G : GT} {mi : Nat} {sk : Nat → Nat} {L : List Nat} {cl ln : Nat → Nat} {iv : Nat → Nat → Int} {rv : Nat → Nat → Option Nat}  {a0 : Nat} {a1 : Nat} {g : Int} (hW : WT (g0 G) sk L cl ln iv rv) (hS : SKL sk L cl) (t_a0 : ty L cl a0 20) (t_a1 : ty L cl a1 10) (h_g : -2147483648 ≤ g ∧ g ≤ 2147483647)  : Mc l G mi (Phi (g0 G) sk) PHM yX5_writeLetters cX5_writeLetters 4 none 3 [.ref a0, .ref a1, .int (iI g)] L cl ln iv rv 0 (fun v L2 cl2 ln2 iv2 rv2 => v = none ∧ XT L cl ln L2 cl2 ln2 ∧ fT [10, 40] L cl iv rv iv2 rv2 ∧ WT (g0 G) sk L2 cl2 ln2 iv2 rv2 ∧ (True)) := by
  refine Mc.mk (by decide) (Nat.le_of_ble_eq_true rfl) ?_
  intro p e s m args below meth c A C hM
  refine hv3 (Phi.le hW hS) (show XT L cl ln L cl ln from XT.refl) (show fT [10, 40] L cl iv rv iv rv from fT.refl) (fun hph hX0 hF0 => ?_)
  refine c_iconst C dX5_writeLetters_0 ?_
  refine c_istore_n (lv2 := [(3, .int (iI 0)), (0, .ref a0), (1, .ref a1), (2, .int (iI g))]) C dX5_writeLetters_1 (by decide) rfl ?_
  have Lp1 : ∀ (nn : Nat) (k : Int) (Lb1 : List Nat) (clb1 lnb1 : Nat → Nat) (ivb1 : Nat → Nat → Int) (rvb1 : Nat → Nat → Option Nat) , 9 - k < (nn : Int) → XT L cl ln Lb1 clb1 lnb1 → WT (g0 G) sk Lb1 clb1 lnb1 ivb1 rvb1 → fT [10, 40] L cl iv rv ivb1 rvb1 → (0 ≤ k ∧ k ≤ 8) → cw p l e 3 ((PHM) + 0 - ((Phi (g0 G) sk) ln rv)) s m args below meth c G A 4 (MQ below (Qu G A (Qp G (Phi (g0 G) sk) ((Phi (g0 G) sk) ln rv) 0 (fun v L2 cl2 ln2 iv2 rv2 => v = none ∧ XT L cl ln L2 cl2 ln2 ∧ fT [10, 40] L cl iv rv iv2 rv2 ∧ WT (g0 G) sk L2 cl2 ln2 iv2 rv2 ∧ (True)))) args s (((PHM) + 0 - ((Phi (g0 G) sk) ln rv)) / 16) ((PHM) + 0 - ((Phi (g0 G) sk) ln rv)) A) (Phi (g0 G) sk) ((Phi (g0 G) sk) ln rv) Lb1 clb1 lnb1 ivb1 rvb1 0 2 [(3, .int (iI k)), (0, .ref a0), (1, .ref a1), (2, .int (iI g))] [] := by
    intro nn
    induction nn with
    | zero =>
      intro  k Lb1 clb1 lnb1 ivb1 rvb1 hm Xb1 Wb1 Fb1  hk
      have skb1 := Xb1.skl hS
      exact absurd hm (by omega)
    | succ nn ih1 =>
      intro  k Lb1 clb1 lnb1 ivb1 rvb1 hm Xb1 Wb1 Fb1  hk
      have skb1 := Xb1.skl hS
      refine c_iload_n (j := 0) C dX5_writeLetters_2 rfl ?_
      refine c_aload_n (j := 1) (x := a0) C dX5_writeLetters_3 rfl ?_
      have ty1 := Xb1.ty t_a0
      obtain ⟨rb1, rq1, trb1⟩ := Wb1.ref ty1 1 rfl rfl rfl
      have lnrb1 : 0 ≤ lnb1 rb1 ∧ lnb1 rb1 ≤ 8 := Wb1.len trb1 rfl
      refine c_getr (k := 1) C ck_6 dX5_writeLetters_4 w3_138 (by decide) ty1 rfl rfl (by decide) rfl rq1 ?_
      refine c_st (st2 := [.ref rb1, .int (iI k)]) rfl ?_
      have ll1 : 0 ≤ lnb1 rb1 ∧ lnb1 rb1 ≤ 8 := Wb1.len trb1 rfl
      refine c_alenI C dX5_writeLetters_7 trb1 rfl ?_
      refine c_icmp_ge (tgt := 47) C (r32_c (lo := 0) (hi := 8) hk.1 hk.2 (by decide) (by decide)) ⟨by omega, by omega⟩ dX5_writeLetters_8 (by decide) (fun c1 => ?_) (fun c1 => ?_)
      · have pl1 := Phi.le Wb1 skb1
        exact c_vret C dX5_writeLetters_47 rfl (by decide) (rom0 hph pl1 (by decide)) ⟨rfl, Xb1, Fb1, Wb1, trivial⟩
      · refine c_aload_n (j := 2) (x := a1) C dX5_writeLetters_11 rfl ?_
        refine c_iload_n (j := 0) C dX5_writeLetters_12 rfl ?_
        refine c_if_ne (tgt := 32) C (r32_c (lo := 0) (hi := 8) hk.1 hk.2 (by decide) (by decide)) dX5_writeLetters_13 (by decide) (fun c2 => ?_) (fun c2 => ?_)
        · refine c_aload_n (j := 1) (x := a0) C dX5_writeLetters_32 rfl ?_
          refine c_getr (k := 1) C ck_6 dX5_writeLetters_33 w3_138 (by decide) ty1 rfl rfl (by decide) rfl rq1 ?_
          refine c_st (st2 := [.ref rb1, .ref a1]) rfl ?_
          refine c_iload_n (j := 0) C dX5_writeLetters_36 rfl ?_
          refine c_iald C dX5_writeLetters_37 trb1 rfl (by omega) (by omega) (by omega) ?_
          refine hv3 (show (-2147483648) ≤ ivb1 rb1 k.toNat ∧ ivb1 rb1 k.toNat ≤ 2147483647 from Wb1.int trb1 k.toNat) (Xb1.ty t_a1) (Phi.le Wb1 skb1) (fun ri1 ty2 pl2 => ?_)
          have ri2 : 0 ≤ ivb1 a1 2 ∧ ivb1 a1 2 ≤ 4001 := Wb1.int ty2 2
          refine d_callV (As := [.int (iI (ivb1 rb1 k.toNat))]) (rest := []) C hM (C_add_10 (a0 := a1) (x := ivb1 rb1 k.toNat) Wb1 skb1 ty2 (by omega) ) dX5_writeLetters_38 kV_X5_47 rfl ty2 rfl rfl (by decide) ck_2 rfl (Nat.le_of_ble_eq_true rfl) ⟨(Nat.le_of_ble_eq_true rfl), (Nat.le_of_ble_eq_true rfl)⟩ hph pl2 (show 0 + 0 = 0 from rfl) (by decide) (fun rh1 Lh1 clh1 lnh1 ivh1 rvh1 h1 => ?_)
          obtain ⟨rfl, xl1, fl1, W1, exf1⟩ := h1
          refine hv3 (Fb1.call Xb1 fl1 rfl) (Xb1.trans xl1) (xl1.skl skb1) (fun F1 X1 sk1 => ?_)
          refine c_st (st2 := []) rfl ?_
          refine hv2 (xl1.ty ty2) (show ((ivh1 a1 2 = ivb1 a1 2 ∧ ivb1 a1 2 = 4001) ∨ (ivh1 a1 2 = ivb1 a1 2 + 1 ∧ ivb1 a1 2 < 4001)) from exf1) (fun ty3 gf1 => ?_)
          have ri3 : 0 ≤ ivh1 a1 2 ∧ ivh1 a1 2 ≤ 4001 := W1.int ty3 2
          refine c_iinc (z := k) (j := 0) (lv2 := [(3, .int (iI (k + 1))), (0, .ref a0), (1, .ref a1), (2, .int (iI g))]) C dX5_writeLetters_41 rfl (by decide) rfl ?_
          refine c_goto (tgt := 2) C dX5_writeLetters_44 (by decide) ?_
          refine c_lv (lv2 := [(3, .int (iI (k + 1))), (0, .ref a0), (1, .ref a1), (2, .int (iI g))]) [0, 1, 2, 3] rfl ?_
          exact ih1  (k + 1) _ _ _ _ _ (by omega) X1 W1 F1  (by omega)
        · refine c_iload_n (j := 3) C dX5_writeLetters_16 rfl ?_
          refine c_if_eq (tgt := 32) C ⟨by omega, by omega⟩ dX5_writeLetters_17 (by decide) (fun c3 => ?_) (fun c3 => ?_)
          · refine c_aload_n (j := 1) (x := a0) C dX5_writeLetters_32 rfl ?_
            refine c_getr (k := 1) C ck_6 dX5_writeLetters_33 w3_138 (by decide) ty1 rfl rfl (by decide) rfl rq1 ?_
            refine c_st (st2 := [.ref rb1, .ref a1]) rfl ?_
            refine c_iload_n (j := 0) C dX5_writeLetters_36 rfl ?_
            refine c_iald C dX5_writeLetters_37 trb1 rfl (by omega) (by omega) (by omega) ?_
            refine hv3 (show (-2147483648) ≤ ivb1 rb1 k.toNat ∧ ivb1 rb1 k.toNat ≤ 2147483647 from Wb1.int trb1 k.toNat) (Xb1.ty t_a1) (Phi.le Wb1 skb1) (fun ri4 ty4 pl3 => ?_)
            have ri5 : 0 ≤ ivb1 a1 2 ∧ ivb1 a1 2 ≤ 4001 := Wb1.int ty4 2
            refine d_callV (As := [.int (iI (ivb1 rb1 k.toNat))]) (rest := []) C hM (C_add_10 (a0 := a1) (x := ivb1 rb1 k.toNat) Wb1 skb1 ty4 (by omega) ) dX5_writeLetters_38 kV_X5_47 rfl ty4 rfl rfl (by decide) ck_2 rfl (Nat.le_of_ble_eq_true rfl) ⟨(Nat.le_of_ble_eq_true rfl), (Nat.le_of_ble_eq_true rfl)⟩ hph pl3 (show 0 + 0 = 0 from rfl) (by decide) (fun rh2 Lh2 clh2 lnh2 ivh2 rvh2 h2 => ?_)
            obtain ⟨rfl, xl2, fl2, W2, exf2⟩ := h2
            refine hv3 (Fb1.call Xb1 fl2 rfl) (Xb1.trans xl2) (xl2.skl skb1) (fun F2 X2 sk2 => ?_)
            refine c_st (st2 := []) rfl ?_
            refine hv2 (xl2.ty ty4) (show ((ivh2 a1 2 = ivb1 a1 2 ∧ ivb1 a1 2 = 4001) ∨ (ivh2 a1 2 = ivb1 a1 2 + 1 ∧ ivb1 a1 2 < 4001)) from exf2) (fun ty5 gf2 => ?_)
            have ri6 : 0 ≤ ivh2 a1 2 ∧ ivh2 a1 2 ≤ 4001 := W2.int ty5 2
            refine c_iinc (z := k) (j := 0) (lv2 := [(3, .int (iI (k + 1))), (0, .ref a0), (1, .ref a1), (2, .int (iI g))]) C dX5_writeLetters_41 rfl (by decide) rfl ?_
            refine c_goto (tgt := 2) C dX5_writeLetters_44 (by decide) ?_
            refine c_lv (lv2 := [(3, .int (iI (k + 1))), (0, .ref a0), (1, .ref a1), (2, .int (iI g))]) [0, 1, 2, 3] rfl ?_
            exact ih1  (k + 1) _ _ _ _ _ (by omega) X2 W2 F2  (by omega)
          · refine c_aload_n (j := 1) (x := a0) C dX5_writeLetters_20 rfl ?_
            refine c_getr (k := 1) C ck_6 dX5_writeLetters_21 w3_138 (by decide) ty1 rfl rfl (by decide) rfl rq1 ?_
            refine c_st (st2 := [.ref rb1, .ref a1]) rfl ?_
            refine c_iload_n (j := 0) C dX5_writeLetters_24 rfl ?_
            refine c_iald C dX5_writeLetters_25 trb1 rfl (by omega) (by omega) (by omega) ?_
            have ri7 : (-2147483648) ≤ ivb1 rb1 k.toNat ∧ ivb1 rb1 k.toNat ≤ 2147483647 := Wb1.int trb1 k.toNat
            refine c_bipush (z := 32) C dX5_writeLetters_26 (by decide) ?_
            refine c_isub C dX5_writeLetters_28 ?_
            obtain ⟨zz1, hzz1, ezz1⟩ := iI_of (iI ((ivb1 rb1 k.toNat) - 32))
            refine c_st (st2 := [.int (iI zz1), .ref a1]) (by rw [ezz1]) ?_
            refine c_goto (tgt := 38) C dX5_writeLetters_29 (by decide) ?_
            refine hv2 (Xb1.ty t_a1) (Phi.le Wb1 skb1) (fun ty6 pl4 => ?_)
            have ri8 : 0 ≤ ivb1 a1 2 ∧ ivb1 a1 2 ≤ 4001 := Wb1.int ty6 2
            refine d_callV (As := [.int (iI zz1)]) (rest := []) C hM (C_add_10 (a0 := a1) (x := zz1) Wb1 skb1 ty6 (by omega) ) dX5_writeLetters_38 kV_X5_47 rfl ty6 rfl rfl (by decide) ck_2 rfl (Nat.le_of_ble_eq_true rfl) ⟨(Nat.le_of_ble_eq_true rfl), (Nat.le_of_ble_eq_true rfl)⟩ hph pl4 (show 0 + 0 = 0 from rfl) (by decide) (fun rh3 Lh3 clh3 lnh3 ivh3 rvh3 h3 => ?_)
            obtain ⟨rfl, xl3, fl3, W3, exf3⟩ := h3
            refine hv3 (Fb1.call Xb1 fl3 rfl) (Xb1.trans xl3) (xl3.skl skb1) (fun F3 X3 sk3 => ?_)
            refine c_st (st2 := []) rfl ?_
            refine hv2 (xl3.ty ty6) (show ((ivh3 a1 2 = ivb1 a1 2 ∧ ivb1 a1 2 = 4001) ∨ (ivh3 a1 2 = ivb1 a1 2 + 1 ∧ ivb1 a1 2 < 4001)) from exf3) (fun ty7 gf3 => ?_)
            have ri9 : 0 ≤ ivh3 a1 2 ∧ ivh3 a1 2 ≤ 4001 := W3.int ty7 2
            refine c_iinc (z := k) (j := 0) (lv2 := [(3, .int (iI (k + 1))), (0, .ref a0), (1, .ref a1), (2, .int (iI g))]) C dX5_writeLetters_41 rfl (by decide) rfl ?_
            refine c_goto (tgt := 2) C dX5_writeLetters_44 (by decide) ?_
            refine c_lv (lv2 := [(3, .int (iI (k + 1))), (0, .ref a0), (1, .ref a1), (2, .int (iI g))]) [0, 1, 2, 3] rfl ?_
            exact ih1  (k + 1) _ _ _ _ _ (by omega) X3 W3 F3  (by omega)
  refine c_lv (lv2 := [(3, .int (iI 0)), (0, .ref a0), (1, .ref a1), (2, .int (iI g))]) [0, 1, 2, 3] rfl ?_
  exact Lp1 10 0 _ _ _ _ _ (by omega) hX0 hW hF0  (by omega)
end
section
set_option maxHeartbeats 4000000 in
set_option maxRecDepth 100000 in
theorem C_sat {l : Launch} {G : GT} {mi : Nat} {sk : Nat → Nat} {L : List Nat} {cl ln : Nat → Nat} {iv : Nat → Nat → Int} {rv : Nat → Nat → Option Nat}  {a0 : Nat} {i : Int} (hW : WT (g0 G) sk L cl ln iv rv) (hS : SKL sk L cl) (t_a0 : ty L cl a0 18) (h_i : -2147483648 ≤ i ∧ i ≤ 2147483647)  : Mc l G mi (Phi (g0 G) sk) PHM yX7_at cX7_at 2 (some (.object "DotPress$Line")) 0 [.ref a0, .int (iI i)] L cl ln iv rv 0 (fun v L2 cl2 ln2 iv2 rv2 => ∃ f : Option Nat, v = some ((va_rf f)) ∧ L = L2 ∧ cl = cl2 ∧ ln = ln2 ∧ iv = iv2 ∧ rv = rv2 ∧ (∀ b, f = some b → ty L2 cl2 b 19) ∧ (f = none ∨ (0 ≤ i ∧ i < iv a0 1))) := by
  refine Mc.mk (by decide) (Nat.le_of_ble_eq_true rfl) ?_
  intro p e s m args below meth c A C hM
  refine hv3 (Phi.le hW hS) (show XT L cl ln L cl ln from XT.refl) (show fT [] L cl iv rv iv rv from fT.refl) (fun hph hX0 hF0 => ?_)
  refine c_iload_n (j := 1) C dX7_at_0 rfl ?_
  refine c_if_lt (tgt := 21) C ⟨by omega, by omega⟩ dX7_at_1 (by decide) (fun c1 => ?_) (fun c1 => ?_)
  · refine c_null C dX7_at_21 ?_
    exact c_aret (x := none) C dX7_at_22 rfl (Or.inl ⟨_, rfl⟩) (by decide) (rom0 hph hph (by decide)) ⟨none, rfl, rfl, rfl, rfl, rfl, rfl, (fun _ q => by cases q), (Or.inl rfl)⟩
  · refine c_iload_n (j := 1) C dX7_at_4 rfl ?_
    refine c_aload_n (j := 0) (x := a0) C dX7_at_5 rfl ?_
    have ri1 : 0 ≤ iv a0 1 ∧ iv a0 1 ≤ 200 := hW.int t_a0 1
    refine c_get (k := 1) C ck_8 dX7_at_6 w2_34 (by decide) t_a0 rfl rfl (by decide) rfl ?_
    refine c_icmp_ge (tgt := 21) C ⟨by omega, by omega⟩ (r32_c (lo := 0) (hi := 200) ri1.1 ri1.2 (by decide) (by decide)) dX7_at_9 (by decide) (fun c2 => ?_) (fun c2 => ?_)
    · refine c_null C dX7_at_21 ?_
      exact c_aret (x := none) C dX7_at_22 rfl (Or.inl ⟨_, rfl⟩) (by decide) (rom0 hph hph (by decide)) ⟨none, rfl, rfl, rfl, rfl, rfl, rfl, (fun _ q => by cases q), (Or.inl rfl)⟩
    · refine c_aload_n (j := 0) (x := a0) C dX7_at_12 rfl ?_
      obtain ⟨rb1, rq1, trb1⟩ := hW.ref t_a0 0 rfl rfl rfl
      have lnrb1 : 200 ≤ ln rb1 ∧ ln rb1 ≤ 200 := hW.len trb1 rfl
      refine c_getr (k := 0) C ck_8 dX7_at_13 w2_33 (by decide) t_a0 rfl rfl (by decide) rfl rq1 ?_
      refine c_st (st2 := [.ref rb1]) rfl ?_
      refine c_iload_n (j := 1) C dX7_at_16 rfl ?_
      have ll1 : 200 ≤ ln rb1 ∧ ln rb1 ≤ 200 := hW.len trb1 rfl
      rcases hW.opt trb1 (i.toNat) rfl rfl with ⟨nq1, _⟩ | ⟨nb1, nq1, tnb1⟩
      · refine c_aaldL C dX7_at_17 trb1 rfl (by omega) (by omega) (by omega) nq1 ?_
        refine c_st (st2 := [.null]) rfl ?_
        refine c_goto (tgt := 22) C dX7_at_18 (by decide) ?_
        exact c_aret (x := none) C dX7_at_22 rfl (Or.inl ⟨_, rfl⟩) (by decide) (rom0 hph hph (by decide)) ⟨none, rfl, rfl, rfl, rfl, rfl, rfl, (fun _ q => by cases q), (Or.inl rfl)⟩
      · have tnb1 : ty L cl nb1 19 := tnb1
        refine c_aaldL C dX7_at_17 trb1 rfl (by omega) (by omega) (by omega) nq1 ?_
        refine c_st (st2 := [.ref nb1]) rfl ?_
        refine c_goto (tgt := 22) C dX7_at_18 (by decide) ?_
        exact c_aret (x := some nb1) C dX7_at_22 rfl (Or.inl ⟨_, rfl⟩) (by decide) (rom0 hph hph (by decide)) ⟨(some nb1), rfl, rfl, rfl, rfl, rfl, rfl, (fun _ q => by cases q; exact tnb1), (Or.inr (by omega))⟩
set_option maxHeartbeats 4000000 in
set_option maxRecDepth 100000 in
theorem C_present {l : Launch} {G : GT} {mi : Nat} {sk : Nat → Nat} {L : List Nat} {cl ln : Nat → Nat} {iv : Nat → Nat → Int} {rv : Nat → Nat → Option Nat}  {a0 : Nat} {i : Int} (hW : WT (g0 G) sk L cl ln iv rv) (hS : SKL sk L cl) (t_a0 : ty L cl a0 18) (h_i : -2147483648 ≤ i ∧ i ≤ 2147483647)  : Mc l G mi (Phi (g0 G) sk) PHM yX7_present cX7_present 3 (some (.object "DotPress$Line")) 1 [.ref a0, .int (iI i)] L cl ln iv rv 0 (fun v L2 cl2 ln2 iv2 rv2 => ∃ f : Option Nat, v = some ((va_rf f)) ∧ L = L2 ∧ cl = cl2 ∧ ln = ln2 ∧ iv = iv2 ∧ rv = rv2 ∧ (∀ b, f = some b → ty L2 cl2 b 19) ∧ (f = none ∨ (0 ≤ i ∧ i < iv a0 1))) := by
  refine Mc.mk (by decide) (Nat.le_of_ble_eq_true rfl) ?_
  intro p e s m args below meth c A C hM
  refine hv3 (Phi.le hW hS) (show XT L cl ln L cl ln from XT.refl) (show fT [] L cl iv rv iv rv from fT.refl) (fun hph hX0 hF0 => ?_)
  refine c_aload_n (j := 0) (x := a0) C dX7_present_0 rfl ?_
  refine c_iload_n (j := 1) C dX7_present_1 rfl ?_
  have ri1 : 0 ≤ iv a0 1 ∧ iv a0 1 ≤ 200 := hW.int t_a0 1
  refine d_callV (As := [.int (iI i)]) (rest := []) C hM (C_sat (a0 := a0) (i := i) hW hS t_a0 (by omega) ) dX7_present_2 kV_X7_24 rfl t_a0 rfl rfl (by decide) ck_8 rfl (Nat.le_of_ble_eq_true rfl) ⟨(Nat.le_of_ble_eq_true rfl), (Nat.le_of_ble_eq_true rfl)⟩ hph hph (show 0 + 0 = 0 from rfl) (by decide) (fun rh1 Lh1 clh1 lnh1 ivh1 rvh1 h1 => ?_)
  obtain ⟨f1, rfl, rfl, rfl, rfl, rfl, rfl, rgf1, exf1⟩ := h1
  refine c_st (st2 := [(va_rf f1)]) rfl ?_
  have gf1 : f1 = none ∨ (0 ≤ i ∧ i < iv a0 1) := exf1
  refine c_astorer_n (r := f1) (lv2 := [(2, (va_rf f1)), (0, .ref a0), (1, .int (iI i))]) C dX7_present_5 (by decide) rfl ?_
  refine c_aloadr_n (j := 0) (r := f1) C dX7_present_6 rfl ?_
  refine c_ifnull (r := f1) (tgt := 17) C dX7_present_7 (by decide) (fun oq1 => ?_) (fun ob1 oq1 => ?_)
  · subst oq1
    refine c_lv (lv2 := [(2, .null), (0, .ref a0), (1, .int (iI i))]) [0, 1, 2] rfl ?_
    refine c_st (st2 := []) rfl ?_
    refine c_null C dX7_present_17 ?_
    refine c_goto (tgt := 22) C dX7_present_18 (by decide) ?_
    exact c_aret (x := none) C dX7_present_22 rfl (Or.inl ⟨_, rfl⟩) (by decide) (rom0 hph hph (by decide)) ⟨none, rfl, rfl, rfl, rfl, rfl, rfl, (fun _ q => by cases q), (Or.inl rfl)⟩
  · subst oq1
    have tob1 := rgf1 ob1 rfl
    refine c_lv (lv2 := [(2, .ref ob1), (0, .ref a0), (1, .int (iI i))]) [0, 1, 2] rfl ?_
    refine c_st (st2 := []) rfl ?_
    refine c_aload_n (j := 0) (x := ob1) C dX7_present_10 rfl ?_
    have ri2 : 0 ≤ iv ob1 2 ∧ iv ob1 2 ≤ 1 := hW.int tob1 2
    refine c_get (k := 2) C ck_3 dX7_present_11 w4_55 (by decide) tob1 rfl rfl (by decide) rfl ?_
    refine c_if_eq (tgt := 21) C (r32_c (lo := 0) (hi := 1) ri2.1 ri2.2 (by decide) (by decide)) dX7_present_14 (by decide) (fun c1 => ?_) (fun c1 => ?_)
    · refine c_aload_n (j := 0) (x := ob1) C dX7_present_21 rfl ?_
      exact c_aret (x := some ob1) C dX7_present_22 rfl (Or.inl ⟨_, rfl⟩) (by decide) (rom0 hph hph (by decide)) ⟨(some ob1), rfl, rfl, rfl, rfl, rfl, rfl, (fun _ q => by cases q; exact tob1), (Or.inr (by rcases gf1 with q | q; cases q; exact q))⟩
    · refine c_null C dX7_present_17 ?_
      refine c_goto (tgt := 22) C dX7_present_18 (by decide) ?_
      exact c_aret (x := none) C dX7_present_22 rfl (Or.inl ⟨_, rfl⟩) (by decide) (rom0 hph hph (by decide)) ⟨none, rfl, rfl, rfl, rfl, rfl, rfl, (fun _ q => by cases q), (Or.inl rfl)⟩
set_option maxHeartbeats 4000000 in
set_option maxRecDepth 100000 in
theorem C_whyNone {l : Launch} {G : GT} {mi : Nat} {sk : Nat → Nat} {L : List Nat} {cl ln : Nat → Nat} {iv : Nat → Nat → Int} {rv : Nat → Nat → Option Nat}  {a0 : Nat} {i : Int} (hW : WT (g0 G) sk L cl ln iv rv) (hS : SKL sk L cl) (t_a0 : ty L cl a0 18) (h_i : -2147483648 ≤ i ∧ i ≤ 2147483647)  : Mc l G mi (Phi (g0 G) sk) PHM yX7_whyNone cX7_whyNone 2 (some .int) 1 [.ref a0, .int (iI i)] L cl ln iv rv 0 (fun v L2 cl2 ln2 iv2 rv2 => ∃ f : Int, v = some (.int (iI f)) ∧ L = L2 ∧ cl = cl2 ∧ ln = ln2 ∧ iv = iv2 ∧ rv = rv2 ∧ (-2147483648 ≤ f ∧ f ≤ 2147483647) ∧ (f = 1 ∨ f = 2)) := by
  refine Mc.mk (by decide) (Nat.le_of_ble_eq_true rfl) ?_
  intro p e s m args below meth c A C hM
  refine hv3 (Phi.le hW hS) (show XT L cl ln L cl ln from XT.refl) (show fT [] L cl iv rv iv rv from fT.refl) (fun hph hX0 hF0 => ?_)
  refine c_aload_n (j := 0) (x := a0) C dX7_whyNone_0 rfl ?_
  refine c_iload_n (j := 1) C dX7_whyNone_1 rfl ?_
  have ri1 : 0 ≤ iv a0 1 ∧ iv a0 1 ≤ 200 := hW.int t_a0 1
  refine d_callV (As := [.int (iI i)]) (rest := []) C hM (C_sat (a0 := a0) (i := i) hW hS t_a0 (by omega) ) dX7_whyNone_2 kV_X7_24 rfl t_a0 rfl rfl (by decide) ck_8 rfl (Nat.le_of_ble_eq_true rfl) ⟨(Nat.le_of_ble_eq_true rfl), (Nat.le_of_ble_eq_true rfl)⟩ hph hph (show 0 + 0 = 0 from rfl) (by decide) (fun rh1 Lh1 clh1 lnh1 ivh1 rvh1 h1 => ?_)
  obtain ⟨f1, rfl, rfl, rfl, rfl, rfl, rfl, rgf1, exf1⟩ := h1
  refine c_st (st2 := [(va_rf f1)]) rfl ?_
  have gf1 : f1 = none ∨ (0 ≤ i ∧ i < iv a0 1) := exf1
  refine c_ifnonnull (r := f1) (tgt := 12) C dX7_whyNone_5 (by decide) (fun ob1 oq1 => ?_) (fun oq1 => ?_)
  · subst oq1
    have tob1 := rgf1 ob1 rfl
    refine c_lv (lv2 := [(0, .ref a0), (1, .int (iI i))]) [0, 1] rfl ?_
    refine c_st (st2 := []) rfl ?_
    refine c_iconst C dX7_whyNone_12 ?_
    exact c_iret C dX7_whyNone_13 rfl (by decide) (rom0 hph hph (by decide)) ⟨1, rfl, rfl, rfl, rfl, rfl, rfl, ⟨by decide, by decide⟩, (by omega)⟩
  · subst oq1
    refine c_lv (lv2 := [(0, .ref a0), (1, .int (iI i))]) [0, 1] rfl ?_
    refine c_st (st2 := []) rfl ?_
    refine c_iconst C dX7_whyNone_8 ?_
    refine c_goto (tgt := 13) C dX7_whyNone_9 (by decide) ?_
    exact c_iret C dX7_whyNone_13 rfl (by decide) (rom0 hph hph (by decide)) ⟨2, rfl, rfl, rfl, rfl, rfl, rfl, ⟨by decide, by decide⟩, (by omega)⟩
set_option maxHeartbeats 4000000 in
set_option maxRecDepth 100000 in
theorem C_wclear {l : Launch} {G : GT} {mi : Nat} {sk : Nat → Nat} {L : List Nat} {cl ln : Nat → Nat} {iv : Nat → Nat → Int} {rv : Nat → Nat → Option Nat}  {a0 : Nat} (hW : WT (g0 G) sk L cl ln iv rv) (hS : SKL sk L cl) (t_a0 : ty L cl a0 15)  : Mc l G mi (Phi (g0 G) sk) PHM yX6_clear cX6_clear 1 none 0 [.ref a0] L cl ln iv rv 0 (fun v L2 cl2 ln2 iv2 rv2 => v = none ∧ L = L2 ∧ cl = cl2 ∧ ln = ln2 ∧ rv = rv2 ∧ fT [15] L cl iv rv iv2 rv2 ∧ WT (g0 G) sk L2 cl2 ln2 iv2 rv2 ∧ (True)) := by
  refine Mc.mk (by decide) (Nat.le_of_ble_eq_true rfl) ?_
  intro p e s m args below meth c A C hM
  refine hv3 (Phi.le hW hS) (show XT L cl ln L cl ln from XT.refl) (show fT [15] L cl iv rv iv rv from fT.refl) (fun hph hX0 hF0 => ?_)
  refine c_aload_n (j := 0) (x := a0) C dX6_clear_0 rfl ?_
  refine c_iconst C dX6_clear_1 ?_
  refine c_put (z := 0) (k := 4) C ck_7 dX6_clear_2 w1_140 (by decide) rfl t_a0 rfl rfl (by decide) rfl (by rfl) (by rfl) (fun iv1 pq1 => ?_)
  refine hv2 (hW.puti pq1 t_a0 ⟨by decide, by decide⟩ rfl) (hF0.puti hX0 pq1 t_a0 rfl) (fun W1 F1 => ?_)
  refine c_aload_n (j := 0) (x := a0) C dX6_clear_5 rfl ?_
  refine c_iconst C dX6_clear_6 ?_
  refine c_put (z := 0) (k := 5) C ck_7 dX6_clear_7 w1_143 (by decide) rfl t_a0 rfl rfl (by decide) rfl (by decide) (by decide) (fun iv2 pq2 => ?_)
  refine hv2 (W1.puti pq2 t_a0 ⟨by decide, by decide⟩ rfl) (F1.puti hX0 pq2 t_a0 rfl) (fun W2 F2 => ?_)
  exact c_vret C dX6_clear_10 rfl (by decide) (rom0 hph hph (by decide)) ⟨rfl, rfl, rfl, rfl, rfl, F2, W2, trivial⟩
set_option maxHeartbeats 4000000 in
set_option maxRecDepth 100000 in
theorem C_put {l : Launch} {G : GT} {mi : Nat} {sk : Nat → Nat} {L : List Nat} {cl ln : Nat → Nat} {iv : Nat → Nat → Int} {rv : Nat → Nat → Option Nat}  {a0 : Nat} {x : Int} {y : Int} (hW : WT (g0 G) sk L cl ln iv rv) (hS : SKL sk L cl) (t_a0 : ty L cl a0 15) (h_x : -2147483648 ≤ x ∧ x ≤ 2147483647) (h_y : -2147483648 ≤ y ∧ y ≤ 2147483647)  : Mc l G mi (Phi (g0 G) sk) PHM yX6_put cX6_put 3 none 0 [.ref a0, .int (iI x), .int (iI y)] L cl ln iv rv 0 (fun v L2 cl2 ln2 iv2 rv2 => v = none ∧ L = L2 ∧ cl = cl2 ∧ ln = ln2 ∧ rv = rv2 ∧ fT [15, 50, 51, 52] L cl iv rv iv2 rv2 ∧ WT (g0 G) sk L2 cl2 ln2 iv2 rv2 ∧ (True)) := by
  refine Mc.mk (by decide) (Nat.le_of_ble_eq_true rfl) ?_
  intro p e s m args below meth c A C hM
  refine hv3 (Phi.le hW hS) (show XT L cl ln L cl ln from XT.refl) (show fT [15, 50, 51, 52] L cl iv rv iv rv from fT.refl) (fun hph hX0 hF0 => ?_)
  refine c_aload_n (j := 0) (x := a0) C dX6_put_0 rfl ?_
  have ri1 : 0 ≤ iv a0 4 ∧ iv a0 4 ≤ 500 := hW.int t_a0 4
  refine c_get (k := 4) C ck_7 dX6_put_1 w1_140 (by decide) t_a0 rfl rfl (by decide) rfl ?_
  refine c_sipush (z := 500) C dX6_put_4 (by decide) ?_
  refine c_icmp_lt (tgt := 11) C (r32_c (lo := 0) (hi := 500) ri1.1 ri1.2 (by decide) (by decide)) ⟨by decide, by decide⟩ dX6_put_7 (by decide) (fun c1 => ?_) (fun c1 => ?_)
  · refine c_aload_n (j := 0) (x := a0) C dX6_put_11 rfl ?_
    obtain ⟨rb1, rq1, trb1⟩ := hW.ref t_a0 0 rfl rfl rfl
    have lnrb1 : 500 ≤ ln rb1 ∧ ln rb1 ≤ 500 := hW.len trb1 rfl
    refine c_getr (k := 0) C ck_7 dX6_put_12 w1_136 (by decide) t_a0 rfl rfl (by decide) rfl rq1 ?_
    refine c_st (st2 := [.ref rb1]) rfl ?_
    refine c_aload_n (j := 0) (x := a0) C dX6_put_15 rfl ?_
    refine c_get (k := 4) C ck_7 dX6_put_16 w1_140 (by decide) t_a0 rfl rfl (by decide) rfl ?_
    refine c_iload_n (j := 1) C dX6_put_19 rfl ?_
    have ll1 : 500 ≤ ln rb1 ∧ ln rb1 ≤ 500 := hW.len trb1 rfl
    refine c_iast (x := x) C dX6_put_20 trb1 rfl (by omega) (by omega) (by omega) (fun iv1 pq1 => ?_)
    refine hv2 (hW.puti pq1 trb1 (show (-2147483648) ≤ x ∧ x ≤ 2147483647 by omega) rfl) (hF0.puti hX0 pq1 trb1 rfl) (fun W1 F1 => ?_)
    refine c_aload_n (j := 0) (x := a0) C dX6_put_21 rfl ?_
    obtain ⟨rb2, rq2, trb2⟩ := W1.ref t_a0 1 rfl rfl rfl
    have lnrb2 : 500 ≤ ln rb2 ∧ ln rb2 ≤ 500 := W1.len trb2 rfl
    refine c_getr (k := 1) C ck_7 dX6_put_22 w1_137 (by decide) t_a0 rfl rfl (by decide) rfl rq2 ?_
    refine c_st (st2 := [.ref rb2]) rfl ?_
    refine c_aload_n (j := 0) (x := a0) C dX6_put_25 rfl ?_
    refine hv2 (show 0 ≤ iv1 a0 4 ∧ iv1 a0 4 ≤ 500 from W1.int t_a0 4) (show iv1 a0 4 = iv a0 4 from by rw [pq1]; exact up2_k (ne_ty t_a0 trb1 (by decide))) (fun ri2 ie1 => ?_)
    refine c_get (k := 4) C ck_7 dX6_put_26 w1_140 (by decide) t_a0 rfl rfl (by decide) rfl ?_
    refine c_iload_n (j := 2) C dX6_put_29 rfl ?_
    have ll2 : 500 ≤ ln rb2 ∧ ln rb2 ≤ 500 := W1.len trb2 rfl
    refine c_iast (x := y) C dX6_put_30 trb2 rfl (by omega) (by omega) (by omega) (fun iv2 pq2 => ?_)
    refine hv2 (W1.puti pq2 trb2 (show (-2147483648) ≤ y ∧ y ≤ 2147483647 by omega) rfl) (F1.puti hX0 pq2 trb2 rfl) (fun W2 F2 => ?_)
    refine c_aload_n (j := 0) (x := a0) C dX6_put_31 rfl ?_
    obtain ⟨rb3, rq3, trb3⟩ := W2.ref t_a0 2 rfl rfl rfl
    have lnrb3 : 500 ≤ ln rb3 ∧ ln rb3 ≤ 500 := W2.len trb3 rfl
    refine c_getr (k := 2) C ck_7 dX6_put_32 w1_138 (by decide) t_a0 rfl rfl (by decide) rfl rq3 ?_
    refine c_st (st2 := [.ref rb3]) rfl ?_
    refine c_aload_n (j := 0) (x := a0) C dX6_put_35 rfl ?_
    refine hv2 (show 0 ≤ iv2 a0 4 ∧ iv2 a0 4 ≤ 500 from W2.int t_a0 4) (show iv2 a0 4 = iv1 a0 4 from by rw [pq2]; exact up2_k (ne_ty t_a0 trb2 (by decide))) (fun ri3 ie2 => ?_)
    refine c_get (k := 4) C ck_7 dX6_put_36 w1_140 (by decide) t_a0 rfl rfl (by decide) rfl ?_
    refine c_aload_n (j := 0) (x := a0) C dX6_put_39 rfl ?_
    refine hv3 (show 0 ≤ iv2 a0 5 ∧ iv2 a0 5 ≤ 1 from W2.int t_a0 5) (show iv2 a0 5 = iv1 a0 5 from by rw [pq2]; exact up2_k (ne_ty t_a0 trb2 (by decide))) (show iv1 a0 5 = iv a0 5 from by rw [pq1]; exact up2_k (ne_ty t_a0 trb1 (by decide))) (fun ri4 ie3 ie4 => ?_)
    refine c_get (k := 5) C ck_7 dX6_put_40 w1_143 (by decide) t_a0 rfl rfl (by decide) rfl ?_
    have ll3 : 500 ≤ ln rb3 ∧ ln rb3 ≤ 500 := W2.len trb3 rfl
    refine c_zast (x := iv2 a0 5) C dX6_put_43 trb3 rfl (by omega) (by omega) (by omega) (by omega) (fun iv3 pq3 => ?_)
    refine hv2 (W2.puti pq3 trb3 (show 0 ≤ (iv2 a0 5) ∧ (iv2 a0 5) ≤ 1 by omega) rfl) (F2.puti hX0 pq3 trb3 rfl) (fun W3 F3 => ?_)
    refine c_aload_n (j := 0) (x := a0) C dX6_put_44 rfl ?_
    refine c_iconst C dX6_put_45 ?_
    refine c_put (z := 0) (k := 5) C ck_7 dX6_put_46 w1_143 (by decide) rfl t_a0 rfl rfl (by decide) rfl (by decide) (by decide) (fun iv4 pq4 => ?_)
    refine hv2 (W3.puti pq4 t_a0 ⟨by decide, by decide⟩ rfl) (F3.puti hX0 pq4 t_a0 rfl) (fun W4 F4 => ?_)
    refine c_aload_n (j := 0) (x := a0) C dX6_put_49 rfl ?_
    refine c_dup C dX6_put_50 rfl ?_
    refine hv3 (show 0 ≤ iv4 a0 4 ∧ iv4 a0 4 ≤ 500 from W4.int t_a0 4) (show iv4 a0 4 = iv3 a0 4 from by rw [pq4]; exact up2_j (by decide)) (show iv3 a0 4 = iv2 a0 4 from by rw [pq3]; exact up2_k (ne_ty t_a0 trb3 (by decide))) (fun ri5 ie5 ie6 => ?_)
    refine c_get (k := 4) C ck_7 dX6_put_51 w1_140 (by decide) t_a0 rfl rfl (by decide) rfl ?_
    refine c_iconst C dX6_put_54 ?_
    refine c_iadd C dX6_put_55 ?_
    refine c_put (z := (iv4 a0 4) + 1) (k := 4) C ck_7 dX6_put_56 w1_140 (by decide) rfl t_a0 rfl rfl (by decide) rfl (by rfl) (by rfl) (fun iv5 pq5 => ?_)
    refine hv2 (W4.puti pq5 t_a0 (show 0 ≤ ((iv4 a0 4) + 1) ∧ ((iv4 a0 4) + 1) ≤ 500 by omega) rfl) (F4.puti hX0 pq5 t_a0 rfl) (fun W5 F5 => ?_)
    exact c_vret C dX6_put_59 rfl (by decide) (rom0 hph hph (by decide)) ⟨rfl, rfl, rfl, rfl, rfl, F5, W5, trivial⟩
  · exact c_vret C dX6_put_10 rfl (by decide) (rom0 hph hph (by decide)) ⟨rfl, rfl, rfl, rfl, rfl, hF0, hW, trivial⟩
set_option maxHeartbeats 4000000 in
set_option maxRecDepth 100000 in
theorem C_putBreak {l : Launch} {G : GT} {mi : Nat} {sk : Nat → Nat} {L : List Nat} {cl ln : Nat → Nat} {iv : Nat → Nat → Int} {rv : Nat → Nat → Option Nat}  {a0 : Nat} (hW : WT (g0 G) sk L cl ln iv rv) (hS : SKL sk L cl) (t_a0 : ty L cl a0 15)  : Mc l G mi (Phi (g0 G) sk) PHM yX6_putBreak cX6_putBreak 1 none 0 [.ref a0] L cl ln iv rv 0 (fun v L2 cl2 ln2 iv2 rv2 => v = none ∧ L = L2 ∧ cl = cl2 ∧ ln = ln2 ∧ rv = rv2 ∧ fT [15] L cl iv rv iv2 rv2 ∧ WT (g0 G) sk L2 cl2 ln2 iv2 rv2 ∧ (True)) := by
  refine Mc.mk (by decide) (Nat.le_of_ble_eq_true rfl) ?_
  intro p e s m args below meth c A C hM
  refine hv3 (Phi.le hW hS) (show XT L cl ln L cl ln from XT.refl) (show fT [15] L cl iv rv iv rv from fT.refl) (fun hph hX0 hF0 => ?_)
  refine c_aload_n (j := 0) (x := a0) C dX6_putBreak_0 rfl ?_
  refine c_iconst C dX6_putBreak_1 ?_
  refine c_put (z := 1) (k := 5) C ck_7 dX6_putBreak_2 w1_143 (by decide) rfl t_a0 rfl rfl (by decide) rfl (by decide) (by decide) (fun iv1 pq1 => ?_)
  refine hv2 (hW.puti pq1 t_a0 ⟨by decide, by decide⟩ rfl) (hF0.puti hX0 pq1 t_a0 rfl) (fun W1 F1 => ?_)
  exact c_vret C dX6_putBreak_5 rfl (by decide) (rom0 hph hph (by decide)) ⟨rfl, rfl, rfl, rfl, rfl, F1, W1, trivial⟩
set_option maxHeartbeats 4000000 in
set_option maxRecDepth 100000 in
theorem C_placeOfUnknown {l : Launch} {G : GT} {mi : Nat} {sk : Nat → Nat} {L : List Nat} {cl ln : Nat → Nat} {iv : Nat → Nat → Int} {rv : Nat → Nat → Option Nat}  {a0 : Nat} (hW : WT (g0 G) sk L cl ln iv rv) (hS : SKL sk L cl) (t_a0 : ty L cl a0 15)  : Mc l G mi (Phi (g0 G) sk) PHM yX6_placeOfUnknown cX6_placeOfUnknown 1 (some .int) 0 [.ref a0] L cl ln iv rv 0 (fun v L2 cl2 ln2 iv2 rv2 => ∃ f : Int, v = some (.int (iI f)) ∧ L = L2 ∧ cl = cl2 ∧ ln = ln2 ∧ iv = iv2 ∧ rv = rv2 ∧ (-2147483648 ≤ f ∧ f ≤ 2147483647) ∧ (True)) := by
  refine Mc.mk (by decide) (Nat.le_of_ble_eq_true rfl) ?_
  intro p e s m args below meth c A C hM
  refine hv3 (Phi.le hW hS) (show XT L cl ln L cl ln from XT.refl) (show fT [] L cl iv rv iv rv from fT.refl) (fun hph hX0 hF0 => ?_)
  refine c_aload_n (j := 0) (x := a0) C dX6_placeOfUnknown_0 rfl ?_
  have ri1 : (-2147483648) ≤ iv a0 9 ∧ iv a0 9 ≤ 2147483647 := hW.int t_a0 9
  refine c_get (k := 9) C ck_7 dX6_placeOfUnknown_1 w1_151 (by decide) t_a0 rfl rfl (by decide) rfl ?_
  refine c_if_lt (tgt := 30) C (r32_c (lo := (-2147483648)) (hi := 2147483647) ri1.1 ri1.2 (by decide) (by decide)) dX6_placeOfUnknown_4 (by decide) (fun c1 => ?_) (fun c1 => ?_)
  · refine c_iconst C dX6_placeOfUnknown_30 ?_
    exact c_iret C dX6_placeOfUnknown_31 rfl (by decide) (rom0 hph hph (by decide)) ⟨(-1), rfl, rfl, rfl, rfl, rfl, rfl, ⟨by decide, by decide⟩, trivial⟩
  · refine c_aload_n (j := 0) (x := a0) C dX6_placeOfUnknown_7 rfl ?_
    refine c_get (k := 9) C ck_7 dX6_placeOfUnknown_8 w1_151 (by decide) t_a0 rfl rfl (by decide) rfl ?_
    refine c_aload_n (j := 0) (x := a0) C dX6_placeOfUnknown_11 rfl ?_
    have ri2 : 0 ≤ iv a0 4 ∧ iv a0 4 ≤ 500 := hW.int t_a0 4
    refine c_get (k := 4) C ck_7 dX6_placeOfUnknown_12 w1_140 (by decide) t_a0 rfl rfl (by decide) rfl ?_
    refine c_icmp_ge (tgt := 30) C (r32_c (lo := (-2147483648)) (hi := 2147483647) ri1.1 ri1.2 (by decide) (by decide)) (r32_c (lo := 0) (hi := 500) ri2.1 ri2.2 (by decide) (by decide)) dX6_placeOfUnknown_15 (by decide) (fun c2 => ?_) (fun c2 => ?_)
    · refine c_iconst C dX6_placeOfUnknown_30 ?_
      exact c_iret C dX6_placeOfUnknown_31 rfl (by decide) (rom0 hph hph (by decide)) ⟨(-1), rfl, rfl, rfl, rfl, rfl, rfl, ⟨by decide, by decide⟩, trivial⟩
    · refine c_aload_n (j := 0) (x := a0) C dX6_placeOfUnknown_18 rfl ?_
      obtain ⟨rb1, rq1, trb1⟩ := hW.ref t_a0 1 rfl rfl rfl
      have lnrb1 : 500 ≤ ln rb1 ∧ ln rb1 ≤ 500 := hW.len trb1 rfl
      refine c_getr (k := 1) C ck_7 dX6_placeOfUnknown_19 w1_137 (by decide) t_a0 rfl rfl (by decide) rfl rq1 ?_
      refine c_st (st2 := [.ref rb1]) rfl ?_
      refine c_aload_n (j := 0) (x := a0) C dX6_placeOfUnknown_22 rfl ?_
      refine c_get (k := 9) C ck_7 dX6_placeOfUnknown_23 w1_151 (by decide) t_a0 rfl rfl (by decide) rfl ?_
      have ll1 : 500 ≤ ln rb1 ∧ ln rb1 ≤ 500 := hW.len trb1 rfl
      refine c_iald C dX6_placeOfUnknown_26 trb1 rfl (by omega) (by omega) (by omega) ?_
      have ri3 : (-2147483648) ≤ iv rb1 ((iv a0 9).toNat) ∧ iv rb1 ((iv a0 9).toNat) ≤ 2147483647 := hW.int trb1 ((iv a0 9).toNat)
      refine c_goto (tgt := 31) C dX6_placeOfUnknown_27 (by decide) ?_
      exact c_iret C dX6_placeOfUnknown_31 rfl (by decide) (rom0 hph hph (by decide)) ⟨(iv rb1 (iv a0 9).toNat), rfl, rfl, rfl, rfl, rfl, rfl, ⟨by omega, by omega⟩, trivial⟩
set_option maxHeartbeats 4000000 in
set_option maxRecDepth 100000 in
theorem C_findsOf {l : Launch} {G : GT} {mi : Nat} {sk : Nat → Nat} {L : List Nat} {cl ln : Nat → Nat} {iv : Nat → Nat → Int} {rv : Nat → Nat → Option Nat}  {a0 : Nat} {i : Int} (hW : WT (g0 G) sk L cl ln iv rv) (hS : SKL sk L cl) (t_a0 : ty L cl a0 15) (h_i : -2147483648 ≤ i ∧ i ≤ 2147483647)  : Mc l G mi (Phi (g0 G) sk) PHM yX6_findsOf cX6_findsOf 2 (some .int) 0 [.ref a0, .int (iI i)] L cl ln iv rv 0 (fun v L2 cl2 ln2 iv2 rv2 => ∃ f : Int, v = some (.int (iI f)) ∧ L = L2 ∧ cl = cl2 ∧ ln = ln2 ∧ iv = iv2 ∧ rv = rv2 ∧ (-2147483648 ≤ f ∧ f ≤ 2147483647) ∧ (True)) := by
  refine Mc.mk (by decide) (Nat.le_of_ble_eq_true rfl) ?_
  intro p e s m args below meth c A C hM
  refine hv3 (Phi.le hW hS) (show XT L cl ln L cl ln from XT.refl) (show fT [] L cl iv rv iv rv from fT.refl) (fun hph hX0 hF0 => ?_)
  refine c_iload_n (j := 1) C dX6_findsOf_0 rfl ?_
  refine c_if_lt (tgt := 22) C ⟨by omega, by omega⟩ dX6_findsOf_1 (by decide) (fun c1 => ?_) (fun c1 => ?_)
  · refine c_iconst C dX6_findsOf_22 ?_
    exact c_iret C dX6_findsOf_23 rfl (by decide) (rom0 hph hph (by decide)) ⟨0, rfl, rfl, rfl, rfl, rfl, rfl, ⟨by decide, by decide⟩, trivial⟩
  · refine c_iload_n (j := 1) C dX6_findsOf_4 rfl ?_
    refine c_aload_n (j := 0) (x := a0) C dX6_findsOf_5 rfl ?_
    obtain ⟨rb1, rq1, trb1⟩ := hW.ref t_a0 8 rfl rfl rfl
    have lnrb1 : 5 ≤ ln rb1 ∧ ln rb1 ≤ 5 := hW.len trb1 rfl
    refine c_getr (k := 8) C ck_7 dX6_findsOf_6 w1_150 (by decide) t_a0 rfl rfl (by decide) rfl rq1 ?_
    refine c_st (st2 := [.ref rb1, .int (iI i)]) rfl ?_
    have ll1 : 5 ≤ ln rb1 ∧ ln rb1 ≤ 5 := hW.len trb1 rfl
    refine c_alenI C dX6_findsOf_9 trb1 rfl ?_
    refine c_icmp_ge (tgt := 22) C ⟨by omega, by omega⟩ ⟨by omega, by omega⟩ dX6_findsOf_10 (by decide) (fun c2 => ?_) (fun c2 => ?_)
    · refine c_iconst C dX6_findsOf_22 ?_
      exact c_iret C dX6_findsOf_23 rfl (by decide) (rom0 hph hph (by decide)) ⟨0, rfl, rfl, rfl, rfl, rfl, rfl, ⟨by decide, by decide⟩, trivial⟩
    · refine c_aload_n (j := 0) (x := a0) C dX6_findsOf_13 rfl ?_
      refine c_getr (k := 8) C ck_7 dX6_findsOf_14 w1_150 (by decide) t_a0 rfl rfl (by decide) rfl rq1 ?_
      refine c_st (st2 := [.ref rb1]) rfl ?_
      refine c_iload_n (j := 1) C dX6_findsOf_17 rfl ?_
      refine c_iald C dX6_findsOf_18 trb1 rfl (by omega) (by omega) (by omega) ?_
      have ri1 : (-2147483648) ≤ iv rb1 i.toNat ∧ iv rb1 i.toNat ≤ 2147483647 := hW.int trb1 i.toNat
      refine c_goto (tgt := 23) C dX6_findsOf_19 (by decide) ?_
      exact c_iret C dX6_findsOf_23 rfl (by decide) (rom0 hph hph (by decide)) ⟨(iv rb1 i.toNat), rfl, rfl, rfl, rfl, rfl, rfl, ⟨by omega, by omega⟩, trivial⟩
set_option maxHeartbeats 4000000 in
set_option maxRecDepth 100000 in
theorem C_hasLetters {l : Launch} {G : GT} {mi : Nat} {sk : Nat → Nat} {L : List Nat} {cl ln : Nat → Nat} {iv : Nat → Nat → Int} {rv : Nat → Nat → Option Nat}  {a0 : Nat} {a1 : Nat} (hW : WT (g0 G) sk L cl ln iv rv) (hS : SKL sk L cl) (t_a0 : ty L cl a0 15) (t_a1 : ty L cl a1 10)  : Mc l G mi (Phi (g0 G) sk) PHM yX6_hasLetters cX6_hasLetters 3 (some .boolean) 1 [.ref a0, .ref a1] L cl ln iv rv 0 (fun v L2 cl2 ln2 iv2 rv2 => ∃ f : Int, v = some (.int (iI f)) ∧ L = L2 ∧ cl = cl2 ∧ ln = ln2 ∧ iv = iv2 ∧ rv = rv2 ∧ (f = 0 ∨ f = 1) ∧ (True)) := by
  refine Mc.mk (by decide) (Nat.le_of_ble_eq_true rfl) ?_
  intro p e s m args below meth c A C hM
  refine hv3 (Phi.le hW hS) (show XT L cl ln L cl ln from XT.refl) (show fT [] L cl iv rv iv rv from fT.refl) (fun hph hX0 hF0 => ?_)
  refine c_aload_n (j := 1) (x := a1) C dX6_hasLetters_0 rfl ?_
  have ri1 : 0 ≤ iv a1 2 ∧ iv a1 2 ≤ 4001 := hW.int t_a1 2
  refine c_get (k := 2) C ck_2 dX6_hasLetters_1 w1_47 (by decide) t_a1 rfl rfl (by decide) rfl ?_
  refine c_aload_n (j := 0) (x := a0) C dX6_hasLetters_4 rfl ?_
  have ri2 : 0 ≤ iv a0 4 ∧ iv a0 4 ≤ 500 := hW.int t_a0 4
  refine c_get (k := 4) C ck_7 dX6_hasLetters_5 w1_140 (by decide) t_a0 rfl rfl (by decide) rfl ?_
  refine c_icmp_eq (tgt := 13) C (r32_c (lo := 0) (hi := 4001) ri1.1 ri1.2 (by decide) (by decide)) (r32_c (lo := 0) (hi := 500) ri2.1 ri2.2 (by decide) (by decide)) dX6_hasLetters_8 (by decide) (fun c1 => ?_) (fun c1 => ?_)
  · refine c_iconst C dX6_hasLetters_13 ?_
    refine c_istore_n (lv2 := [(2, .int (iI 0)), (0, .ref a0), (1, .ref a1)]) C dX6_hasLetters_14 (by decide) rfl ?_
    have Lp1 : ∀ (nn : Nat) (k : Int) , 501 - k < (nn : Int) → (0 ≤ k ∧ k ≤ 500) → cw p l e 1 ((PHM) + 0 - ((Phi (g0 G) sk) ln rv)) s m args below meth c G A 3 (MQ below (Qu G A (Qp G (Phi (g0 G) sk) ((Phi (g0 G) sk) ln rv) 0 (fun v L2 cl2 ln2 iv2 rv2 => ∃ f : Int, v = some (.int (iI f)) ∧ L = L2 ∧ cl = cl2 ∧ ln = ln2 ∧ iv = iv2 ∧ rv = rv2 ∧ (f = 0 ∨ f = 1) ∧ (True)))) args s (((PHM) + 0 - ((Phi (g0 G) sk) ln rv)) / 16) ((PHM) + 0 - ((Phi (g0 G) sk) ln rv)) A) (Phi (g0 G) sk) ((Phi (g0 G) sk) ln rv) L cl ln iv rv 0 15 [(2, .int (iI k)), (0, .ref a0), (1, .ref a1)] [] := by
      intro nn
      induction nn with
      | zero =>
        intro  k  hm   hk
        exact absurd hm (by omega)
      | succ nn ih1 =>
        intro  k  hm   hk
        refine c_iload_n (j := 0) C dX6_hasLetters_15 rfl ?_
        refine c_aload_n (j := 1) (x := a0) C dX6_hasLetters_16 rfl ?_
        refine c_get (k := 4) C ck_7 dX6_hasLetters_17 w1_140 (by decide) t_a0 rfl rfl (by decide) rfl ?_
        refine c_icmp_ge (tgt := 45) C (r32_c (lo := 0) (hi := 500) hk.1 hk.2 (by decide) (by decide)) (r32_c (lo := 0) (hi := 500) ri2.1 ri2.2 (by decide) (by decide)) dX6_hasLetters_20 (by decide) (fun c2 => ?_) (fun c2 => ?_)
        · refine c_iconst C dX6_hasLetters_45 ?_
          exact c_zret C dX6_hasLetters_46 rfl (Or.inr rfl) (by decide) (rom0 hph hph (by decide)) ⟨1, rfl, rfl, rfl, rfl, rfl, rfl, (Or.inr rfl), trivial⟩
        · refine c_aload_n (j := 2) (x := a1) C dX6_hasLetters_23 rfl ?_
          refine c_iload_n (j := 0) C dX6_hasLetters_24 rfl ?_
          refine d_callV (As := [.int (iI k)]) (rest := []) C hM (C_at_10 (a0 := a1) (i := k) hW hS t_a1 (by omega) ) dX6_hasLetters_25 kV_X6_54 rfl t_a1 rfl rfl (by decide) ck_2 rfl (Nat.le_of_ble_eq_true rfl) ⟨(Nat.le_of_ble_eq_true rfl), (Nat.le_of_ble_eq_true rfl)⟩ hph hph (show 0 + 0 = 0 from rfl) (by decide) (fun rh1 Lh1 clh1 lnh1 ivh1 rvh1 h1 => ?_)
          obtain ⟨f1, rfl, rfl, rfl, rfl, rfl, rfl, rgf1, exf1⟩ := h1
          refine c_st (st2 := [.int (iI f1)]) rfl ?_
          have gf1 : ((0 ≤ k ∧ k < iv a1 2) ∨ f1 = 0) ∧ ∀ ss, CT iv rv a1 ss → 0 ≤ k → k < iv a1 2 → f1 = ss k.toNat := exf1
          refine c_aload_n (j := 1) (x := a0) C dX6_hasLetters_28 rfl ?_
          obtain ⟨rb1, rq1, trb1⟩ := hW.ref t_a0 0 rfl rfl rfl
          have lnrb1 : 500 ≤ ln rb1 ∧ ln rb1 ≤ 500 := hW.len trb1 rfl
          refine c_getr (k := 0) C ck_7 dX6_hasLetters_29 w1_136 (by decide) t_a0 rfl rfl (by decide) rfl rq1 ?_
          refine c_st (st2 := [.ref rb1, .int (iI f1)]) rfl ?_
          refine c_iload_n (j := 0) C dX6_hasLetters_32 rfl ?_
          have ll1 : 500 ≤ ln rb1 ∧ ln rb1 ≤ 500 := hW.len trb1 rfl
          refine c_iald C dX6_hasLetters_33 trb1 rfl (by omega) (by omega) (by omega) ?_
          have ri3 : (-2147483648) ≤ iv rb1 k.toNat ∧ iv rb1 k.toNat ≤ 2147483647 := hW.int trb1 k.toNat
          refine c_icmp_eq (tgt := 39) C ⟨by omega, by omega⟩ (r32_c (lo := (-2147483648)) (hi := 2147483647) ri3.1 ri3.2 (by decide) (by decide)) dX6_hasLetters_34 (by decide) (fun c3 => ?_) (fun c3 => ?_)
          · refine c_iinc (z := k) (j := 0) (lv2 := [(2, .int (iI (k + 1))), (0, .ref a0), (1, .ref a1)]) C dX6_hasLetters_39 rfl (by decide) rfl ?_
            refine c_goto (tgt := 15) C dX6_hasLetters_42 (by decide) ?_
            refine c_lv (lv2 := [(2, .int (iI (k + 1))), (0, .ref a0), (1, .ref a1)]) [0, 1, 2] rfl ?_
            exact ih1  (k + 1)  (by omega)   (by omega)
          · refine c_iconst C dX6_hasLetters_37 ?_
            exact c_zret C dX6_hasLetters_38 rfl (Or.inl rfl) (by decide) (rom0 hph hph (by decide)) ⟨0, rfl, rfl, rfl, rfl, rfl, rfl, (Or.inl rfl), trivial⟩
    refine c_lv (lv2 := [(2, .int (iI 0)), (0, .ref a0), (1, .ref a1)]) [0, 1, 2] rfl ?_
    exact Lp1 503 0  (by omega)   (by omega)
  · refine c_iconst C dX6_hasLetters_11 ?_
    exact c_zret C dX6_hasLetters_12 rfl (Or.inl rfl) (by decide) (rom0 hph hph (by decide)) ⟨0, rfl, rfl, rfl, rfl, rfl, rfl, (Or.inl rfl), trivial⟩
set_option maxHeartbeats 4000000 in
set_option maxRecDepth 100000 in
theorem C_wwl {l : Launch} {G : GT} {mi : Nat} {sk : Nat → Nat} {L : List Nat} {cl ln : Nat → Nat} {iv : Nat → Nat → Int} {rv : Nat → Nat → Option Nat}  {a0 : Nat} {a1 : Nat} (hW : WT (g0 G) sk L cl ln iv rv) (hS : SKL sk L cl) (t_a0 : ty L cl a0 15) (t_a1 : ty L cl a1 4)  : Mc l G mi (Phi (g0 G) sk) PHM yX6_writeLetters cX6_writeLetters 3 none 3 [.ref a0, .ref a1] L cl ln iv rv 0 (fun v L2 cl2 ln2 iv2 rv2 => v = none ∧ XT L cl ln L2 cl2 ln2 ∧ fT [4, 34] L cl iv rv iv2 rv2 ∧ WT (g0 G) sk L2 cl2 ln2 iv2 rv2 ∧ (True)) := by
  refine Mc.mk (by decide) (Nat.le_of_ble_eq_true rfl) ?_
  intro p e s m args below meth c A C hM
  refine hv3 (Phi.le hW hS) (show XT L cl ln L cl ln from XT.refl) (show fT [4, 34] L cl iv rv iv rv from fT.refl) (fun hph hX0 hF0 => ?_)
  refine c_iconst C dX6_writeLetters_0 ?_
  refine c_istore_n (lv2 := [(2, .int (iI 0)), (0, .ref a0), (1, .ref a1)]) C dX6_writeLetters_1 (by decide) rfl ?_
  have Lp1 : ∀ (nn : Nat) (k : Int) (Lb1 : List Nat) (clb1 lnb1 : Nat → Nat) (ivb1 : Nat → Nat → Int) (rvb1 : Nat → Nat → Option Nat) , 501 - k < (nn : Int) → XT L cl ln Lb1 clb1 lnb1 → WT (g0 G) sk Lb1 clb1 lnb1 ivb1 rvb1 → fT [4, 34] L cl iv rv ivb1 rvb1 → (0 ≤ k ∧ k ≤ 500) → cw p l e 3 ((PHM) + 0 - ((Phi (g0 G) sk) ln rv)) s m args below meth c G A 3 (MQ below (Qu G A (Qp G (Phi (g0 G) sk) ((Phi (g0 G) sk) ln rv) 0 (fun v L2 cl2 ln2 iv2 rv2 => v = none ∧ XT L cl ln L2 cl2 ln2 ∧ fT [4, 34] L cl iv rv iv2 rv2 ∧ WT (g0 G) sk L2 cl2 ln2 iv2 rv2 ∧ (True)))) args s (((PHM) + 0 - ((Phi (g0 G) sk) ln rv)) / 16) ((PHM) + 0 - ((Phi (g0 G) sk) ln rv)) A) (Phi (g0 G) sk) ((Phi (g0 G) sk) ln rv) Lb1 clb1 lnb1 ivb1 rvb1 0 2 [(2, .int (iI k)), (0, .ref a0), (1, .ref a1)] [] := by
    intro nn
    induction nn with
    | zero =>
      intro  k Lb1 clb1 lnb1 ivb1 rvb1 hm Xb1 Wb1 Fb1  hk
      have skb1 := Xb1.skl hS
      exact absurd hm (by omega)
    | succ nn ih1 =>
      intro  k Lb1 clb1 lnb1 ivb1 rvb1 hm Xb1 Wb1 Fb1  hk
      have skb1 := Xb1.skl hS
      refine c_iload_n (j := 0) C dX6_writeLetters_2 rfl ?_
      refine c_aload_n (j := 1) (x := a0) C dX6_writeLetters_3 rfl ?_
      refine hv2 (Xb1.ty t_a0) (show ivb1 a0 4 = iv a0 4 from Fb1.i t_a0 rfl 4) (fun ty1 ie1 => ?_)
      have ri1 : 0 ≤ ivb1 a0 4 ∧ ivb1 a0 4 ≤ 500 := Wb1.int ty1 4
      refine c_get (k := 4) C ck_7 dX6_writeLetters_4 w1_140 (by decide) ty1 rfl rfl (by decide) rfl ?_
      refine c_icmp_ge (tgt := 26) C (r32_c (lo := 0) (hi := 500) hk.1 hk.2 (by decide) (by decide)) (r32_c (lo := 0) (hi := 500) ri1.1 ri1.2 (by decide) (by decide)) dX6_writeLetters_7 (by decide) (fun c1 => ?_) (fun c1 => ?_)
      · have pl1 := Phi.le Wb1 skb1
        exact c_vret C dX6_writeLetters_26 rfl (by decide) (rom0 hph pl1 (by decide)) ⟨rfl, Xb1, Fb1, Wb1, trivial⟩
      · refine c_aload_n (j := 2) (x := a1) C dX6_writeLetters_10 rfl ?_
        refine c_aload_n (j := 1) (x := a0) C dX6_writeLetters_11 rfl ?_
        obtain ⟨rb1, rq1, trb1⟩ := Wb1.ref ty1 0 rfl rfl rfl
        have lnrb1 : 500 ≤ lnb1 rb1 ∧ lnb1 rb1 ≤ 500 := Wb1.len trb1 rfl
        refine c_getr (k := 0) C ck_7 dX6_writeLetters_12 w1_136 (by decide) ty1 rfl rfl (by decide) rfl rq1 ?_
        refine c_st (st2 := [.ref rb1, .ref a1]) rfl ?_
        refine c_iload_n (j := 0) C dX6_writeLetters_15 rfl ?_
        have ll1 : 500 ≤ lnb1 rb1 ∧ lnb1 rb1 ≤ 500 := Wb1.len trb1 rfl
        refine c_iald C dX6_writeLetters_16 trb1 rfl (by omega) (by omega) (by omega) ?_
        refine hv3 (show (-2147483648) ≤ ivb1 rb1 k.toNat ∧ ivb1 rb1 k.toNat ≤ 2147483647 from Wb1.int trb1 k.toNat) (Xb1.ty t_a1) (Phi.le Wb1 skb1) (fun ri2 ty2 pl2 => ?_)
        have ri3 : 0 ≤ ivb1 a1 2 ∧ ivb1 a1 2 ≤ 4000 := Wb1.int ty2 2
        refine d_callV (As := [.int (iI (ivb1 rb1 k.toNat))]) (rest := []) C hM (C_add_4 (a0 := a1) (x := ivb1 rb1 k.toNat) Wb1 skb1 ty2 (by omega) ) dX6_writeLetters_17 kV_X6_58 rfl ty2 rfl rfl (by decide) ck_2 rfl (Nat.le_of_ble_eq_true rfl) ⟨(Nat.le_of_ble_eq_true rfl), (Nat.le_of_ble_eq_true rfl)⟩ hph pl2 (show 0 + 0 = 0 from rfl) (by decide) (fun rh1 Lh1 clh1 lnh1 ivh1 rvh1 h1 => ?_)
        obtain ⟨rfl, xl1, fl1, W1, exf1⟩ := h1
        refine hv3 (Fb1.call Xb1 fl1 rfl) (Xb1.trans xl1) (xl1.skl skb1) (fun F1 X1 sk1 => ?_)
        refine c_st (st2 := []) rfl ?_
        refine hv2 (xl1.ty ty2) (show ((ivh1 a1 2 = ivb1 a1 2 ∧ ivb1 a1 2 = 4000) ∨ (ivh1 a1 2 = ivb1 a1 2 + 1 ∧ ivb1 a1 2 < 4000)) from exf1) (fun ty3 gf1 => ?_)
        have ri4 : 0 ≤ ivh1 a1 2 ∧ ivh1 a1 2 ≤ 4000 := W1.int ty3 2
        refine c_iinc (z := k) (j := 0) (lv2 := [(2, .int (iI (k + 1))), (0, .ref a0), (1, .ref a1)]) C dX6_writeLetters_20 rfl (by decide) rfl ?_
        refine c_goto (tgt := 2) C dX6_writeLetters_23 (by decide) ?_
        refine c_lv (lv2 := [(2, .int (iI (k + 1))), (0, .ref a0), (1, .ref a1)]) [0, 1, 2] rfl ?_
        exact ih1  (k + 1) _ _ _ _ _ (by omega) X1 W1 F1  (by omega)
  refine c_lv (lv2 := [(2, .int (iI 0)), (0, .ref a0), (1, .ref a1)]) [0, 1, 2] rfl ?_
  exact Lp1 503 0 _ _ _ _ _ (by omega) hX0 hW hF0  (by omega)
end
section
theorem shr1 {x : Int} (h : R32 x) : iI x >>> (iI 1 &&& 31) = iI (x / 2) := by
  refine hv2 (h.1) (h.2) (fun h1 h2 => ?_)
  apply Int32.toInt_inj.mp
  rw [iI_int ⟨by omega, by omega⟩]
  have e : (iI 1 &&& 31 : Int32) = 1 := by decide
  rw [e]
  show (BitVec.sshiftRight' (iI x).toBitVec ((1 : Int32).toBitVec.smod 32)).toInt = x / 2
  have e2 : ((1 : Int32).toBitVec.smod 32) = 1#32 := by decide
  rw [e2]
  show ((iI x).toBitVec.sshiftRight 1).toInt = x / 2
  rw [BitVec.toInt_sshiftRight]
  show (iI x).toInt >>> 1 = x / 2
  rw [iI_int h, Int.shiftRight_eq_div_pow]
  rfl
section LST
variable {g : Nat} {sk : Nat → Nat} {L : List Nat} {cl ln : Nat → Nat} {iv iv2 : Nat → Nat → Int} {rv rv2 : Nat → Nat → Option Nat} {a b T TB k i x : Nat}
theorem lst_raw (h : lst T = true) : raw T = false := by unfold raw; unfold lst at h; simp at h ⊢; omega
theorem WT.edc (h : WT g sk L cl ln iv rv) (ha : ty L cl a T) (hl : lst T = true) (hn : nul T 1 = false) : (rv a 1 = some g ∧ iv a 2 = 0) ∨ ∃ b, rv a 1 = some b ∧ ty L cl b (1000 + (T - 22)) ∧ cl b = 1000 + 5 * a + (T - 22) ∧ iv a 2 ≤ ((ln b : Nat) : Int) := by
  refine hv2 (h.2.1 a ha.1 1 (by rw [ha.2]; exact lst_raw hl)) (h.2.2.2.1 a ha.1 (by rw [ha.2]; exact lst_szd hl)) (fun q q4 => ?_)
  cases e : rv a 1 with
  | none => have := q.1 e; rw [ha.2, hn] at this; cases this
  | some b =>
    rcases q.2 b e with w | w
    · refine Or.inr ⟨b, rfl, ⟨w.1, ?_⟩, ?_, ?_⟩
      · rw [w.2.1, ha.2, tgt_list hl]
      · have := w.2.2.2 (by rw [ha.2]; exact hl) rfl; rw [ha.2] at this; exact this
      · rcases q4 b e with z | z
        · exact absurd w.1 (by rw [z.1]; exact h.2.2.2.2.2.2)
        · exact z.2
    · refine Or.inl ⟨by rw [w.1], ?_⟩
      rcases q4 b e with z | z
      · exact z.2
      · exact absurd z.1 (by rw [w.1]; exact h.2.2.2.2.2.2)
theorem WT.ed2 (h : WT g sk L cl ln iv rv) (ha : ty L cl a T) (hl : lst T = true) (hn : nul T 1 = false) (hz : 0 < iv a 2) : ∃ b, rv a 1 = some b ∧ ty L cl b (1000 + (T - 22)) ∧ cl b = 1000 + 5 * a + (T - 22) ∧ iv a 2 ≤ ((ln b : Nat) : Int) := by
  rcases h.edc ha hl hn with w | w
  · omega
  · exact w
theorem WT.elem (h : WT g sk L cl ln iv rv) (ha : ty L cl a T) (hl : lst T = true) (hb : rv a 1 = some b) (tb : ty L cl b TB) (hr : raw TB = false) (hlb : lst TB = false) (hi : (i : Int) < iv a 2) : ∃ c, rv b i = some c ∧ ty L cl c (tgt TB i) := by
  rcases h.opt tb i hr (by rw [hlb]; rfl) with w | w
  · exact absurd w.1 (h.2.2.2.2.1 a ha.1 (by rw [ha.2]; exact hl) b hb i hi)
  · exact w
theorem WT.own (h : WT g sk L cl ln iv rv) {w : Nat} (hw : w ∈ L) (hl : lst (bt (cl w)) = true) (hb : rv w 1 = some b) (hbL : b ∈ L) (hc : cl b = 1000 + 5 * a + k) (hk : k < 5) : w = a := by
  rcases (h.2.1 w hw 1 (lst_raw hl)).2 b hb with q | q
  · have e := q.2.2.2 hl rfl
    unfold lst at hl
    simp at hl
    omega
  · exact absurd hbL (by rw [q.1]; exact h.2.2.2.2.2.2)
theorem WT.lset (h : WT g sk L cl ln iv rv) (he : rv2 = upr rv b i (some x)) (hb : ty L cl b TB) (hT : 1000 ≤ TB) (hx : ty L cl x (tgt TB i)) : WT g sk L cl ln iv rv2 := by
  subst he
  obtain ⟨h1, h2, h3, h4, h5, h6⟩ := id h
  have hs : szd TB = false := by unfold szd lst; simp; omega
  refine ⟨h1, fun w hw j => ?_, h3, fun w hw hz => ?_, fun w hw hz c hc j hj => ?_, h6⟩
  · by_cases e : w = b
    · subst e
      by_cases ej : j = i
      · subst ej
        rw [upr_s]
        intro _
        refine ⟨(fun q => by cases q), fun c hc => ?_⟩
        cases hc
        refine Or.inl ⟨hx.1, by rw [hx.2, hb.2], ?_, ?_⟩
        · intro q; rw [hb.2] at q; omega
        · intro q; rw [hb.2] at q; unfold lst at q; simp at q; omega
      · rw [upr_j ej]; exact h2 w hw j
    · rw [upr_a e]; exact h2 w hw j
  · have e : w ≠ b := fun e => by rw [e, hb.2, hs] at hz; cases hz
    rw [upr_a e]; exact h4 w hw hz
  · have e : w ≠ b := fun e => by rw [e, hb.2] at hz; rw [lst_szd hz] at hs; cases hs
    rw [upr_a e] at hc
    by_cases e2 : c = b
    · subst e2
      by_cases ej : j = i
      · subst ej; rw [upr_s]; exact fun q => by cases q
      · rw [upr_j ej]; exact h5 w hw hz c hc j hj
    · rw [upr_a e2]; exact h5 w hw hz c hc j hj
theorem WT.lnull (h : WT g sk L cl ln iv rv) (he : rv2 = upr rv b i none) (hb : ty L cl b TB) (hT : 1000 ≤ TB) (hn : nul TB i = true) (hc : cl b = 1000 + 5 * a + k) (hk : k < 5) (hi : iv a 2 ≤ (i : Int)) : WT g sk L cl ln iv rv2 := by
  subst he
  obtain ⟨h1, h2, h3, h4, h5, h6⟩ := id h
  have hs : szd TB = false := by unfold szd lst; simp; omega
  refine ⟨h1, fun w hw j => ?_, h3, fun w hw hz => ?_, fun w hw hz c hcc j hj => ?_, h6⟩
  · by_cases e : w = b
    · subst e
      by_cases ej : j = i
      · subst ej
        rw [upr_s]
        intro _
        exact ⟨fun _ => by rw [hb.2]; exact hn, fun c q => by cases q⟩
      · rw [upr_j ej]; exact h2 w hw j
    · rw [upr_a e]; exact h2 w hw j
  · have e : w ≠ b := fun e => by rw [e, hb.2, hs] at hz; cases hz
    rw [upr_a e]; exact h4 w hw hz
  · have e : w ≠ b := fun e => by rw [e, hb.2] at hz; rw [lst_szd hz] at hs; cases hs
    rw [upr_a e] at hcc
    by_cases e2 : c = b
    · subst e2
      have ea := h.own hw hz hcc hb.1 hc hk
      subst ea
      by_cases ej : j = i
      · subst ej; omega
      · rw [upr_j ej]; exact h5 w hw hz c hcc j hj
    · rw [upr_a e2]; exact h5 w hw hz c hcc j hj
theorem WT.led (h : WT g sk L cl ln iv rv) (he : rv2 = upr rv a 1 (some b)) (ha : ty L cl a T) (hl : lst T = true) (hb : b ∈ L) (hc : cl b = 1000 + 5 * a + (T - 22)) (hs : iv a 2 ≤ ((ln b : Nat) : Int)) (hn : ∀ i : Nat, (i : Int) < iv a 2 → rv b i ≠ none) : WT g sk L cl ln iv rv2 := by
  subst he
  have hl2 := hl
  unfold lst at hl2
  simp at hl2
  have hbt : bt (cl b) = 1000 + (T - 22) := by rw [hc]; exact bt_list (by omega)
  have hne : b ≠ a := fun e => by have := ha.2; rw [← e, hbt] at this; omega
  obtain ⟨h1, h2, h3, h4, h5, h6, h7⟩ := id h
  refine ⟨h1, fun w hw j => ?_, h3, fun w hw hz => ?_, fun w hw hz c hcc j hj => ?_, h6, h7⟩
  · by_cases e : w = a
    · subst e
      by_cases ej : j = 1
      · subst ej
        rw [upr_s]
        intro _
        refine ⟨(fun q => by cases q), fun c q => ?_⟩
        cases q
        refine Or.inl ⟨hb, by rw [hbt, ha.2, tgt_list hl], ?_, ?_⟩
        · intro q; rw [ha.2] at q; omega
        · intro _ _; rw [ha.2]; exact hc
      · rw [upr_j ej]; exact h2 w hw j
    · rw [upr_a e]; exact h2 w hw j
  · by_cases e : w = a
    · subst e
      intro c q
      rw [upr_s] at q; cases q
      exact Or.inr ⟨hb, hs⟩
    · rw [upr_a e]; exact h4 w hw hz
  · by_cases e : w = a
    · subst e
      rw [upr_s] at hcc; cases hcc
      rw [upr_a hne]; exact hn j hj
    · rw [upr_a e] at hcc
      have hca : c ≠ a := by
        intro e2
        subst e2
        rcases (h2 w hw 1 (lst_raw hz)).2 c hcc with q | q
        · rw [ha.2, tgt_list hz] at q; omega
        · exact h7 (q.1 ▸ ha.1)
      rw [upr_a hca]
      exact h5 w hw hz c hcc j hj
theorem uq_big {x : Nat} (h : 1000 ≤ bt x) : uq x = false := by
  have hx : 130 ≤ x := by
    unfold bt at h
    split at h
    · split at h
      · omega
      · split at h <;> omega
    · split at h
      · omega
      · omega
  unfold uq
  simp
  omega
theorem WT.lsz {z : Int} (h : WT g sk L cl ln iv rv) (he : iv2 = up2 iv a 2 z) (ha : ty L cl a T) (hl : lst T = true) (hz : 0 ≤ z ∧ z ≤ iv a 2) : WT g sk L cl ln iv2 rv := by
  have hb := h.int ha 2
  refine h.putsz he ha ⟨?_, Int.le_trans hz.2 hb.2⟩ (fun b hb2 => ?_) (fun _ b hb2 i hi => ?_)
  · have : ilo T 2 = 0 := by
      unfold lst at hl
      simp only [Bool.and_eq_true, decide_eq_true_eq] at hl
      have : T = 22 ∨ T = 23 ∨ T = 24 ∨ T = 25 ∨ T = 26 := by omega
      rcases this with rfl | rfl | rfl | rfl | rfl <;> rfl
    rw [this]; exact hz.1
  · rcases h.2.2.2.1 a ha.1 (by rw [ha.2]; exact lst_szd hl) b hb2 with q | q
    · exact Or.inl ⟨q.1, by omega⟩
    · exact Or.inr ⟨q.1, by omega⟩
  · exact h.2.2.2.2.1 a ha.1 (by rw [ha.2]; exact hl) b hb2 i (by omega)
theorem WT.lapp {z m : Int} (h : WT g sk L cl ln iv rv) (he : iv2 = up2 iv a 2 z) (ha : ty L cl a T) (hl : lst T = true) (hb : rv a 1 = some b) (tb : b ∈ L) (hx : rv b (iv a 2).toNat = some x) (hz : z = iv a 2 + 1) (hm : iv a 2 + 1 ≤ m) (hs : iv a 2 + 1 ≤ ((ln b : Nat) : Int)) (hi : ihi T 2 = m) : WT g sk L cl ln iv2 rv := by
  have hbx := h.int ha 2
  refine h.putsz he ha ⟨by omega, by omega⟩ (fun c hc => ?_) (fun _ c hc i hi2 => ?_)
  · rw [hb] at hc; cases hc
    exact Or.inr ⟨tb, by omega⟩
  · rw [hb] at hc; cases hc
    by_cases e : (i : Int) < iv a 2
    · exact h.2.2.2.2.1 a ha.1 (by rw [ha.2]; exact hl) b hb i e
    · have : i = (iv a 2).toNat := by omega
      rw [this, hx]; exact fun q => by cases q
theorem WT.copyr {q n TB2 : Nat} (h : WT g sk L cl ln iv rv) (he : rv2 = (fun w j => if w = q then (if j < n then rv a j else rv q j) else rv w j)) (hq : ty L cl q TB) (ha : ty L cl a TB) (hT : 1000 ≤ TB) (ht : ∀ i j, tgt TB i = tgt TB j) (hu : ∀ i, nul TB i = true) (hno : ∀ w ∈ L, lst (bt (cl w)) = true → rv w 1 ≠ some q) : WT g sk L cl ln iv rv2 := by
  subst he
  obtain ⟨h1, h2, h3, h4, h5, h6⟩ := id h
  have hs : szd TB = false := by unfold szd lst; simp; omega
  refine ⟨h1, fun w hw j => ?_, h3, fun w hw hz => ?_, fun w hw hz c hc j hj => ?_, h6⟩
  · by_cases e : w = q
    · subst e
      show rok L cl g w j (if w = w then (if j < n then rv a j else rv w j) else rv w j)
      rw [if_pos rfl]
      by_cases hp : j < n
      · rw [if_pos hp]
        intro _
        refine ⟨fun _ => by rw [hq.2]; exact hu j, fun c hc => ?_⟩
        have qa := (h2 a ha.1 j (by rw [ha.2]; unfold raw; simp; omega)).2 c hc
        rw [ha.2] at qa
        rcases qa with y | y
        · refine Or.inl ⟨y.1, by rw [hq.2]; exact y.2.1, ?_, ?_⟩
          · intro z; rw [hq.2] at z; omega
          · intro z; rw [hq.2] at z; unfold lst at z; simp at z; omega
        · have := y.2.1; unfold lst at this; simp at this; omega
      · rw [if_neg hp]; exact h2 w hw j
    · show rok L cl g w j (if w = q then (if j < n then rv a j else rv q j) else rv w j)
      rw [if_neg e]; exact h2 w hw j
  · have e : w ≠ q := fun e => by rw [e, hq.2, hs] at hz; cases hz
    dsimp only
    rw [if_neg e]; exact h4 w hw hz
  · have e : w ≠ q := fun e => by rw [e, hq.2] at hz; rw [lst_szd hz] at hs; cases hs
    dsimp only at hc ⊢
    rw [if_neg e] at hc
    have e2 : c ≠ q := fun e2 => hno w hw hz (by rw [← e2]; exact hc)
    rw [if_neg e2]; exact h5 w hw hz c hc j hj
end LST
section CQ5
variable {p : Program} {l : Launch} {e : Env} {d0 r0 : Nat} {s : State} {m : MethodId} {args : Array Value} {below : List Frame} {meth : Method} {c : Code} {cc : ByteArray} {y : MethodName} {ret : Option FieldType} {G : GT} {A : Nat → Prop} {nL mi : Nat} {Q : State → Prop} {Pf : PF} {ph : Nat} {L : List Nat} {cl ln : Nat → Nat} {iv : Nat → Nat → Int} {rv : Nat → Nat → Option Nat} {K pc : Nat} {lv : List (Nat × Value)} {st : List Value}
theorem c_getU (C : Cq p s m args meth c cc y ret G A nL) {ref : String} {a k idx ci N T : Nat} {Cn : String} {TT : u_T} {tyy : Nat → FieldType} (ck : Ck ci Cn TT N tyy) (d : decode cc pc = .ok (.getfield idx, 3)) (lk : Cond.fieldLink y.cls idx ref (TT k).2.1 (TT k).2.2.1 ∈ lw_g) (hsm : Cond.sameField ref (TT k).1 (TT k).2.1 (TT k).2.2.1 ∈ lw_g) (hk : k < N) (ha : ty L cl a T) (hT : kd T = ci) (hN : nf ci = N) (h13 : ci < 13) (hr : rf ci k = false) (kk : cw p l e d0 r0 s m args below meth c G A nL Q Pf ph L cl ln iv rv K (pc + 3) lv (.int (iI (iv a k)) :: st)) : cw p l e d0 r0 s m args below meth c G A nL Q Pf ph L cl ln iv rv K pc lv (.ref a :: st) := fun u hu kc ks hh => q_getU (k := k) C ck d lk hsm hk ha.1 (enc_ob ha hT hN h13) (ofv_i hr) (kk u hu kc ks hh)
theorem c_putU (C : Cq p s m args meth c cc y ret G A nL) {ref : String} {a k idx ci N T : Nat} {Cn : String} {TT : u_T} {tyy : Nat → FieldType} {z : Int} (ck : Ck ci Cn TT N tyy) (d : decode cc pc = .ok (.putfield idx, 3)) (lk : Cond.fieldLink y.cls idx ref (TT k).2.1 (TT k).2.2.1 ∈ lw_g) (hsm : Cond.sameField ref (TT k).1 (TT k).2.1 (TT k).2.2.1 ∈ lw_g) (hk : k < N) (hfin : (TT k).2.2.2 = false) (ha : ty L cl a T) (hT : kd T = ci) (hN : nf ci = N) (h13 : ci < 13) (hr : rf ci k = false) (hn : narrow (tyy k) (.int (iI z)) = .int (iI z)) (hfit : fits (tyy k) (.int (iI z)) = true) (kk : ∀ iv2, iv2 = up2 iv a k z → cw p l e d0 r0 s m args below meth c G A nL Q Pf ph L cl ln iv2 rv K (pc + 3) lv st) : cw p l e d0 r0 s m args below meth c G A nL Q Pf ph L cl ln iv rv K pc lv (.int (iI z) :: .ref a :: st) := fun u hu kc ks hh => q_putU (k := k) C ck d lk hsm hk hfin ha.1 (enc_ob ha hT hN h13) hn hfit (by rw [enc_put ha hT hN h13 hr]; exact kk _ rfl u hu kc ks hh)
theorem c_ldcM (C : Cq p s m args meth c cc y ret G A nL) (hM : Mir mi s) {idx : Nat} (d : decode cc pc = .ok (.ldc idx, 2)) (lk : Cond.classLink y.cls idx "[Ljava/lang/Object;" ∈ lw_g) (k : cw p l e d0 r0 s m args below meth c G A nL Q Pf ph L cl ln iv rv K (pc + 2) lv (.ref mi :: st)) : cw p l e d0 r0 s m args below meth c G A nL Q Pf ph L cl ln iv rv K pc lv st := fun u hu kc ks hk H locs ls hP hD hS hl => va_ldcM C.1 C.2.1 C.2.2.2.1 (C.2.2.2.2.1 _ lk) hM.1 d (k u hu kc ks hk H locs ls hP hD hS hl)
theorem c_getC (C : Cq p s m args meth c cc y ret G A nL) (hM : Mir mi s) {a T idx : Nat} (d : decode cc pc = .ok (.invokevirtual idx, 3)) (lk : Cond.methodLink y.cls idx ⟨"java/lang/Object", "getClass", "()Ljava/lang/Class;"⟩ ∈ lw_g) (hs : Cond.selects "[Ljava/lang/Object;" ⟨"java/lang/Object", "getClass", "()Ljava/lang/Class;"⟩ ⟨"java/lang/Object", "getClass", "()Ljava/lang/Class;"⟩ ∈ lw_g) (hi : Cond.instanceMethod ⟨"java/lang/Object", "getClass", "()Ljava/lang/Class;"⟩ ∈ lw_g) (hn : Cond.native ⟨"java/lang/Object", "getClass", "()Ljava/lang/Class;"⟩ ∈ lw_g) (ha : ty L cl a T) (hT : kd T = 24) (hd : 1 ≤ d0) (hst : (st.map fun v => v.category).sum ≤ 8) (k : cw p l e d0 r0 s m args below meth c G A nL Q Pf ph L cl ln iv rv K (pc + 3) lv (.ref mi :: st)) : cw p l e d0 r0 s m args below meth c G A nL Q Pf ph L cl ln iv rv K pc lv (.ref a :: st) := by
  intro u hu kc ks hk H locs ls hP hD hS hl
  obtain ⟨q0, hq⟩ := pl_at (E := enc G cl ln iv rv) ha.1
  refine hv2 (C.2.2.2.2.1) (hP q0 _ hq) (fun hts hcell => ?_)
  rw [enc_O ha hT] at hcell
  refine va_getC C.1 C.2.1 (C.2.2.1.trans hl.1.symm) C.2.2.2.1 (hts _ lk) (va_Dc.use hM.2) (hts _ hs) (hts _ hi) (hts _ hn) hM.1 ⟨_, hcell, rfl, ?_⟩ hd (by show _ ≤ 64 * d0; omega) d (k u hu kc ks hk H locs ls hP hD hS hl)
  exact va_nmO (C.2.2.2.2.2.1.2 4 (G.2.2.2.2.2.1, .object "java/lang/Object") rfl).2 rfl
theorem c_copyq (C : Cq p s m args meth c cc y ret G A nL) {a b T T2 TE ci N idx : Nat} {Cn : String} {TT : u_T} {tyy : Nat → FieldType} {n : Int} (ck : Ck ci Cn TT N tyy) (hca : Cond.castable Cn "java/lang/Object" ∈ lw_tbl) (d : decode cc pc = .ok (.invokestatic idx, 3)) (lk : Cond.methodLink y.cls idx arraycopyName ∈ lw_g) (hn : Cond.native arraycopyName ∈ lw_g) (hs : Cond.static arraycopyName ∈ lw_g) (hi : Cond.initialized "java/lang/System" ∈ lw_g) (ha : ty L cl a T) (hT : kd T = 24) (hb : ty L cl b T2) (hT2 : kd T2 = 24) (hE : ∀ i : Nat, ∀ y : Nat, rv a i = some y → ty L cl y TE) (hTE : kd TE = ci) (hN : nf ci = N) (h13 : ci < 13) (h3 : 0 ≤ n) (h4 : n ≤ (ln a : Nat)) (h5 : n ≤ (ln b : Nat)) (hla : ln a ≤ 1000000) (hd : 1 ≤ d0) (hst : (st.map fun v => v.category).sum ≤ 8) (kk : ∀ rv2, rv2 = (fun w j => if w = b then (if j < n.toNat then rv a j else rv b j) else rv w j) → ∃ K2 : Nat, Pf ln rv + K ≤ Pf ln rv2 + K2 ∧ cw p l e d0 r0 s m args below meth c G A nL Q Pf ph L cl ln iv rv2 K2 (pc + 3) lv st) : cw p l e d0 r0 s m args below meth c G A nL Q Pf ph L cl ln iv rv K pc lv (.int (iI n) :: .int (iI 0) :: .ref b :: .int (iI 0) :: .ref a :: st) := by
  intro u hu kc ks hh H locs ls hP hD hS hl
  obtain ⟨q0, hq0⟩ := pl_at (E := enc G cl ln iv rv) ha.1
  obtain ⟨q1, hq1⟩ := pl_at (E := enc G cl ln iv rv) hb.1
  refine hv2 (C.2.2.2.2.1) (show (iI 0).toNatClampNeg = 0 from rfl) (fun hts e0 => ?_)
  have r3 : R32 n := ⟨by omega, by omega⟩
  refine va_copyq (C := Cn) (E0 := "java/lang/Object") (E1 := "java/lang/Object") C.1 C.2.1 (C.2.2.1.trans hl.1.symm) C.2.2.2.1 (hts _ lk) (hts _ hn) (hts _ hs) (hts _ hi) C.2.2.2.2.2.1 hP hD hS q0 q1 4 4 (by rw [hq0, enc_O ha hT]; rfl) (by rw [hq1, enc_O hb hT2]; rfl) rfl rfl (by decide) (by decide) (by rw [show (0 : Int32) = iI 0 from rfl, iI_lt r3 R32_0]; omega) (by rw [e0, iI_cl r3]; omega) (by rw [e0, iI_cl r3]; omega) ?_ ?_ hd (Nat.le_trans (Nat.add_le_add_right hst _) (Nat.le_trans (by decide) (show 64 ≤ 64 * d0 by omega))) d (fun H1 locs1 hP1 hD1 hS1 => ?_)
  · intro i _ y hy
    have ty1 := hE _ _ hy
    obtain ⟨q2, hq2⟩ := pl_at (E := enc G cl ln iv rv) ty1.1
    exact va_recv C.2.2.2.2.2.1 hP (ci := ci) (q0 := q2) ck.1 (by rw [hq2, enc_ob ty1 hTE hN h13]; rfl)
  · intro comp c0 f1 f2
    obtain ⟨c1, t1, g1, g2, g3⟩ := Cond.castable_spec (va_Nw.use (A := args) rfl (C.2.2.2.2.2.2.2.2.2.2.2.2.1 _ _ hca))
    cases g1.symm.trans f2
    cases g2.symm.trans f1
    exact g3
  · obtain ⟨K2, g1, g2⟩ := kk _ rfl
    rw [e0, iI_cl r3] at hP1 hD1
    rw [pl_set hD hb.1 hq1] at hP1 hD1
    have e : va_up (enc G cl ln iv rv) b (Sum.inl (G.2.2.2.2.2.1, ln b, .inr (.inr (.inr (.inr (va_cpy (rv a) (rv b) 0 0 n.toNat)))))) = enc G cl ln iv (fun w j => if w = b then (if j < n.toNat then rv a j else rv b j) else rv w j) := by
      refine enc_up (fun w hw => ⟨rfl, rfl, rfl, by funext j; rw [if_neg hw]⟩) ?_
      rw [enc_O hb hT2]
      show Sum.inl (_, ln b, _) = _
      congr 7
      funext j
      unfold va_cpy
      by_cases q : j < n.toNat
      · simp [q]
      · simp [q]
    rw [e] at hP1 hD1
    exact g2 u (by omega) kc ks hh H1 locs1 ls hP1 hD1 hS1 hl
end CQ5
end
