def vlo : Nat → Int := fun k => match k with
  | 3 => 0
  | 4 => 0
  | 23 => 0
  | 25 => 0
  | 30 => 0
  | 31 => 1
  | 32 => 1
  | 36 => 0
  | 39 => 0
  | 41 => 0
  | 50 => 0
  | 52 => 0
  | 53 => 0
  | 55 => 0
  | 60 => 0
  | 61 => 0
  | 63 => 0
  | 64 => 0
  | 66 => 0
  | _ => -2147483648
def vhi : Nat → Int := fun k => match k with
  | 3 => 3000
  | 4 => 30
  | 23 => 500
  | 25 => 208
  | 30 => 500
  | 31 => 100
  | 32 => 50
  | 36 => 200
  | 39 => 200
  | 41 => 200
  | 50 => 40200
  | 52 => 4000
  | 53 => 40200
  | 55 => 4000
  | 60 => 50
  | 61 => 1
  | 63 => 808
  | 64 => 50
  | 66 => 256
  | _ => 2147483647
def alo : Nat → Int := fun k => match k with
  | 5 => 0
  | 6 => 0
  | 8 => -1
  | 9 => -1
  | 10 => 0
  | 12 => 0
  | 13 => 0
  | 14 => 0
  | 16 => 0
  | 22 => 0
  | 26 => -1
  | 34 => -1
  | 37 => 0
  | 44 => -4
  | 45 => 0
  | 46 => 0
  | 47 => 0
  | 57 => 0
  | 59 => 0
  | 65 => 0
  | _ => -2147483648
def ahi : Nat → Int := fun k => match k with
  | 5 => 1
  | 6 => 5
  | 8 => 29
  | 9 => 29
  | 10 => 200
  | 12 => 8
  | 13 => 4
  | 14 => 125
  | 16 => 4
  | 22 => 1
  | 26 => 208
  | 34 => 200
  | 37 => 200
  | 44 => 5999
  | 45 => 23999
  | 46 => 4
  | 47 => 6008
  | 57 => 1
  | 59 => 808
  | 65 => 255
  | _ => 2147483647
def BX (v : Nat → Int) (a : Nat → Nat → Int) : Prop := (∀ k, vlo k ≤ v k ∧ v k ≤ vhi k) ∧ ∀ k j, alo k ≤ a k j ∧ a k j ≤ ahi k
theorem vlo_r (k : Nat) : -2147483648 ≤ vlo k := by unfold vlo; split <;> decide
theorem vhi_r (k : Nat) : vhi k ≤ 2147483647 := by unfold vhi; split <;> decide
theorem alo_r (k : Nat) : -2147483648 ≤ alo k := by unfold alo; split <;> decide
theorem ahi_r (k : Nat) : ahi k ≤ 2147483647 := by unfold ahi; split <;> decide
theorem BX.rg {v : Nat → Int} {a : Nat → Nat → Int} (h : BX v a) : RG v a := ⟨fun k => by have := h.1 k; have := vlo_r k; have := vhi_r k; exact ⟨by omega, by omega⟩, fun k j => by have := h.2 k j; have := alo_r k; have := ahi_r k; exact ⟨by omega, by omega⟩⟩
theorem BX.put {v : Nat → Int} {a : Nat → Nat → Int} {k : Nat} {z : Int} (h : BX v a) (hz : vlo k ≤ z ∧ z ≤ vhi k) : BX (va_up v k z) a := ⟨fun j => by unfold va_up; split; rename_i e; subst e; exact hz; exact h.1 j, h.2⟩
theorem BX.set {v : Nat → Int} {a : Nat → Nat → Int} {k i : Nat} {z : Int} (h : BX v a) (hz : alo k ≤ z ∧ z ≤ ahi k) : BX v (up2 a k i z) := ⟨h.1, fun k2 j => by unfold up2; split; rename_i e; subst e; split; exact hz; exact h.2 _ _; exact h.2 _ _⟩
theorem BX.re {v v2 : Nat → Int} {a a2 : Nat → Nat → Int} (h : BX v a) (hr : RG v2 a2) (hv : ∀ k, (v2 k = v k ∨ (vlo k ≤ v2 k ∧ v2 k ≤ vhi k)) ∨ (vlo k = -2147483648 ∧ vhi k = 2147483647)) (ha : ∀ k, ((a2 k = a k) ∨ (∀ j, alo k ≤ a2 k j ∧ a2 k j ≤ ahi k)) ∨ (alo k = -2147483648 ∧ ahi k = 2147483647)) : BX v2 a2 := by
  refine ⟨fun k => ?_, fun k j => ?_⟩
  · rcases hv k with (e | e) | ⟨e1, e2⟩
    · rw [e]; exact h.1 k
    · exact e
    · have := hr.1 k; rw [e1, e2]; exact ⟨by omega, by omega⟩
  · rcases ha k with (e | e) | ⟨e1, e2⟩
    · rw [e]; exact h.2 k j
    · exact e j
    · have := hr.2 k j; rw [e1, e2]; exact ⟨by omega, by omega⟩
def fr (V A : List Nat) (v : Nat → Int) (a : Nat → Nat → Int) (v2 : Nat → Int) (a2 : Nat → Nat → Int) : Prop := (∀ j, V.contains j = false → v2 j = v j) ∧ (∀ j, A.contains j = false → a2 j = a j)
theorem fr.refl {V A : List Nat} {v : Nat → Int} {a : Nat → Nat → Int} : fr V A v a v a := ⟨fun _ _ => rfl, fun _ _ => rfl⟩
theorem fr.put {V A : List Nat} {v v2 : Nat → Int} {a a2 : Nat → Nat → Int} {k : Nat} {z : Int} (h : fr V A v a v2 a2) (hk : V.contains k = true) : fr V A v a (va_up v2 k z) a2 := ⟨fun j hj => by rw [va_up_ne _ _ (fun e => by rw [e, hk] at hj; cases hj)]; exact h.1 j hj, h.2⟩
theorem fr.set {V A : List Nat} {v v2 : Nat → Int} {a a2 : Nat → Nat → Int} {k i : Nat} {z : Int} (h : fr V A v a v2 a2) (hk : A.contains k = true) : fr V A v a v2 (up2 a2 k i z) := ⟨h.1, fun j hj => by rw [← h.2 j hj]; funext q; exact up2_k (fun e => by rw [e, hk] at hj; cases hj)⟩
theorem con_sub {V W : List Nat} (h : V.all (fun j => W.contains j) = true) {j : Nat} (hj : W.contains j = false) : V.contains j = false := by
  cases e : V.contains j with
  | false => rfl
  | true =>
    have h2 := List.all_eq_true.mp h j (List.contains_iff_mem.mp e)
    rw [hj] at h2; exact h2.symm
theorem fr.call {V A V2 A2 : List Nat} {v v2 v3 : Nat → Int} {a a2 a3 : Nat → Nat → Int} (h : fr V A v a v2 a2) (h2 : fr V2 A2 v2 a2 v3 a3) (hv : V2.all (fun j => V.contains j) = true) (ha : A2.all (fun j => A.contains j) = true) : fr V A v a v3 a3 := ⟨fun j hj => (h2.1 j (con_sub hv hj)).trans (h.1 j hj), fun j hj => (h2.2 j (con_sub ha hj)).trans (h.2 j hj)⟩
theorem fr.eq {v v2 : Nat → Int} {a a2 : Nat → Nat → Int} (h : fr [] [] v a v2 a2) : v = v2 ∧ a = a2 := ⟨(funext fun j => h.1 j rfl).symm, (funext fun j => h.2 j rfl).symm⟩
theorem nar_b {w : Int} (h : w = 0 ∨ w = 1) : vp_nar .boolean (iI w) = iI w := by rcases h with rfl | rfl <;> decide
theorem q_zast2 {p : Program} {l : Launch} {e : Env} {R : Room} {s : State} {m : MethodId} {args : Array Value} {below : List Frame} {meth : Method} {c : Code} {cc : ByteArray} {y : MethodName} {ret : Option FieldType} {G : GT} {A : Nat → Prop} {nL : Nat} {Q : State → Prop} {L : List Nat} {E : Nat → va_E} {kc ks pc : Nat} {lv : List (Nat × Value)} {st : List Value} (C : Cq p s m args meth c cc y ret G A nL) {b n : Nat} {f : Nat → Int32} {i x : Int32} (d : decode cc pc = .ok (.bastore, 1)) (ha : b ∈ L) (hE : E b = aZ G n f) (hin : vp_in i n) (kk : wq p l e R s m args below meth c G A nL Q L (va_up E b (aZ G n (upd f i.toNatClampNeg (vp_nar .boolean x)))) kc ks (pc + 1) lv st) : wq p l e R s m args below meth c G A nL Q L E kc ks pc lv (.int x :: .int i :: .ref b :: st) := by
  intro H locs ls hP hD hS hl
  obtain ⟨q0, hq⟩ := pl_at (E := E) ha
  refine va_zast C.1 C.2.1 C.2.2.2.2.2.1 hP hD hS q0 1 (by rw [hq, hE]; rfl) rfl hin d (fun H1 locs1 hP1 hD1 hS1 => ?_)
  rw [pl_set hD ha hq] at hP1 hD1
  exact kk H1 locs1 ls hP1 hD1 hS1 hl
theorem m_zast {p : Program} {l : Launch} {e : Env} {R : Room} {s : State} {m : MethodId} {args : Array Value} {below : List Frame} {meth : Method} {c : Code} {cc : ByteArray} {y : MethodName} {ret : Option FieldType} {G : GT} {A : Nat → Prop} {nL : Nat} {Q : State → Prop} {h0 : Nat} {ad ln : Nat → Nat} {v : Nat → Int} {a : Nat → Nat → Int} {kc ks pc : Nat} {lv : List (Nat × Value)} {st : List Value} (C : Cq p s m args meth c cc y ret G A nL) {k : Nat} {z w : Int} (d : decode cc pc = .ok (.bastore, 1)) (hA : mA k = true) (hZ : mZ k = true) (h18 : k ≠ 18) (h1 : 0 ≤ z) (h2 : z < (mlen k : Nat)) (hm : mlen k ≤ 100000) (hw : w = 0 ∨ w = 1) (kk : mw p l e R s m args below meth c G A nL Q h0 ad ln v (up2 a k z.toNat w) kc ks (pc + 1) lv st) : mw p l e R s m args below meth c G A nL Q h0 ad ln v a kc ks pc lv (.int (iI w) :: .int (iI z) :: .ref (ad k) :: st) := by
  intro L E h
  refine hv2 (show R32 z from ⟨by omega, by omega⟩) ((h.2.2.1 k hA).2) (fun hr hE => ?_)
  unfold mar at hE
  rw [hZ, if_pos rfl] at hE
  refine q_zast2 C d (h.2.2.1 k hA).1 hE (by rw [h.2.2.2.2.2.1 k h18]; exact iI_in hr h1 h2) (kk L _ (h.set hA ?_))
  unfold mar
  rw [hZ, if_pos rfl, iI_cl hr, nar_b hw]
  congr 1
  funext j
  unfold upd up2
  rw [if_pos rfl]
  split <;> rfl
def TBL (v : Nat → Int) (a : Nat → Nat → Int) : Prop := (∀ t : Int, 0 ≤ t → t < v 4 → ((a 6 t.toNat = 0 ∨ a 6 t.toNat = 4) ∧ a 8 t.toNat = -1) ∨ (1 ≤ a 6 t.toNat ∧ a 6 t.toNat ≤ 3 ∧ 0 ≤ a 8 t.toNat ∧ a 8 t.toNat < t ∧ a 6 (a 8 t.toNat).toNat ≤ 3) ∨ (a 6 t.toNat = 5 ∧ 0 ≤ a 8 t.toNat ∧ a 8 t.toNat < t ∧ a 6 (a 8 t.toNat).toNat ≤ 3 ∧ 0 ≤ a 9 t.toNat ∧ a 9 t.toNat < t ∧ a 6 (a 9 t.toNat).toNat ≤ 3)) ∧ ∀ t r : Int, 0 ≤ t → t < v 4 → 200 * t ≤ r → r < 200 * t + a 10 t.toNat → (1 ≤ a 12 r.toNat ∧ a 12 r.toNat ≤ 8) ∧ (1 ≤ a 13 r.toNat ∧ a 13 r.toNat ≤ 4)
def tbA : List Nat := [6, 8, 9, 10, 12, 13]
theorem TBL.fr {V A : List Nat} {v v2 : Nat → Int} {a a2 : Nat → Nat → Int} (h : TBL v a) (f : fr V A v a v2 a2) (h1 : V.contains 4 = false) (h2 : tbA.all (fun j => !A.contains j) = true) : TBL v2 a2 := by
  refine hv2 (show ∀ j, j ∈ tbA → a2 j = a j from fun j hj => f.2 j (by have := List.all_eq_true.mp h2 j hj; simpa using this)) (f.1 4 h1) (fun g g4 => ?_)
  have g6 := g 6 (by decide); have g8 := g 8 (by decide); have g9 := g 9 (by decide); have g10 := g 10 (by decide); have g12 := g 12 (by decide); have g13 := g 13 (by decide)
  unfold TBL
  rw [g4, g6, g8, g9, g10, g12, g13]
  exact h
theorem fr.back {v v2 : Nat → Int} {a a1 a3 : Nat → Nat → Int} {V A B : List Nat} {k i : Nat} {z y : Int} (h : fr V A v a v a1) (h2 : fr V B v (up2 a1 k i z) v2 a3) (hB : B.all (fun j => A.contains j) = true) (hk : B.contains k = false) (hy : y = a1 k i) : fr V A v a v2 (up2 a3 k i y) := by
  refine ⟨fun j hj => (h2.1 j hj), fun j hj => ?_⟩
  by_cases e : j = k
  · subst e
    rw [← h.2 j hj]
    funext q
    by_cases e2 : q = i
    · subst e2; rw [up2_s, hy]
    · rw [up2_j e2, h2.2 j hk, up2_j e2]
  · rw [show up2 a3 k i y j = a3 j from funext fun q => up2_k e, h2.2 j (con_sub hB hj), show up2 a1 k i z j = a1 j from funext fun q => up2_k e]
    exact h.2 j hj
