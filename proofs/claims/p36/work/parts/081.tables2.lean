theorem NewT.fr {T : Nat} {a a2 a3 : Nat → Nat → Int} {v2 v3 : Nat → Int} {k b s : Int} {V A : List Nat} (h : NewT T a k b s a2) (f : fr V A v2 a2 v3 a3) (hA : ([6, 8, 9, 10] : List Nat).all (fun j => !A.contains j) = true) : NewT T a k b s a3 := by
  have g : ∀ j, j ∈ ([6, 8, 9, 10] : List Nat) → a3 j = a2 j := fun j hj => f.2 j (by have := List.all_eq_true.mp hA j hj; simpa using this)
  exact ⟨fun j => by rw [g 6 (by decide)]; exact h.1 j, fun j => by rw [g 8 (by decide)]; exact h.2.1 j, fun j => by rw [g 9 (by decide)]; exact h.2.2.1 j, fun j => by rw [g 10 (by decide)]; exact h.2.2.2 j⟩
theorem RUL.fr {a a2 a3 : Nat → Nat → Int} {v2 v3 : Nat → Int} {r m c : Int} {V A : List Nat} (h : RUL a r m c a2) (f : fr V A v2 a2 v3 a3) (hA : ([10, 12, 13] : List Nat).all (fun j => !A.contains j) = true) : RUL a r m c a3 := by
  have g : ∀ j, j ∈ ([10, 12, 13] : List Nat) → a3 j = a2 j := fun j hj => f.2 j (by have := List.all_eq_true.mp hA j hj; simpa using this)
  exact ⟨fun j => by rw [g 12 (by decide)]; exact h.1 j, fun j => by rw [g 13 (by decide)]; exact h.2.1 j, by rw [g 10 (by decide)]; exact h.2.2⟩
theorem NewT.mk {T : Nat} {a : Nat → Nat → Int} {k d b s : Int} : NewT T a k b s (up2 (up2 (up2 (up2 (up2 (up2 a 5 T 1) 6 T k) 7 T d) 8 T b) 9 T s) 10 T 0) := ⟨fun j => by simp [up2], fun j => by simp [up2], fun j => by simp [up2], fun j => by simp [up2]⟩
def UN (a a2 : Nat → Nat → Int) : Prop := a2 10 = a 10 ∧ a2 12 = a 12 ∧ a2 13 = a 13 ∧ a2 11 = a 11 ∧ a2 14 = a 14 ∧ a2 15 = a 15
theorem UN.set {a a2 : Nat → Nat → Int} (h : UN a a2) {k i : Nat} {z : Int} (hk : ([10, 11, 12, 13, 14, 15] : List Nat).contains k = false) : UN a (up2 a2 k i z) := by
  have g : ∀ j, ([10, 11, 12, 13, 14, 15] : List Nat).contains j = true → up2 a2 k i z j = a2 j := fun j hj => funext fun q => up2_k (fun e => by rw [e, hk] at hj; cases hj)
  exact ⟨(g _ rfl).trans h.1, (g _ rfl).trans h.2.1, (g _ rfl).trans h.2.2.1, (g _ rfl).trans h.2.2.2.1, (g _ rfl).trans h.2.2.2.2.1, (g _ rfl).trans h.2.2.2.2.2⟩
theorem UN.fr {a a2 a3 : Nat → Nat → Int} {v2 v3 : Nat → Int} {V A : List Nat} (h : UN a a2) (f : fr V A v2 a2 v3 a3) (hA : ([10, 11, 12, 13, 14, 15] : List Nat).all (fun j => !A.contains j) = true) : UN a a3 := by
  have g : ∀ j, j ∈ ([10, 11, 12, 13, 14, 15] : List Nat) → a3 j = a2 j := fun j hj => f.2 j (by have := List.all_eq_true.mp hA j hj; simpa using this)
  exact ⟨(g 10 (by decide)).trans h.1, (g 12 (by decide)).trans h.2.1, (g 13 (by decide)).trans h.2.2.1, (g 11 (by decide)).trans h.2.2.2.1, (g 14 (by decide)).trans h.2.2.2.2.1, (g 15 (by decide)).trans h.2.2.2.2.2⟩
def C11 (a : Nat → Nat → Int) (r x : Int) (a2 : Nat → Nat → Int) : Prop := a2 11 = va_up (a 11) r.toNat x
theorem C11.mk {a a2 : Nat → Nat → Int} {r x m c : Int} (h : a2 11 = a 11) : C11 a r x (up2 (up2 (up2 a2 11 r.toNat x) 12 r.toNat m) 13 r.toNat c) := by
  unfold C11
  rw [← h]
  funext j
  rw [up2_k (by decide), up2_k (by decide), up2_va]
theorem C11.set {a a2 : Nat → Nat → Int} {r x : Int} (h : C11 a r x a2) {k i : Nat} {z : Int} (hk : k ≠ 11) : C11 a r x (up2 a2 k i z) := (funext fun _ => up2_k (Ne.symm hk)).trans h
theorem C11.fr {a a2 a3 : Nat → Nat → Int} {v2 v3 : Nat → Int} {r x : Int} {V A : List Nat} (h : C11 a r x a2) (f : fr V A v2 a2 v3 a3) (hA : A.contains 11 = false) : C11 a r x a3 := (f.2 11 hA).trans h
