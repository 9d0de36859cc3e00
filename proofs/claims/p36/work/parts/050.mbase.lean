abbrev iI (z : Int) : Int32 := Int32.ofInt z
abbrev R32 (z : Int) : Prop := -2147483648 ≤ z ∧ z < 2147483648
theorem iI_int {z : Int} (h : R32 z) : (iI z).toInt = z := Int32.toInt_ofInt_of_le h.1 h.2
theorem iI_of (x : Int32) : ∃ z : Int, R32 z ∧ x = iI z := ⟨x.toInt, ⟨Int32.le_toInt x, Int32.toInt_lt x⟩, (Int32.ofInt_toInt x).symm⟩
theorem iI_cl {z : Int} (h : R32 z) : (iI z).toNatClampNeg = z.toNat := by rw [← Int32.toNat_toInt, iI_int h]
theorem iI_lt {a b : Int} (ha : R32 a) (hb : R32 b) : iI a < iI b ↔ a < b := by rw [Int32.lt_iff_toInt_lt, iI_int ha, iI_int hb]
theorem iI_le {a b : Int} (ha : R32 a) (hb : R32 b) : iI a ≤ iI b ↔ a ≤ b := by rw [Int32.le_iff_toInt_le, iI_int ha, iI_int hb]
theorem iI_eq {a b : Int} (ha : R32 a) (hb : R32 b) : iI a = iI b ↔ a = b := by rw [← Int32.toInt_inj, iI_int ha, iI_int hb]
theorem iI_in {z : Int} {n : Nat} (h : R32 z) (h0 : 0 ≤ z) (hn : z < n) : vp_in (iI z) n := by rw [vp_in_iff, iI_int h]; exact ⟨h0, hn⟩
theorem R32_0 : R32 0 := ⟨by decide, by decide⟩
def mA (k : Nat) : Bool := [2, 5, 6, 7, 8, 9, 10, 11, 12, 13, 14, 15, 16, 17, 18, 20, 21, 22, 24, 26, 27, 29, 34, 35, 37, 38, 40, 44, 45, 46, 47, 48, 49, 51, 54, 57, 58, 59, 62, 65].contains k
def mZ (k : Nat) : Bool := [5, 22, 57].contains k
def mlen : Nat → Nat := fun k => match k with
  | 2 => 3000
  | 5 => 30
  | 6 => 30
  | 7 => 30
  | 8 => 30
  | 9 => 30
  | 10 => 30
  | 11 => 6000
  | 12 => 6000
  | 13 => 6000
  | 14 => 48000
  | 15 => 24000
  | 16 => 120
  | 17 => 480
  | 18 => 64
  | 20 => 512
  | 21 => 512
  | 22 => 513
  | 24 => 6144
  | 26 => 513
  | 27 => 5
  | 29 => 500
  | 34 => 200
  | 35 => 40000
  | 37 => 200
  | 38 => 40000
  | 40 => 200
  | 44 => 12016
  | 45 => 12016
  | 46 => 12016
  | 47 => 2
  | 48 => 40200
  | 49 => 40200
  | 51 => 4000
  | 54 => 4000
  | 57 => 404
  | 58 => 40400
  | 59 => 50
  | 62 => 1000
  | 65 => 256
  | _ => 0
def mfv (ad : Nat → Nat) (v : Nat → Int) : Nat → Value := fun k => if mA k = true then .ref (ad k) else .int (iI (v k))
def mar (G : GT) (n k : Nat) (c : Nat → Int) : va_E := if mZ k = true then aZ G n (fun j => iI (c j)) else aI G n (fun j => iI (c j))
def up2 (a : Nat → Nat → Int) (k i : Nat) (z : Int) : Nat → Nat → Int := fun k2 j => if k2 = k then (if j = i then z else a k2 j) else a k2 j
def mI (G : GT) (h0 : Nat) (ad ln : Nat → Nat) (v : Nat → Int) (a : Nat → Nat → Int) (L : List Nat) (E : Nat → va_E) : Prop := h0 ∈ L ∧ E h0 = ob 13 67 (mfv ad v) ∧ (∀ k, mA k = true → ad k ∈ L ∧ E (ad k) = mar G (ln k) k (a k)) ∧ (∀ k, mA k = true → h0 ≠ ad k) ∧ (∀ i j, mA i = true → mA j = true → ad i = ad j → i = j) ∧ (∀ k, k ≠ 18 → ln k = mlen k) ∧ (64 ≤ ln 18 ∧ ln 18 ≤ 8192)
theorem mfv_i {ad : Nat → Nat} {v : Nat → Int} {k : Nat} (h : mA k = false) : mfv ad v k = .int (iI (v k)) := by unfold mfv; rw [h]; rfl
theorem mfv_a {ad : Nat → Nat} {v : Nat → Int} {k : Nat} (h : mA k = true) : mfv ad v k = .ref (ad k) := by unfold mfv; rw [h]; rfl
theorem mfv_put {ad : Nat → Nat} {v : Nat → Int} {k : Nat} {z : Int} (h : mA k = false) : va_up (mfv ad v) k (.int (iI z)) = mfv ad (va_up v k z) := by
  funext j
  by_cases e : j = k
  · subst e; rw [va_up_self, mfv_i h, va_up_self]
  · rw [va_up_ne _ _ e]; unfold mfv; rw [va_up_ne _ _ e]
theorem mI.put {G : GT} {h0 : Nat} {ad ln : Nat → Nat} {v : Nat → Int} {a : Nat → Nat → Int} {L : List Nat} {E : Nat → va_E} {k : Nat} {z : Int} (h : mI G h0 ad ln v a L E) (hk : mA k = false) : mI G h0 ad ln (va_up v k z) a L (va_up E h0 (ob 13 67 (va_up (mfv ad v) k (.int (iI z))))) := by
  obtain ⟨h1, h2, h3, h4, h5, h6⟩ := h
  refine ⟨h1, by rw [va_up_self, mfv_put hk], fun j hj => ⟨(h3 j hj).1, ?_⟩, h4, h5, h6⟩
  rw [va_up_ne _ _ (Ne.symm (h4 j hj))]; exact (h3 j hj).2
theorem mI.set {G : GT} {h0 : Nat} {ad ln : Nat → Nat} {v : Nat → Int} {a : Nat → Nat → Int} {L : List Nat} {E : Nat → va_E} {k i : Nat} {z : Int} (h : mI G h0 ad ln v a L E) (hk : mA k = true) {x : va_E} (hx : x = mar G (ln k) k (up2 a k i z k)) : mI G h0 ad ln v (up2 a k i z) L (va_up E (ad k) x) := by
  obtain ⟨h1, h2, h3, h4, h5, h6⟩ := h
  refine ⟨h1, by rw [va_up_ne _ _ (h4 k hk)]; exact h2, fun j hj => ⟨(h3 j hj).1, ?_⟩, h4, h5, h6⟩
  by_cases e : j = k
  · subst e; rw [va_up_self, hx]
  · rw [va_up_ne _ _ (fun q => e (h5 j k hj hk q)), (h3 j hj).2]
    have : up2 a k i z j = a j := by funext q; unfold up2; rw [if_neg e]
    rw [this]
theorem up2_s {a : Nat → Nat → Int} {k i : Nat} {z : Int} : up2 a k i z k i = z := by unfold up2; rw [if_pos rfl, if_pos rfl]
theorem up2_k {a : Nat → Nat → Int} {k i k2 j : Nat} {z : Int} (h : k2 ≠ k) : up2 a k i z k2 j = a k2 j := by unfold up2; rw [if_neg h]
theorem up2_j {a : Nat → Nat → Int} {k i k2 j : Nat} {z : Int} (h : j ≠ i) : up2 a k i z k2 j = a k2 j := by
  unfold up2; simp [h]
section MQ2
variable {p : Program} {l : Launch} {e : Env} {R : Room} {s : State} {m : MethodId} {args : Array Value} {below : List Frame} {meth : Method} {c : Code} {cc : ByteArray} {y : MethodName} {ret : Option FieldType} {G : GT} {A : Nat → Prop} {nL mc ms : Nat} {Q : State → Prop} {Post : Option Value → (Nat → Int) → (Nat → Nat → Int) → Prop} {h0 : Nat} {ad ln : Nat → Nat} {v : Nat → Int} {a : Nat → Nat → Int} {kc ks pc : Nat} {lv : List (Nat × Value)} {st : List Value}
end MQ2
