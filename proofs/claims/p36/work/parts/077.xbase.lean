def xar (G : GT) (n : Nat) (zb : Bool) (c : Nat → Int) : va_E := if zb = true then aZ G n (fun j => iI (c j)) else aI G n (fun j => iI (c j))
def mIx (G : GT) (h0 : Nat) (ad ln : Nat → Nat) (bb nb : Nat) (zb : Bool) (v : Nat → Int) (a : Nat → Nat → Int) (L : List Nat) (E : Nat → va_E) : Prop := mI G h0 ad ln v a L E ∧ bb ∉ L ∧ E bb = xar G nb zb (a 70)
theorem mI.congr {G : GT} {h0 : Nat} {ad ln : Nat → Nat} {v : Nat → Int} {a a2 : Nat → Nat → Int} {L : List Nat} {E E2 : Nat → va_E} (h : mI G h0 ad ln v a L E) (hE : ∀ q, q ∈ L → E2 q = E q) (ha : ∀ k, mA k = true → a2 k = a k) : mI G h0 ad ln v a2 L E2 := by
  obtain ⟨h1, h2, h3, h4, h5, h6⟩ := h
  refine ⟨h1, by rw [hE _ h1]; exact h2, fun j hj => ⟨(h3 j hj).1, ?_⟩, h4, h5, h6⟩
  rw [hE _ (h3 j hj).1, ha j hj]; exact (h3 j hj).2
theorem mIx.put {G : GT} {h0 : Nat} {ad ln : Nat → Nat} {bb nb : Nat} {zb : Bool} {v : Nat → Int} {a : Nat → Nat → Int} {L : List Nat} {E : Nat → va_E} {k : Nat} {z : Int} (h : mIx G h0 ad ln bb nb zb v a L E) (hk : mA k = false) : mIx G h0 ad ln bb nb zb (va_up v k z) a L (va_up E h0 (ob 13 67 (va_up (mfv ad v) k (.int (iI z))))) :=
  ⟨h.1.put hk, h.2.1, by rw [va_up_ne _ _ (fun q => h.2.1 (by rw [q]; exact h.1.1))]; exact h.2.2⟩
theorem mIx.set {G : GT} {h0 : Nat} {ad ln : Nat → Nat} {bb nb : Nat} {zb : Bool} {v : Nat → Int} {a : Nat → Nat → Int} {L : List Nat} {E : Nat → va_E} {k i : Nat} {z : Int} (h : mIx G h0 ad ln bb nb zb v a L E) (hk : mA k = true) {x : va_E} (hx : x = mar G (ln k) k (up2 a k i z k)) : mIx G h0 ad ln bb nb zb v (up2 a k i z) L (va_up E (ad k) x) :=
  ⟨h.1.set hk hx, h.2.1, by
    rw [va_up_ne _ _ (fun q => h.2.1 (by rw [q]; exact (h.1.2.2.1 k hk).1))]
    rw [show up2 a k i z 70 = a 70 from funext fun _ => up2_k (fun q => by subst q; exact absurd hk (by decide))]
    exact h.2.2⟩
section MQ3
variable {p : Program} {l : Launch} {e : Env} {R : Room} {s : State} {m : MethodId} {args : Array Value} {below : List Frame} {meth : Method} {c : Code} {cc : ByteArray} {y : MethodName} {ret : Option FieldType} {G : GT} {A : Nat → Prop} {nL mc ms : Nat} {Q : State → Prop} {Post : Option Value → (Nat → Int) → (Nat → Nat → Int) → Prop} {h0 : Nat} {ad ln : Nat → Nat} {v : Nat → Int} {a : Nat → Nat → Int} {kc ks pc : Nat} {lv : List (Nat × Value)} {st : List Value} {bb nb : Nat} {zb : Bool}
end MQ3
