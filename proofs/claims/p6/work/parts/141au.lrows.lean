def LNE (iv : Nat → Nat → Int) (rv : Nat → Nat → Option Nat) (r : Nat) (xs : List Int) : Prop := iv r 1 = ((xs.length : Nat) : Int) ∧ ∀ cb, rv r 0 = some cb → ∀ (j : Nat) (x : Int), xs[j]? = some x → iv cb j = x
def LFR (L : List Nat) (cl : Nat → Nat) (iv : Nat → Nat → Int) (rv : Nat → Nat → Option Nat) (iv2 : Nat → Nat → Int) (r : Nat) : Prop := (∀ b, ty L cl b 19 → b ≠ r → iv2 b = iv b) ∧ ∀ b, ty L cl b 64 → rv r 0 ≠ some b → iv2 b = iv b
def LAX (iv : Nat → Nat → Int) (rv : Nat → Nat → Option Nat) (iv2 : Nat → Nat → Int) (r : Nat) (x : Int) : Prop := ∀ xs, LNE iv rv r xs → xs.length < 200 → LNE iv2 rv r (xs ++ [x])
def ind (n : Int) (xs : List Int) : List Int := if n ≤ 0 ∨ xs.length = 0 ∨ 200 - ((xs.length : Nat) : Int) < n then xs else List.replicate n.toNat 0 ++ xs
section LROW
variable {h : Nat} {sk : Nat → Nat} {L : List Nat} {cl ln : Nat → Nat} {iv iv1 iv2 iv3 : Nat → Nat → Int} {rv : Nat → Nat → Option Nat} {r s cb lb bb sb : Nat} {x y z p i k j n d f la o : Int} {xs ys cs : List Int} {w : List (Int × Nat × Int)} {st : Nat → Int} {ls : List Nat}
theorem LFR.refl : LFR L cl iv rv iv r := ⟨fun _ _ _ => rfl, fun _ _ _ => rfl⟩
theorem LFR.self {m : Nat} (h : LFR L cl iv rv iv1 r) (tr : ty L cl r 19) (e : iv2 = up2 iv1 r m z) : LFR L cl iv rv iv2 r := ⟨fun b tb hb => by
  funext q
  rw [e, up2_k hb, h.1 b tb hb], fun b tb hb => by
  funext q
  rw [e, up2_k (ne_ty tb tr (by decide)), h.2 b tb hb]⟩
theorem LFR.copy {X : Nat → Int} (h : LFR L cl iv rv iv1 r) (h0 : rv r 0 = some cb) (tc : ty L cl cb 64) (e : iv2 = fun u m => if u = cb then X m else iv1 u m) : LFR L cl iv rv iv2 r := ⟨fun b tb hb => by
  funext q
  rw [e]
  show (if b = cb then X q else iv1 b q) = iv b q
  rw [if_neg (ne_ty tb tc (by decide)), h.1 b tb hb], fun b tb hb => by
  funext q
  rw [e]
  show (if b = cb then X q else iv1 b q) = iv b q
  rw [if_neg (fun g => hb (by rw [g]; exact h0)), h.2 b tb hb]⟩
theorem LFR.trans (h : LFR L cl iv rv iv1 r) (h2 : LFR L cl iv1 rv iv2 r) : LFR L cl iv rv iv2 r := ⟨fun b tb hb => (h2.1 b tb hb).trans (h.1 b tb hb), fun b tb hb => (h2.2 b tb hb).trans (h.2 b tb hb)⟩
theorem LAX.mk (h0 : rv r 0 = some cb) (e1 : iv1 = up2 iv cb p.toNat x) (e2 : iv2 = up2 iv1 r 1 y) (hp : p = iv r 1) (hy : y = iv r 1 + 1) (hne : cb ≠ r) : LAX iv rv iv2 r x := fun xs hl hx => by
  obtain ⟨h1, h2⟩ := hl
  refine ⟨by rw [e2, up2_s, len1]; omega, fun cb' hb j z e => ?_⟩
  rw [h0] at hb; cases hb
  rcases ap1 e with ⟨c, e3⟩ | ⟨c, e3⟩
  · rw [e2, up2_k hne, e1, up2_j (by omega)]
    exact h2 cb h0 j z e3
  · rw [e2, up2_k hne, e1, show j = p.toNat by omega, up2_s]
    exact e3
end LROW
