def VLR (a : Nat → Nat → Int) (r : Int) : Prop := ∃ p : Int, (p = 0 ∨ p = 1) ∧ 6008 * p ≤ r ∧ r < 6008 * p + a 47 p.toNat
def HSQ (a : Nat → Nat → Int) (r k c : Int) : Prop := ∃ r1 k1 : Int, VLR a r1 ∧ 0 ≤ a 44 r1.toNat ∧ (0 ≤ k1 ∧ k1 < a 12 (a 44 r1.toNat).toNat) ∧ (r1 < r ∨ (r1 = r ∧ k1 < k)) ∧ LCQ a (8 * a 44 r1.toNat + k1) c
def GSI (a : Nat → Nat → Int) (g : Nat → Int) (r k : Int) : Prop := ∀ c : Nat, c < 256 → (g c ≠ 0 ↔ HSQ a r k ((c : Nat) : Int))
def GSH (a : Nat → Nat → Int) (g : Nat → Int) (t : Int) : Prop := ∀ c : Nat, c < 256 → (g c ≠ 0 ↔ (HSQ a 12016 0 ((c : Nat) : Int) ∨ (a 6 t.toNat = 5 ∧ (c = 60 ∨ c = 62))))
def SGH (v : Nat → Int) (s g : Nat → Int) (k : Int) : Prop := v 66 = (((sgl g k.toNat).length : Nat) : Int) ∧ ∀ (j : Nat) (x : Int), (sgl g k.toNat)[j]? = some x → s j = x
def GSX (a : Nat → Nat → Int) (v2 : Nat → Int) (a2 : Nat → Nat → Int) (t : Int) : Prop := ∃ g, GSH a g t ∧ SGH v2 (a2 65) g 256
section USIG
variable {v v1 v2 : Nat → Int} {a a1 a2 A : Nat → Nat → Int} {g g2 s s2 : Nat → Int} {r k t pt L c x y z : Int} {l0 l1 : List Int}
theorem u70 {i j : Nat} : (up2 A 70 i 1) 70 j ≠ 0 ↔ (j = i ∨ A 70 j ≠ 0) := by
  by_cases e : j = i
  · subst e
    rw [up2_s]
    exact ⟨fun _ => Or.inl rfl, fun _ => by decide⟩
  · rw [up2_j e]
    exact ⟨fun q => Or.inr q, fun q => q.resolve_left e⟩
theorem GSI.init (hz : ∀ j, g j = 0) (hr : r ≤ 0) : GSI a g r 0 := fun c hc => by
  refine ⟨fun q => absurd (hz c) q, fun q => ?_⟩
  obtain ⟨r1, k1, ⟨p, p1, p2, p3⟩, q2, q3, q4, q5⟩ := q
  omega
theorem HSQ.step (hv : VLR a r) (hi : 0 ≤ a 44 r.toNat) (hk : 0 ≤ k ∧ k < a 12 (a 44 r.toNat).toNat) : HSQ a r (k + 1) c ↔ (HSQ a r k c ∨ LCQ a (8 * a 44 r.toNat + k) c) := by
  constructor
  · intro q
    obtain ⟨r1, k1, q1, q2, q3, q4, q5⟩ := q
    by_cases e : r1 = r ∧ k1 = k
    · obtain ⟨e1, e2⟩ := e
      subst e1
      subst e2
      exact Or.inr q5
    · exact Or.inl ⟨r1, k1, q1, q2, q3, by omega, q5⟩
  · intro q
    rcases q with q | q
    · obtain ⟨r1, k1, q1, q2, q3, q4, q5⟩ := q
      exact ⟨r1, k1, q1, q2, q3, by omega, q5⟩
    · exact ⟨r, k, hv, hi, hk, Or.inr ⟨rfl, by omega⟩, q⟩
theorem GSI.plain (h : GSI a (A 70) r k) (hv : VLR a r) (hi : 0 ≤ a 44 r.toNat) (hk : 0 ≤ k ∧ k < a 12 (a 44 r.toNat).toNat) (hL : L = a 14 (8 * a 44 r.toNat + k).toNat) (hb : 0 ≤ L ∧ L ≤ 255) (hn : ¬ (97 ≤ L ∧ L ≤ 122)) : GSI a ((up2 A 70 L.toNat 1) 70) r (k + 1) := fun c hc => by
  rw [u70, h c hc, HSQ.step hv hi hk]
  unfold LCQ
  rw [← hL]
  constructor
  · intro q
    rcases q with q | q
    · exact Or.inr (Or.inl (by omega))
    · exact Or.inl q
  · intro q
    rcases q with q | q | ⟨q, _⟩
    · exact Or.inr q
    · exact Or.inl (by omega)
    · exact absurd q hn
theorem GSI.row (h : GSI a g r k) (he : a 44 r.toNat < 0 ∨ a 12 (a 44 r.toNat).toNat ≤ k) : GSI a g (r + 1) 0 := fun c hc => by
  rw [h c hc]
  constructor
  · intro q
    obtain ⟨r1, k1, q1, q2, q3, q4, q5⟩ := q
    exact ⟨r1, k1, q1, q2, q3, by omega, q5⟩
  · intro q
    obtain ⟨r1, k1, q1, q2, q3, q4, q5⟩ := q
    by_cases e : r1 = r
    · subst e
      exact ⟨r1, k1, q1, q2, q3, by omega, q5⟩
    · exact ⟨r1, k1, q1, q2, q3, by omega, q5⟩
theorem GSI.next (h : GSI a g r 0) (hp : pt = 0 ∨ pt = 1) (hb : ∀ i, 0 ≤ a 47 i ∧ a 47 i ≤ 6008) (hr : 6008 * pt + a 47 pt.toNat ≤ r ∧ r ≤ 6008 * pt + 6008) : GSI a g (6008 * (pt + 1)) 0 := fun c hc => by
  rw [h c hc]
  constructor
  · intro q
    obtain ⟨r1, k1, q1, q2, q3, q4, q5⟩ := q
    exact ⟨r1, k1, q1, q2, q3, by omega, q5⟩
  · intro q
    obtain ⟨r1, k1, ⟨p, p1, p2, p3⟩, q2, q3, q4, q5⟩ := q
    have b1 := hb p.toNat
    have b2 := hb pt.toNat
    refine ⟨r1, k1, ⟨p, p1, p2, p3⟩, q2, q3, ?_, q5⟩
    by_cases e : p = pt
    · subst e
      omega
    · omega
theorem GSI.fin0 (h : GSI a g (6008 * pt) 0) (hp : pt = 2) (h6 : a 6 t.toNat ≠ 5) : GSH a g t := fun c hc => by
  subst hp
  rw [h c hc]
  exact ⟨fun q => Or.inl q, fun q => q.resolve_right (fun w => h6 w.1)⟩
theorem SGH.init (h : v 66 = 0) : SGH v s g 0 := ⟨h, fun j x e => by simp [sgl] at e⟩
theorem GSX.mk (h1 : GSH a (a2 70) t) (h2 : SGH v2 (a2 65) (a2 70) k) (hk : k = 256) : GSX a v2 a2 t := by
  subst hk
  exact ⟨_, h1, h2⟩
theorem HSQ.hsc (h0 : HLD a1 a1 0 l0) (h1 : HLD a1 a1 1 l1) (e12 : a1 12 = a 12) (e14 : a1 14 = a 14) (hb : ∀ i, 0 ≤ a1 47 i ∧ a1 47 i ≤ 6008) : HSQ a1 12016 0 c ↔ HSC a l0 l1 c := by
  have lc : ∀ j, LCQ a1 j c ↔ LCQ a j c := fun j => by
    unfold LCQ
    rw [e14]
  have go : ∀ (q : Int) (l : List Int), (q = 0 ∨ q = 1) → HLD a1 a1 q l → (∀ d, d ∈ l → d ∈ l0 ∨ d ∈ l1) → ∀ r1 k1 : Int, 6008 * q ≤ r1 → r1 < 6008 * q + a1 47 q.toNat → 0 ≤ a1 44 r1.toNat → (0 ≤ k1 ∧ k1 < a1 12 (a1 44 r1.toNat).toNat) → LCQ a1 (8 * a1 44 r1.toNat + k1) c → HSC a l0 l1 c := fun q l hq hl hm r1 k1 g1 g2 g3 g4 g5 => by
    obtain ⟨d, d1, d2⟩ := hl.tt (by omega) g1 g2
    have e : a1 44 r1.toNat = d := by rcases d2.r44 with ⟨_, q2, _⟩ | ⟨q1, q2, q3, _⟩ <;> omega
    rw [e] at g3 g4 g5
    rw [e12] at g4
    exact ⟨d, k1, hm d (List.mem_of_getElem? d1), g3, g4, (lc _).mp g5⟩
  have bk : ∀ (q : Int) (l : List Int), (q = 0 ∨ q = 1) → HLD a1 a1 q l → ∀ d, d ∈ l → 0 ≤ d → ∀ k : Int, (0 ≤ k ∧ k < a 12 d.toNat) → LCQ a (8 * d + k) c → HSQ a1 12016 0 c := fun q l hq hl d hd d0 k hk hc => by
    obtain ⟨j, j1⟩ := List.getElem?_of_mem hd
    have w := hl.2.2 j d j1
    have lt := gl3 j1
    have le := hl.1
    have b := hb q.toNat
    have e : a1 44 (6008 * q + ((j : Nat) : Int)).toNat = d := by rcases w.r44 with ⟨_, q2, _⟩ | ⟨q1, _⟩ <;> omega
    refine ⟨6008 * q + ((j : Nat) : Int), k, ⟨q, hq, by omega, by omega⟩, by omega, ?_, Or.inl (by omega), ?_⟩
    · rw [e, e12]
      exact hk
    · rw [e]
      exact (lc _).mpr hc
  constructor
  · intro q
    obtain ⟨r1, k1, ⟨p, p1, p2, p3⟩, q2, q3, _, q5⟩ := q
    rcases p1 with e | e
    · subst e
      exact go 0 l0 (Or.inl rfl) h0 (fun d hd => Or.inl hd) r1 k1 p2 p3 q2 q3 q5
    · subst e
      exact go 1 l1 (Or.inr rfl) h1 (fun d hd => Or.inr hd) r1 k1 p2 p3 q2 q3 q5
  · intro q
    obtain ⟨d, k, hd, d0, hk, hc⟩ := q
    rcases hd with hd | hd
    · exact bk 0 l0 (Or.inl rfl) h0 d hd d0 k hk hc
    · exact bk 1 l1 (Or.inr rfl) h1 d hd d0 k hk hc
theorem GSH.hss (h : GSH a1 g t) (h0 : HLD a1 a1 0 (gat0 a t)) (h1 : HLD a1 a1 1 (gat1 a t)) (e6 : a1 6 = a 6) (e12 : a1 12 = a 12) (e14 : a1 14 = a 14) (hb : ∀ i, 0 ≤ a1 47 i ∧ a1 47 i ≤ 6008) : HSS a t g := fun c hc => by
  have w := h c hc
  rw [HSQ.hsc h0 h1 e12 e14 hb, e6] at w
  exact w
end USIG
