def NW (cs : List Nat) (L L2 : List Nat) (cl2 : Nat → Nat) : Prop := ∀ a ∈ L2, a ∈ L ∨ cs.contains (cl2 a) = true
section NWS
variable {g : Nat} {sk : Nat → Nat} {L L2 L3 : List Nat} {cl ln cl2 ln2 cl3 ln3 : Nat → Nat} {iv : Nat → Nat → Int} {rv : Nat → Nat → Option Nat} {q t : Nat} {cs cs2 : List Nat}
theorem NW.refl : NW [] L L cl := fun _ h => Or.inl h
theorem mem_c {x : Nat} (h : cs.contains x = true) : (t :: cs).contains x = true := by rw [List.contains_cons, h, Bool.or_true]
theorem NW.new (h : NW cs L L2 cl2) (hX : XT L2 cl2 ln2 (L2 ++ [q]) cl3 ln3) (hc : cl3 = va_up cl2 q t) : NW (t :: cs) L (L2 ++ [q]) cl3 := by
  intro a ha
  rcases List.mem_append.mp ha with h1 | h1
  · rcases h a h1 with w | w
    · exact Or.inl w
    · exact Or.inr (by rw [(hX a h1).2.1]; exact mem_c w)
  · rw [List.mem_singleton] at h1
    subst h1
    exact Or.inr (by rw [hc, va_up_self, List.contains_cons, beq_self_eq_true, Bool.true_or])
theorem NW.call (h : NW cs L L2 cl2) (hX : XT L2 cl2 ln2 L3 cl3 ln3) (h2 : NW cs2 L2 L3 cl3) : NW (cs2 ++ cs) L L3 cl3 := by
  intro a ha
  rcases h2 a ha with w | w
  · rcases h a w with v | v
    · exact Or.inl v
    · exact Or.inr (by rw [(hX a w).2.1]; exact List.contains_iff_mem.mpr (List.mem_append_right _ (List.contains_iff_mem.mp v)))
  · exact Or.inr (List.contains_iff_mem.mpr (List.mem_append_left _ (List.contains_iff_mem.mp w)))
theorem NW.sub (h : NW cs L L2 cl2) (hs : cs.all (fun t => cs2.contains t) = true) : NW cs2 L L2 cl2 := by
  intro a ha
  rcases h a ha with w | w
  · exact Or.inl w
  · exact Or.inr (List.all_eq_true.mp hs _ (List.contains_iff_mem.mp w))
theorem NW.no (h : NW cs L L2 cl2) (hX : XT L cl ln L2 cl2 ln2) (h0 : ∀ a ∈ L, cl a ≠ t) (hc : cs.contains t = false) : ∀ a ∈ L2, cl2 a ≠ t := by
  intro a ha e
  rcases h a ha with w | w
  · exact h0 a w ((hX a w).2.1.symm.trans e)
  · rw [e, hc] at w; cases w
end NWS
