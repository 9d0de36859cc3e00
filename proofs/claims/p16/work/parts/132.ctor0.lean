def NW (cs : List Nat) (L L2 : List Nat) (cl2 : Nat → Nat) : Prop := ∀ a ∈ L2, a ∈ L ∨ cs.contains (cl2 a) = true
section NWS
variable {g : Nat} {sk : Nat → Nat} {L L2 L3 : List Nat} {cl ln cl2 ln2 cl3 ln3 : Nat → Nat} {iv : Nat → Nat → Int} {rv : Nat → Nat → Option Nat} {q t : Nat} {cs cs2 : List Nat}
theorem NW.refl : NW [] L L cl := fun _ h => Or.inl h
theorem mem_c {x : Nat} (h : cs.contains x = true) : (t :: cs).contains x = true := by rw [List.contains_cons, h, Bool.or_true]
theorem NW.new (h : NW cs L L2 cl2) (hX : XT L2 cl2 ln2 (L2 ++ [q]) cl3 ln3) (hc : cl3 = va_up cl2 q t) : NW (t :: cs) L (L2 ++ [q]) cl3 := by
  intro a ha
  rcases List.mem_append.mp ha with h1 | h1
  · rcases h a h1 with w | w
    · exact Or.inl w
    · exact Or.inr (by rw [(hX a h1).2.1]; exact mem_c w)
  · rw [List.mem_singleton] at h1
    subst h1
    exact Or.inr (by rw [hc, va_up_self, List.contains_cons, beq_self_eq_true, Bool.true_or])
theorem NW.rt (h : NW cs L L2 cl2) (hc : cl3 = va_up cl2 q t) : NW (t :: cs) L L2 cl3 := by
  intro a ha
  by_cases e : a = q
  · subst e; exact Or.inr (by rw [hc, va_up_self, List.contains_cons, beq_self_eq_true, Bool.true_or])
  · rcases h a ha with w | w
    · exact Or.inl w
    · exact Or.inr (by rw [hc, va_up_ne _ _ e]; exact mem_c w)
theorem NW.call (h : NW cs L L2 cl2) (hX : XT L2 cl2 ln2 L3 cl3 ln3) (h2 : NW cs2 L2 L3 cl3) : NW (cs2 ++ cs) L L3 cl3 := by
  intro a ha
  rcases h2 a ha with w | w
  · rcases h a w with v | v
    · exact Or.inl v
    · exact Or.inr (by rw [(hX a w).2.1]; exact List.contains_iff_mem.mpr (List.mem_append_right _ (List.contains_iff_mem.mp v)))
  · exact Or.inr (List.contains_iff_mem.mpr (List.mem_append_left _ (List.contains_iff_mem.mp w)))
theorem NW.sub (h : NW cs L L2 cl2) (hs : cs.all (fun t => cs2.contains t) = true) : NW cs2 L L2 cl2 := by
  intro a ha
  rcases h a ha with w | w
  · exact Or.inl w
  · exact Or.inr (List.all_eq_true.mp hs _ (List.contains_iff_mem.mp w))
theorem NW.no (h : NW cs L L2 cl2) (hX : XT L cl ln L2 cl2 ln2) (h0 : ∀ a ∈ L, cl a ≠ t) (hc : cs.contains t = false) : ∀ a ∈ L2, cl2 a ≠ t := by
  intro a ha e
  rcases h a ha with w | w
  · exact h0 a w ((hX a w).2.1.symm.trans e)
  · rw [e, hc] at w; cases w
theorem NW.nos {P : Nat → Bool} {B : List Nat} (h : NW cs L L2 cl2) (hX : XT L cl ln L2 cl2 ln2) (h0 : ∀ t, P t = true → ∀ a ∈ L, cl a ≠ t) (hc : B.all (fun t => P t && !cs.contains t) = true) : ∀ t, B.contains t = true → ∀ a ∈ L2, cl2 a ≠ t := by
  intro t ht
  have q := List.all_eq_true.mp hc t (List.contains_iff_mem.mp ht)
  simp only [Bool.and_eq_true, Bool.not_eq_true'] at q
  exact NW.no h hX (h0 t q.1) q.2
theorem WT.retagU (h : WT g sk L cl ln iv rv) (hq : q ∈ L) (hraw : raw (bt (cl q)) = true) (hcl : cl2 = va_up cl q t) (hb : ∀ k, ilo (bt t) k ≤ iv q k ∧ iv q k ≤ ihi (bt t) k) (hr : ∀ k, rok L cl2 g q k (rv q k)) (ha : arr (bt t) = true → llo (bt t) ≤ ln q ∧ ln q ≤ lhi (bt t)) (hs : szd (bt t) = true → ∀ b, rv q 1 = some b → (b = g ∧ iv q 2 = 0) ∨ (b ∈ L ∧ iv q 2 ≤ ((ln b : Nat) : Int))) (hl : lst (bt t) = true → ∀ b, rv q 1 = some b → ∀ i : Nat, (i : Int) < iv q 2 → rv b i ≠ none) (hno : ∀ a ∈ L, cl a ≠ t) : WT g (va_up sk t q) L cl2 ln iv rv := by
  subst hcl
  have ho : ∀ w, w ≠ q → va_up cl q t w = cl w := fun w hw => va_up_ne _ _ hw
  obtain ⟨h1, h2, h3, h4, h5, h6, h7⟩ := id h
  have tg0 : ∀ T k, raw (tgt T k) = false := by
    intro T k
    unfold tgt raw
    split <;> (try split) <;> rfl
  refine ⟨fun w hw j => ?_, fun w hw j => ?_, fun w hw => ?_, fun w hw => ?_, fun w hw => ?_, fun w hw => ?_, h7⟩
  · by_cases e : w = q
    · subst e; rw [va_up_self]; exact hb j
    · rw [ho w e]; exact h1 w hw j
  · by_cases e : w = q
    · subst e; exact hr j
    · intro hrw
      rw [ho w e] at hrw ⊢
      obtain ⟨g1, g2⟩ := h2 w hw j hrw
      refine ⟨g1, fun b hb => ?_⟩
      rcases g2 b hb with c1 | c1
      · have hbq : b ≠ q := fun e2 => by rw [← e2, c1.2.1, tg0] at hraw; cases hraw
        refine Or.inl ⟨c1.1, by rw [ho b hbq]; exact c1.2.1, ?_, ?_⟩
        · rw [ho w e, ho b hbq]; exact c1.2.2.1
        · rw [ho w e, ho b hbq]; exact c1.2.2.2
      · exact Or.inr c1
  · by_cases e : w = q
    · subst e; rw [va_up_self]; exact ha
    · rw [ho w e]; exact h3 w hw
  · by_cases e : w = q
    · subst e; rw [va_up_self]; exact hs
    · rw [ho w e]; exact h4 w hw
  · by_cases e : w = q
    · subst e; rw [va_up_self]; exact hl
    · rw [ho w e]; exact h5 w hw
  · by_cases e : w = q
    · subst e; rw [va_up_self]; intro _; exact (va_up_self _ _ _).symm
    · rw [ho w e]; intro z; rw [va_up_ne _ _ (hno w hw)]; exact h6 w hw z
end NWS
