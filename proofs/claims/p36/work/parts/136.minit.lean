def PMI (G : GT) (h0 : Nat) (D : List Nat) (ad : Nat → Nat) (v : Nat → Int) (L : List Nat) (E : Nat → va_E) : Prop := h0 ∈ L ∧ (∃ f, E h0 = ob 13 67 f ∧ (∀ k, D.contains k = true → f k = .ref (ad k)) ∧ (∀ k, k < 67 → mA k = false → f k = .int (iI (v k)))) ∧ (∀ k, D.contains k = true → mA k = true ∧ ad k ∈ L ∧ E (ad k) = mar G (mlen k) k (fun _ => 0) ∧ h0 ≠ ad k) ∧ (∀ i j, D.contains i = true → D.contains j = true → ad i = ad j → i = j)
section PMIS
variable {G : GT} {h0 q k : Nat} {D : List Nat} {ad : Nat → Nat} {v : Nat → Int} {L L2 : List Nat} {E E2 : Nat → va_E} {f : Nat → Value} {z : Int}
theorem PMI.int (hL : h0 ∈ L) (hE : E h0 = ob 13 67 f) (hf : ∀ k, D.contains k = true → f k = .ref (ad k)) (hg : ∀ k, k < 67 → mA k = false → f k = .int (iI (v k))) (hA : ∀ k, D.contains k = true → mA k = true ∧ ad k ∈ L ∧ E (ad k) = mar G (mlen k) k (fun _ => 0) ∧ h0 ≠ ad k) (hJ : ∀ i j, D.contains i = true → D.contains j = true → ad i = ad j → i = j) (hl : L2 = L) (he : E2 = va_up E h0 (ob 13 67 (va_up f k (.int (iI z))))) (hm : mA k = false) : PMI G h0 D ad (va_up v k z) L2 E2 := by
  subst hl; subst he
  have hkk : ∀ i, D.contains i = true → i ≠ k := fun i hi e => by rw [e] at hi; rw [(hA k hi).1] at hm; cases hm
  refine ⟨hL, ⟨_, va_up_self _ _ _, ?_, ?_⟩, ?_, hJ⟩
  · intro i hi
    rw [va_up_ne _ _ (hkk i hi)]; exact hf i hi
  · intro i hi hn
    by_cases e : i = k
    · subst e; rw [va_up_self, va_up_self]
    · rw [va_up_ne _ _ e, va_up_ne _ _ e]; exact hg i hi hn
  · intro i hi
    obtain ⟨a1, a2, a3, a4⟩ := hA i hi
    exact ⟨a1, a2, (va_up_ne _ _ (Ne.symm a4)).trans a3, a4⟩
theorem mA_sub (h : mA k = true) : [2, 5, 6, 7, 8, 9, 10, 11, 12, 13, 14, 15, 16, 17, 18, 20, 21, 22, 24, 26, 27, 29, 34, 35, 37, 38, 40, 44, 45, 46, 47, 48, 49, 51, 54, 57, 58, 59, 62, 65].contains k = true := h
theorem PMI.fin (h : PMI G h0 D ad v L E) (hD : ([2, 5, 6, 7, 8, 9, 10, 11, 12, 13, 14, 15, 16, 17, 18, 20, 21, 22, 24, 26, 27, 29, 34, 35, 37, 38, 40, 44, 45, 46, 47, 48, 49, 51, 54, 57, 58, 59, 62, 65] : List Nat).all (fun t => D.contains t) = true) : mI G h0 ad mlen v (fun _ _ => 0) L E := by
  obtain ⟨hL, ⟨f, hE, hf, hg⟩, hA, hJ⟩ := h
  have hc : ∀ k, mA k = true → D.contains k = true := fun k hk => List.all_eq_true.mp hD k (List.contains_iff_mem.mp (mA_sub hk))
  refine ⟨hL, ?_, fun k hk => ⟨(hA k (hc k hk)).2.1, (hA k (hc k hk)).2.2.1⟩, fun k hk => (hA k (hc k hk)).2.2.2, fun i j hi hj => hJ i j (hc i hi) (hc j hj), fun _ _ => rfl, by decide, by decide⟩
  rw [hE]
  unfold ob
  congr 2
  refine List.map_congr_left (fun k hk => ?_)
  cases hm : mA k
  · rw [mfv_i hm]; exact hg k (List.mem_range.mp hk) hm
  · rw [mfv_a hm]; exact hf k (hc k hm)
end PMIS
