theorem W_putIndicator {v v2 : Nat → Int} {a a2 : Nat → Nat → Int} {r : Option Value} {t w1 : Int} (hB : BX v a) (h25 : v 25 ≤ 204) (h : (fun r v2 a2 => r = none ∧ v2 = va_up v 25 (v 25 + a 16 (4 * t + w1).toNat) ∧ (∀ j, j ≠ 24 → a2 j = a j) ∧ RG v2 a2) r v2 a2) : (fun r v2 a2 => r = none ∧ fr [25] [24] v a v2 a2 ∧ BX v2 a2 ∧ (v2 25 = v 25 + a 16 (4 * t + w1).toNat)) r v2 a2 := by
  obtain ⟨rfl, rfl, ha, hr⟩ := h
  refine hv2 (show 0 ≤ a 16 (4 * t + w1).toNat ∧ a 16 (4 * t + w1).toNat ≤ 4 from hB.2 16 _) (show 0 ≤ v 25 ∧ v 25 ≤ 208 from hB.1 25) (fun h16 q25 => ?_)
  refine ⟨rfl, ⟨fun j hj => va_up_ne _ _ (by rintro rfl; exact absurd hj (by decide)), fun j hj => ha j (by rintro rfl; exact absurd hj (by decide))⟩, hB.re hr (fun k => ?_) (fun k => ?_), rfl⟩
  · by_cases e : k = 25
    · subst e; refine Or.inl (Or.inr ?_); rw [va_up_self]; exact (show 0 ≤ _ ∧ _ ≤ 208 by omega)
    · exact Or.inl (Or.inl (va_up_ne _ _ e))
  · by_cases e : k = 24
    · subst e; exact Or.inr ⟨rfl, rfl⟩
    · exact Or.inl (Or.inl (ha k e))
