theorem W_newLine {v v2 : Nat → Int} {a a2 : Nat → Nat → Int} {r : Option Value}  (hB : BX v a)  (h : (fun r v2 a2 => ∃ f : Int, r = some (.int (iI f)) ∧ ((f = 1 ∧ v 39 < 200 ∧ v2 = va_up v 39 (v 39 + 1) ∧ a2 = up2 a 37 (v 39).toNat 0) ∨ (f = 0 ∧ v 39 = 200 ∧ v = v2 ∧ a = a2))) r v2 a2) : (fun r v2 a2 => ∃ f : Int, r = some (.int (iI f)) ∧ fr [39] [37] v a v2 a2 ∧ BX v2 a2 ∧ ((f = 1 ∧ v2 39 = v 39 + 1 ∧ a2 37 (v2 39 - 1).toNat = 0) ∨ f = 0)) r v2 a2 := by
  obtain ⟨f, rfl, h⟩ := h
  have q39 : 0 ≤ v 39 ∧ v 39 ≤ 200 := hB.1 39
  rcases h with ⟨rfl, h1, rfl, rfl⟩ | ⟨rfl, h1, rfl, rfl⟩
  · exact ⟨1, rfl, ((fr.refl (V := [39]) (A := [37])).put (k := 39) rfl).set (k := 37) rfl, (hB.put (k := 39) (show 0 ≤ v 39 + 1 ∧ v 39 + 1 ≤ 200 by omega)).set (k := 37) (show (0 : Int) ≤ 0 ∧ (0 : Int) ≤ 200 by omega), Or.inl ⟨rfl, rfl, (by rw [show (va_up v 39 (v 39 + 1)) 39 - 1 = v 39 by rw [va_up_self]; omega]; exact up2_s)⟩⟩
  · exact ⟨0, rfl, fr.refl, hB, Or.inr rfl⟩
theorem W_putCell {v v2 : Nat → Int} {a a2 : Nat → Nat → Int} {r : Option Value} {x : Int} (hB : BX v a) (hx : -2147483648 ≤ x ∧ x ≤ 2147483647) (h37 : a 37 (v 39 - 1).toNat < 200) (h : (fun r v2 a2 => r = none ∧ v = v2 ∧ a2 = up2 (up2 a 38 (200 * (v 39 - 1) + a 37 (v 39 - 1).toNat).toNat x) 37 (v 39 - 1).toNat (a 37 (v 39 - 1).toNat + 1)) r v2 a2) : (fun r v2 a2 => r = none ∧ fr [] [37, 38] v a v2 a2 ∧ BX v2 a2 ∧ (a2 37 (v 39 - 1).toNat = a 37 (v 39 - 1).toNat + 1)) r v2 a2 := by
  obtain ⟨rfl, rfl, rfl⟩ := h
  have q37 : 0 ≤ a 37 (v 39 - 1).toNat ∧ a 37 (v 39 - 1).toNat ≤ 200 := hB.2 37 _
  exact ⟨rfl, ((fr.refl (V := []) (A := [37, 38])).set (k := 38) rfl).set (k := 37) rfl, (hB.set (k := 38) (show (-2147483648) ≤ x ∧ x ≤ 2147483647 by omega)).set (k := 37) (show 0 ≤ a 37 (v 39 - 1).toNat + 1 ∧ a 37 (v 39 - 1).toNat + 1 ≤ 200 by omega), up2_s⟩
