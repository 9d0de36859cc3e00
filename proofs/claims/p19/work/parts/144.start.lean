theorem law_classes {s : State} {args : Array Value} {c0 : ClassId} (hg : ∀ w ∈ lw_g, w.before args s = true) : ∃ (dC : Nat → ClassId) (dI : Nat → Nat → Nat), ∀ (k : Nat) (q : vw_C), vwCl[k]? = some q → u_Kn s q.1 q.2.1 q.2.2 (dC k) (dI k) := by
  have key : ∀ k : Nat, ∃ (cC : ClassId) (iS : Nat → Nat), ∀ q : vw_C, vwCl[k]? = some q → u_Kn s q.1 q.2.1 q.2.2 cC iS := by
    intro k
    match k with
    | 0 => exact (by obtain ⟨cC, iS, h⟩ := u_known hg ck_0.2.1 (hg _ w1_65); exact ⟨cC, iS, fun q hq => by cases hq; exact h⟩)
    | 1 => exact (by obtain ⟨cC, iS, h⟩ := u_known hg ck_1.2.1 (hg _ w3_35); exact ⟨cC, iS, fun q hq => by cases hq; exact h⟩)
    | 2 => exact (by obtain ⟨cC, iS, h⟩ := u_known hg ck_2.2.1 (hg _ w1_33); exact ⟨cC, iS, fun q hq => by cases hq; exact h⟩)
    | 3 => exact (by obtain ⟨cC, iS, h⟩ := u_known hg ck_3.2.1 (hg _ w4_39); exact ⟨cC, iS, fun q hq => by cases hq; exact h⟩)
    | 4 => exact (by obtain ⟨cC, iS, h⟩ := u_known hg ck_4.2.1 (hg _ w1_180); exact ⟨cC, iS, fun q hq => by cases hq; exact h⟩)
    | 5 => exact (by obtain ⟨cC, iS, h⟩ := u_known hg ck_5.2.1 (hg _ w1_221); exact ⟨cC, iS, fun q hq => by cases hq; exact h⟩)
    | 6 => exact (by obtain ⟨cC, iS, h⟩ := u_known hg ck_6.2.1 (hg _ w3_126); exact ⟨cC, iS, fun q hq => by cases hq; exact h⟩)
    | 7 => exact (by obtain ⟨cC, iS, h⟩ := u_known hg ck_7.2.1 (hg _ w1_131); exact ⟨cC, iS, fun q hq => by cases hq; exact h⟩)
    | 8 => exact (by obtain ⟨cC, iS, h⟩ := u_known hg ck_8.2.1 (hg _ w2_26); exact ⟨cC, iS, fun q hq => by cases hq; exact h⟩)
    | 9 => exact (by obtain ⟨cC, iS, h⟩ := u_known hg ck_9.2.1 (hg _ w1_98); exact ⟨cC, iS, fun q hq => by cases hq; exact h⟩)
    | 10 => exact (by obtain ⟨cC, iS, h⟩ := u_known hg ck_10.2.1 (hg _ w2_163); exact ⟨cC, iS, fun q hq => by cases hq; exact h⟩)
    | 11 => exact (by obtain ⟨cC, iS, h⟩ := u_known hg ck_11.2.1 (hg _ w1_59); exact ⟨cC, iS, fun q hq => by cases hq; exact h⟩)
    | 12 => exact (by obtain ⟨cC, iS, h⟩ := u_known hg ck_12.2.1 (hg _ w1_25); exact ⟨cC, iS, fun q hq => by cases hq; exact h⟩)
    | 13 => exact (by obtain ⟨cC, iS, h⟩ := u_known hg ck_13.2.1 (hg _ w6_50); exact ⟨cC, iS, fun q hq => by cases hq; exact h⟩)
    | k + 14 => exact ⟨c0, fun _ => 0, fun q hq => by simp [vwCl] at hq⟩
  exact ⟨fun k => (key k).choose, fun k => (key k).choose_spec.choose, fun k q hq => (key k).choose_spec.choose_spec q hq⟩
theorem law_arr {s : State} {args : Array Value} {C : String} (h : (Cond.arrayOver (.object C)).before args s = true) : ∃ c : ClassId, ArrOfT s c (.object C) ∧ va_RA s c (.object C) := by
  obtain ⟨comp, c, k, h1, h2, h3, h4, h5⟩ := Cond.arrayOver_spec h
  exact ⟨c, fun N z => ⟨(fun k h => by cases h), k, h3, comp, h4⟩, k, comp, h3, h4, h1, h5⟩
theorem law_arrI {s : State} {args : Array Value} (h : (Cond.arrayClass .int).before args s = true) : ∃ c : ClassId, ArrOfT s c .int ∧ va_RA s c .int := by
  obtain ⟨c, k, comp, h1, h2, h3⟩ := Cond.arrayClass_spec h
  exact ⟨c, fun N z => ⟨(fun k h => by cases h), k, h2, comp, h3⟩, h1⟩
theorem law_arrZ {s : State} {args : Array Value} (h : (Cond.arrayClass .boolean).before args s = true) : ∃ c : ClassId, ArrOfT s c .boolean ∧ va_RA s c .boolean := by
  obtain ⟨c, k, comp, h1, h2, h3⟩ := Cond.arrayClass_spec h
  exact ⟨c, fun N z => ⟨(fun k h => by cases h), k, h2, comp, h3⟩, h1⟩
