theorem q_g0 {p : Program} {l : Launch} {e : Env} {R : Room} {s : State} {m : MethodId} {args : Array Value} {below : List Frame} {meth : Method} {c : Code} {cc : ByteArray} {y : MethodName} {ret : Option FieldType} {G : GT} {A : Nat → Prop} {nL : Nat} {Q : State → Prop} {L : List Nat} {E : Nat → va_E} {kc ks pc : Nat} {lv : List (Nat × Value)} {st : List Value} (C : Cq p s m args meth c cc y ret G A nL) (k : (∀ b ∈ L, b ≠ g0 G) → wq p l e R s m args below meth c G A nL Q L E kc ks pc lv st) : wq p l e R s m args below meth c G A nL Q L E kc ks pc lv st := by
  intro H locs ls hP hD hS hl
  refine k ?_ H locs ls hP hD hS hl
  intro b hb e
  obtain ⟨q0, hq⟩ := pl_at (E := E) hb
  obtain ⟨_, _, _, _, _, _, _, hn⟩ := C.2.2.2.2.2.2.2.1.2
  exact hn (e ▸ hD.2 q0 _ hq)
theorem mv0_hi (k : Nat) : mv0 (k + 67) = 0 := by
  unfold mv0
  simp only [va_up_ne _ _ (show k + 67 ≠ 1 by omega), va_up_ne _ _ (show k + 67 ≠ 31 by omega), va_up_ne _ _ (show k + 67 ≠ 32 by omega), va_up_ne _ _ (show k + 67 ≠ 33 by omega)]
set_option maxRecDepth 100000 in
theorem MIV0 : MIV 0 mlen mv0 (fun _ _ => 0) := by
  have h4 : mv0 4 = 0 := by decide
  have hR : RWS (fun _ _ => 0) := fun q _ => ⟨⟨(show (0 : Int) ≤ 0 by decide), (show (0 : Int) ≤ 6008 by decide)⟩, fun r h1 h2 => by
    have h3 : r < 6008 * q + 0 := h2
    omega⟩
  refine hv3 (show TBL mv0 (fun _ _ => 0) from ⟨fun t h1 h2 => by omega, fun t r h1 h2 => by omega⟩) (show ∀ k : Nat, k < 67 → vlo k ≤ mv0 k ∧ mv0 k ≤ vhi k from by decide +kernel) (show ∀ k : Nat, k < 67 → alo k ≤ 0 ∧ 0 ≤ ahi k from by decide +kernel) (fun hT f0 g0 => ?_)
  refine ⟨⟨fun k => ?_, fun k j => ?_⟩, hT, ⟨by decide, ⟨by decide, by decide⟩, 0, by decide, h4⟩, hR, by decide⟩
  · by_cases h : k < 67
    · exact f0 k h
    · obtain ⟨j, rfl⟩ : ∃ j, k = j + 67 := ⟨k - 67, by omega⟩
      rw [mv0_hi]; exact ⟨(show (-2147483648 : Int) ≤ 0 by decide), (show (0 : Int) ≤ 2147483647 by decide)⟩
  · by_cases h : k < 67
    · exact g0 k h
    · obtain ⟨i, rfl⟩ : ∃ i, k = i + 67 := ⟨k - 67, by omega⟩
      exact ⟨(show (-2147483648 : Int) ≤ 0 by decide), (show (0 : Int) ≤ 2147483647 by decide)⟩
theorem WT0 {G : GT} {sk : Nat → Nat} {h0 : Nat} (hg : h0 ≠ g0 G) : WT (g0 G) sk [h0] (fun _ => 212) (fun _ => 0) (fun _ _ => 0) (fun _ _ => none) := ⟨fun _ _ _ => ⟨(show (-2147483648 : Int) ≤ 0 by decide), (show (0 : Int) ≤ 2147483647 by decide)⟩, (fun _ _ _ q => by cases q), (fun _ _ q => by cases q), (fun _ _ q => by cases q), (fun _ _ q => by cases q), (fun _ _ q => by cases q), fun q => hg (List.mem_singleton.mp q).symm⟩
