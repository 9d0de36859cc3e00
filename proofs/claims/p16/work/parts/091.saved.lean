def nxt (T : Nat → Int) (N : Int) (s : Int × Nat × List (List (Int × Nat × Int))) : Int × Nat × List (List (Int × Nat × Int)) := if s.1 = 0 then (if N ≤ ((s.2.1 : Nat) : Int) then s else (1, s.2.1 + (if T s.2.1 = 94 then 1 else 0), s.2.2)) else (if (TWF T N ((s.2.1 : Nat) : Int)).2.length = 0 then (0, (TWF T N ((s.2.1 : Nat) : Int)).1 + 1, s.2.2) else (1, (TWF T N ((s.2.1 : Nat) : Int)).1, s.2.2 ++ [(TWF T N ((s.2.1 : Nat) : Int)).2]))
def itr (T : Nat → Int) (N : Int) : Nat → Int × Nat × List (List (Int × Nat × Int))
  | 0 => (0, 0, [])
  | k + 1 => nxt T N (itr T N k)
def RUN (T : Nat → Int) (N m : Int) (p : Int) (ws : List (List (Int × Nat × Int))) : Prop := 0 ≤ p ∧ ∃ k, itr T N k = (m, p.toNat, ws)
def lts (w : List (Int × Nat × Int)) : Nat → Int := fun j => ((w[j]?).map (fun x => x.1)).getD 0
def WST (a : Nat → Nat → Int) (t : Int) (w : List (Int × Nat × Int)) (cs : List Int) : Prop := SWC a (lts w) ((w.length : Nat) : Int) t cs
def ENDS (T : Nat → Int) (N : Int) (ws : List (List (Int × Nat × Int))) : Prop := ∃ p, RUN T N 0 p ws ∧ N ≤ p
section SAVE
variable {v v1 v2 : Nat → Int} {a a1 a2 : Nat → Nat → Int} {T : Nat → Int} {N q u p b f f1 f2 z x y m t n n1 n2 s : Int} {w : List (Int × Nat × Int)} {ws ws2 : List (List (Int × Nat × Int))} {k d : Nat} {cs : List Int}
theorem itr_s (k : Nat) : itr T N (k + 1) = nxt T N (itr T N k) := rfl
theorem nxt_ext (s : Int × Nat × List (List (Int × Nat × Int))) : ∃ r, (nxt T N s).2.2 = s.2.2 ++ r := by
  unfold nxt
  split
  · split
    · exact ⟨[], (List.append_nil _).symm⟩
    · exact ⟨[], (List.append_nil _).symm⟩
  · split
    · exact ⟨[], (List.append_nil _).symm⟩
    · exact ⟨_, rfl⟩
theorem itr_ext (k : Nat) : ∀ d : Nat, ∃ r, (itr T N (k + d)).2.2 = (itr T N k).2.2 ++ r := by
  intro d
  induction d with
  | zero => exact ⟨[], (List.append_nil _).symm⟩
  | succ d ih =>
    obtain ⟨r, h⟩ := ih
    obtain ⟨r2, h2⟩ := nxt_ext (T := T) (N := N) (itr T N (k + d))
    refine ⟨r ++ r2, ?_⟩
    rw [← Nat.add_assoc, itr_s, h2, h, List.append_assoc]
theorem itr_end {P : Nat} (h : itr T N k = (0, P, ws)) (hN : N ≤ ((P : Nat) : Int)) : ∀ d : Nat, itr T N (k + d) = (0, P, ws) := by
  intro d
  induction d with
  | zero => exact h
  | succ d ih =>
    rw [← Nat.add_assoc, itr_s, ih]
    unfold nxt
    rw [if_pos (by show (0 : Int) = 0; rfl), if_pos (by show N ≤ ((P : Nat) : Int); exact hN)]
theorem RUN.sub (h : RUN T N m p ws) (h2 : ENDS T N ws2) : ∃ r, ws2 = ws ++ r := by
  obtain ⟨_, k, e⟩ := h
  obtain ⟨p2, ⟨_, k2, e2⟩, hN⟩ := h2
  have e3 := itr_end e2 (by omega) k
  obtain ⟨r, h4⟩ := itr_ext (T := T) (N := N) k k2
  rw [Nat.add_comm k k2, e3, e] at h4
  exact ⟨r, h4⟩
theorem ENDS.uni (h : ENDS T N ws) (h2 : ENDS T N ws2) : ws = ws2 := by
  obtain ⟨p, g, gN⟩ := h
  obtain ⟨r, e⟩ := g.sub h2
  obtain ⟨p2, g2, gN2⟩ := h2
  obtain ⟨r2, e2⟩ := g2.sub ⟨p, g, gN⟩
  refine hv2 (congrArg List.length e) (congrArg List.length e2) (fun l1 l2 => ?_)
  rw [List.length_append] at l1 l2
  have z1 : r = [] := List.length_eq_zero_iff.mp (by omega)
  rw [e, z1, List.append_nil]
theorem RUN.zero : RUN T N 0 0 [] := ⟨Int.le_refl _, 0, rfl⟩
theorem RUN.enter (h : RUN T N 0 p ws) (hp : p < N) (hz : (T p.toNat = 94 ∧ z = p + 1) ∨ (T p.toNat ≠ 94 ∧ z = p)) : RUN T N 1 z ws := by
  obtain ⟨h0, k, e⟩ := h
  refine ⟨by omega, k + 1, ?_⟩
  rw [itr_s, e]
  unfold nxt
  rw [if_pos (by show (0 : Int) = 0; rfl), if_neg (by show ¬ N ≤ ((p.toNat : Nat) : Int); omega)]
  show ((1 : Int), p.toNat + (if T p.toNat = 94 then 1 else 0), ws) = (1, z.toNat, ws)
  rcases hz with ⟨e1, e2⟩ | ⟨e1, e2⟩
  · rw [if_pos e1, show z.toNat = p.toNat + 1 by omega]
  · rw [if_neg e1, show z.toNat = p.toNat + 0 by omega]
theorem nxt1 (P : Nat) (hP : ((P : Nat) : Int) = p) : nxt T N (1, P, ws) = if (TWF T N p).2.length = 0 then (0, (TWF T N p).1 + 1, ws) else (1, (TWF T N p).1, ws ++ [(TWF T N p).2]) := by
  subst hP
  unfold nxt
  rw [if_neg (by show ¬ (1 : Int) = 0; decide)]
theorem RUN.word (h : RUN T N 1 p ws) (hr : TWF T N p = (z.toNat, w)) (hz : 0 ≤ z) (hw : w.length ≠ 0) : RUN T N 1 z (ws ++ [w]) := by
  obtain ⟨h0, k, e⟩ := h
  refine hv2 (show (TWF T N p).2 = w from congrArg Prod.snd hr) (show (TWF T N p).1 = z.toNat from congrArg Prod.fst hr) (fun e3 e4 => ?_)
  refine ⟨hz, k + 1, ?_⟩
  rw [itr_s, e, nxt1 (p := p) p.toNat (by omega), e3, e4, if_neg hw]
theorem RUN.line (h : RUN T N 1 p ws) (hr : TWF T N p = (z.toNat, w)) (hz : 0 ≤ z) (hw : w.length = 0) : RUN T N 0 (z + 1) ws := by
  obtain ⟨h0, k, e⟩ := h
  refine hv2 (show (TWF T N p).2 = w from congrArg Prod.snd hr) (show (TWF T N p).1 = z.toNat from congrArg Prod.fst hr) (fun e3 e4 => ?_)
  refine ⟨by omega, k + 1, ?_⟩
  rw [itr_s, e, nxt1 (p := p) p.toNat (by omega), e3, e4, if_pos hw, show (z + 1).toNat = z.toNat + 1 by omega]
theorem SWC.len (h : SWC a (lts w) N t cs) : cs.length ≤ 200 := by
  rcases h with ⟨_, ps, ⟨_, h4⟩, h5⟩ | ⟨_, h2, _⟩
  · rw [h5]; omega
  · exact h2
theorem lts_w (h : WDH v a w) : AGW (a 20) (lts w) 0 ((w.length : Nat) : Int) := fun j h1 h2 => by
  have lt : j.toNat < w.length := by omega
  have g := (h.2 j.toNat _ (List.getElem?_eq_getElem lt)).1
  rw [g]
  show _ = ((w[j.toNat]?).map (fun x => x.1)).getD 0
  (rw [List.getElem?_eq_getElem lt]) <;> rfl
end SAVE
section SAV2
variable {v v1 v2 v3 : Nat → Int} {a a1 a2 a3 : Nat → Nat → Int} {T : Nat → Int} {N q u p b f f1 f2 z x y m t n n1 n2 s s2 k c : Int} {w : List (Int × Nat × Int)} {ws ws2 : List (List (Int × Nat × Int))} {cs : List Int}
theorem tw_len (M : Nat) : ∀ (n P : Nat) (b : Int) (w : List (Int × Nat × Int)), P ≤ (tw T M n P b w).1 ∧ (tw T M n P b w).2.length + P ≤ w.length + (tw T M n P b w).1 := by
  intro n
  induction n with
  | zero => intro P b w; exact ⟨Nat.le_refl _, Nat.le_refl _⟩
  | succ n ih =>
    intro P b w
    rw [tw_s]
    split
    · exact ⟨Nat.le_refl _, Nat.le_refl _⟩
    · split
      · split
        · have g := ih (P + 1) b w
          exact ⟨by omega, by omega⟩
        · exact ⟨Nat.le_refl _, Nat.le_refl _⟩
      · split
        · have g := ih (P + 1) 1 w
          exact ⟨by omega, by omega⟩
        · have g := ih (P + 1) 0 (w ++ [(T P, P, b)])
          have e0 : (w ++ [(T P, P, b)]).length = w.length + 1 := by rw [List.length_append]; rfl
          exact ⟨by omega, by omega⟩
theorem itr_len : ∀ k : Nat, (itr T N k).2.2.length ≤ (itr T N k).2.1 := by
  intro k
  induction k with
  | zero => exact Nat.le_refl _
  | succ k ih =>
    rw [itr_s]
    unfold nxt
    have g := tw_len (T := T) N.toNat (N.toNat + 1 - (((itr T N k).2.1 : Nat) : Int).toNat) (((itr T N k).2.1 : Nat) : Int).toNat 0 []
    have g2 : (itr T N k).2.1 ≤ (TWF T N (((itr T N k).2.1 : Nat) : Int)).1 ∧ (TWF T N (((itr T N k).2.1 : Nat) : Int)).2.length + (itr T N k).2.1 ≤ (TWF T N (((itr T N k).2.1 : Nat) : Int)).1 := by
      refine hv2 (g.1) (g.2) (fun g1 g3 => ?_)
      rw [Int.toNat_natCast] at g1 g3
      unfold TWF
      rw [Int.toNat_natCast]
      have e0 : ([] : List (Int × Nat × Int)).length = 0 := rfl
      exact ⟨g1, by omega⟩
    split
    · split
      · exact ih
      · show (itr T N k).2.2.length ≤ (itr T N k).2.1 + (if T (itr T N k).2.1 = 94 then 1 else 0)
        omega
    · split
      · show (itr T N k).2.2.length ≤ (TWF T N (((itr T N k).2.1 : Nat) : Int)).1 + 1
        omega
      · rename_i c
        show ((itr T N k).2.2 ++ [(TWF T N (((itr T N k).2.1 : Nat) : Int)).2]).length ≤ (TWF T N (((itr T N k).2.1 : Nat) : Int)).1
        have e0 : ((itr T N k).2.2 ++ [(TWF T N (((itr T N k).2.1 : Nat) : Int)).2]).length = (itr T N k).2.2.length + 1 := by rw [List.length_append]; rfl
        omega
theorem RUN.len (h : RUN T N m p ws) : ((ws.length : Nat) : Int) ≤ p := by
  obtain ⟨h0, k, e⟩ := h
  have g := itr_len (T := T) (N := N) k
  rw [e] at g
  have g2 : ws.length ≤ p.toNat := g
  omega
theorem SWT.wst (hs : SWT v1 a1 v2 a2 t f) (hE : TBE a1 a) (hw : WDH v1 a1 w) (h12 : ∀ i, 0 ≤ a 12 i) (h13 : ∀ i, 0 ≤ a1 12 i) : (f = 1 → ∃ cs, WST a t w cs ∧ v2 25 = ((cs.length : Nat) : Int)) ∧ (f ≠ 1 → ¬ ∃ cs, WST a t w cs) := by
  refine hv2 (lts_w hw) (hw.1) (fun ag e => ?_)
  refine ⟨fun q => ?_, fun q g => ?_⟩
  · obtain ⟨cs, g1, g2⟩ := hs.2.1 q
    rw [e] at g1
    exact ⟨cs, SWC_w ag h12 (SWC_cg hE g1), g2.1⟩
  · obtain ⟨cs, g1⟩ := g
    refine hs.2.2 q ⟨cs, ?_⟩
    rw [e]
    exact SWC_w (fun j h1 h2 => (ag j h1 h2).symm) h13 (SWC_cg hE.symm g1)
theorem LEX.tkp (h : LEX T N p u) (hu : p ≤ u ∧ (u = p ∨ u ≤ N)) (hp : p < N) (hz : (T p.toNat = 94 ∧ z = p + 1) ∨ (T p.toNat ≠ 94 ∧ z = p)) : TKP T N z u := by
  have hN : u ≤ N := by omega
  have h1 : z ≤ u := by
    rcases hz with ⟨e1, e2⟩ | ⟨_, e2⟩
    · by_cases c : p = u
      · subst c
        rcases h.2 with g | g
        · omega
        · omega
      · omega
    · omega
  refine ⟨⟨h1, hN⟩, fun j j1 j2 => h.1 j (by omega) j2, ?_⟩
  rcases h.2 with g | g
  · exact Or.inl (by omega)
  · exact Or.inr g
theorem TKP.sub (h : TKP T N q u) (hz : q ≤ z ∧ z ≤ u) : TKP T N z u := ⟨⟨hz.2, h.1.2⟩, fun j j1 j2 => h.2.1 j (by omega) j2, h.2.2⟩
end SAV2
