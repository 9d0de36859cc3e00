def nxt (T : Nat → Int) (N : Int) (s : Int × Nat × List (List (Int × Nat × Int))) : Int × Nat × List (List (Int × Nat × Int)) := if s.1 = 0 then (if N ≤ ((s.2.1 : Nat) : Int) then s else (1, s.2.1 + (if T s.2.1 = 94 then 1 else 0), s.2.2)) else (if (TWF T N ((s.2.1 : Nat) : Int)).2.length = 0 then (0, (TWF T N ((s.2.1 : Nat) : Int)).1 + 1, s.2.2) else (1, (TWF T N ((s.2.1 : Nat) : Int)).1, s.2.2 ++ [(TWF T N ((s.2.1 : Nat) : Int)).2]))
def itr (T : Nat → Int) (N : Int) : Nat → Int × Nat × List (List (Int × Nat × Int))
  | 0 => (0, 0, [])
  | k + 1 => nxt T N (itr T N k)
def RUN (T : Nat → Int) (N m : Int) (p : Int) (ws : List (List (Int × Nat × Int))) : Prop := 0 ≤ p ∧ ∃ k, itr T N k = (m, p.toNat, ws)
def lts (w : List (Int × Nat × Int)) : Nat → Int := fun j => ((w[j]?).map (fun x => x.1)).getD 0
def WST (a : Nat → Nat → Int) (t : Int) (w : List (Int × Nat × Int)) (cs : List Int) : Prop := SWC a (lts w) ((w.length : Nat) : Int) t cs
def wsm (a : Nat → Nat → Int) (t : Int) : List (List (Int × Nat × Int)) → Int → Prop
  | [], n => n = 0
  | w :: ws, n => ∃ cs m, WST a t w cs ∧ wsm a t ws m ∧ n = ((cs.length : Nat) : Int) + m
def ENDS (T : Nat → Int) (N : Int) (ws : List (List (Int × Nat × Int))) : Prop := ∃ p, RUN T N 0 p ws ∧ N ≤ p
def BADW (T : Nat → Int) (N : Int) (a : Nat → Nat → Int) (t : Int) : Prop := ∃ m p ws w, RUN T N m p ws ∧ w ∈ ws ∧ ¬ ∃ cs, WST a t w cs
def SVD (v : Nat → Int) (a : Nat → Nat → Int) (x y f : Int) : Prop := (¬ (WHL v a x ∧ WHL v a y) ∧ f = -1) ∨ ((WHL v a x ∧ WHL v a y) ∧ ((f = 0 ∧ (BADW (a 29) (v 30) a x ∨ BADW (a 29) (v 30) a y)) ∨ ∃ ws n1 n2, ENDS (a 29) (v 30) ws ∧ wsm a x ws n1 ∧ wsm a y ws n2 ∧ f = n1 - n2))
section SAVE
variable {v v1 v2 : Nat → Int} {a a1 a2 : Nat → Nat → Int} {T : Nat → Int} {N q u p b f f1 f2 z x y m t n n1 n2 s : Int} {w : List (Int × Nat × Int)} {ws ws2 : List (List (Int × Nat × Int))} {k d : Nat} {cs : List Int}
theorem itr_s (k : Nat) : itr T N (k + 1) = nxt T N (itr T N k) := rfl
theorem nxt_ext (s : Int × Nat × List (List (Int × Nat × Int))) : ∃ r, (nxt T N s).2.2 = s.2.2 ++ r := by
  unfold nxt
  split
  · split
    · exact ⟨[], (List.append_nil _).symm⟩
    · exact ⟨[], (List.append_nil _).symm⟩
  · split
    · exact ⟨[], (List.append_nil _).symm⟩
    · exact ⟨_, rfl⟩
theorem itr_ext (k : Nat) : ∀ d : Nat, ∃ r, (itr T N (k + d)).2.2 = (itr T N k).2.2 ++ r := by
  intro d
  induction d with
  | zero => exact ⟨[], (List.append_nil _).symm⟩
  | succ d ih =>
    obtain ⟨r, h⟩ := ih
    obtain ⟨r2, h2⟩ := nxt_ext (T := T) (N := N) (itr T N (k + d))
    refine ⟨r ++ r2, ?_⟩
    rw [← Nat.add_assoc, itr_s, h2, h, List.append_assoc]
theorem itr_end {P : Nat} (h : itr T N k = (0, P, ws)) (hN : N ≤ ((P : Nat) : Int)) : ∀ d : Nat, itr T N (k + d) = (0, P, ws) := by
  intro d
  induction d with
  | zero => exact h
  | succ d ih =>
    rw [← Nat.add_assoc, itr_s, ih]
    unfold nxt
    rw [if_pos (by show (0 : Int) = 0; rfl), if_pos (by show N ≤ ((P : Nat) : Int); exact hN)]
theorem RUN.sub (h : RUN T N m p ws) (h2 : ENDS T N ws2) : ∃ r, ws2 = ws ++ r := by
  obtain ⟨_, k, e⟩ := h
  obtain ⟨p2, ⟨_, k2, e2⟩, hN⟩ := h2
  have e3 := itr_end e2 (by omega) k
  obtain ⟨r, h4⟩ := itr_ext (T := T) (N := N) k k2
  rw [Nat.add_comm k k2, e3, e] at h4
  exact ⟨r, h4⟩
theorem ENDS.uni (h : ENDS T N ws) (h2 : ENDS T N ws2) : ws = ws2 := by
  obtain ⟨p, g, gN⟩ := h
  obtain ⟨r, e⟩ := g.sub h2
  obtain ⟨p2, g2, gN2⟩ := h2
  obtain ⟨r2, e2⟩ := g2.sub ⟨p, g, gN⟩
  have l1 := congrArg List.length e
  have l2 := congrArg List.length e2
  rw [List.length_append] at l1 l2
  have z1 : r = [] := List.length_eq_zero_iff.mp (by omega)
  rw [e, z1, List.append_nil]
theorem RUN.zero : RUN T N 0 0 [] := ⟨Int.le_refl _, 0, rfl⟩
theorem RUN.enter (h : RUN T N 0 p ws) (hp : p < N) (hz : (T p.toNat = 94 ∧ z = p + 1) ∨ (T p.toNat ≠ 94 ∧ z = p)) : RUN T N 1 z ws := by
  obtain ⟨h0, k, e⟩ := h
  refine ⟨by omega, k + 1, ?_⟩
  rw [itr_s, e]
  unfold nxt
  rw [if_pos (by show (0 : Int) = 0; rfl), if_neg (by show ¬ N ≤ ((p.toNat : Nat) : Int); omega)]
  show ((1 : Int), p.toNat + (if T p.toNat = 94 then 1 else 0), ws) = (1, z.toNat, ws)
  rcases hz with ⟨e1, e2⟩ | ⟨e1, e2⟩
  · rw [if_pos e1, show z.toNat = p.toNat + 1 by omega]
  · rw [if_neg e1, show z.toNat = p.toNat + 0 by omega]
theorem nxt1 (P : Nat) (hP : ((P : Nat) : Int) = p) : nxt T N (1, P, ws) = if (TWF T N p).2.length = 0 then (0, (TWF T N p).1 + 1, ws) else (1, (TWF T N p).1, ws ++ [(TWF T N p).2]) := by
  subst hP
  unfold nxt
  rw [if_neg (by show ¬ (1 : Int) = 0; decide)]
theorem RUN.word (h : RUN T N 1 p ws) (hr : TWF T N p = (z.toNat, w)) (hz : 0 ≤ z) (hw : w.length ≠ 0) : RUN T N 1 z (ws ++ [w]) := by
  obtain ⟨h0, k, e⟩ := h
  have e3 : (TWF T N p).2 = w := congrArg Prod.snd hr
  have e4 : (TWF T N p).1 = z.toNat := congrArg Prod.fst hr
  refine ⟨hz, k + 1, ?_⟩
  rw [itr_s, e, nxt1 (p := p) p.toNat (by omega), e3, e4, if_neg hw]
theorem RUN.line (h : RUN T N 1 p ws) (hr : TWF T N p = (z.toNat, w)) (hz : 0 ≤ z) (hw : w.length = 0) : RUN T N 0 (z + 1) ws := by
  obtain ⟨h0, k, e⟩ := h
  have e3 : (TWF T N p).2 = w := congrArg Prod.snd hr
  have e4 : (TWF T N p).1 = z.toNat := congrArg Prod.fst hr
  refine ⟨by omega, k + 1, ?_⟩
  rw [itr_s, e, nxt1 (p := p) p.toNat (by omega), e3, e4, if_pos hw, show (z + 1).toNat = z.toNat + 1 by omega]
theorem wsm.snoc : ∀ (ws : List (List (Int × Nat × Int))) (n : Int), wsm a t ws n → WST a t w cs → wsm a t (ws ++ [w]) (n + ((cs.length : Nat) : Int)) := by
  intro ws
  induction ws with
  | nil =>
    intro n h hc
    have h0 : n = 0 := h
    exact ⟨cs, 0, hc, rfl, by omega⟩
  | cons w0 ws ih =>
    intro n h hc
    obtain ⟨ds, m, h1, h2, h3⟩ := h
    exact ⟨ds, _, h1, ih m h2 hc, by omega⟩
theorem wsm.mem : ∀ (ws : List (List (Int × Nat × Int))) (n : Int), wsm a t ws n → w ∈ ws → ∃ cs, WST a t w cs := by
  intro ws
  induction ws with
  | nil => intro n _ h; cases h
  | cons w0 ws ih =>
    intro n h hm
    obtain ⟨ds, m, h1, h2, _⟩ := h
    rcases List.mem_cons.mp hm with e | e
    · rw [e]; exact ⟨ds, h1⟩
    · exact ih m h2 e
theorem wsm.uni (hT : TBL v a) (ht : 0 ≤ t ∧ t < v 4) : ∀ (ws : List (List (Int × Nat × Int))) (n n2 : Int), wsm a t ws n → wsm a t ws n2 → n = n2 := by
  intro ws
  induction ws with
  | nil =>
    intro n n2 h h2
    have e1 : n = 0 := h
    have e2 : n2 = 0 := h2
    omega
  | cons w0 ws ih =>
    intro n n2 h h2
    obtain ⟨ds, m, h1, h3, h4⟩ := h
    obtain ⟨es, m2, g1, g3, g4⟩ := h2
    have e := SWC.uni hT ht h1 g1
    have e2 := ih m m2 h3 g3
    rw [h4, g4, e, e2]
theorem SWC.len (h : SWC a (lts w) N t cs) : cs.length ≤ 200 := by
  rcases h with ⟨_, ps, ⟨_, h4⟩, h5⟩ | ⟨_, h2, _⟩
  · rw [h5]; omega
  · exact h2
theorem wsm.rg : ∀ (ws : List (List (Int × Nat × Int))) (n : Int), wsm a t ws n → 0 ≤ n ∧ n ≤ 200 * ((ws.length : Nat) : Int) := by
  intro ws
  induction ws with
  | nil =>
    intro n h
    have e1 : n = 0 := h
    exact ⟨by omega, by rw [e1]; decide⟩
  | cons w0 ws ih =>
    intro n h
    obtain ⟨ds, m, h1, h3, h4⟩ := h
    have e := ih m h3
    have e2 := SWC.len h1
    have e3 : (w0 :: ws).length = ws.length + 1 := rfl
    exact ⟨by omega, by omega⟩
theorem BADW.no (h : BADW T N a t) (h2 : ENDS T N ws) (h3 : wsm a t ws n) : False := by
  obtain ⟨m, p, ws1, w, g1, g2, g3⟩ := h
  obtain ⟨r, e⟩ := g1.sub h2
  exact g3 (wsm.mem ws n h3 (by rw [e]; exact List.mem_append_left _ g2))
theorem BADW.mk (h : RUN T N 1 p ws) (hr : TWF T N p = (z.toNat, w)) (hz : 0 ≤ z) (hw : w.length ≠ 0) (hn : ¬ ∃ cs, WST a t w cs) : BADW T N a t := ⟨1, z, _, w, h.word hr hz hw, List.mem_append_right _ (List.mem_singleton.mpr rfl), hn⟩
theorem SVD.uni (hT : TBL v a) (h : SVD v a x y f1) (h2 : SVD v a x y f2) : f1 = f2 := by
  rcases h with ⟨p1, p2⟩ | ⟨p1, p2⟩
  · rcases h2 with ⟨q1, q2⟩ | ⟨q1, q2⟩
    · omega
    · exact absurd q1 p1
  · rcases h2 with ⟨q1, q2⟩ | ⟨q1, q2⟩
    · exact absurd p1 q1
    · have w1 := WHL.tr p1.1
      have w2 := WHL.tr p1.2
      rcases p2 with ⟨p3, p4⟩ | ⟨ws, n1, n2, p3, p4, p5, p6⟩
      · rcases q2 with ⟨q3, q4⟩ | ⟨ws, n1, n2, q3, q4, q5, q6⟩
        · omega
        · rcases p4 with p4 | p4
          · exact (p4.no q3 q4).elim
          · exact (p4.no q3 q5).elim
      · rcases q2 with ⟨q3, q4⟩ | ⟨ws2, m1, m2, q3, q4, q5, q6⟩
        · rcases q4 with q4 | q4
          · exact (q4.no p3 p4).elim
          · exact (q4.no p3 p5).elim
        · have e := p3.uni q3
          subst e
          have e1 := wsm.uni hT ⟨w1.1, w1.2.1⟩ ws n1 m1 p4 q4
          have e2 := wsm.uni hT ⟨w2.1, w2.2.1⟩ ws n2 m2 p5 q5
          omega
theorem lts_w (h : WDH v a w) : AGW (a 20) (lts w) 0 ((w.length : Nat) : Int) := fun j h1 h2 => by
  have lt : j.toNat < w.length := by omega
  have g := (h.2 j.toNat _ (List.getElem?_eq_getElem lt)).1
  rw [g]
  show _ = ((w[j.toNat]?).map (fun x => x.1)).getD 0
  (rw [List.getElem?_eq_getElem lt]) <;> rfl
end SAVE
def SV0 (T : Nat → Int) (N : Int) (a : Nat → Nat → Int) (x y k : Int) (ws : List (List (Int × Nat × Int))) (s : Int) : Prop := (k = 0 ∧ wsm a x ws s) ∨ (k = 1 ∧ ∃ we n1 m, ENDS T N we ∧ wsm a x we n1 ∧ n1 ≤ 100400 ∧ wsm a y ws m ∧ s = n1 - m)
def SV1 (T : Nat → Int) (N : Int) (a : Nat → Nat → Int) (x y k s : Int) : Prop := (k = 0 ∧ s = 0) ∨ (k = 1 ∧ ∃ we, ENDS T N we ∧ wsm a x we s ∧ s ≤ 100400) ∨ (k = 2 ∧ ∃ we n1 n2, ENDS T N we ∧ wsm a x we n1 ∧ wsm a y we n2 ∧ s = n1 - n2)
def SV2 (T : Nat → Int) (N : Int) (a : Nat → Nat → Int) (x y k s p : Int) : Prop := ∃ ws, RUN T N 0 p ws ∧ SV0 T N a x y k ws s
def SV3 (T : Nat → Int) (N : Int) (a : Nat → Nat → Int) (x y k s p : Int) : Prop := ∃ ws, RUN T N 1 p ws ∧ SV0 T N a x y k ws s
def SV4 (T : Nat → Int) (N : Int) (a : Nat → Nat → Int) (x y k s z : Int) (v1 : Nat → Int) (a1 : Nat → Nat → Int) : Prop := ∃ p w, SV3 T N a x y k s p ∧ TWF T N p = (z.toNat, w) ∧ WDH v1 a1 w
section SAV2
variable {v v1 v2 v3 : Nat → Int} {a a1 a2 a3 : Nat → Nat → Int} {T : Nat → Int} {N q u p b f f1 f2 z x y m t n n1 n2 s s2 k c : Int} {w : List (Int × Nat × Int)} {ws ws2 : List (List (Int × Nat × Int))} {cs : List Int}
theorem tw_len (M : Nat) : ∀ (n P : Nat) (b : Int) (w : List (Int × Nat × Int)), P ≤ (tw T M n P b w).1 ∧ (tw T M n P b w).2.length + P ≤ w.length + (tw T M n P b w).1 := by
  intro n
  induction n with
  | zero => intro P b w; exact ⟨Nat.le_refl _, Nat.le_refl _⟩
  | succ n ih =>
    intro P b w
    rw [tw_s]
    split
    · exact ⟨Nat.le_refl _, Nat.le_refl _⟩
    · split
      · split
        · have g := ih (P + 1) b w
          exact ⟨by omega, by omega⟩
        · exact ⟨Nat.le_refl _, Nat.le_refl _⟩
      · split
        · have g := ih (P + 1) 1 w
          exact ⟨by omega, by omega⟩
        · have g := ih (P + 1) 0 (w ++ [(T P, P, b)])
          have e0 : (w ++ [(T P, P, b)]).length = w.length + 1 := by rw [List.length_append]; rfl
          exact ⟨by omega, by omega⟩
theorem itr_len : ∀ k : Nat, (itr T N k).2.2.length ≤ (itr T N k).2.1 := by
  intro k
  induction k with
  | zero => exact Nat.le_refl _
  | succ k ih =>
    rw [itr_s]
    unfold nxt
    have g := tw_len (T := T) N.toNat (N.toNat + 1 - (((itr T N k).2.1 : Nat) : Int).toNat) (((itr T N k).2.1 : Nat) : Int).toNat 0 []
    have g2 : (itr T N k).2.1 ≤ (TWF T N (((itr T N k).2.1 : Nat) : Int)).1 ∧ (TWF T N (((itr T N k).2.1 : Nat) : Int)).2.length + (itr T N k).2.1 ≤ (TWF T N (((itr T N k).2.1 : Nat) : Int)).1 := by
      have g1 := g.1
      have g3 := g.2
      rw [Int.toNat_natCast] at g1 g3
      unfold TWF
      rw [Int.toNat_natCast]
      have e0 : ([] : List (Int × Nat × Int)).length = 0 := rfl
      exact ⟨g1, by omega⟩
    split
    · split
      · exact ih
      · show (itr T N k).2.2.length ≤ (itr T N k).2.1 + (if T (itr T N k).2.1 = 94 then 1 else 0)
        omega
    · split
      · show (itr T N k).2.2.length ≤ (TWF T N (((itr T N k).2.1 : Nat) : Int)).1 + 1
        omega
      · rename_i c
        show ((itr T N k).2.2 ++ [(TWF T N (((itr T N k).2.1 : Nat) : Int)).2]).length ≤ (TWF T N (((itr T N k).2.1 : Nat) : Int)).1
        have e0 : ((itr T N k).2.2 ++ [(TWF T N (((itr T N k).2.1 : Nat) : Int)).2]).length = (itr T N k).2.2.length + 1 := by rw [List.length_append]; rfl
        omega
theorem RUN.len (h : RUN T N m p ws) : ((ws.length : Nat) : Int) ≤ p := by
  obtain ⟨h0, k, e⟩ := h
  have g := itr_len (T := T) (N := N) k
  rw [e] at g
  have g2 : ws.length ≤ p.toNat := g
  omega
theorem SV0.rg (h : SV0 T N a x y k ws s) (hl : ((ws.length : Nat) : Int) ≤ 502) : -100400 ≤ s ∧ s ≤ 100400 := by
  rcases h with ⟨_, h⟩ | ⟨_, we, n1, m, _, h1, h2, h3, h4⟩
  · have g := wsm.rg ws s h
    omega
  · have g := wsm.rg ws m h3
    have g2 := wsm.rg we n1 h1
    omega
theorem SV2.rg (h : SV2 T N a x y k s p) (hp : p ≤ 502) : -100400 ≤ s ∧ s ≤ 100400 := by
  obtain ⟨ws, h1, h2⟩ := h
  have g := h1.len
  exact h2.rg (by omega)
theorem SV4.rg (h : SV4 T N a x y k s z v1 a1) (hz : 0 ≤ z ∧ z ≤ 502) : -100400 ≤ s ∧ s ≤ 100400 := by
  obtain ⟨p, w, ⟨ws, h1, h2⟩, h3, _⟩ := h
  have g := h1.len
  have h0 := h1.1
  have g2 := (tw_len (T := T) N.toNat (N.toNat + 1 - p.toNat) p.toNat 0 []).1
  have e4 : (tw T N.toNat (N.toNat + 1 - p.toNat) p.toNat 0 []).1 = z.toNat := congrArg Prod.fst h3
  exact h2.rg (by omega)
theorem SV1.init : SV1 T N a x y 0 0 := Or.inl ⟨rfl, rfl⟩
theorem SV1.begin (h : SV1 T N a x y k s) (hk : k < 2) : SV2 T N a x y k s 0 := by
  rcases h with ⟨h1, h2⟩ | ⟨h1, we, h2, h3, h4⟩ | ⟨h1, _⟩
  · exact ⟨[], RUN.zero, Or.inl ⟨h1, h2⟩⟩
  · exact ⟨[], RUN.zero, Or.inr ⟨h1, we, s, 0, h2, h3, h4, rfl, by omega⟩⟩
  · omega
theorem SV2.fin (h : SV2 T N a x y k s p) (hp : N ≤ p) (hs : s ≤ 100400) : SV1 T N a x y (k + 1) s := by
  obtain ⟨ws, h1, h2⟩ := h
  rcases h2 with ⟨e, h2⟩ | ⟨e, we, n1, m, g1, g2, g3, g4, g5⟩
  · exact Or.inr (Or.inl ⟨by omega, ws, ⟨p, h1, hp⟩, h2, hs⟩)
  · have e2 := ENDS.uni (T := T) (N := N) ⟨p, h1, hp⟩ g1
    subst e2
    exact Or.inr (Or.inr ⟨by omega, ws, n1, m, g1, g2, g4, g5⟩)
theorem SV2.enter (h : SV2 T N a x y k s p) (hp : p < N) (hz : (T p.toNat = 94 ∧ z = p + 1) ∨ (T p.toNat ≠ 94 ∧ z = p)) : SV3 T N a x y k s z := by
  obtain ⟨ws, h1, h2⟩ := h
  exact ⟨ws, h1.enter hp hz, h2⟩
theorem SV3.take (h : SV3 T N a x y k s p) (hx : TKX T N v1 a1 p z) : SV4 T N a x y k s z v1 a1 := by
  obtain ⟨w, h1, h2⟩ := hx
  exact ⟨p, w, h, h1, h2⟩
theorem SV4.line (h : SV4 T N a x y k s z v1 a1) (h23 : v1 23 = 0) (hz : 0 ≤ z) : SV2 T N a x y k s (z + 1) := by
  obtain ⟨p, w, ⟨ws, h1, h2⟩, h3, h4⟩ := h
  have e := h4.1
  exact ⟨ws, h1.line h3 hz (by omega), h2⟩
theorem SWT.wst (hs : SWT v1 a1 v2 a2 t f) (hE : TBE a1 a) (hw : WDH v1 a1 w) (h12 : ∀ i, 0 ≤ a 12 i) (h13 : ∀ i, 0 ≤ a1 12 i) : (f = 1 → ∃ cs, WST a t w cs ∧ v2 25 = ((cs.length : Nat) : Int)) ∧ (f ≠ 1 → ¬ ∃ cs, WST a t w cs) := by
  have ag := lts_w hw
  have e := hw.1
  refine ⟨fun q => ?_, fun q g => ?_⟩
  · obtain ⟨cs, g1, g2⟩ := hs.2.1 q
    rw [e] at g1
    exact ⟨cs, SWC_w ag h12 (SWC_cg hE g1), g2.1⟩
  · obtain ⟨cs, g1⟩ := g
    refine hs.2.2 q ⟨cs, ?_⟩
    rw [e]
    exact SWC_w (fun j h1 h2 => (ag j h1 h2).symm) h13 (SWC_cg hE.symm g1)
theorem SV4.bad (h : SV4 T N a x y k s z v1 a1) (hz : 0 ≤ z) (h23 : v1 23 ≠ 0) (hs : SWT v1 a1 v2 a2 t f) (hf : f ≠ 1) (hE : TBE a1 a) (h12 : ∀ i, 0 ≤ a 12 i) (h13 : ∀ i, 0 ≤ a1 12 i) : BADW T N a t := by
  obtain ⟨p, w, ⟨ws, h1, h2⟩, h3, h4⟩ := h
  have e := h4.1
  exact BADW.mk h1 h3 hz (by omega) ((hs.wst hE h4 h12 h13).2 hf)
theorem SV4.add (h : SV4 T N a x y k s z v1 a1) (hz : 0 ≤ z) (h23 : v1 23 ≠ 0) (hs : SWT v1 a1 v2 a2 t f) (hf : f = 1) (hE : TBE a1 a) (h12 : ∀ i, 0 ≤ a 12 i) (h13 : ∀ i, 0 ≤ a1 12 i) (hc : c = v2 25) (ht : (k = 0 ∧ t = x ∧ s2 = s + c) ∨ (k = 1 ∧ t = y ∧ s2 = s - c)) : SV3 T N a x y k s2 z := by
  obtain ⟨p, w, ⟨ws, h1, h2⟩, h3, h4⟩ := h
  have e := h4.1
  obtain ⟨cs, g1, g2⟩ := (hs.wst hE h4 h12 h13).1 hf
  refine ⟨ws ++ [w], h1.word h3 hz (by omega), ?_⟩
  rcases h2 with ⟨e0, h2⟩ | ⟨e0, we, n1, m, k1, k2, k3, k4, k5⟩
  · rcases ht with ⟨_, e2, e3⟩ | ⟨e1, _⟩
    · subst e2
      have q := wsm.snoc ws s h2 g1
      rw [show s + ((cs.length : Nat) : Int) = s2 by omega] at q
      exact Or.inl ⟨e0, q⟩
    · omega
  · rcases ht with ⟨e1, _⟩ | ⟨_, e2, e3⟩
    · omega
    · subst e2
      have q := wsm.snoc ws m k4 g1
      exact Or.inr ⟨e0, we, n1, _, k1, k2, k3, q, by omega⟩
theorem SVD.nf (h : ¬ WHL v a x ∨ ¬ WHL v a y) (hf : f = -1) : SVD v a x y f := Or.inl ⟨fun q => by
  rcases h with h | h
  · exact h q.1
  · exact h q.2, hf⟩
theorem SVD.ok (h : WHL v a x ∧ WHL v a y) (h1 : SV1 (a 29) (v 30) a x y k s) (hk : k = 2) (hf : f = s) : SVD v a x y f := Or.inr ⟨h, Or.inr (by
  rcases h1 with ⟨e, _⟩ | ⟨e, _⟩ | ⟨_, we, n1, n2, g1, g2, g3, g4⟩
  · omega
  · omega
  · exact ⟨we, n1, n2, g1, g2, g3, by omega⟩)⟩
theorem TKP.sub (h : TKP T N q u) (hz : q ≤ z ∧ z ≤ u) : TKP T N z u := ⟨⟨hz.2, h.1.2⟩, fun j j1 j2 => h.2.1 j (by omega) j2, h.2.2⟩
end SAV2
