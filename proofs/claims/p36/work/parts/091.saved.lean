def nxt (T : Nat → Int) (N : Int) (s : Int × Nat × List (List (Int × Nat × Int))) : Int × Nat × List (List (Int × Nat × Int)) := if s.1 = 0 then (if N ≤ ((s.2.1 : Nat) : Int) then s else (1, s.2.1 + (if T s.2.1 = 94 then 1 else 0), s.2.2)) else (if (TWF T N ((s.2.1 : Nat) : Int)).2.length = 0 then (0, (TWF T N ((s.2.1 : Nat) : Int)).1 + 1, s.2.2) else (1, (TWF T N ((s.2.1 : Nat) : Int)).1, s.2.2 ++ [(TWF T N ((s.2.1 : Nat) : Int)).2]))
def itr (T : Nat → Int) (N : Int) : Nat → Int × Nat × List (List (Int × Nat × Int))
  | 0 => (0, 0, [])
  | k + 1 => nxt T N (itr T N k)
def RUN (T : Nat → Int) (N m : Int) (p : Int) (ws : List (List (Int × Nat × Int))) : Prop := 0 ≤ p ∧ ∃ k, itr T N k = (m, p.toNat, ws)
def lts (w : List (Int × Nat × Int)) : Nat → Int := fun j => ((w[j]?).map (fun x => x.1)).getD 0
def WST (a : Nat → Nat → Int) (t : Int) (w : List (Int × Nat × Int)) (cs : List Int) : Prop := SWC a (lts w) ((w.length : Nat) : Int) t cs
def wsm (a : Nat → Nat → Int) (t : Int) : List (List (Int × Nat × Int)) → Int → Prop
  | [], n => n = 0
  | w :: ws, n => ∃ cs m, WST a t w cs ∧ wsm a t ws m ∧ n = ((cs.length : Nat) : Int) + m
def ENDS (T : Nat → Int) (N : Int) (ws : List (List (Int × Nat × Int))) : Prop := ∃ p, RUN T N 0 p ws ∧ N ≤ p
def BADW (T : Nat → Int) (N : Int) (a : Nat → Nat → Int) (t : Int) : Prop := ∃ m p ws w, RUN T N m p ws ∧ w ∈ ws ∧ ¬ ∃ cs, WST a t w cs
def SVD (v : Nat → Int) (a : Nat → Nat → Int) (x y f : Int) : Prop := (¬ (WHL v a x ∧ WHL v a y) ∧ f = -1) ∨ ((WHL v a x ∧ WHL v a y) ∧ ((f = 0 ∧ (BADW (a 29) (v 30) a x ∨ BADW (a 29) (v 30) a y)) ∨ ∃ ws n1 n2, ENDS (a 29) (v 30) ws ∧ wsm a x ws n1 ∧ wsm a y ws n2 ∧ f = n1 - n2))
section SAVE
variable {v v1 v2 : Nat → Int} {a a1 a2 : Nat → Nat → Int} {T : Nat → Int} {N q u p b f f1 f2 z x y m t n n1 n2 s : Int} {w : List (Int × Nat × Int)} {ws ws2 : List (List (Int × Nat × Int))} {k d : Nat} {cs : List Int}
theorem itr_s (k : Nat) : itr T N (k + 1) = nxt T N (itr T N k) := rfl
theorem nxt_ext (s : Int × Nat × List (List (Int × Nat × Int))) : ∃ r, (nxt T N s).2.2 = s.2.2 ++ r := by
  unfold nxt
  split
  · split
    · exact ⟨[], (List.append_nil _).symm⟩
    · exact ⟨[], (List.append_nil _).symm⟩
  · split
    · exact ⟨[], (List.append_nil _).symm⟩
    · exact ⟨_, rfl⟩
theorem itr_ext (k : Nat) : ∀ d : Nat, ∃ r, (itr T N (k + d)).2.2 = (itr T N k).2.2 ++ r := by
  intro d
  induction d with
  | zero => exact ⟨[], (List.append_nil _).symm⟩
  | succ d ih =>
    obtain ⟨r, h⟩ := ih
    obtain ⟨r2, h2⟩ := nxt_ext (T := T) (N := N) (itr T N (k + d))
    refine ⟨r ++ r2, ?_⟩
    rw [← Nat.add_assoc, itr_s, h2, h, List.append_assoc]
theorem itr_end {P : Nat} (h : itr T N k = (0, P, ws)) (hN : N ≤ ((P : Nat) : Int)) : ∀ d : Nat, itr T N (k + d) = (0, P, ws) := by
  intro d
  induction d with
  | zero => exact h
  | succ d ih =>
    rw [← Nat.add_assoc, itr_s, ih]
    unfold nxt
    rw [if_pos (by show (0 : Int) = 0; rfl), if_pos (by show N ≤ ((P : Nat) : Int); exact hN)]
theorem RUN.sub (h : RUN T N m p ws) (h2 : ENDS T N ws2) : ∃ r, ws2 = ws ++ r := by
  obtain ⟨_, k, e⟩ := h
  obtain ⟨p2, ⟨_, k2, e2⟩, hN⟩ := h2
  have e3 := itr_end e2 (by omega) k
  obtain ⟨r, h4⟩ := itr_ext (T := T) (N := N) k k2
  rw [Nat.add_comm k k2, e3, e] at h4
  exact ⟨r, h4⟩
theorem ENDS.uni (h : ENDS T N ws) (h2 : ENDS T N ws2) : ws = ws2 := by
  obtain ⟨p, g, gN⟩ := h
  obtain ⟨r, e⟩ := g.sub h2
  obtain ⟨p2, g2, gN2⟩ := h2
  obtain ⟨r2, e2⟩ := g2.sub ⟨p, g, gN⟩
  have l1 := congrArg List.length e
  have l2 := congrArg List.length e2
  rw [List.length_append] at l1 l2
  have z1 : r = [] := List.length_eq_zero_iff.mp (by omega)
  rw [e, z1, List.append_nil]
theorem RUN.zero : RUN T N 0 0 [] := ⟨Int.le_refl _, 0, rfl⟩
theorem RUN.enter (h : RUN T N 0 p ws) (hp : p < N) (hz : (T p.toNat = 94 ∧ z = p + 1) ∨ (T p.toNat ≠ 94 ∧ z = p)) : RUN T N 1 z ws := by
  obtain ⟨h0, k, e⟩ := h
  refine ⟨by omega, k + 1, ?_⟩
  rw [itr_s, e]
  unfold nxt
  rw [if_pos (by show (0 : Int) = 0; rfl), if_neg (by show ¬ N ≤ ((p.toNat : Nat) : Int); omega)]
  show ((1 : Int), p.toNat + (if T p.toNat = 94 then 1 else 0), ws) = (1, z.toNat, ws)
  rcases hz with ⟨e1, e2⟩ | ⟨e1, e2⟩
  · rw [if_pos e1, show z.toNat = p.toNat + 1 by omega]
  · rw [if_neg e1, show z.toNat = p.toNat + 0 by omega]
theorem nxt1 (P : Nat) (hP : ((P : Nat) : Int) = p) : nxt T N (1, P, ws) = if (TWF T N p).2.length = 0 then (0, (TWF T N p).1 + 1, ws) else (1, (TWF T N p).1, ws ++ [(TWF T N p).2]) := by
  subst hP
  unfold nxt
  rw [if_neg (by show ¬ (1 : Int) = 0; decide)]
theorem RUN.word (h : RUN T N 1 p ws) (hr : TWF T N p = (z.toNat, w)) (hz : 0 ≤ z) (hw : w.length ≠ 0) : RUN T N 1 z (ws ++ [w]) := by
  obtain ⟨h0, k, e⟩ := h
  have e3 : (TWF T N p).2 = w := congrArg Prod.snd hr
  have e4 : (TWF T N p).1 = z.toNat := congrArg Prod.fst hr
  refine ⟨hz, k + 1, ?_⟩
  rw [itr_s, e, nxt1 (p := p) p.toNat (by omega), e3, e4, if_neg hw]
theorem RUN.line (h : RUN T N 1 p ws) (hr : TWF T N p = (z.toNat, w)) (hz : 0 ≤ z) (hw : w.length = 0) : RUN T N 0 (z + 1) ws := by
  obtain ⟨h0, k, e⟩ := h
  have e3 : (TWF T N p).2 = w := congrArg Prod.snd hr
  have e4 : (TWF T N p).1 = z.toNat := congrArg Prod.fst hr
  refine ⟨by omega, k + 1, ?_⟩
  rw [itr_s, e, nxt1 (p := p) p.toNat (by omega), e3, e4, if_pos hw, show (z + 1).toNat = z.toNat + 1 by omega]
theorem wsm.snoc : ∀ (ws : List (List (Int × Nat × Int))) (n : Int), wsm a t ws n → WST a t w cs → wsm a t (ws ++ [w]) (n + ((cs.length : Nat) : Int)) := by
  intro ws
  induction ws with
  | nil =>
    intro n h hc
    have h0 : n = 0 := h
    exact ⟨cs, 0, hc, rfl, by omega⟩
  | cons w0 ws ih =>
    intro n h hc
    obtain ⟨ds, m, h1, h2, h3⟩ := h
    exact ⟨ds, _, h1, ih m h2 hc, by omega⟩
theorem wsm.mem : ∀ (ws : List (List (Int × Nat × Int))) (n : Int), wsm a t ws n → w ∈ ws → ∃ cs, WST a t w cs := by
  intro ws
  induction ws with
  | nil => intro n _ h; cases h
  | cons w0 ws ih =>
    intro n h hm
    obtain ⟨ds, m, h1, h2, _⟩ := h
    rcases List.mem_cons.mp hm with e | e
    · rw [e]; exact ⟨ds, h1⟩
    · exact ih m h2 e
theorem wsm.uni (hT : TBL v a) (ht : 0 ≤ t ∧ t < v 4) : ∀ (ws : List (List (Int × Nat × Int))) (n n2 : Int), wsm a t ws n → wsm a t ws n2 → n = n2 := by
  intro ws
  induction ws with
  | nil =>
    intro n n2 h h2
    have e1 : n = 0 := h
    have e2 : n2 = 0 := h2
    omega
  | cons w0 ws ih =>
    intro n n2 h h2
    obtain ⟨ds, m, h1, h3, h4⟩ := h
    obtain ⟨es, m2, g1, g3, g4⟩ := h2
    have e := SWC.uni hT ht h1 g1
    have e2 := ih m m2 h3 g3
    rw [h4, g4, e, e2]
theorem SWC.len (h : SWC a (lts w) N t cs) : cs.length ≤ 200 := by
  rcases h with ⟨_, ps, ⟨_, h4⟩, h5⟩ | ⟨_, h2, _⟩
  · rw [h5]; omega
  · exact h2
theorem wsm.rg : ∀ (ws : List (List (Int × Nat × Int))) (n : Int), wsm a t ws n → 0 ≤ n ∧ n ≤ 200 * ((ws.length : Nat) : Int) := by
  intro ws
  induction ws with
  | nil =>
    intro n h
    have e1 : n = 0 := h
    exact ⟨by omega, by rw [e1]; decide⟩
  | cons w0 ws ih =>
    intro n h
    obtain ⟨ds, m, h1, h3, h4⟩ := h
    have e := ih m h3
    have e2 := SWC.len h1
    have e3 : (w0 :: ws).length = ws.length + 1 := rfl
    exact ⟨by omega, by omega⟩
theorem BADW.no (h : BADW T N a t) (h2 : ENDS T N ws) (h3 : wsm a t ws n) : False := by
  obtain ⟨m, p, ws1, w, g1, g2, g3⟩ := h
  obtain ⟨r, e⟩ := g1.sub h2
  exact g3 (wsm.mem ws n h3 (by rw [e]; exact List.mem_append_left _ g2))
theorem BADW.mk (h : RUN T N 1 p ws) (hr : TWF T N p = (z.toNat, w)) (hz : 0 ≤ z) (hw : w.length ≠ 0) (hn : ¬ ∃ cs, WST a t w cs) : BADW T N a t := ⟨1, z, _, w, h.word hr hz hw, List.mem_append_right _ (List.mem_singleton.mpr rfl), hn⟩
theorem SVD.uni (hT : TBL v a) (h : SVD v a x y f1) (h2 : SVD v a x y f2) : f1 = f2 := by
  rcases h with ⟨p1, p2⟩ | ⟨p1, p2⟩
  · rcases h2 with ⟨q1, q2⟩ | ⟨q1, q2⟩
    · omega
    · exact absurd q1 p1
  · rcases h2 with ⟨q1, q2⟩ | ⟨q1, q2⟩
    · exact absurd p1 q1
    · have w1 := WHL.tr p1.1
      have w2 := WHL.tr p1.2
      rcases p2 with ⟨p3, p4⟩ | ⟨ws, n1, n2, p3, p4, p5, p6⟩
      · rcases q2 with ⟨q3, q4⟩ | ⟨ws, n1, n2, q3, q4, q5, q6⟩
        · omega
        · rcases p4 with p4 | p4
          · exact (p4.no q3 q4).elim
          · exact (p4.no q3 q5).elim
      · rcases q2 with ⟨q3, q4⟩ | ⟨ws2, m1, m2, q3, q4, q5, q6⟩
        · rcases q4 with q4 | q4
          · exact (q4.no p3 p4).elim
          · exact (q4.no p3 p5).elim
        · have e := p3.uni q3
          subst e
          have e1 := wsm.uni hT ⟨w1.1, w1.2.1⟩ ws n1 m1 p4 q4
          have e2 := wsm.uni hT ⟨w2.1, w2.2.1⟩ ws n2 m2 p5 q5
          omega
theorem lts_w (h : WDH v a w) : AGW (a 20) (lts w) 0 ((w.length : Nat) : Int) := fun j h1 h2 => by
  have lt : j.toNat < w.length := by omega
  have g := (h.2 j.toNat _ (List.getElem?_eq_getElem lt)).1
  rw [g]
  show _ = ((w[j.toNat]?).map (fun x => x.1)).getD 0
  (rw [List.getElem?_eq_getElem lt]) <;> rfl
end SAVE
def SV0 (T : Nat → Int) (N : Int) (a : Nat → Nat → Int) (x y k : Int) (ws : List (List (Int × Nat × Int))) (s : Int) : Prop := (k = 0 ∧ wsm a x ws s) ∨ (k = 1 ∧ ∃ we n1 m, ENDS T N we ∧ wsm a x we n1 ∧ n1 ≤ 100400 ∧ wsm a y ws m ∧ s = n1 - m)
def SV1 (T : Nat → Int) (N : Int) (a : Nat → Nat → Int) (x y k s : Int) : Prop := (k = 0 ∧ s = 0) ∨ (k = 1 ∧ ∃ we, ENDS T N we ∧ wsm a x we s ∧ s ≤ 100400) ∨ (k = 2 ∧ ∃ we n1 n2, ENDS T N we ∧ wsm a x we n1 ∧ wsm a y we n2 ∧ s = n1 - n2)
def SV2 (T : Nat → Int) (N : Int) (a : Nat → Nat → Int) (x y k s p : Int) : Prop := ∃ ws, RUN T N 0 p ws ∧ SV0 T N a x y k ws s
def SV3 (T : Nat → Int) (N : Int) (a : Nat → Nat → Int) (x y k s p : Int) : Prop := ∃ ws, RUN T N 1 p ws ∧ SV0 T N a x y k ws s
def SV4 (T : Nat → Int) (N : Int) (a : Nat → Nat → Int) (x y k s z : Int) (v1 : Nat → Int) (a1 : Nat → Nat → Int) : Prop := ∃ p w, SV3 T N a x y k s p ∧ TWF T N p = (z.toNat, w) ∧ WDH v1 a1 w
section SAV2
variable {v v1 v2 v3 : Nat → Int} {a a1 a2 a3 : Nat → Nat → Int} {T : Nat → Int} {N q u p b f f1 f2 z x y m t n n1 n2 s s2 k c : Int} {w : List (Int × Nat × Int)} {ws ws2 : List (List (Int × Nat × Int))} {cs : List Int}
theorem tw_len (M : Nat) : ∀ (n P : Nat) (b : Int) (w : List (Int × Nat × Int)), P ≤ (tw T M n P b w).1 ∧ (tw T M n P b w).2.length + P ≤ w.length + (tw T M n P b w).1 := by
  intro n
  induction n with
  | zero => intro P b w; exact ⟨Nat.le_refl _, Nat.le_refl _⟩
  | succ n ih =>
    intro P b w
    rw [tw_s]
    split
    · exact ⟨Nat.le_refl _, Nat.le_refl _⟩
    · split
      · split
        · have g := ih (P + 1) b w
          exact ⟨by omega, by omega⟩
        · exact ⟨Nat.le_refl _, Nat.le_refl _⟩
      · split
        · have g := ih (P + 1) 1 w
          exact ⟨by omega, by omega⟩
        · have g := ih (P + 1) 0 (w ++ [(T P, P, b)])
          have e0 : (w ++ [(T P, P, b)]).length = w.length + 1 := by rw [List.length_append]; rfl
          exact ⟨by omega, by omega⟩
theorem itr_len : ∀ k : Nat, (itr T N k).2.2.length ≤ (itr T N k).2.1 := by
  intro k
  induction k with
  | zero => exact Nat.le_refl _
  | succ k ih =>
    rw [itr_s]
    unfold nxt
    have g := tw_len (T := T) N.toNat (N.toNat + 1 - (((itr T N k).2.1 : Nat) : Int).toNat) (((itr T N k).2.1 : Nat) : Int).toNat 0 []
    have g2 : (itr T N k).2.1 ≤ (TWF T N (((itr T N k).2.1 : Nat) : Int)).1 ∧ (TWF T N (((itr T N k).2.1 : Nat) : Int)).2.length + (itr T N k).2.1 ≤ (TWF T N (((itr T N k).2.1 : Nat) : Int)).1 := by
      have g1 := g.1
      have g3 := g.2
      rw [Int.toNat_natCast] at g1 g3
      unfold TWF
      rw [Int.toNat_natCast]
      have e0 : ([] : List (Int × Nat × Int)).length = 0 := rfl
      exact ⟨g1, by omega⟩
    split
    · split
      · exact ih
      · show (itr T N k).2.2.length ≤ (itr T N k).2.1 + (if T (itr T N k).2.1 = 94 then 1 else 0)
        omega
    · split
      · show (itr T N k).2.2.length ≤ (TWF T N (((itr T N k).2.1 : Nat) : Int)).1 + 1
        omega
      · rename_i c
        show ((itr T N k).2.2 ++ [(TWF T N (((itr T N k).2.1 : Nat) : Int)).2]).length ≤ (TWF T N (((itr T N k).2.1 : Nat) : Int)).1
        have e0 : ((itr T N k).2.2 ++ [(TWF T N (((itr T N k).2.1 : Nat) : Int)).2]).length = (itr T N k).2.2.length + 1 := by rw [List.length_append]; rfl
        omega
theorem RUN.len (h : RUN T N m p ws) : ((ws.length : Nat) : Int) ≤ p := by
  obtain ⟨h0, k, e⟩ := h
  have g := itr_len (T := T) (N := N) k
  rw [e] at g
  have g2 : ws.length ≤ p.toNat := g
  omega
theorem SV0.rg (h : SV0 T N a x y k ws s) (hl : ((ws.length : Nat) : Int) ≤ 502) : -100400 ≤ s ∧ s ≤ 100400 := by
  rcases h with ⟨_, h⟩ | ⟨_, we, n1, m, _, h1, h2, h3, h4⟩
  · have g := wsm.rg ws s h
    omega
  · have g := wsm.rg ws m h3
    have g2 := wsm.rg we n1 h1
    omega
theorem SV2.rg (h : SV2 T N a x y k s p) (hp : p ≤ 502) : -100400 ≤ s ∧ s ≤ 100400 := by
  obtain ⟨ws, h1, h2⟩ := h
  have g := h1.len
  exact h2.rg (by omega)
theorem SV4.rg (h : SV4 T N a x y k s z v1 a1) (hz : 0 ≤ z ∧ z ≤ 502) : -100400 ≤ s ∧ s ≤ 100400 := by
  obtain ⟨p, w, ⟨ws, h1, h2⟩, h3, _⟩ := h
  have g := h1.len
  have h0 := h1.1
  have g2 := (tw_len (T := T) N.toNat (N.toNat + 1 - p.toNat) p.toNat 0 []).1
  have e4 : (tw T N.toNat (N.toNat + 1 - p.toNat) p.toNat 0 []).1 = z.toNat := congrArg Prod.fst h3
  exact h2.rg (by omega)
theorem SV1.init : SV1 T N a x y 0 0 := Or.inl ⟨rfl, rfl⟩
theorem SV1.begin (h : SV1 T N a x y k s) (hk : k < 2) : SV2 T N a x y k s 0 := by
  rcases h with ⟨h1, h2⟩ | ⟨h1, we, h2, h3, h4⟩ | ⟨h1, _⟩
  · exact ⟨[], RUN.zero, Or.inl ⟨h1, h2⟩⟩
  · exact ⟨[], RUN.zero, Or.inr ⟨h1, we, s, 0, h2, h3, h4, rfl, by omega⟩⟩
  · omega
theorem SV2.fin (h : SV2 T N a x y k s p) (hp : N ≤ p) (hs : s ≤ 100400) : SV1 T N a x y (k + 1) s := by
  obtain ⟨ws, h1, h2⟩ := h
  rcases h2 with ⟨e, h2⟩ | ⟨e, we, n1, m, g1, g2, g3, g4, g5⟩
  · exact Or.inr (Or.inl ⟨by omega, ws, ⟨p, h1, hp⟩, h2, hs⟩)
  · have e2 := ENDS.uni (T := T) (N := N) ⟨p, h1, hp⟩ g1
    subst e2
    exact Or.inr (Or.inr ⟨by omega, ws, n1, m, g1, g2, g4, g5⟩)
theorem SV2.enter (h : SV2 T N a x y k s p) (hp : p < N) (hz : (T p.toNat = 94 ∧ z = p + 1) ∨ (T p.toNat ≠ 94 ∧ z = p)) : SV3 T N a x y k s z := by
  obtain ⟨ws, h1, h2⟩ := h
  exact ⟨ws, h1.enter hp hz, h2⟩
theorem SV3.take (h : SV3 T N a x y k s p) (hx : TKX T N v1 a1 p z) : SV4 T N a x y k s z v1 a1 := by
  obtain ⟨w, h1, h2⟩ := hx
  exact ⟨p, w, h, h1, h2⟩
theorem SV4.line (h : SV4 T N a x y k s z v1 a1) (h23 : v1 23 = 0) (hz : 0 ≤ z) : SV2 T N a x y k s (z + 1) := by
  obtain ⟨p, w, ⟨ws, h1, h2⟩, h3, h4⟩ := h
  have e := h4.1
  exact ⟨ws, h1.line h3 hz (by omega), h2⟩
theorem SWT.wst (hs : SWT v1 a1 v2 a2 t f) (hE : TBE a1 a) (hw : WDH v1 a1 w) (h12 : ∀ i, 0 ≤ a 12 i) (h13 : ∀ i, 0 ≤ a1 12 i) : (f = 1 → ∃ cs, WST a t w cs ∧ v2 25 = ((cs.length : Nat) : Int)) ∧ (f ≠ 1 → ¬ ∃ cs, WST a t w cs) := by
  have ag := lts_w hw
  have e := hw.1
  refine ⟨fun q => ?_, fun q g => ?_⟩
  · obtain ⟨cs, g1, g2⟩ := hs.2.1 q
    rw [e] at g1
    exact ⟨cs, SWC_w ag h12 (SWC_cg hE g1), g2.1⟩
  · obtain ⟨cs, g1⟩ := g
    refine hs.2.2 q ⟨cs, ?_⟩
    rw [e]
    exact SWC_w (fun j h1 h2 => (ag j h1 h2).symm) h13 (SWC_cg hE.symm g1)
theorem SV4.bad (h : SV4 T N a x y k s z v1 a1) (hz : 0 ≤ z) (h23 : v1 23 ≠ 0) (hs : SWT v1 a1 v2 a2 t f) (hf : f ≠ 1) (hE : TBE a1 a) (h12 : ∀ i, 0 ≤ a 12 i) (h13 : ∀ i, 0 ≤ a1 12 i) : BADW T N a t := by
  obtain ⟨p, w, ⟨ws, h1, h2⟩, h3, h4⟩ := h
  have e := h4.1
  exact BADW.mk h1 h3 hz (by omega) ((hs.wst hE h4 h12 h13).2 hf)
theorem SV4.add (h : SV4 T N a x y k s z v1 a1) (hz : 0 ≤ z) (h23 : v1 23 ≠ 0) (hs : SWT v1 a1 v2 a2 t f) (hf : f = 1) (hE : TBE a1 a) (h12 : ∀ i, 0 ≤ a 12 i) (h13 : ∀ i, 0 ≤ a1 12 i) (hc : c = v2 25) (ht : (k = 0 ∧ t = x ∧ s2 = s + c) ∨ (k = 1 ∧ t = y ∧ s2 = s - c)) : SV3 T N a x y k s2 z := by
  obtain ⟨p, w, ⟨ws, h1, h2⟩, h3, h4⟩ := h
  have e := h4.1
  obtain ⟨cs, g1, g2⟩ := (hs.wst hE h4 h12 h13).1 hf
  refine ⟨ws ++ [w], h1.word h3 hz (by omega), ?_⟩
  rcases h2 with ⟨e0, h2⟩ | ⟨e0, we, n1, m, k1, k2, k3, k4, k5⟩
  · rcases ht with ⟨_, e2, e3⟩ | ⟨e1, _⟩
    · subst e2
      have q := wsm.snoc ws s h2 g1
      rw [show s + ((cs.length : Nat) : Int) = s2 by omega] at q
      exact Or.inl ⟨e0, q⟩
    · omega
  · rcases ht with ⟨e1, _⟩ | ⟨_, e2, e3⟩
    · omega
    · subst e2
      have q := wsm.snoc ws m k4 g1
      exact Or.inr ⟨e0, we, n1, _, k1, k2, k3, q, by omega⟩
theorem SVD.nf (h : ¬ WHL v a x ∨ ¬ WHL v a y) (hf : f = -1) : SVD v a x y f := Or.inl ⟨fun q => by
  rcases h with h | h
  · exact h q.1
  · exact h q.2, hf⟩
theorem SVD.nb (h : WHL v a x ∧ WHL v a y) (hb : (BADW (a 29) (v 30) a t)) (ht : t = x ∨ t = y) (hf : f = 0) : SVD v a x y f := Or.inr ⟨h, Or.inl ⟨hf, by
  rcases ht with e | e
  · rw [← e]; exact Or.inl hb
  · rw [← e]; exact Or.inr hb⟩⟩
theorem SVD.ok (h : WHL v a x ∧ WHL v a y) (h1 : SV1 (a 29) (v 30) a x y k s) (hk : k = 2) (hf : f = s) : SVD v a x y f := Or.inr ⟨h, Or.inr (by
  rcases h1 with ⟨e, _⟩ | ⟨e, _⟩ | ⟨_, we, n1, n2, g1, g2, g3, g4⟩
  · omega
  · omega
  · exact ⟨we, n1, n2, g1, g2, g3, by omega⟩)⟩
theorem LEX.tkp (h : LEX T N p u) (hu : p ≤ u ∧ (u = p ∨ u ≤ N)) (hp : p < N) (hz : (T p.toNat = 94 ∧ z = p + 1) ∨ (T p.toNat ≠ 94 ∧ z = p)) : TKP T N z u := by
  have hN : u ≤ N := by omega
  have h1 : z ≤ u := by
    rcases hz with ⟨e1, e2⟩ | ⟨_, e2⟩
    · by_cases c : p = u
      · subst c
        rcases h.2 with g | g
        · omega
        · omega
      · omega
    · omega
  refine ⟨⟨h1, hN⟩, fun j j1 j2 => h.1 j (by omega) j2, ?_⟩
  rcases h.2 with g | g
  · exact Or.inl (by omega)
  · exact Or.inr g
theorem TKP.sub (h : TKP T N q u) (hz : q ≤ z ∧ z ≤ u) : TKP T N z u := ⟨⟨hz.2, h.1.2⟩, fun j j1 j2 => h.2.1 j (by omega) j2, h.2.2⟩
end SAV2
set_option maxHeartbeats 4000000 in
set_option maxRecDepth 100000 in
theorem N2_saved {l : Launch} {G : GT} {h0 : Nat} {ad ln : Nat → Nat} {v : Nat → Int} {a : Nat → Nat → Int}  {x1 y1 : Int} (hB : BX v a) (hT : TBL v a) (hx1 : -2147483648 ≤ x1 ∧ x1 ≤ 2147483647) (hy1 : -2147483648 ≤ y1 ∧ y1 ≤ 2147483647) : Mm l G yX12_saved cX12_saved 8 (some .int) 66 [.int (iI x1), .int (iI y1)] h0 ad ln v a 0 0 (fun r v2 a2 => ∃ f : Int, r = some (.int (iI f)) ∧ fr [0, 1, 23, 25, 28] [20, 21, 22, 24, 26, 27] v a v2 a2 ∧ BX v2 a2 ∧ (SVD v a x1 y1 f)) := by
  refine Mm.mk (by decide) (Nat.le_of_ble_eq_true rfl) ?_
  intro p e s m args below meth c A C
  have h30 : 0 ≤ v 4 ∧ v 4 ≤ 30 := hB.1 4
  have r30 : 0 ≤ v 30 ∧ v 30 ≤ 500 := hB.1 30
  have fp0 : fr [0, 1, 23, 25, 28] [20, 21, 22, 24, 26, 27] v a v a := fr.refl
  refine m_aload_n (j := 0) C dX12_saved_0 rfl ?_
  refine m_iload_n (j := 1) C dX12_saved_1 rfl ?_
  have rv1 : 0 ≤ v 4 ∧ v 4 ≤ 30 := hB.1 4
  refine m_call (mc2 := 0) (ms2 := 0) (As := [.int (iI x1)]) (rest := []) C (E_isWhole (t := x1) hB (hT.fr fp0 rfl rfl) (by show -2147483648 ≤ x1 ∧ x1 ≤ 2147483647; omega)) dX12_saved_2 kV_X12_171 rfl ck_13 rfl (Nat.le_of_ble_eq_true rfl) ⟨Nat.le_of_ble_eq_true rfl, Nat.le_of_ble_eq_true rfl⟩ ⟨Nat.le_of_ble_eq_true rfl, Nat.le_of_ble_eq_true rfl⟩ (fun rh1 vh1 ah1 h1 => ?_)
  obtain ⟨f1, rfl, fn1, bn1, ex1⟩ := h1
  obtain ⟨rfl, rfl⟩ := fn1.eq
  obtain ⟨ex1, tl1⟩ := ex1
  have gf1 : f1 = 0 ∨ (f1 = 1 ∧ 0 ≤ x1 ∧ x1 < (v 4)) := ex1
  refine m_st (st2 := [.int (iI f1)]) rfl ?_
  refine m_if_eq (tgt := 16) C ⟨by omega, by omega⟩ dX12_saved_5 (by decide) (fun c1 => ?_) (fun c1 => ?_)
  · refine m_aload_n (j := 0) C dX12_saved_16 rfl ?_
    refine m_iconst C dX12_saved_17 ?_
    refine m_call (mc2 := 0) (ms2 := 0) (As := [.int (iI 3)]) (rest := []) C (B_bad (x := 3) hB (by show -2147483648 ≤ (3 : Int) ∧ (3 : Int) ≤ 2147483647; omega)) dX12_saved_18 kV_X12_154 rfl ck_13 rfl (Nat.le_of_ble_eq_true rfl) ⟨Nat.le_of_ble_eq_true rfl, Nat.le_of_ble_eq_true rfl⟩ ⟨Nat.le_of_ble_eq_true rfl, Nat.le_of_ble_eq_true rfl⟩ (fun rh2 vh2 ah2 h2 => ?_)
    obtain ⟨f2, rfl, fn2, bn2, ex2⟩ := h2
    have fq2 := fp0.call fn2 rfl rfl
    have gf2 : f2 = -1 := ex2
    refine m_st (st2 := [.int (iI f2)]) rfl ?_
    exact m_iret C dX12_saved_21 rfl (Nat.le_of_ble_eq_true rfl) (Nat.le_of_ble_eq_true rfl) ⟨f2, rfl, fq2, bn2, (SVD.nf (Or.inl (fun q => absurd (tl1.mpr q) (by omega))) (by omega))⟩
  · refine m_aload_n (j := 0) C dX12_saved_8 rfl ?_
    refine m_iload_n (j := 2) C dX12_saved_9 rfl ?_
    refine m_call (mc2 := 0) (ms2 := 0) (As := [.int (iI y1)]) (rest := []) C (E_isWhole (t := y1) hB (hT.fr fp0 rfl rfl) (by show -2147483648 ≤ y1 ∧ y1 ≤ 2147483647; omega)) dX12_saved_10 kV_X12_171 rfl ck_13 rfl (Nat.le_of_ble_eq_true rfl) ⟨Nat.le_of_ble_eq_true rfl, Nat.le_of_ble_eq_true rfl⟩ ⟨Nat.le_of_ble_eq_true rfl, Nat.le_of_ble_eq_true rfl⟩ (fun rh3 vh3 ah3 h3 => ?_)
    obtain ⟨f3, rfl, fn3, bn3, ex3⟩ := h3
    obtain ⟨rfl, rfl⟩ := fn3.eq
    obtain ⟨ex3, tl2⟩ := ex3
    have gf3 : f3 = 0 ∨ (f3 = 1 ∧ 0 ≤ y1 ∧ y1 < (v 4)) := ex3
    refine m_st (st2 := [.int (iI f3)]) rfl ?_
    refine m_if_ne (tgt := 22) C ⟨by omega, by omega⟩ dX12_saved_13 (by decide) (fun c2 => ?_) (fun c2 => ?_)
    · refine m_iconst C dX12_saved_22 ?_
      refine m_istore_n (lv2 := [(3, .int (iI 0)), (0, .ref h0), (1, .int (iI x1)), (2, .int (iI y1))]) C dX12_saved_23 (by decide) rfl ?_
      refine m_iconst C dX12_saved_24 ?_
      refine m_istore (lv2 := [(4, .int (iI 0)), (3, .int (iI 0)), (0, .ref h0), (1, .int (iI x1)), (2, .int (iI y1))]) C dX12_saved_25 (by decide) rfl ?_
      have Lp1 : ∀ (nn : Nat) (s1 k : Int) (vb1 : Nat → Int) (ab1 : Nat → Nat → Int), 3 - k < (nn : Int) → BX vb1 ab1 → fr [0, 1, 23, 25, 28] [20, 21, 22, 24, 26, 27] v a vb1 ab1 → (-100400 ≤ s1 ∧ s1 ≤ 100400) → (0 ≤ k ∧ k ≤ 2) → (SV1 (a 29) (v 30) a x1 y1 k s1) → mw p l e (rmq 66 0 0) s m args below meth c G A 8 (MQ below (Qm G A (fun rq Lq Eq => ∃ (vq : Nat → Int) (aq : Nat → Nat → Int), mI G h0 ad ln vq aq Lq Eq ∧ (fun r v2 a2 => ∃ f : Int, r = some (.int (iI f)) ∧ fr [0, 1, 23, 25, 28] [20, 21, 22, 24, 26, 27] v a v2 a2 ∧ BX v2 a2 ∧ (SVD v a x1 y1 f)) rq vq aq)) args s 0 0 A) h0 ad ln vb1 ab1 0 0 27 [(4, .int (iI k)), (3, .int (iI s1)), (0, .ref h0), (1, .int (iI x1)), (2, .int (iI y1))] [] := by
        intro nn
        induction nn with
        | zero =>
          intro s1 k vb1 ab1 hm bxb1 fpb1 hs hk hV1
          exact absurd hm (by omega)
        | succ nn ih1 =>
          intro s1 k vb1 ab1 hm bxb1 fpb1 hs hk hV1
          refine m_iload (j := 0) C dX12_saved_27 rfl ?_
          refine m_iconst C dX12_saved_29 ?_
          refine m_icmp_ge (tgt := 161) C ⟨by omega, by omega⟩ ⟨by decide, by decide⟩ dX12_saved_30 (by decide) (fun c3 => ?_) (fun c3 => ?_)
          · refine m_aload_n (j := 2) C dX12_saved_161 rfl ?_
            refine m_iload_n (j := 1) C dX12_saved_162 rfl ?_
            refine m_call (mc2 := 0) (ms2 := 0) (As := [.int (iI s1)]) (rest := []) C (B_fine (x := s1) bxb1 (by show -2147483648 ≤ s1 ∧ s1 ≤ 2147483647; omega)) dX12_saved_163 kV_X12_158 rfl ck_13 rfl (Nat.le_of_ble_eq_true rfl) ⟨Nat.le_of_ble_eq_true rfl, Nat.le_of_ble_eq_true rfl⟩ ⟨Nat.le_of_ble_eq_true rfl, Nat.le_of_ble_eq_true rfl⟩ (fun rh4 vh4 ah4 h4 => ?_)
            obtain ⟨f4, rfl, fn4, bn4, ex4⟩ := h4
            have fq4 := fpb1.call fn4 rfl rfl
            have gf4 : f4 = s1 := ex4
            refine m_st (st2 := [.int (iI f4)]) rfl ?_
            exact m_iret C dX12_saved_166 rfl (Nat.le_of_ble_eq_true rfl) (Nat.le_of_ble_eq_true rfl) ⟨f4, rfl, fq4, bn4, (SVD.ok ⟨tl1.mp (by omega), tl2.mp (by omega)⟩ hV1 (by omega) (by omega))⟩
          · refine m_iconst C dX12_saved_33 ?_
            refine m_istore (lv2 := [(5, .int (iI 0)), (4, .int (iI k)), (3, .int (iI s1)), (0, .ref h0), (1, .int (iI x1)), (2, .int (iI y1))]) C dX12_saved_34 (by decide) rfl ?_
            have Lp2 : ∀ (nn : Nat) (s2 x : Int) (vb2 : Nat → Int) (ab2 : Nat → Nat → Int), 502 - x < (nn : Int) → BX vb2 ab2 → fr [0, 1, 23, 25, 28] [20, 21, 22, 24, 26, 27] v a vb2 ab2 → (-100400 ≤ s2 ∧ s2 ≤ 100400) → (0 ≤ x ∧ x ≤ 501) → (SV2 (a 29) (v 30) a x1 y1 k s2 x) → mw p l e (rmq 66 0 0) s m args below meth c G A 8 (MQ below (Qm G A (fun rq Lq Eq => ∃ (vq : Nat → Int) (aq : Nat → Nat → Int), mI G h0 ad ln vq aq Lq Eq ∧ (fun r v2 a2 => ∃ f : Int, r = some (.int (iI f)) ∧ fr [0, 1, 23, 25, 28] [20, 21, 22, 24, 26, 27] v a v2 a2 ∧ BX v2 a2 ∧ (SVD v a x1 y1 f)) rq vq aq)) args s 0 0 A) h0 ad ln vb2 ab2 0 0 36 [(5, .int (iI x)), (3, .int (iI s2)), (4, .int (iI k)), (0, .ref h0), (1, .int (iI x1)), (2, .int (iI y1))] [] := by
              intro nn
              induction nn with
              | zero =>
                intro s2 x vb2 ab2 hm bxb2 fpb2 hs2 hx hV2
                exact absurd hm (by omega)
              | succ nn ih2 =>
                intro s2 x vb2 ab2 hm bxb2 fpb2 hs2 hx hV2
                refine m_iload (j := 0) C dX12_saved_36 rfl ?_
                refine m_aload_n (j := 3) C dX12_saved_38 rfl ?_
                have rv2 : 0 ≤ vb2 30 ∧ vb2 30 ≤ 500 := bxb2.1 30
                have ve1 : vb2 30 = v 30 := fpb2.1 30 rfl
                refine m_get (k := 30) C dX12_saved_39 w6_89 (by decide) rfl ?_
                refine m_st (st2 := [.int (iI (v 30)), .int (iI x)]) (congrArg (fun z => Value.int (iI z) :: [.int (iI x)]) (fpb2.1 30 rfl)) ?_
                refine m_icmp_ge (tgt := 155) C ⟨by omega, by omega⟩ ⟨by omega, by omega⟩ dX12_saved_42 (by decide) (fun c4 => ?_) (fun c4 => ?_)
                · refine m_iinc (z := k) (j := 2) (lv2 := [(4, .int (iI (k + 1))), (5, .int (iI x)), (3, .int (iI s2)), (0, .ref h0), (1, .int (iI x1)), (2, .int (iI y1))]) C dX12_saved_155 rfl (by decide) rfl ?_
                  refine m_goto (tgt := 27) C dX12_saved_158 (by decide) ?_
                  refine m_lv (lv2 := [(4, .int (iI (k + 1))), (3, .int (iI s2)), (0, .ref h0), (1, .int (iI x1)), (2, .int (iI y1))]) [0, 2, 3, 4, 5] rfl ?_
                  exact ih1  s2 (k + 1) _ _ (by omega) bxb2 fpb2 (by omega) (by omega) (hV2.fin (by omega) (by omega))
                · refine m_aload_n (j := 3) C dX12_saved_45 rfl ?_
                  refine m_iload (j := 0) C dX12_saved_46 rfl ?_
                  refine m_call (mc2 := 0) (ms2 := 0) (As := [.int (iI x)]) (rest := []) C (E_lineEnd (q := x) bxb2 (by show 0 ≤ x ∧ x ≤ 1000; omega)) dX12_saved_48 kV_X12_261 rfl ck_13 rfl (Nat.le_of_ble_eq_true rfl) ⟨Nat.le_of_ble_eq_true rfl, Nat.le_of_ble_eq_true rfl⟩ ⟨Nat.le_of_ble_eq_true rfl, Nat.le_of_ble_eq_true rfl⟩ (fun rh5 vh5 ah5 h5 => ?_)
                  obtain ⟨f5, rfl, fn5, bn5, ex5⟩ := h5
                  obtain ⟨rfl, rfl⟩ := fn5.eq
                  obtain ⟨ex5, tl3⟩ := ex5
                  have gf5 : x ≤ f5 ∧ (f5 = x ∨ f5 ≤ (vb2 30)) := ex5
                  have lef5 : LEX (a 29) (v 30) x f5 := (by have q1 := tl3; rw [fpb2.2 29 rfl, fpb2.1 30 rfl] at q1; exact q1)
                  refine m_st (st2 := [.int (iI f5)]) rfl ?_
                  refine m_istore (lv2 := [(6, .int (iI f5)), (5, .int (iI x)), (3, .int (iI s2)), (4, .int (iI k)), (0, .ref h0), (1, .int (iI x1)), (2, .int (iI y1))]) C dX12_saved_51 (by decide) rfl ?_
                  refine m_aload_n (j := 4) C dX12_saved_53 rfl ?_
                  refine m_aload_n (j := 4) C dX12_saved_54 rfl ?_
                  refine m_geta (k := 29) C dX12_saved_55 w6_88 (by decide) rfl ?_
                  refine m_iload (j := 1) C dX12_saved_58 rfl ?_
                  refine m_ald (k := 29) C dX12_saved_60 rfl rfl (by decide) (by omega) (by show _ < ((_ : Nat) : Int); simp only [mlen]; omega) (by decide) ?_
                  have ra1 : (-2147483648) ≤ ab2 29 x.toNat ∧ ab2 29 x.toNat ≤ 2147483647 := bxb2.2 29 (x.toNat)
                  have ae1 : ab2 29 (x.toNat) = a 29 (x.toNat) := congrFun (fpb2.2 29 rfl) (x.toNat)
                  refine m_st (st2 := [.int (iI (a 29 x.toNat)), .ref h0]) (congrArg (fun z => Value.int (iI z) :: [.ref h0]) (congrFun (fpb2.2 29 rfl) (x.toNat))) ?_
                  refine m_bipush (z := 94) C dX12_saved_61 (by decide) ?_
                  have J1 : ∀ (y : Int) (vb3 : Nat → Int) (ab3 : Nat → Nat → Int), BX vb3 ab3 → fr [0, 1, 23, 25, 28] [20, 21, 22, 24, 26, 27] v a vb3 ab3 → (y = x ∨ y = x + 1) → ((a 29 x.toNat = 94 ∧ y = x + 1) ∨ (a 29 x.toNat ≠ 94 ∧ y = x)) → mw p l e (rmq 66 0 0) s m args below meth c G A 8 (MQ below (Qm G A (fun rq Lq Eq => ∃ (vq : Nat → Int) (aq : Nat → Nat → Int), mI G h0 ad ln vq aq Lq Eq ∧ (fun r v2 a2 => ∃ f : Int, r = some (.int (iI f)) ∧ fr [0, 1, 23, 25, 28] [20, 21, 22, 24, 26, 27] v a v2 a2 ∧ BX v2 a2 ∧ (SVD v a x1 y1 f)) rq vq aq)) args s 0 0 A) h0 ad ln vb3 ab3 0 0 75 [(6, .int (iI f5)), (5, .int (iI x)), (3, .int (iI s2)), (4, .int (iI k)), (0, .ref h0), (1, .int (iI x1)), (2, .int (iI y1))] [.int (iI y), .ref h0] := by
                    intro y vb3 ab3 bxb3 fpb3 hy hy2
                    refine m_iload (j := 0) C dX12_saved_75 rfl ?_
                    have rv3 : 0 ≤ vb3 30 ∧ vb3 30 ≤ 500 := bxb3.1 30
                    have ve2 : vb3 30 = v 30 := fpb3.1 30 rfl
                    have rv4 : 0 ≤ vb3 23 ∧ vb3 23 ≤ 500 := bxb3.1 23
                    have tkp1 : TKP (a 29) (v 30) y f5 := LEX.tkp lef5 (by omega) (by omega) hy2
                    refine m_call (mc2 := 0) (ms2 := 0) (As := [.int (iI y), .int (iI f5)]) (rest := []) C (E_takeWord (q := y) (u := f5) bxb3 (by omega) (by omega) (TKP.cg tkp1 (fpb3.2 29 rfl) (fpb3.1 30 rfl))) dX12_saved_77 kV_X12_264 rfl ck_13 rfl (Nat.le_of_ble_eq_true rfl) ⟨Nat.le_of_ble_eq_true rfl, Nat.le_of_ble_eq_true rfl⟩ ⟨Nat.le_of_ble_eq_true rfl, Nat.le_of_ble_eq_true rfl⟩ (fun rh6 vh6 ah6 h6 => ?_)
                    obtain ⟨f6, rfl, fn6, bn6, ex6, tl4⟩ := h6
                    have fq6 := fpb3.call fn6 rfl rfl
                    have rv5 : 0 ≤ vh6 23 ∧ vh6 23 ≤ 500 := bn6.1 23
                    have gf6 : (f6 = y ∨ (y ≤ f6 ∧ f6 ≤ f5)) ∧ (vh6 23) ≤ f6 - y := ex6
                    have hf6 : (vh6 23) ≠ 0 ∨ f6 = f5 := tl4.2
                    have tk1 : TKX (a 29) (v 30) vh6 ah6 y f6 := (by have q1 := tl4.1; rw [fpb3.2 29 rfl, fpb3.1 30 rfl] at q1; exact q1)
                    refine m_st (st2 := [.int (iI f6)]) rfl ?_
                    refine m_istore (lv2 := [(7, .int (iI f6)), (6, .int (iI f5)), (5, .int (iI x)), (3, .int (iI s2)), (4, .int (iI k)), (0, .ref h0), (1, .int (iI x1)), (2, .int (iI y1))]) C dX12_saved_80 (by decide) rfl ?_
                    have Lp3 : ∀ (nn : Nat) (s3 w1 : Int) (vb4 : Nat → Int) (ab4 : Nat → Nat → Int), 1005 - 2 * w1 + min 1 (vb4 23) < (nn : Int) → BX vb4 ab4 → fr [0, 1, 23, 25, 28] [20, 21, 22, 24, 26, 27] v a vb4 ab4 → (-100400 ≤ s3 ∧ s3 ≤ 100400) → (0 ≤ w1 ∧ w1 ≤ 501) → (0 ≤ vb4 23 ∧ vb4 23 ≤ 500) → (y ≤ w1 ∧ w1 ≤ f5) → (vb4 23 ≠ 0 ∨ w1 = f5) → (SV4 (a 29) (v 30) a x1 y1 k s3 w1 vb4 ab4) → mw p l e (rmq 66 0 0) s m args below meth c G A 8 (MQ below (Qm G A (fun rq Lq Eq => ∃ (vq : Nat → Int) (aq : Nat → Nat → Int), mI G h0 ad ln vq aq Lq Eq ∧ (fun r v2 a2 => ∃ f : Int, r = some (.int (iI f)) ∧ fr [0, 1, 23, 25, 28] [20, 21, 22, 24, 26, 27] v a v2 a2 ∧ BX v2 a2 ∧ (SVD v a x1 y1 f)) rq vq aq)) args s 0 0 A) h0 ad ln vb4 ab4 0 0 82 [(7, .int (iI w1)), (3, .int (iI s3)), (6, .int (iI f5)), (5, .int (iI x)), (4, .int (iI k)), (0, .ref h0), (1, .int (iI x1)), (2, .int (iI y1))] [] := by
                      intro nn
                      induction nn with
                      | zero =>
                        intro s3 w1 vb4 ab4 hm bxb4 fpb4 hs3 hw h23 hwr hto hV4
                        exact absurd hm (by omega)
                      | succ nn ih3 =>
                        intro s3 w1 vb4 ab4 hm bxb4 fpb4 hs3 hw h23 hwr hto hV4
                        refine m_aload_n (j := 5) C dX12_saved_82 rfl ?_
                        have rv6 : 0 ≤ vb4 23 ∧ vb4 23 ≤ 500 := bxb4.1 23
                        refine m_get (k := 23) C dX12_saved_83 w6_82 (by decide) rfl ?_
                        refine m_if_le (tgt := 146) C ⟨by omega, by omega⟩ dX12_saved_86 (by decide) (fun c5 => ?_) (fun c5 => ?_)
                        · refine m_iload (j := 2) C dX12_saved_146 rfl ?_
                          refine m_iconst C dX12_saved_148 ?_
                          refine m_iadd C dX12_saved_149 ?_
                          refine m_istore (lv2 := [(5, .int (iI (f5 + 1))), (7, .int (iI w1)), (3, .int (iI s3)), (6, .int (iI f5)), (4, .int (iI k)), (0, .ref h0), (1, .int (iI x1)), (2, .int (iI y1))]) C dX12_saved_150 (by decide) rfl ?_
                          refine m_goto (tgt := 36) C dX12_saved_152 (by decide) ?_
                          refine m_lv (lv2 := [(5, .int (iI (f5 + 1))), (3, .int (iI s3)), (4, .int (iI k)), (0, .ref h0), (1, .int (iI x1)), (2, .int (iI y1))]) [0, 2, 4, 5, 6, 7] rfl ?_
                          exact ih2  s3 (f5 + 1) _ _ (by omega) bxb4 fpb4 (by omega) (by omega) (by have e := hV4.line (by omega) (by omega); rw [show w1 = f5 by omega] at e; exact e)
                        · refine m_aload_n (j := 5) C dX12_saved_89 rfl ?_
                          refine m_iload (j := 4) C dX12_saved_90 rfl ?_
                          have J2 : ∀ (z1 : Int) (vb5 : Nat → Int) (ab5 : Nat → Nat → Int), BX vb5 ab5 → fr [0, 1, 23, 25, 28] [20, 21, 22, 24, 26, 27] v a vb5 ab5 → (0 ≤ z1 ∧ z1 < v 4) → ((k = 0 ∧ z1 = x1) ∨ (k = 1 ∧ z1 = y1)) → (SV4 (a 29) (v 30) a x1 y1 k s3 w1 vb5 ab5) → (1 ≤ vb5 23) → mw p l e (rmq 66 0 0) s m args below meth c G A 8 (MQ below (Qm G A (fun rq Lq Eq => ∃ (vq : Nat → Int) (aq : Nat → Nat → Int), mI G h0 ad ln vq aq Lq Eq ∧ (fun r v2 a2 => ∃ f : Int, r = some (.int (iI f)) ∧ fr [0, 1, 23, 25, 28] [20, 21, 22, 24, 26, 27] v a v2 a2 ∧ BX v2 a2 ∧ (SVD v a x1 y1 f)) rq vq aq)) args s 0 0 A) h0 ad ln vb5 ab5 0 0 100 [(7, .int (iI w1)), (3, .int (iI s3)), (6, .int (iI f5)), (5, .int (iI x)), (4, .int (iI k)), (0, .ref h0), (1, .int (iI x1)), (2, .int (iI y1))] [.int (iI z1), .ref h0] := by
                            intro z1 vb5 ab5 bxb5 fpb5 hz1 hz2 hV5 h235
                            have rv7 : 0 ≤ vb5 4 ∧ vb5 4 ≤ 30 := bxb5.1 4
                            have ve3 : vb5 4 = v 4 := fpb5.1 4 rfl
                            refine m_call (mc2 := 0) (ms2 := 0) (As := [.int (iI z1)]) (rest := []) C (E_setWord (t := z1) bxb5 (hT.fr fpb5 rfl rfl) (by show 0 ≤ z1 ∧ z1 < (vb5 4); omega)) dX12_saved_100 kV_X12_267 rfl ck_13 rfl (Nat.le_of_ble_eq_true rfl) ⟨Nat.le_of_ble_eq_true rfl, Nat.le_of_ble_eq_true rfl⟩ ⟨Nat.le_of_ble_eq_true rfl, Nat.le_of_ble_eq_true rfl⟩ (fun rh7 vh7 ah7 h7 => ?_)
                            obtain ⟨f7, rfl, fn7, bn7, ex7⟩ := h7
                            have fq7 := fpb5.call fn7 rfl rfl
                            obtain ⟨ex7, tl5⟩ := ex7
                            have rv8 : 0 ≤ vh7 25 ∧ vh7 25 ≤ 208 := bn7.1 25
                            have gf7 : f7 = 0 ∨ (f7 = 1 ∧ (vh7 25) ≤ 200) := ex7
                            refine m_st (st2 := [.int (iI f7)]) rfl ?_
                            refine m_if_ne (tgt := 113) C ⟨by omega, by omega⟩ dX12_saved_103 (by decide) (fun c6 => ?_) (fun c6 => ?_)
                            · refine m_iload_n (j := 1) C dX12_saved_113 rfl ?_
                              refine m_iload (j := 4) C dX12_saved_114 rfl ?_
                              refine m_if_ne (tgt := 126) C ⟨by omega, by omega⟩ dX12_saved_116 (by decide) (fun c7 => ?_) (fun c7 => ?_)
                              · refine m_aload_n (j := 5) C dX12_saved_126 rfl ?_
                                refine m_get (k := 25) C dX12_saved_127 w6_84 (by decide) rfl ?_
                                refine m_ineg C dX12_saved_130 ?_
                                refine m_iadd C dX12_saved_131 ?_
                                refine m_istore_n (lv2 := [(3, .int (iI (s3 + (-(vh7 25))))), (7, .int (iI w1)), (6, .int (iI f5)), (5, .int (iI x)), (4, .int (iI k)), (0, .ref h0), (1, .int (iI x1)), (2, .int (iI y1))]) C dX12_saved_132 (by decide) rfl ?_
                                refine m_aload_n (j := 5) C dX12_saved_133 rfl ?_
                                refine m_iload (j := 1) C dX12_saved_134 rfl ?_
                                refine m_iload (j := 2) C dX12_saved_136 rfl ?_
                                have rv9 : 0 ≤ vh7 30 ∧ vh7 30 ≤ 500 := bn7.1 30
                                have ve4 : vh7 30 = vb5 30 := fn7.1 30 rfl
                                have ve5 : vb5 30 = v 30 := fpb5.1 30 rfl
                                have rv10 : 0 ≤ vh7 23 ∧ vh7 23 ≤ 500 := bn7.1 23
                                have ve6 : vh7 23 = vb5 23 := fn7.1 23 rfl
                                have sv3 : SV3 (a 29) (v 30) a x1 y1 k (s3 + (-(vh7 25))) w1 := hV5.add (by omega) (by omega) tl5.1 (by omega) (TBE.fr fpb5 rfl) (fun i => (hB.2 12 i).1) (fun i => (bxb5.2 12 i).1) rfl (by omega)
                                refine m_call (mc2 := 0) (ms2 := 0) (As := [.int (iI w1), .int (iI f5)]) (rest := []) C (E_takeWord (q := w1) (u := f5) bn7 (by omega) (by omega) (TKP.cg (tkp1.sub ⟨by omega, by omega⟩) (fq7.2 29 rfl) (fq7.1 30 rfl))) dX12_saved_138 kV_X12_264 rfl ck_13 rfl (Nat.le_of_ble_eq_true rfl) ⟨Nat.le_of_ble_eq_true rfl, Nat.le_of_ble_eq_true rfl⟩ ⟨Nat.le_of_ble_eq_true rfl, Nat.le_of_ble_eq_true rfl⟩ (fun rh8 vh8 ah8 h8 => ?_)
                                obtain ⟨f8, rfl, fn8, bn8, ex8, tl6⟩ := h8
                                have fq8 := fq7.call fn8 rfl rfl
                                have rv11 : 0 ≤ vh8 23 ∧ vh8 23 ≤ 500 := bn8.1 23
                                have gf8 : (f8 = w1 ∨ (w1 ≤ f8 ∧ f8 ≤ f5)) ∧ (vh8 23) ≤ f8 - w1 := ex8
                                have hf8 : (vh8 23) ≠ 0 ∨ f8 = f5 := tl6.2
                                have tk2 : TKX (a 29) (v 30) vh8 ah8 w1 f8 := (by have q1 := tl6.1; rw [fq7.2 29 rfl, fq7.1 30 rfl] at q1; exact q1)
                                refine m_st (st2 := [.int (iI f8)]) rfl ?_
                                refine m_istore (lv2 := [(7, .int (iI f8)), (3, .int (iI (s3 + (-(vh7 25))))), (6, .int (iI f5)), (5, .int (iI x)), (4, .int (iI k)), (0, .ref h0), (1, .int (iI x1)), (2, .int (iI y1))]) C dX12_saved_141 (by decide) rfl ?_
                                refine m_goto (tgt := 82) C dX12_saved_143 (by decide) ?_
                                refine m_lv (lv2 := [(7, .int (iI f8)), (3, .int (iI (s3 + (-(vh7 25))))), (6, .int (iI f5)), (5, .int (iI x)), (4, .int (iI k)), (0, .ref h0), (1, .int (iI x1)), (2, .int (iI y1))]) [0, 1, 2, 3, 4, 5, 6, 7] rfl ?_
                                exact ih3  (s3 + (-(vh7 25))) f8 _ _ (by omega) bn8 fq8 (SV4.rg (sv3.take tk2) ⟨by omega, by omega⟩) (by omega) (by show 0 ≤ (vh8 23) ∧ (vh8 23) ≤ 500; omega) ⟨by omega, by omega⟩ (by omega) (sv3.take tk2)
                              · refine m_aload_n (j := 5) C dX12_saved_119 rfl ?_
                                refine m_get (k := 25) C dX12_saved_120 w6_84 (by decide) rfl ?_
                                refine m_goto (tgt := 131) C dX12_saved_123 (by decide) ?_
                                refine m_iadd C dX12_saved_131 ?_
                                refine m_istore_n (lv2 := [(3, .int (iI (s3 + (vh7 25)))), (7, .int (iI w1)), (6, .int (iI f5)), (5, .int (iI x)), (4, .int (iI k)), (0, .ref h0), (1, .int (iI x1)), (2, .int (iI y1))]) C dX12_saved_132 (by decide) rfl ?_
                                refine m_aload_n (j := 5) C dX12_saved_133 rfl ?_
                                refine m_iload (j := 1) C dX12_saved_134 rfl ?_
                                refine m_iload (j := 2) C dX12_saved_136 rfl ?_
                                have rv12 : 0 ≤ vh7 30 ∧ vh7 30 ≤ 500 := bn7.1 30
                                have ve7 : vh7 30 = vb5 30 := fn7.1 30 rfl
                                have ve8 : vb5 30 = v 30 := fpb5.1 30 rfl
                                have rv13 : 0 ≤ vh7 23 ∧ vh7 23 ≤ 500 := bn7.1 23
                                have ve9 : vh7 23 = vb5 23 := fn7.1 23 rfl
                                have sv3 : SV3 (a 29) (v 30) a x1 y1 k (s3 + (vh7 25)) w1 := hV5.add (by omega) (by omega) tl5.1 (by omega) (TBE.fr fpb5 rfl) (fun i => (hB.2 12 i).1) (fun i => (bxb5.2 12 i).1) rfl (by omega)
                                refine m_call (mc2 := 0) (ms2 := 0) (As := [.int (iI w1), .int (iI f5)]) (rest := []) C (E_takeWord (q := w1) (u := f5) bn7 (by omega) (by omega) (TKP.cg (tkp1.sub ⟨by omega, by omega⟩) (fq7.2 29 rfl) (fq7.1 30 rfl))) dX12_saved_138 kV_X12_264 rfl ck_13 rfl (Nat.le_of_ble_eq_true rfl) ⟨Nat.le_of_ble_eq_true rfl, Nat.le_of_ble_eq_true rfl⟩ ⟨Nat.le_of_ble_eq_true rfl, Nat.le_of_ble_eq_true rfl⟩ (fun rh9 vh9 ah9 h9 => ?_)
                                obtain ⟨f9, rfl, fn9, bn9, ex9, tl7⟩ := h9
                                have fq9 := fq7.call fn9 rfl rfl
                                have rv14 : 0 ≤ vh9 23 ∧ vh9 23 ≤ 500 := bn9.1 23
                                have gf9 : (f9 = w1 ∨ (w1 ≤ f9 ∧ f9 ≤ f5)) ∧ (vh9 23) ≤ f9 - w1 := ex9
                                have hf9 : (vh9 23) ≠ 0 ∨ f9 = f5 := tl7.2
                                have tk3 : TKX (a 29) (v 30) vh9 ah9 w1 f9 := (by have q1 := tl7.1; rw [fq7.2 29 rfl, fq7.1 30 rfl] at q1; exact q1)
                                refine m_st (st2 := [.int (iI f9)]) rfl ?_
                                refine m_istore (lv2 := [(7, .int (iI f9)), (3, .int (iI (s3 + (vh7 25)))), (6, .int (iI f5)), (5, .int (iI x)), (4, .int (iI k)), (0, .ref h0), (1, .int (iI x1)), (2, .int (iI y1))]) C dX12_saved_141 (by decide) rfl ?_
                                refine m_goto (tgt := 82) C dX12_saved_143 (by decide) ?_
                                refine m_lv (lv2 := [(7, .int (iI f9)), (3, .int (iI (s3 + (vh7 25)))), (6, .int (iI f5)), (5, .int (iI x)), (4, .int (iI k)), (0, .ref h0), (1, .int (iI x1)), (2, .int (iI y1))]) [0, 1, 2, 3, 4, 5, 6, 7] rfl ?_
                                exact ih3  (s3 + (vh7 25)) f9 _ _ (by omega) bn9 fq9 (SV4.rg (sv3.take tk3) ⟨by omega, by omega⟩) (by omega) (by show 0 ≤ (vh9 23) ∧ (vh9 23) ≤ 500; omega) ⟨by omega, by omega⟩ (by omega) (sv3.take tk3)
                            · refine m_aload_n (j := 5) C dX12_saved_106 rfl ?_
                              refine m_call (mc2 := 0) (ms2 := 0) (As := []) (rest := []) C (B_notSet  bn7 ) dX12_saved_107 kV_X12_270 rfl ck_13 rfl (Nat.le_of_ble_eq_true rfl) ⟨Nat.le_of_ble_eq_true rfl, Nat.le_of_ble_eq_true rfl⟩ ⟨Nat.le_of_ble_eq_true rfl, Nat.le_of_ble_eq_true rfl⟩ (fun rh10 vh10 ah10 h10 => ?_)
                              obtain ⟨f10, rfl, fn10, bn10, ex10⟩ := h10
                              have fq10 := fq7.call fn10 rfl rfl
                              have gf10 : f10 = -1 := ex10
                              refine m_st (st2 := [.int (iI f10)]) rfl ?_
                              refine m_iconst C dX12_saved_110 ?_
                              refine m_iadd C dX12_saved_111 ?_
                              exact m_iret C dX12_saved_112 rfl (Nat.le_of_ble_eq_true rfl) (Nat.le_of_ble_eq_true rfl) ⟨(f10 + 1), rfl, fq10, bn10, (SVD.nb ⟨tl1.mp (by omega), tl2.mp (by omega)⟩ (hV5.bad (by omega) (by omega) tl5.1 (by omega) (TBE.fr fpb5 rfl) (fun i => (hB.2 12 i).1) (fun i => (bxb5.2 12 i).1)) (by omega) (by omega))⟩
                          refine m_if_ne (tgt := 99) C ⟨by omega, by omega⟩ dX12_saved_92 (by decide) (fun c8 => ?_) (fun c8 => ?_)
                          · refine m_iload_n (j := 7) C dX12_saved_99 rfl ?_
                            refine m_lv (lv2 := [(7, .int (iI w1)), (3, .int (iI s3)), (6, .int (iI f5)), (5, .int (iI x)), (4, .int (iI k)), (0, .ref h0), (1, .int (iI x1)), (2, .int (iI y1))]) [0, 1, 2, 3, 4, 5, 6, 7] rfl ?_
                            exact J2  y1 _ _  bxb4 fpb4 (by omega) (by omega) hV4 (by show 1 ≤ (vb4 23); omega)
                          · refine m_iload_n (j := 6) C dX12_saved_95 rfl ?_
                            refine m_goto (tgt := 100) C dX12_saved_96 (by decide) ?_
                            refine m_lv (lv2 := [(7, .int (iI w1)), (3, .int (iI s3)), (6, .int (iI f5)), (5, .int (iI x)), (4, .int (iI k)), (0, .ref h0), (1, .int (iI x1)), (2, .int (iI y1))]) [0, 1, 2, 3, 4, 5, 6, 7] rfl ?_
                            exact J2  x1 _ _  bxb4 fpb4 (by omega) (by omega) hV4 (by show 1 ≤ (vb4 23); omega)
                    refine m_lv (lv2 := [(7, .int (iI f6)), (3, .int (iI s2)), (6, .int (iI f5)), (5, .int (iI x)), (4, .int (iI k)), (0, .ref h0), (1, .int (iI x1)), (2, .int (iI y1))]) [0, 3, 1, 2, 4, 5, 6, 7] rfl ?_
                    exact Lp3 1010 s2 f6 _ _ (by omega) bn6 fq6 (SV4.rg (SV3.take (hV2.enter (by omega) hy2) tk1) ⟨by omega, by omega⟩) (by omega) (by show 0 ≤ (vh6 23) ∧ (vh6 23) ≤ 500; omega) ⟨by omega, by omega⟩ (by omega) (SV3.take (hV2.enter (by omega) hy2) tk1)
                  refine m_icmp_ne (tgt := 73) C ⟨by omega, by omega⟩ ⟨by decide, by decide⟩ dX12_saved_63 (by decide) (fun c9 => ?_) (fun c9 => ?_)
                  · refine m_iload (j := 1) C dX12_saved_73 rfl ?_
                    refine m_lv (lv2 := [(6, .int (iI f5)), (5, .int (iI x)), (3, .int (iI s2)), (4, .int (iI k)), (0, .ref h0), (1, .int (iI x1)), (2, .int (iI y1))]) [0, 1, 2, 3, 4, 5, 6] rfl ?_
                    exact J1  x _ _  bxb2 fpb2 (by omega) (by omega)
                  · refine m_iload (j := 1) C dX12_saved_66 rfl ?_
                    refine m_iconst C dX12_saved_68 ?_
                    refine m_iadd C dX12_saved_69 ?_
                    refine m_goto (tgt := 75) C dX12_saved_70 (by decide) ?_
                    refine m_lv (lv2 := [(6, .int (iI f5)), (5, .int (iI x)), (3, .int (iI s2)), (4, .int (iI k)), (0, .ref h0), (1, .int (iI x1)), (2, .int (iI y1))]) [0, 1, 2, 3, 4, 5, 6] rfl ?_
                    exact J1  (x + 1) _ _  bxb2 fpb2 (by omega) (by omega)
            refine m_lv (lv2 := [(5, .int (iI 0)), (3, .int (iI s1)), (4, .int (iI k)), (0, .ref h0), (1, .int (iI x1)), (2, .int (iI y1))]) [0, 2, 1, 3, 4, 5] rfl ?_
            exact Lp2 503 s1 0 _ _ (by omega) bxb1 fpb1 (by omega) (by omega) (hV1.begin (by omega))
      refine m_lv (lv2 := [(4, .int (iI 0)), (3, .int (iI 0)), (0, .ref h0), (1, .int (iI x1)), (2, .int (iI y1))]) [0, 1, 2, 3, 4] rfl ?_
      exact Lp1 4 0 0 _ _ (by omega) hB fp0 (by omega) (by omega) SV1.init
    · refine m_aload_n (j := 0) C dX12_saved_16 rfl ?_
      refine m_iconst C dX12_saved_17 ?_
      refine m_call (mc2 := 0) (ms2 := 0) (As := [.int (iI 3)]) (rest := []) C (B_bad (x := 3) hB (by show -2147483648 ≤ (3 : Int) ∧ (3 : Int) ≤ 2147483647; omega)) dX12_saved_18 kV_X12_154 rfl ck_13 rfl (Nat.le_of_ble_eq_true rfl) ⟨Nat.le_of_ble_eq_true rfl, Nat.le_of_ble_eq_true rfl⟩ ⟨Nat.le_of_ble_eq_true rfl, Nat.le_of_ble_eq_true rfl⟩ (fun rh11 vh11 ah11 h11 => ?_)
      obtain ⟨f11, rfl, fn11, bn11, ex11⟩ := h11
      have fq11 := fp0.call fn11 rfl rfl
      have gf11 : f11 = -1 := ex11
      refine m_st (st2 := [.int (iI f11)]) rfl ?_
      exact m_iret C dX12_saved_21 rfl (Nat.le_of_ble_eq_true rfl) (Nat.le_of_ble_eq_true rfl) ⟨f11, rfl, fq11, bn11, (SVD.nf (Or.inr (fun q => absurd (tl2.mpr q) (by omega))) (by omega))⟩
