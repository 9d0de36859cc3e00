section
def ROWR (ln : Nat → Nat) (iv : Nat → Nat → Int) (rv : Nat → Nat → Option Nat) (a : Nat → Nat → Int) (w R : Nat) : Prop := iv w 3 = a 11 R ∧ iv w 0 = 4 ∧ ∃ l c, rv w 1 = some l ∧ rv w 2 = some c ∧ ((ln l : Nat) : Int) = a 12 R ∧ ((ln c : Nat) : Int) = a 13 R ∧ (∀ k : Nat, k < ln l → iv l k = a 14 (8 * R + k) ∧ 33 ≤ iv l k ∧ iv l k ≤ 125) ∧ (∀ k : Nat, k < ln c → iv c k = a 15 (4 * R + k) ∧ 1 ≤ iv c k ∧ iv c k ≤ 255)
def INDR (ln : Nat → Nat) (iv : Nat → Nat → Int) (rv : Nat → Nat → Option Nat) (r : Option Nat) (w m : Int) (y : Nat → Int) : Prop := (r = none ∧ m = 0) ∨ ∃ b c, r = some b ∧ (iv b 0 = w ∧ ∃ lb, rv b 1 = some lb ∧ ln lb = 0) ∧ rv b 2 = some c ∧ ((ln c : Nat) : Int) = m ∧ 0 < m ∧ ∀ k : Nat, k < ln c → iv c k = y k ∧ 1 ≤ iv c k ∧ iv c k ≤ 255
def BASR (sk : Nat → Nat) (rv : Nat → Nat → Option Nat) (i : Nat) (r : Option Nat) (x : Int) : Prop := (x = -1 ∧ r = none) ∨ (0 ≤ x ∧ x < (i : Int) ∧ r = el rv (sk 22) x.toNat)
def TB2 (o : Nat → Nat) (sk : Nat → Nat) (ln : Nat → Nat) (iv : Nat → Nat → Int) (rv : Nat → Nat → Option Nat) (a : Nat → Nat → Int) (i t : Nat) : Prop := ∃ q s x n, (rv t 4 = some q ∧ rv t 5 = some s ∧ rv s 1 = some x ∧ rv t 6 = some n) ∧ (o t = i ∧ o q = i ∧ o s = i ∧ o x = i ∧ o n = i) ∧ (BASR sk rv i (rv t 2) (a 8 i) ∧ BASR sk rv i (rv t 3) (a 9 i)) ∧ (iv s 2 = a 10 i ∧ iv q 2 = a 10 i) ∧ (∀ r : Nat, (r : Int) < a 10 i → ∃ w, el rv q r = some w ∧ o w = 200 * i + r ∧ ROWR ln iv rv a w (200 * i + r)) ∧ CT iv rv s (fun r => a 14 (8 * (200 * i + r))) ∧ (∀ w : Nat, w < 4 → INDR ln iv rv (rv n w) (w : Int) (a 16 (4 * i + w)) (fun k => a 17 (4 * (4 * i + w) + k)))
def CH2 (sk : Nat → Nat) (ln : Nat → Nat) (iv : Nat → Nat → Int) (rv : Nat → Nat → Option Nat) (v : Nat → Int) (a : Nat → Nat → Int) (k ch : Nat) : Prop := (a 18 (4 * k) = 3 → ((0 ≤ a 18 (4 * k + 1) ∧ a 18 (4 * k + 1) < v 4) ∧ 0 ≤ a 18 (4 * k + 2) ∧ a 18 (4 * k + 2) < a 10 (a 18 (4 * k + 1)).toNat) ∧ (∃ t q, el rv (sk 22) (a 18 (4 * k + 1)).toNat = some t ∧ rv t 4 = some q ∧ rv ch 2 = el rv q (a 18 (4 * k + 2)).toNat) ∧ iv ch 3 = a 18 (4 * k + 3)) ∧ (a 18 (4 * k) = 4 → (0 ≤ a 18 (4 * k + 1) ∧ a 18 (4 * k + 1) < 4 * v 4) ∧ rv ch 1 = el rv (sk 22) (a 18 (4 * k + 1) / 4).toNat ∧ iv ch 3 = a 18 (4 * k + 1) % 4 ∧ INDR ln iv rv (rv ch 2) (a 18 (4 * k + 1) % 4) (a 18 (4 * k + 2)) (fun j => UPK (a 18 (4 * k + 3)) (a 18 (4 * k + 2)) (j : Int)))
def RP2 (o : Nat → Nat) (sk : Nat → Nat) (ln : Nat → Nat) (iv : Nat → Nat → Int) (rv : Nat → Nat → Option Nat) (v : Nat → Int) (a : Nat → Nat → Int) : Prop := (∀ i : Nat, (i : Int) < v 4 → ∃ t, el rv (sk 22) i = some t ∧ TB2 o sk ln iv rv a i t) ∧ (∀ k : Nat, (k : Int) < iv (sk 23) 2 → ∃ ch, el rv (sk 23) k = some ch ∧ CH2 sk ln iv rv v a k ch)
def IDD (sk : Nat → Nat) (L2 : List Nat) (cl2 ln2 : Nat → Nat) (iv : Nat → Nat → Int) (rv : Nat → Nat → Option Nat) (iv2 : Nat → Nat → Int) (rv2 : Nat → Nat → Option Nat) (n : Nat) (j : Int) : Prop := (iv (sk 2) 2 = 0 ∧ rv2 n j.toNat = none) ∨ ∃ w c, rv2 n j.toNat = some w ∧ (ty L2 cl2 w 20 ∧ (iv2 w 0 = j ∧ ∃ lb, rv2 w 1 = some lb ∧ ln2 lb = 0) ∧ rv2 w 2 = some c) ∧ ty L2 cl2 c 66 ∧ ln2 c = (iv (sk 2) 2).toNat ∧ 0 < iv (sk 2) 2 ∧ ∀ ss, CT iv rv (sk 2) ss → ∀ k : Nat, k < ln2 c → iv2 c k = ss k
def ARW (a a2 : Nat → Nat → Int) (R : Nat) : Prop := a2 12 R = a 12 R ∧ a2 13 R = a 13 R ∧ (∀ k : Nat, k < 8 → a2 14 (8 * R + k) = a 14 (8 * R + k)) ∧ (∀ k : Nat, k < 4 → a2 15 (4 * R + k) = a 15 (4 * R + k))
def AIN (a a2 : Nat → Nat → Int) (I : Nat) : Prop := a2 16 I = a 16 I ∧ ∀ k : Nat, k < 4 → a2 17 (4 * I + k) = a 17 (4 * I + k)
section REPS
variable {g : Nat} {sk o o2 : Nat → Nat} {L L2 : List Nat} {cl ln cl2 ln2 : Nat → Nat} {iv iv2 : Nat → Nat → Int} {rv rv2 : Nat → Nat → Option Nat} {v v2 : Nat → Int} {a a2 : Nat → Nat → Int} {C Q S X : Nat → Prop} {N : Nat → Nat → Prop} {w R i t q s x n k ch : Nat}
theorem el26 (h : WT g sk L cl ln iv rv) (tq : ty L cl q 26) {r : Nat} (hi : (r : Int) < iv q 2) (he : el rv q r = some w) : ty L cl w 20 := by
  obtain ⟨b, q1, q2, q3, q4⟩ := h.ed2 tq rfl rfl (by omega)
  rw [el_of q1] at he
  obtain ⟨c, w1, w2⟩ := h.elem tq rfl q1 q2 rfl rfl hi
  rw [he] at w1; cases w1
  exact w2
theorem ty4 (hW : WT g sk L cl ln iv rv) (tt : ty L cl t 100) (h4 : rv t 4 = some q) : ty L cl q 26 := by
  obtain ⟨b, w1, w2⟩ := hW.ref tt 4 rfl rfl rfl
  rw [w1] at h4; cases h4
  exact w2
theorem ROWR.keep (h : ROWR ln iv rv a w R) (tw : ty L cl w 20) (hW : WT g sk L cl ln iv rv) (hX : XT L cl ln L2 cl2 ln2) (hk : KP L cl C Q S X N iv rv iv2 rv2) (hc : iv2 w 3 = a2 11 R) (ha : ARW a a2 R) : ROWR ln2 iv2 rv2 a2 w R := by
  obtain ⟨_, e2, l, c, e3, e4, e5, e6, e7, e8⟩ := h
  obtain ⟨l', w1, tl⟩ := hW.ref tw 1 rfl rfl rfl
  rw [e3] at w1; cases w1
  obtain ⟨c', w2, tc⟩ := hW.ref tw 2 rfl rfl rfl
  rw [e4] at w2; cases w2
  refine hv5 (hk.rw0 w tw) ((hX l tl.1).2.2) ((hX c tc.1).2.2) (show ln l ≤ 8 from (hW.len tl rfl).2) (show ln c ≤ 4 from (hW.len tc rfl).2) (fun q n1 n2 b1 b2 => ?_)
  refine ⟨hc, q.1.trans e2, l, c, q.2.1.trans e3, q.2.2.trans e4, by rw [n1, ha.1]; exact e5, by rw [n2, ha.2.1]; exact e6, fun k hk2 => ?_, fun k hk2 => ?_⟩
  · rw [n1] at hk2
    rw [hk.le l tl k, ha.2.2.1 k (by omega)]; exact e7 k hk2
  · rw [n2] at hk2
    rw [hk.ce c tc k, ha.2.2.2 k (by omega)]; exact e8 k hk2
theorem INDR.keep {r : Option Nat} {z m : Int} {y y2 : Nat → Int} (h : INDR ln iv rv r z m y) (hr : ∀ b, r = some b → ty L cl b 20) (hW : WT g sk L cl ln iv rv) (hX : XT L cl ln L2 cl2 ln2) (hk : KP L cl C Q S X N iv rv iv2 rv2) (hy : ∀ k : Nat, (k : Int) < m → k < 4 → y2 k = y k) : INDR ln2 iv2 rv2 r z m y2 := by
  rcases h with h | ⟨b, c, e1, e2, e3, e4, e5, e6⟩
  · exact Or.inl h
  · have tb := hr b e1
    obtain ⟨c', w2, tc⟩ := hW.ref tb 2 rfl rfl rfl
    rw [e3] at w2; cases w2
    refine hv3 (hk.rw0 b tb) ((hX c tc.1).2.2) (show ln c ≤ 4 from (hW.len tc rfl).2) (fun q n2 b2 => ?_)
    obtain ⟨e2, lb, e7, e8⟩ := e2
    obtain ⟨l', w3, tl⟩ := hW.ref tb 1 rfl rfl rfl
    rw [e7] at w3; cases w3
    refine Or.inr ⟨b, c, e1, ⟨q.1.trans e2, lb, q.2.1.trans e7, by rw [(hX lb tl.1).2.2]; exact e8⟩, q.2.2.trans e3, by rw [n2]; exact e4, e5, fun k hk2 => ?_⟩
    rw [n2] at hk2
    rw [hk.ce c tc k, hy k (by omega) (by omega)]; exact e6 k hk2
theorem BASR.keep {r : Option Nat} {z : Int} (h : BASR sk rv i r z) (he : ∀ j : Nat, j < i → el rv2 (sk 22) j = el rv (sk 22) j) : BASR sk rv2 i r z := by
  rcases h with h | ⟨h1, h2, h3⟩
  · exact Or.inl h
  · exact Or.inr ⟨h1, h2, h3.trans (he _ (by omega)).symm⟩
theorem rows_keep {z : Int} (hr : ∀ r : Nat, (r : Int) < z → ∃ w, el rv q r = some w ∧ o w = 200 * i + r ∧ ROWR ln iv rv a w (200 * i + r)) (tq : ty L cl q 26) (hn : z ≤ iv q 2) (hel : ∀ r : Nat, (r : Int) < z → el rv2 q r = el rv q r) (hW : WT g sk L cl ln iv rv) (hX : XT L cl ln L2 cl2 ln2) (hk : KP L cl C Q S X N iv rv iv2 rv2) (ho : ∀ b ∈ L, o2 b = o b) (hc : ∀ r w : Nat, (r : Int) < z → el rv q r = some w → ty L cl w 20 → o w = 200 * i + r → iv w 3 = a 11 (200 * i + r) → iv2 w 3 = a2 11 (200 * i + r)) (ha : ∀ r : Nat, (r : Int) < z → ARW a a2 (200 * i + r)) : ∀ r : Nat, (r : Int) < z → ∃ w, el rv2 q r = some w ∧ o2 w = 200 * i + r ∧ ROWR ln2 iv2 rv2 a2 w (200 * i + r) := by
  intro r hz
  obtain ⟨w, e1, e2, e3⟩ := hr r hz
  have tw := el26 hW tq (by omega) e1
  exact ⟨w, (hel r hz).trans e1, (ho w tw.1).trans e2, e3.keep tw hW hX hk (hc r w hz e1 tw e2 e3.1) (ha r hz)⟩
theorem CT.kp {ss ss2 : Nat → Int} (h : CT iv rv s ss) (ts : ty L cl s 12) (hW : WT g sk L cl ln iv rv) (hk : KP L cl C Q S X N iv rv iv2 rv2) (h1 : rv2 s 1 = rv s 1) (h2 : iv2 s 2 ≤ iv s 2) (hx : ∀ b, rv s 1 = some b → ¬ X b) (hs : ∀ j : Nat, (j : Int) < iv2 s 2 → ss2 j = ss j) : CT iv2 rv2 s ss2 := by
  intro b hb j hj
  rw [h1] at hb
  obtain ⟨b', w1, w2⟩ := hW.ref ts 1 rfl rfl rfl
  have e := w1
  rw [hb] at e; cases e
  rw [hk.ia b w2 (hx b hb) j, hs j hj]
  exact h b hb j (by omega)
theorem inds_keep {w : Nat} (hn : INDR ln iv rv (rv n w) (w : Int) (a 16 (4 * i + w)) (fun k => a 17 (4 * (4 * i + w) + k))) (tn : ty L cl n 68) (hW : WT g sk L cl ln iv rv) (hX : XT L cl ln L2 cl2 ln2) (hk : KP L cl C Q S X N iv rv iv2 rv2) (hN : ¬ N n w) (ha : AIN a a2 (4 * i + w)) : INDR ln2 iv2 rv2 (rv2 n w) (w : Int) (a2 16 (4 * i + w)) (fun k => a2 17 (4 * (4 * i + w) + k)) := by
  rw [hk.nd n tn w hN, ha.1]
  refine hn.keep (fun b hb => ?_) hW hX hk (fun k _ hk4 => ha.2 k hk4)
  rcases hW.opt tn w rfl rfl with e | ⟨c, e1, e2⟩
  · rw [e.1] at hb; cases hb
  · rw [e1] at hb; cases hb; exact e2
theorem TB2.types (h : TB2 o sk ln iv rv a i t) (tt : ty L cl t 100) (hW : WT g sk L cl ln iv rv) : ∃ q s x n, (rv t 4 = some q ∧ rv t 5 = some s ∧ rv s 1 = some x ∧ rv t 6 = some n) ∧ (ty L cl q 26 ∧ ty L cl s 12 ∧ ty L cl x 42 ∧ ty L cl n 68) := by
  obtain ⟨q, s, x, n, ⟨e1, e2, e3, e4⟩, _⟩ := h
  obtain ⟨q', w1, w2⟩ := hW.ref tt 4 rfl rfl rfl
  rw [e1] at w1; cases w1
  obtain ⟨s', w3, w4⟩ := hW.ref tt 5 rfl rfl rfl
  rw [e2] at w3; cases w3
  obtain ⟨x', w5, w6⟩ := hW.ref w4 1 rfl rfl rfl
  rw [e3] at w5; cases w5
  obtain ⟨n', w7, w8⟩ := hW.ref tt 6 rfl rfl rfl
  rw [e4] at w7; cases w7
  exact ⟨q, s, x, n, ⟨e1, e2, e3, e4⟩, w2, w4, w6, w8⟩
theorem TB2.keep (h : TB2 o sk ln iv rv a i t) (tt : ty L cl t 100) (hW : WT g sk L cl ln iv rv) (hX : XT L cl ln L2 cl2 ln2) (hk : KP L cl C Q S X N iv rv iv2 rv2) (he : ∀ j : Nat, j < i → el rv2 (sk 22) j = el rv (sk 22) j) (ho : ∀ b ∈ L, o2 b = o b) (hQ : ∀ b, Q b → o b ≠ i) (hS : ∀ b, S b → o b ≠ i) (hXx : ∀ b, X b → o b ≠ i) (a8 : a2 8 i = a 8 i) (a9 : a2 9 i = a 9 i) (a10 : a2 10 i = a 10 i) (h200 : a 10 i ≤ 200) (hc : ∀ q r w : Nat, rv t 4 = some q → (r : Int) < a 10 i → el rv q r = some w → ty L cl w 20 → o w = 200 * i + r → iv w 3 = a 11 (200 * i + r) → iv2 w 3 = a2 11 (200 * i + r)) (hA : ∀ r : Nat, r < 200 → ARW a a2 (200 * i + r)) (hI : ∀ n w : Nat, rv t 6 = some n → ty L cl n 68 → o n = i → w < 4 → INDR ln iv rv (rv n w) (w : Int) (a 16 (4 * i + w)) (fun k => a 17 (4 * (4 * i + w) + k)) → INDR ln2 iv2 rv2 (rv2 n w) (w : Int) (a2 16 (4 * i + w)) (fun k => a2 17 (4 * (4 * i + w) + k))) : TB2 o2 sk ln2 iv2 rv2 a2 i t := by
  have hty := h.types tt hW
  obtain ⟨q, s, x, n, ⟨e1, e2, e3, e4⟩, ⟨o1, o2', o3, o4, o5⟩, ⟨b1, b2⟩, ⟨z1, z2⟩, hr, hct, hi⟩ := h
  obtain ⟨q', s', x', n', ⟨f1, f2, f3, f4⟩, tq, ts, tx, tn⟩ := hty
  rw [e1] at f1; cases f1
  rw [e2] at f2; cases f2
  rw [e3] at f3; cases f3
  rw [e4] at f4; cases f4
  refine hv3 (hk.tb t tt) (hk.it s ts (fun e => hS s e o3)) (hk.li q tq (fun e => hQ q e o2')) (fun kt ks kq => ?_)
  refine ⟨q, s, x, n, ⟨kt.2.2.1.trans e1, kt.2.2.2.1.trans e2, ks.2.trans e3, kt.2.2.2.2.trans e4⟩, ⟨(ho t tt.1).trans o1, (ho q tq.1).trans o2', (ho s ts.1).trans o3, (ho x tx.1).trans o4, (ho n tn.1).trans o5⟩, ⟨by rw [kt.1, a8]; exact b1.keep he, by rw [kt.2.1, a9]; exact b2.keep he⟩, ⟨by rw [ks.1, a10]; exact z1, by rw [kq.1, a10]; exact z2⟩, ?_, ?_, fun w hw => hI n w e4 tn o5 hw (hi w hw)⟩
  · rw [a10]
    exact rows_keep hr tq (by omega) (fun r hz => kq.2 r (by omega)) hW hX hk ho (fun r w hz he2 tw ow e => hc q r w e1 hz he2 tw ow e) (fun r hz => hA r (by omega))
  · exact hct.kp ts hW hk ks.2 (by rw [ks.1]; omega) (fun b hb eb => by rw [e3] at hb; cases hb; exact hXx _ eb o4) (fun j hj => (hA j (by rw [ks.1] at hj; omega)).2.2.1 0 (by omega))
theorem CH2.keep {T : Int} (h : CH2 sk ln iv rv v a k ch) (tch : ty L cl ch 21) (hW : WT g sk L cl ln iv rv) (hX : XT L cl ln L2 cl2 ln2) (hk : KP L cl C Q S X N iv rv iv2 rv2) (h1 : rv2 ch 1 = rv ch 1) (hs : ∀ j : Nat, j < 4 → a2 18 (4 * k + j) = a 18 (4 * k + j)) (hT2 : T ≤ v2 4) (hle : T ≤ v 4) (b3 : a 18 (4 * k) = 3 → a 18 (4 * k + 1) < T ∧ a 18 (4 * k + 2) < a2 10 (a 18 (4 * k + 1)).toNat) (b4 : a 18 (4 * k) = 4 → a 18 (4 * k + 1) < 4 * T) (he : ∀ j : Nat, (j : Int) < T → el rv2 (sk 22) j = el rv (sk 22) j) (ht4 : ∀ j t : Nat, (j : Int) < T → el rv (sk 22) j = some t → rv2 t 4 = rv t 4) (hel : ∀ j t q : Nat, (j : Int) < T → el rv (sk 22) j = some t → rv t 4 = some q → ∀ y : Nat, (y : Int) < a 10 j → (y : Int) < a2 10 j → el rv2 q y = el rv q y) : CH2 sk ln2 iv2 rv2 v2 a2 k ch := by
  have s0 := hs 0 (by omega); have s1 := hs 1 (by omega); have s2 := hs 2 (by omega); have s3 := hs 3 (by omega)
  rw [Nat.add_zero] at s0
  have kc := hk.ch ch tch
  refine ⟨fun e => ?_, fun e => ?_⟩
  · rw [s0] at e
    obtain ⟨⟨c1, c2, c3⟩, ⟨t, q, d1, d2, d3⟩, d4⟩ := h.1 e
    obtain ⟨g1, g2⟩ := b3 e
    rw [s1, s2, s3]
    refine ⟨⟨⟨c1.1, by omega⟩, c2, g2⟩, ⟨t, q, (he _ (by omega)).trans d1, (ht4 _ t (by omega) d1).trans d2, ?_⟩, kc.1.trans d4⟩
    rw [kc.2, d3]
    exact (hel _ t q (by omega) d1 d2 _ (by omega) (by omega)).symm
  · rw [s0] at e
    obtain ⟨c1, d1, d2, d3⟩ := h.2 e
    have g1 := b4 e
    rw [s1, s2, s3, kc.2]
    refine ⟨⟨c1.1, by omega⟩, (h1.trans d1).trans (he _ (by omega)).symm, kc.1.trans d2, d3.keep (fun b hb => ?_) hW hX hk (fun _ _ _ => rfl)⟩
    rcases hW.opt tch 2 rfl rfl with e2 | ⟨c, e1, e2⟩
    · rw [e2.1] at hb; cases hb
    · rw [e1] at hb; cases hb; exact e2
theorem ARW.of (h12 : a2 12 = a 12) (h13 : a2 13 = a 13) (h14 : a2 14 = a 14) (h15 : a2 15 = a 15) : ARW a a2 R := ⟨by rw [h12], by rw [h13], fun k _ => by rw [h14], fun k _ => by rw [h15]⟩
theorem AIN.of (h16 : a2 16 = a 16) (h17 : a2 17 = a 17) : AIN a a2 R := ⟨by rw [h16], fun k _ => by rw [h17]⟩
theorem TABR.r200 (h : TABR sk iv rv v a) (hi : (i : Int) < v 4) : 0 ≤ a 10 i ∧ a 10 i ≤ 200 := by
  obtain ⟨_, _, _, _, _, _, _, _, _, _, b⟩ := h.2.1 i hi
  exact b
theorem TABR.sz (h : TABR sk iv rv v a) (hi : (i : Int) < v 4) (ht : el rv (sk 22) i = some t) (hq : rv t 4 = some q) : iv q 2 = a 10 i := by
  obtain ⟨t', q', b1, b2, _, _, _, b6, _⟩ := h.2.1 i hi
  rw [ht] at b1; cases b1
  rw [hq] at b2; cases b2
  exact b6
theorem TB2.keep0 (h : TB2 o sk ln iv rv a i t) (tt : ty L cl t 100) (hW : WT g sk L cl ln iv rv) (hX : XT L cl ln L2 cl2 ln2) (hk : KP L cl (fun _ => False) (fun _ => False) (fun _ => False) (fun _ => False) (fun _ _ => False) iv rv iv2 rv2) (he : ∀ j : Nat, j < i → el rv2 (sk 22) j = el rv (sk 22) j) (ho : ∀ b ∈ L, o2 b = o b) (h200 : a 10 i ≤ 200) (a8 : a2 8 i = a 8 i) (a9 : a2 9 i = a 9 i) (a10 : a2 10 i = a 10 i) (hA : ∀ r : Nat, r < 200 → a2 11 (200 * i + r) = a 11 (200 * i + r) ∧ ARW a a2 (200 * i + r)) (hI : ∀ w : Nat, w < 4 → AIN a a2 (4 * i + w)) : TB2 o2 sk ln2 iv2 rv2 a2 i t := h.keep tt hW hX hk he ho (fun _ e => e.elim) (fun _ e => e.elim) (fun _ e => e.elim) a8 a9 a10 h200 (fun q r w _ hr _ tw _ e => by rw [hk.rwc w tw (fun e => e), (hA r (by omega)).1]; exact e) (fun r hr => (hA r hr).2) (fun n w _ tn _ hw hi => inds_keep hi tn hW hX hk (fun e => e) (hI w hw))
theorem CH2.keepU (h : CH2 sk ln iv rv v a k ch) (tch : ty L cl ch 21) (hW : WT g sk L cl ln iv rv) (hX : XT L cl ln L2 cl2 ln2) (hk : KP L cl C Q S X N iv rv iv2 rv2) (h1 : rv2 ch 1 = rv ch 1) (hs : ∀ j : Nat, j < 4 → a2 18 (4 * k + j) = a 18 (4 * k + j)) (hv : v 4 ≤ v2 4) (ha : ∀ j : Nat, (j : Int) < v 4 → a 10 j ≤ a2 10 j) (he : ∀ j : Nat, (j : Int) < v 4 → el rv2 (sk 22) j = el rv (sk 22) j) (ht4 : ∀ j t : Nat, (j : Int) < v 4 → el rv (sk 22) j = some t → rv2 t 4 = rv t 4) (hel : ∀ j t q : Nat, (j : Int) < v 4 → el rv (sk 22) j = some t → rv t 4 = some q → ∀ y : Nat, (y : Int) < a 10 j → (y : Int) < a2 10 j → el rv2 q y = el rv q y) : CH2 sk ln2 iv2 rv2 v2 a2 k ch :=
  h.keep (T := v 4) tch hW hX hk h1 hs hv (Int.le_refl _) (fun e => by
    obtain ⟨⟨c1, c2, c3⟩, _⟩ := h.1 e
    have q := ha (a 18 (4 * k + 1)).toNat (by omega)
    exact ⟨c1.2, by omega⟩) (fun e => (h.2 e).1.2) he ht4 hel
theorem rp_same (h : RP2 o sk ln iv rv v a) (hT : TABR sk iv rv v a) (hW : WT g sk L cl ln iv rv) (hS : SKL sk L cl) (hX : XT L cl ln L2 cl2 ln2) (hk : KP L cl (fun _ => False) (fun _ => False) (fun _ => False) (fun _ => False) (fun _ _ => False) iv rv iv2 rv2) (hp : PSAME sk iv rv iv2 rv2) (hq : TSAME v a v2 a2) : RP2 o sk ln2 iv2 rv2 v2 a2 := by
  obtain ⟨p1, p2, ⟨p3, p4, p5⟩, p6⟩ := hp
  obtain ⟨q4, q5, q6, q7, q10, q19, q18, q11, q8, q9, q12, q13, q14, q15, q16, q17⟩ := hq
  have n22 := hT.1
  refine ⟨fun i hi => ?_, fun k hk2 => ?_⟩
  · obtain ⟨t, e1, e2⟩ := h.1 i (by omega)
    exact ⟨t, (p3 i (by omega)).trans e1, e2.keep0 (el22 hW hS (by omega) e1) hW hX hk (fun j hj => p3 j (by omega)) (fun _ _ => rfl) (hT.r200 (by omega)).2 (by rw [q8]) (by rw [q9]) (by rw [q10]) (fun r _ => ⟨by rw [q11], ARW.of q12 q13 q14 q15⟩) (fun w _ => AIN.of q16 q17)⟩
  · obtain ⟨ch, c1, c2⟩ := h.2 k (by omega)
    have c := p6 k (by omega)
    exact ⟨ch, c.1.trans c1, c2.keepU (el23 hW hS (by omega) c1) hW hX hk (c.2 ch c1).2 (fun j _ => by rw [q18]) (by omega) (fun j _ => by rw [q10]; exact Int.le_refl _) (fun j hj => p3 j (by omega)) (fun j t hj ht => (hk.tb t (el22 hW hS (by omega) ht)).2.2.1) (fun j t q hj ht hq y hy _ => (hk.li q (ty4 hW (el22 hW hS (by omega) ht) hq) (fun e => e)).2 y (by rw [hT.sz hj ht hq]; exact hy))⟩
theorem stk_old {w t c d : Int} (hq : PSH v a v2 a2 w t c d) (h19 : 4 * iv (sk 23) 2 = v 19) (hk : (k : Int) < iv (sk 23) 2) : ∀ j : Nat, j < 4 → a2 18 (4 * k + j) = a 18 (4 * k + j) := fun j hj => hq.2.1 _ (by omega)
theorem stk_new {w t c d : Int} (hq : PSH v a v2 a2 w t c d) (h19 : 4 * iv (sk 23) 2 = v 19) (h0 : 0 ≤ v 19) (hk : ¬ (k : Int) < iv (sk 23) 2) (hk2 : (k : Int) < iv (sk 23) 2 + 1) : a2 18 (4 * k) = w ∧ a2 18 (4 * k + 1) = t ∧ a2 18 (4 * k + 2) = c ∧ a2 18 (4 * k + 3) = d := by
  obtain ⟨_, _, s3, s4, s5, s6⟩ := hq
  refine ⟨?_, ?_, ?_, ?_⟩
  · rw [show 4 * k = (v 19).toNat by omega]; exact s3
  · rw [show 4 * k + 1 = (v 19 + 1).toNat by omega]; exact s4
  · rw [show 4 * k + 2 = (v 19 + 2).toNat by omega]; exact s5
  · rw [show 4 * k + 3 = (v 19 + 3).toNat by omega]; exact s6
theorem rp_new {kd d bb ss : Int} {b s : Option Nat} (h : RP2 o sk ln iv rv v a) (hT : TABR sk iv rv v a) (hW : WT g sk L cl ln iv rv) (hS : SKL sk L cl) (hX : XT L cl ln L2 cl2 ln2) (hk : KP L cl (fun _ => False) (fun _ => False) (fun _ => False) (fun _ => False) (fun _ _ => False) iv rv iv2 rv2) (hp : PNEW kd d sk iv rv iv2 rv2) (hn : KNW L sk b s iv iv2 rv2) (hq : TNEW kd d bb ss v a v2 a2) (hb : BASR sk rv (v 4).toNat b bb) (hs : BASR sk rv (v 4).toNat s ss) : ∃ o2, RP2 o2 sk ln2 iv2 rv2 v2 a2 := by
  obtain ⟨q, r, p1, p2, p3, p4, p5, p6, p7, p8, ⟨p9, p10, p11⟩, p12⟩ := hp
  obtain ⟨q', r', s5, x, n, m1, ⟨m2, m3, m4, m5, m6⟩, ⟨m7, m8, m9, m10, m11, m12⟩, m13, m14⟩ := hn
  rw [p1] at m1; cases m1
  rw [p5] at m9; cases m9
  obtain ⟨q1, q2, q3, q4, q5, q6, q7, q8, q9, q12, q13, q14, q15, q17, q16⟩ := hq
  refine hv4 (hT.1) (hT.2.2.2.1) (hT.2.2.2.2.2.1) (hT.2.2.2.2.2.2) (fun n22 n23 v0 v19 => ?_)
  refine ⟨fun z => if z ∈ L then o z else (v 4).toNat, fun i hi => ?_, fun k hk2 => ?_⟩
  · by_cases e : (i : Int) < v 4
    · obtain ⟨t, e1, e2⟩ := h.1 i e
      have ne : i ≠ (v 4).toNat := by omega
      exact ⟨t, (p9 i (by omega)).trans e1, e2.keep0 (el22 hW hS (by omega) e1) hW hX hk (fun j hj => p9 j (by omega)) (fun z hz => if_pos hz) (hT.r200 e).2 (by rw [q8, va_up_ne _ _ ne]) (by rw [q9, va_up_ne _ _ ne]) (by rw [q5, va_up_ne _ _ ne]) (fun r _ => ⟨by rw [q7], ARW.of q12 q13 q14 q15⟩) (fun w hw => ⟨q16.2 _ (Or.inl (by omega)), fun k _ => by rw [q17]⟩)⟩
    · have ei : i = (v 4).toNat := by omega
      subst ei
      have e10 : a2 10 (v 4).toNat = 0 := by rw [q5, va_up_self]
      refine ⟨_, by rw [← n22]; exact p1, _, s5, x, n, ⟨p5, m10, m12, m11⟩, ⟨if_neg m2, if_neg m3, if_neg m4, if_neg m5, if_neg m6⟩, ⟨?_, ?_⟩, ⟨by rw [e10]; exact m13, by rw [e10]; exact p6⟩, fun r hr => absurd hr (by rw [e10]; omega), CT.zero m13, fun w hw => Or.inl ⟨m14 w, ?_⟩⟩
      · rw [m7, q8, va_up_self]; exact hb.keep (fun j hj => p9 j (by omega))
      · rw [m8, q9, va_up_self]; exact hs.keep (fun j hj => p9 j (by omega))
      · rw [show 4 * (v 4).toNat + w = (4 * v 4).toNat + w by omega]; exact q16.1 w hw
  · obtain ⟨r1, r2, ch', r3, r4, r5⟩ := p12
    by_cases e : (k : Int) < iv (sk 23) 2
    · obtain ⟨ch, c1, c2⟩ := h.2 k e
      exact ⟨ch, (r2 k e).1.trans c1, c2.keepU (el23 hW hS (by omega) c1) hW hX hk ((r2 k e).2 ch c1).2 (fun j hj => stk_old q6 n23 e j hj) (by omega) (fun j hj => by rw [q5, va_up_ne _ _ (by omega)]; exact Int.le_refl _) (fun j hj => p9 j (by omega)) (fun j t hj ht => (hk.tb t (el22 hW hS (by omega) ht)).2.2.1) (fun j t q hj ht hq y hy _ => (hk.li q (ty4 hW (el22 hW hS (by omega) ht) hq) (fun e => e)).2 y (by rw [hT.sz hj ht hq]; exact hy))⟩
    · obtain ⟨z0, _, _, _⟩ := stk_new q6 n23 v19 e (by omega)
      exact ⟨ch', by rw [show k = (iv (sk 23) 2).toNat by omega]; exact r3, fun e3 => absurd (z0.symm.trans e3) (by decide), fun e3 => absurd (z0.symm.trans e3) (by decide)⟩
theorem rp_drop {i0 : Int} {P : Nat → Prop} {y : Option Nat} (h : RP2 o sk ln iv rv v a) (hT : TABR sk iv rv v a) (hW : WT g sk L cl ln iv rv) (hS : SKL sk L cl) (hX : XT L cl ln L2 cl2 ln2) (hk : KP L cl (fun _ => False) (fun _ => False) (fun _ => False) (fun _ => False) (fun _ _ => False) iv rv iv2 rv2) (hp : PTAB P (fun _ => True) sk iv rv iv2 rv2) (hps : PPSH 1 y sk iv rv iv2 rv2) (hq : TDRP i0 v a v2 a2) : RP2 o sk ln2 iv2 rv2 v2 a2 := by
  obtain ⟨p9, p10, p11⟩ := hp
  obtain ⟨q4, q5, q6, q7, q10, qs, q11, q8, q9, q12, q13, q14, q15, q16, q17⟩ := hq
  refine hv3 (hT.1) (hT.2.2.2.1) (hT.2.2.2.2.2.2) (fun n22 n23 v19 => ?_)
  refine ⟨fun i hi => ?_, fun k hk2 => ?_⟩
  · obtain ⟨t, e1, e2⟩ := h.1 i (by omega)
    exact ⟨t, (p9 i (by omega)).trans e1, e2.keep0 (el22 hW hS (by omega) e1) hW hX hk (fun j hj => p9 j (by omega)) (fun _ _ => rfl) (hT.r200 (by omega)).2 (by rw [q8]) (by rw [q9]) (by rw [q10]) (fun r _ => ⟨by rw [q11], ARW.of q12 q13 q14 q15⟩) (fun w _ => AIN.of q16 q17)⟩
  · obtain ⟨r1, r2, ch', r3, r4, r5⟩ := hps
    by_cases e : (k : Int) < iv (sk 23) 2
    · obtain ⟨ch, c1, c2⟩ := h.2 k e
      exact ⟨ch, (r2 k e).1.trans c1, c2.keepU (el23 hW hS (by omega) c1) hW hX hk ((r2 k e).2 ch c1).2 (fun j hj => stk_old qs n23 e j hj) (by omega) (fun j hj => by rw [q10]; exact Int.le_refl _) (fun j hj => p9 j (by omega)) (fun j t hj ht => (hk.tb t (el22 hW hS (by omega) ht)).2.2.1) (fun j t q hj ht hq y hy _ => (hk.li q (ty4 hW (el22 hW hS (by omega) ht) hq) (fun e => e)).2 y (by rw [hT.sz hj ht hq]; exact hy))⟩
    · obtain ⟨z0, _, _, _⟩ := stk_new qs n23 v19 e (by omega)
      exact ⟨ch', by rw [show k = (iv (sk 23) 2).toNat by omega]; exact r3, fun e3 => absurd (z0.symm.trans e3) (by decide), fun e3 => absurd (z0.symm.trans e3) (by decide)⟩
theorem lo8 {z : Int} {i : Nat} (h1 : 0 ≤ z) (h2 : z ≤ 255) (h8 : 8 ≤ i) : (iI z).toBitVec.getLsbD i = false := by
  obtain ⟨n, hn⟩ := Int.eq_ofNat_of_zero_le h1
  subst hn
  show (BitVec.ofInt 32 ((n : Nat) : Int)).getLsbD i = false
  rw [BitVec.ofInt_natCast, BitVec.getLsbD_ofNat]
  have lt : n < 2 ^ i := Nat.lt_of_lt_of_le (show n < 2 ^ 8 by omega) (Nat.pow_le_pow_right (by decide) h8)
  rw [Nat.testBit_lt_two_pow lt, Bool.and_false]
theorem pkb_bit (ss : Nat → Int) (b : Nat) : ∀ m : Nat, m ≤ 4 → (∀ k : Nat, k < m → 0 ≤ ss (b + k) ∧ ss (b + k) ≤ 255) → ∀ k : Nat, k < m → ∀ i : Nat, i < 8 → (iI (PKB ss b m)).toBitVec.getLsbD (8 * (m - 1 - k) + i) = (iI (ss (b + k))).toBitVec.getLsbD i := by
  intro m
  induction m with
  | zero => intro _ _ k hk; exact absurd hk (by omega)
  | succ n ih =>
    intro hm hs k hk i h8
    have e : (iI (PKB ss b (n + 1))).toBitVec = ((iI (PKB ss b n)).toBitVec <<< 8) ||| (iI (ss (b + n))).toBitVec := by
      show (iI ((iI (PKB ss b n) <<< (iI 8 &&& 31)) ||| iI (ss (b + n))).toInt).toBitVec = _
      rw [show iI ((iI (PKB ss b n) <<< (iI 8 &&& 31)) ||| iI (ss (b + n))).toInt = (iI (PKB ss b n) <<< (iI 8 &&& 31)) ||| iI (ss (b + n)) from Int32.ofInt_toInt _]
      rw [Int32.toBitVec_or]
      rfl
    rw [e, BitVec.getLsbD_or, BitVec.getLsbD_shiftLeft]
    by_cases ek : k = n
    · subst ek
      rw [show 8 * (k + 1 - 1 - k) + i = i by omega]
      simp [h8]
    · rw [lo8 (hs n (by omega)).1 (hs n (by omega)).2 (by omega), Bool.or_false]
      have := ih (by omega) (fun k hk => hs k (by omega)) k (by omega) i h8
      rw [show 8 * (n + 1 - 1 - k) + i - 8 = 8 * (n - 1 - k) + i by omega, this]
      have h1 : ¬ (8 * (n + 1 - 1 - k) + i < 8) := by omega
      have h2 : 8 * (n + 1 - 1 - k) + i < 32 := by omega
      simp [h1, h2]
      intro _
      omega
theorem upk_pkb (ss : Nat → Int) (b m k : Nat) (hm : m ≤ 4) (hs : ∀ k : Nat, k < m → 0 ≤ ss (b + k) ∧ ss (b + k) ≤ 255) (hk : k < m) : UPK (PKB ss b m) (m : Int) (k : Int) = ss (b + k) := by
  refine hv2 (pkb_bit ss b m hm hs k hk) (hs k hk) (fun pb hk4 => ?_)
  have e : ((iI (PKB ss b m) >>> (iI (8 * (((m : Int) - 1) - (k : Int))) &&& 31)) &&& iI 255) = iI (ss (b + k)) := by
    have es : (8 * (((m : Int) - 1) - (k : Int))) = ((8 * (m - 1 - k) : Nat) : Int) := by omega
    rw [es]
    have h24 : 8 * (m - 1 - k) ≤ 24 := by omega
    apply Int32.toBitVec_inj.mp
    have b2 : (iI (PKB ss b m) >>> (iI ((8 * (m - 1 - k) : Nat) : Int) &&& 31)).toBitVec = (iI (PKB ss b m)).toBitVec.sshiftRight (8 * (m - 1 - k)) := by
      have q : 8 * (m - 1 - k) = 0 ∨ 8 * (m - 1 - k) = 8 ∨ 8 * (m - 1 - k) = 16 ∨ 8 * (m - 1 - k) = 24 := by omega
      rcases q with q | q | q | q <;> rw [q] <;> rfl
    rw [Int32.toBitVec_and, b2]
    apply BitVec.eq_of_getLsbD_eq
    intro i hi
    rw [BitVec.getLsbD_and]
    by_cases h8 : i < 8
    · rw [BitVec.getLsbD_sshiftRight, ← pb i h8]
      have h1 : ¬ (32 ≤ i) := by omega
      have h2 : 8 * (m - 1 - k) + i < 32 := by omega
      have h3 : (iI 255).toBitVec.getLsbD i = true := by
        have : ∀ i : Nat, i < 8 → (iI 255).toBitVec.getLsbD i = true := by decide
        exact this i h8
      have h4 : (255#32 : BitVec 32).getLsbD i = true := by
        have : ∀ i : Nat, i < 8 → (255#32 : BitVec 32).getLsbD i = true := by decide
        exact this i h8
      simp [h1, h2, h3]
      intro _
      exact h4
    · rw [lo8 (z := 255) (by decide) (by decide) (by omega), Bool.and_false, lo8 hk4.1 hk4.2 (by omega)]
  unfold UPK
  rw [e, iI_int ⟨by omega, by omega⟩]
theorem rp_cond {i0 j x f : Int} (h : RP2 o sk ln iv rv v a) (hT : TABR sk iv rv v a) (hW : WT g sk L cl ln iv rv) (hS : SKL sk L cl) (hX : XT L cl ln L2 cl2 ln2) (ha : ALV sk iv rv i0 t) (h4 : rv t 4 = some q) (hw : el rv q j.toNat = some w) (hj : 0 ≤ j ∧ j < a 10 i0.toNat) (hf : f = iv w 3) (hk : KP L cl (fun b => b = w) (fun _ => False) (fun _ => False) (fun _ => False) (fun _ _ => False) iv rv iv2 rv2) (hx : iv2 w 3 = x) (hp : PTAB (fun _ => True) (fun _ => True) sk iv rv iv2 rv2) (hps : CS0 (iv (sk 23) 2) sk iv rv iv2 rv2) (h2 : PPS2 sk (some t) (some w) f iv iv2 rv2) (hq : TCND i0 j x v a v2 a2) : RP2 o sk ln2 iv2 rv2 v2 a2 := by
  obtain ⟨p9, p10, p11⟩ := hp
  obtain ⟨⟨q4, q5, q6, q7, q10, qs⟩, q11, q8, q9, q12, q13, q14, q15, q16, q17⟩ := hq
  refine hv6 ((hT.al ha).1) (hT.1) (hT.2.2.2.1) (hT.2.2.2.2.2.2) (ha.tt hW hS) ((ha.t4 hW hS h4).1) (fun hi0 n22 n23 v19 tt tq => ?_)
  obtain ⟨t', e1', e2'⟩ := h.1 i0.toNat (by omega)
  rw [ha.2.2.1] at e1'; cases e1'
  have ow : o w = 200 * i0.toNat + j.toNat ∧ iv w 3 = a 11 (200 * i0.toNat + j.toNat) := by
    obtain ⟨qq, _, _, _, ⟨f1, _⟩, _, _, _, rr, _⟩ := e2'
    rw [h4] at f1; cases f1
    obtain ⟨w', g1, g2, g3⟩ := rr j.toNat (by omega)
    rw [hw] at g1; cases g1
    exact ⟨g2, g3.1⟩
  have b0 := hT.r200 (i := i0.toNat) (by omega)
  have ix : (200 * i0 + j).toNat = 200 * i0.toNat + j.toNat := by omega
  refine ⟨fun i hi => ?_, fun k hk2 => ?_⟩
  · obtain ⟨u, e1, e2⟩ := h.1 i (by omega)
    have r2 := hT.r200 (i := i) (by omega)
    refine ⟨u, (p9 i (by omega)).trans e1, e2.keep (el22 hW hS (by omega) e1) hW hX hk (fun j hj => p9 j (by omega)) (fun _ _ => rfl) (fun _ e => e.elim) (fun _ e => e.elim) (fun _ e => e.elim) (by rw [q8]) (by rw [q9]) (by rw [q10]) r2.2 (fun qb r wb hqb hr hel tw o1 e3 => ?_) (fun r _ => ARW.of q12 q13 q14 q15) (fun n w _ tn _ hw hi => inds_keep hi tn hW hX hk (fun e => e) (AIN.of q16 q17))⟩
    rw [q11, ix]
    by_cases e : 200 * i + r = 200 * i0.toNat + j.toNat
    · have ei : i = i0.toNat := by omega
      have er : r = j.toNat := by omega
      rw [ei, ha.2.2.1] at e1; cases e1
      rw [h4] at hqb; cases hqb
      rw [er, hw] at hel; cases hel
      rw [e, va_up_self]; exact hx
    · rw [va_up_ne _ _ e, hk.rwc wb tw (fun ec => e (by rw [← o1, ec]; exact ow.1))]
      exact e3
  · obtain ⟨s1, ch', s2, s3, s4, s5⟩ := h2
    by_cases e : (k : Int) < iv (sk 23) 2
    · obtain ⟨ch, c1, c2⟩ := h.2 k e
      exact ⟨ch, (hps k e).1.trans c1, c2.keepU (el23 hW hS (by omega) c1) hW hX hk ((hps k e).2 ch c1).2 (fun j hj => stk_old qs n23 e j hj) (by omega) (fun j hj => by rw [q10]; exact Int.le_refl _) (fun j hj => p9 j (by omega)) (fun j t hj ht => (hk.tb t (el22 hW hS (by omega) ht)).2.2.1) (fun j t q hj ht hq y hy _ => (hk.li q (ty4 hW (el22 hW hS (by omega) ht) hq) (fun e => e)).2 y (by rw [hT.sz hj ht hq]; exact hy))⟩
    · obtain ⟨z0, z1, z2, z3⟩ := stk_new qs n23 v19 e (by omega)
      refine ⟨ch', by rw [show k = (iv (sk 23) 2).toNat by omega]; exact s2, fun _ => ?_, fun e4 => absurd (z0.symm.trans e4) (by decide)⟩
      rw [z1, z2, z3, q10, q4]
      refine ⟨⟨⟨by omega, by omega⟩, hj⟩, ⟨t, q, (p9 _ (by omega)).trans ha.2.2.1, (hk.tb t tt).2.2.1.trans h4, s4.trans ?_⟩, ?_⟩
      · rw [(hk.li q tq (fun e => e)).2 j.toNat (by rw [hT.sz (i := i0.toNat) (by omega) ha.2.2.1 h4]; omega)]; exact hw.symm
      · rw [s5, hf, ow.2, ix]
theorem rp_ind {i0 j : Int} (h : RP2 o sk ln iv rv v a) (hT : TABR sk iv rv v a) (hW : WT g sk L cl ln iv rv) (hS : SKL sk L cl) (hX : XT L cl ln L2 cl2 ln2) (hs2 : iv (sk 2) 2 = v 3) (hct : CT iv rv (sk 2) (a 2)) (hacl : ∀ k : Nat, (k : Int) < v 3 → 1 ≤ a 2 k ∧ a 2 k ≤ 255) (h34 : 0 ≤ v 3 ∧ v 3 ≤ 4) (ha : ALV sk iv rv i0 t) (h6 : rv t 6 = some n) (hj : 0 ≤ j ∧ j ≤ 3) (hk : KP L cl (fun _ => False) (fun _ => False) (fun _ => False) (fun _ => False) (fun b k => b = n ∧ k = j.toNat) iv rv iv2 rv2) (hd : IDD sk L2 cl2 ln2 iv rv iv2 rv2 n j) (hp : PTAB (fun _ => True) (fun _ => True) sk iv rv iv2 rv2) (hps : CS0 (iv (sk 23) 2) sk iv rv iv2 rv2) (h2 : PPS2 sk (some t) (rv n j.toNat) j iv iv2 rv2) (hq : TIND i0 j v a v2 a2) : RP2 o sk ln2 iv2 rv2 v2 a2 := by
  obtain ⟨p9, p10, p11⟩ := hp
  obtain ⟨⟨q4, q5, q6, q7, q10, qs⟩, q11, q8, q9, q12, q13, q14, q15, q16, q17⟩ := hq
  refine hv6 ((hT.al ha).1) (hT.1) (hT.2.2.2.1) (hT.2.2.2.2.2.2) (ha.tt hW hS) (ha.t6 hW hS h6) (fun hi0 n22 n23 v19 tt tn => ?_)
  obtain ⟨t', e1', e2'⟩ := h.1 i0.toNat (by omega)
  rw [ha.2.2.1] at e1'; cases e1'
  have on : o n = i0.toNat ∧ INDR ln iv rv (rv n j.toNat) (j.toNat : Int) (a 16 (4 * i0.toNat + j.toNat)) (fun k => a 17 (4 * (4 * i0.toNat + j.toNat) + k)) := by
    obtain ⟨_, _, _, nn, ⟨_, _, _, f1⟩, ⟨_, _, _, _, g⟩, _, _, _, _, hi⟩ := e2'
    rw [h6] at f1; cases f1
    exact ⟨g, hi j.toNat (by omega)⟩
  have ix : (4 * i0 + j).toNat = 4 * i0.toNat + j.toNat := by omega
  have ix4 : (4 * (4 * i0 + j)).toNat = 4 * (4 * i0.toNat + j.toNat) := by omega
  rw [ix] at q16
  rw [ix4] at q17
  have ain : ∀ i w : Nat, w < 4 → (i ≠ i0.toNat ∨ w ≠ j.toNat) → AIN a a2 (4 * i + w) := fun i w hw he => ⟨by rw [q16, va_up_ne _ _ (by omega)], fun k hk4 => q17.2 _ (by omega)⟩
  refine ⟨fun i hi => ?_, fun k hk2 => ?_⟩
  · obtain ⟨u, e1, e2⟩ := h.1 i (by omega)
    have r2 := hT.r200 (i := i) (by omega)
    refine ⟨u, (p9 i (by omega)).trans e1, e2.keep (el22 hW hS (by omega) e1) hW hX hk (fun j hj => p9 j (by omega)) (fun _ _ => rfl) (fun _ e => e.elim) (fun _ e => e.elim) (fun _ e => e.elim) (by rw [q8]) (by rw [q9]) (by rw [q10]) r2.2 (fun qb r wb hqb hr hel tw o1 e3 => by rw [hk.rwc wb tw (fun e => e), q11]; exact e3) (fun r _ => ARW.of q12 q13 q14 q15) (fun nb w hnb tnb onb hw hi => ?_)⟩
    by_cases e : i = i0.toNat ∧ w = j.toNat
    · obtain ⟨ei, ew⟩ := e
      rw [ei, ha.2.2.1] at e1; cases e1
      rw [h6] at hnb; cases hnb
      rw [ei, ew, q16, va_up_self]
      rcases hd with ⟨d1, d2⟩ | ⟨w', c, d1, ⟨d2, d3, d4⟩, d5, d6, d7, d8⟩
      · exact Or.inl ⟨d2, by omega⟩
      · refine Or.inr ⟨w', c, d1, ⟨by rw [d3.1]; omega, d3.2⟩, d4, by rw [d6]; omega, by omega, fun k hk3 => ?_⟩
        have g := q17.1 k (by omega)
        show _ = a2 17 (4 * (4 * i0.toNat + j.toNat) + k) ∧ _ ∧ _
        rw [d8 _ hct k hk3, g]
        exact ⟨rfl, (hacl k (by omega)).1, (hacl k (by omega)).2⟩
    · exact inds_keep hi tnb hW hX hk (fun eN => e ⟨by rw [← onb, eN.1]; exact on.1, eN.2⟩) (ain i w hw (by omega))
  · obtain ⟨s1, ch', s2, s3, s4, s5⟩ := h2
    by_cases e : (k : Int) < iv (sk 23) 2
    · obtain ⟨ch, c1, c2⟩ := h.2 k e
      exact ⟨ch, (hps k e).1.trans c1, c2.keepU (el23 hW hS (by omega) c1) hW hX hk ((hps k e).2 ch c1).2 (fun j hj => stk_old qs n23 e j hj) (by omega) (fun j hj => by rw [q10]; exact Int.le_refl _) (fun j hj => p9 j (by omega)) (fun j t hj ht => (hk.tb t (el22 hW hS (by omega) ht)).2.2.1) (fun j t q hj ht hq y hy _ => (hk.li q (ty4 hW (el22 hW hS (by omega) ht) hq) (fun e => e)).2 y (by rw [hT.sz hj ht hq]; exact hy))⟩
    · obtain ⟨z0, z1, z2, z3⟩ := stk_new qs n23 v19 e (by omega)
      refine ⟨ch', by rw [show k = (iv (sk 23) 2).toNat by omega]; exact s2, fun e4 => absurd (z0.symm.trans e4) (by decide), fun _ => ?_⟩
      rw [z1, z2, z3, q4]
      have m4 : (4 * i0 + j) / 4 = i0 := by omega
      have m5 : (4 * i0 + j) % 4 = j := by omega
      rw [m4, m5, s4]
      refine ⟨⟨by omega, by omega⟩, s3.trans ((p9 _ (by omega)).trans ha.2.2.1).symm, s5, ?_⟩
      have old := on.2
      rw [Int.toNat_of_nonneg hj.1] at old
      rw [ix, ix4]
      refine old.keep (fun b hb => ?_) hW hX hk (fun k hk3 hk4 => ?_)
      · rcases hW.opt tn j.toNat rfl rfl with e3 | ⟨c, e3, e5⟩
        · rw [e3.1] at hb; cases hb
        · rw [e3] at hb; cases hb; exact e5
      · rcases old with ⟨_, o1⟩ | ⟨b, c, o1, o2, o3, o4, o5, o6⟩
        · omega
        · have tb : ty L cl b 20 := by
            rcases hW.opt tn j.toNat rfl rfl with e3 | ⟨c, e3, e5⟩
            · rw [e3.1] at o1; cases o1
            · rw [e3] at o1; cases o1; exact e5
          obtain ⟨c', w2, tc⟩ := hW.ref tb 2 rfl rfl rfl
          rw [o3] at w2; cases w2
          have b2 : ln c ≤ 4 := (hW.len tc rfl).2
          have g := upk_pkb (a 17) (4 * (4 * i0.toNat + j.toNat)) (a 16 (4 * i0.toNat + j.toNat)).toNat k (by omega) (fun y hy => by
            have g1 := o6 y (by omega)
            refine hv2 (show iv c y = a 17 (4 * (4 * i0.toNat + j.toNat) + y) from g1.1) (g1.2) (fun g2 g3 => ?_)
            rw [← g2]; omega) (by omega)
          rw [Int.toNat_of_nonneg (by omega)] at g
          exact g
theorem CT.cgs {ss ss2 : Nat → Int} (h : CT iv rv q ss) (hs : ∀ j : Nat, (j : Int) < iv q 2 → ss2 j = ss j) : CT iv rv q ss2 := fun b hb j hj => (h b hb j hj).trans (hs j hj).symm
theorem rp_rule {i0 cnd m : Int} {l c : Nat} (h : RP2 o sk ln iv rv v a) (hT : TABR sk iv rv v a) (hW : WT g sk L cl ln iv rv) (hS : SKL sk L cl) (hX : XT L cl ln L2 cl2 ln2) (hW2 : WT g sk L2 cl2 ln2 iv2 rv2) (hs2 : iv (sk 2) 2 = v 3) (hct : CT iv rv (sk 2) (a 2)) (hm : 1 ≤ m ∧ m ≤ 8) (h3m : 1 ≤ v 3 - m ∧ v 3 - m ≤ 4) (hlt : ∀ k : Nat, (k : Int) < m → 33 ≤ a 2 k ∧ a 2 k ≤ 125) (hce : ∀ k : Nat, m ≤ (k : Int) → (k : Int) < v 3 → 1 ≤ a 2 k ∧ a 2 k ≤ 255) (h200 : a 10 i0.toNat < 200) (ha : ALV sk iv rv i0 t) (h4 : rv t 4 = some q) (h5 : rv t 5 = some s) (hx : rv s 1 = some x) (hk : KP L cl (fun _ => False) (fun b => b = q) (fun b => b = s) (fun b => b = x) (fun _ _ => False) iv rv iv2 rv2) (d1 : el rv2 q (iv q 2).toNat = some w) (d2 : iv2 q 2 = iv q 2 + 1) (d3 : ∀ r : Nat, (r : Int) < iv q 2 → el rv2 q r = el rv q r) (e1 : w ∉ L) (e2 : ty L2 cl2 w 20) (e3 : iv2 w 0 = 4) (e4 : iv2 w 3 = cnd) (e5 : rv2 w 1 = some l) (e6 : rv2 w 2 = some c) (f2 : ln2 l = m.toNat) (f3 : ∀ ss, CT iv rv (sk 2) ss → ∀ k : Nat, k < ln2 l → iv2 l k = ss k) (g2 : ln2 c = (iv (sk 2) 2 - m).toNat) (g3 : ∀ ss, CT iv rv (sk 2) ss → ∀ k : Nat, k < ln2 c → iv2 c k = ss (m.toNat + k)) (i1 : iv s 2 < 200 → iv2 s 2 = iv s 2 + 1) (i2 : ∀ x2, rv2 s 1 = some x2 → x2 = x ∨ x2 ∉ L) (i3 : ∀ ss, CT iv rv s ss → iv s 2 < 200 → ∀ tt, CT iv rv (sk 2) tt → CT iv2 rv2 s (va_up ss (iv s 2).toNat (tt 0))) (hp : PTAB (fun _ => True) (fun b => b ≠ q) sk iv rv iv2 rv2) {y : Option Nat} (hps : PPSH 2 y sk iv rv iv2 rv2) (hq : TRUL i0 cnd m v a v2 a2) : ∃ o2, RP2 o2 sk ln2 iv2 rv2 v2 a2 := by
  obtain ⟨p9, p10, p11⟩ := hp
  obtain ⟨q4, q5, q6, q7, q10, qs, q11, q8, q9, q16, q17, q12, q13, q14, q15⟩ := hq
  refine hv7 ((hT.al ha).1) (hT.1) (hT.2.2.2.1) (hT.2.2.2.2.2.2) (ha.tt hW hS) ((ha.t4 hW hS h4).1) (ha.t5 hW hS h5) (fun hi0 n22 n23 v19 tt tq ts => ?_)
  have b0 := hT.r200 (i := i0.toNat) (by omega)
  have zq := hT.sz (i := i0.toNat) (by omega) ha.2.2.1 h4
  obtain ⟨t', w1', w2'⟩ := h.1 i0.toNat (by omega)
  rw [ha.2.2.1] at w1'; cases w1'
  obtain ⟨qq, s9, x9, n6, ⟨g4, g5, gx, g6⟩, ⟨o1, o2', o3, o4, o5⟩, ⟨bs1, bs2⟩, ⟨z1, z2⟩, rr, ctt, ii⟩ := w2'
  rw [h4] at g4; cases g4
  rw [h5] at g5; cases g5
  rw [hx] at gx; cases gx
  have tn := ha.t6 hW hS g6
  have ix : (200 * i0 + a 10 i0.toNat).toNat = 200 * i0.toNat + (a 10 i0.toNat).toNat := by omega
  have ix8 : (8 * (200 * i0 + a 10 i0.toNat)).toNat = 8 * (200 * i0.toNat + (a 10 i0.toNat).toNat) := by omega
  have ix4 : (4 * (200 * i0 + a 10 i0.toNat)).toNat = 4 * (200 * i0.toNat + (a 10 i0.toNat).toNat) := by omega
  rw [ix] at q11 q12 q13
  rw [ix8] at q14
  rw [ix4] at q15
  refine hv3 (show ∀ i r : Nat, r < 200 → (i ≠ i0.toNat ∨ r ≠ (a 10 i0.toNat).toNat) → a2 11 (200 * i + r) = a 11 (200 * i + r) ∧ ARW a a2 (200 * i + r) from fun i r hr he => ⟨by rw [q11, va_up_ne _ _ (by omega)], by rw [q12, va_up_ne _ _ (by omega)], by rw [q13, va_up_ne _ _ (by omega)], fun k hk4 => q14.2 _ (by omega), fun k hk4 => q15.2 _ (by omega)⟩) (show ∀ i : Nat, i ≠ i0.toNat → a2 10 i = a 10 i from fun i hi => by rw [q10, va_up_ne _ _ hi]) (show a2 10 i0.toNat = a 10 i0.toNat + 1 from by rw [q10, va_up_self]) (fun arw a10 a10s => ?_)
  refine ⟨fun z => if z ∈ L then o z else if z = w then 200 * i0.toNat + (a 10 i0.toNat).toNat else i0.toNat, fun i hi => ?_, fun k hk2 => ?_⟩
  · by_cases ei : i = i0.toNat
    · subst ei
      obtain ⟨x2, wx1, wx2⟩ := hW2.ref (hX.ty ts) 1 rfl rfl rfl
      have ks := hk.tb t tt
      refine ⟨t, (p9 _ (by omega)).trans ha.2.2.1, q, s, x2, n6, ⟨ks.2.2.1.trans h4, ks.2.2.2.1.trans h5, wx1, ks.2.2.2.2.trans g6⟩, ⟨(if_pos tt.1).trans o1, (if_pos tq.1).trans o2', (if_pos ts.1).trans o3, ?_, (if_pos tn.1).trans o5⟩, ⟨by rw [ks.1, q8]; exact bs1.keep (fun j hj => p9 j (by omega)), by rw [ks.2.1, q9]; exact bs2.keep (fun j hj => p9 j (by omega))⟩, ⟨by rw [a10s, i1 (by omega)]; omega, by rw [a10s, d2]; omega⟩, fun r hr => ?_, ?_, fun w' hw' => inds_keep (ii w' hw') tn hW hX hk (fun e => e) (AIN.of q16 q17)⟩
      · show (if x2 ∈ L then o x2 else if x2 = w then 200 * i0.toNat + (a 10 i0.toNat).toNat else i0.toNat) = i0.toNat
        rcases i2 x2 wx1 with e | e
        · subst e
          rw [if_pos ((WT.ref hW ts 1 rfl rfl rfl).elim (fun b hb => by have := hb.1; rw [hx] at this; cases this; exact hb.2.1))]
          exact o4
        · rw [if_neg e, if_neg (ne_ty wx2 e2 (by decide))]
      · rw [a10s] at hr
        by_cases er : (r : Int) < a 10 i0.toNat
        · obtain ⟨w', k1, k2, k3⟩ := rr r er
          have tw := el26 hW tq (by omega) k1
          have ar := arw i0.toNat r (by omega) (Or.inr (by omega))
          exact ⟨w', (d3 r (by omega)).trans k1, (if_pos tw.1).trans k2, k3.keep tw hW hX hk (by rw [hk.rwc w' tw (fun e => e), ar.1]; exact k3.1) ar.2⟩
        · have er2 : r = (a 10 i0.toNat).toNat := by omega
          subst er2
          refine ⟨w, by rw [show (a 10 i0.toNat).toNat = (iv q 2).toNat by omega]; exact d1, (by show (if w ∈ L then o w else if w = w then 200 * i0.toNat + (a 10 i0.toNat).toNat else i0.toNat) = _; rw [if_neg e1, if_pos rfl]), by rw [e4, q11, va_up_self], e3, l, c, e5, e6, by rw [f2, q12, va_up_self]; omega, by rw [g2, q13, va_up_self]; omega, fun k hk3 => ?_, fun k hk3 => ?_⟩
          · have y1 := f3 _ hct k hk3
            have y2 := q14.1 k (by omega)
            rw [y1, y2]
            exact ⟨rfl, (hlt k (by omega)).1, (hlt k (by omega)).2⟩
          · have y1 := g3 _ hct k hk3
            have y2 := q15.1 k (by omega)
            rw [y1, y2]
            exact ⟨rfl, (hce (m.toNat + k) (by omega) (by omega)).1, (hce (m.toNat + k) (by omega) (by omega)).2⟩
      · refine (i3 _ ctt (by omega) _ hct).cgs (fun j hj => ?_)
        rw [i1 (by omega)] at hj
        by_cases er : j = (iv s 2).toNat
        · rw [er, va_up_self]
          have y2 := q14.1 0 (by omega)
          rw [show 8 * (200 * i0.toNat + (iv s 2).toNat) = 8 * (200 * i0.toNat + (a 10 i0.toNat).toNat) + 0 by omega, y2]
        · rw [va_up_ne _ _ er]
          exact (arw i0.toNat j (by omega) (Or.inr (by omega))).2.2.2.1 0 (by omega)
    · obtain ⟨u, k1, k2⟩ := h.1 i (by omega)
      have r2 := hT.r200 (i := i) (by omega)
      exact ⟨u, (p9 i (by omega)).trans k1, k2.keep (el22 hW hS (by omega) k1) hW hX hk (fun j hj => p9 j (by omega)) (fun z hz => if_pos hz) (fun b e => by rw [e, o2']; exact Ne.symm ei) (fun b e => by rw [e, o3]; exact Ne.symm ei) (fun b e => by rw [e, o4]; exact Ne.symm ei) (by rw [q8]) (by rw [q9]) (a10 i ei) r2.2 (fun qb r wb hqb hr hel tw ow e => by rw [hk.rwc wb tw (fun e => e), (arw i r (by omega) (Or.inl ei)).1]; exact e) (fun r hr => (arw i r hr (Or.inl ei)).2) (fun n w _ tn _ hw hi => inds_keep hi tn hW hX hk (fun e => e) (AIN.of q16 q17))⟩
  · obtain ⟨r1, r2, ch', r3, r4, r5⟩ := hps
    by_cases e : (k : Int) < iv (sk 23) 2
    · obtain ⟨ch, c1, c2⟩ := h.2 k e
      exact ⟨ch, (r2 k e).1.trans c1, c2.keepU (el23 hW hS (by omega) c1) hW hX hk ((r2 k e).2 ch c1).2 (fun j hj => stk_old qs n23 e j hj) (by omega) (fun j hj => by
        by_cases ej : j = i0.toNat
        · rw [ej, a10s]; omega
        · rw [a10 j ej]; exact Int.le_refl _) (fun j hj => p9 j (by omega)) (fun j t hj ht => (hk.tb t (el22 hW hS (by omega) ht)).2.2.1) (fun j t9 q9 hj ht hq y hy _ => by
        by_cases eq : q9 = q
        · subst eq; exact d3 y (by rw [hT.sz hj ht hq]; exact hy)
        · exact (hk.li q9 (ty4 hW (el22 hW hS (by omega) ht) hq) eq).2 y (by rw [hT.sz hj ht hq]; exact hy))⟩
    · obtain ⟨z0, _, _, _⟩ := stk_new qs n23 v19 e (by omega)
      exact ⟨ch', by rw [show k = (iv (sk 23) 2).toNat by omega]; exact r3, fun e3 => absurd (z0.symm.trans e3) (by decide), fun e3 => absurd (z0.symm.trans e3) (by decide)⟩
theorem stk_lt2 {s : Nat → Int} : ∀ (n : Nat) (T : Int) (R : Nat → Int), stk s n T R → ∀ k : Nat, k < n → (s (4 * k) = 3 → (0 ≤ s (4 * k + 1) ∧ s (4 * k + 1) < T) ∧ (0 ≤ s (4 * k + 2) ∧ s (4 * k + 2) < R (s (4 * k + 1)).toNat)) ∧ (s (4 * k) = 4 → 0 ≤ s (4 * k + 1) ∧ s (4 * k + 1) < 4 * T) := by
  intro n
  induction n with
  | zero => intro T R _ k hk; exact absurd hk (by omega)
  | succ n ih =>
    intro T R h k hk
    obtain ⟨T0, R0, he, hs⟩ := h
    by_cases e : k = n
    · subst e
      exact ⟨fun e3 => ⟨(he.e3 e3).1, (he.e3 e3).2.1⟩, fun e4 => (he.e4 (by omega)).2.1⟩
    · have q := ih T0 R0 hs k (by omega)
      have lt : T0 ≤ T ∧ ∀ j, R0 j ≤ R j := by
        rcases he with ⟨_, _, q3, q4⟩ | ⟨_, _, q3, q4⟩ | ⟨_, _, _, q3, q4⟩ | ⟨_, _, _, q3, q4⟩ | ⟨_, _, _, q3, q4⟩
        · exact ⟨by omega, fun j => by rw [q4]; exact Int.le_refl _⟩
        · exact ⟨by omega, fun j => by rw [q4]; exact Int.le_refl _⟩
        · refine ⟨by omega, fun j => ?_⟩
          have e9 : R0 j = if j = (s (4 * n + 1)).toNat then R j - 1 else R j := by rw [q4]
          rw [e9]
          split <;> omega
        · exact ⟨by omega, fun j => by rw [q4]; exact Int.le_refl _⟩
        · exact ⟨by omega, fun j => by rw [q4]; exact Int.le_refl _⟩
      refine ⟨fun e3 => ?_, fun e4 => ?_⟩
      · have g := q.1 e3
        have g2 := lt.2 (s (4 * k + 1)).toNat
        exact ⟨⟨g.1.1, by omega⟩, ⟨g.2.1, by omega⟩⟩
      · have g := q.2 e4
        exact ⟨g.1, by omega⟩
theorem STK.lt2 {ln : Nat → Nat} {v : Nat → Int} {a : Nat → Nat → Int} (h : STK ln v a) (k : Nat) (hk : 4 * (k : Int) < v 19) : (a 18 (4 * k) = 3 → (0 ≤ a 18 (4 * k + 1) ∧ a 18 (4 * k + 1) < v 4) ∧ (0 ≤ a 18 (4 * k + 2) ∧ a 18 (4 * k + 2) < a 10 (a 18 (4 * k + 1)).toNat)) ∧ (a 18 (4 * k) = 4 → 0 ≤ a 18 (4 * k + 1) ∧ a 18 (4 * k + 1) < 4 * v 4) := by
  obtain ⟨_, _, n, hn, hs⟩ := h
  exact stk_lt2 n _ _ hs k (by omega)
theorem CH2.e3 {K KA KB KC : Nat} (h : CH2 sk ln iv rv v a k ch) (k0 : 4 * k = K) (k1 : K + 1 = KA) (k2 : K + 2 = KB) (k3 : K + 3 = KC) (e : a 18 K = 3) : ((0 ≤ a 18 KA ∧ a 18 KA < v 4) ∧ 0 ≤ a 18 KB ∧ a 18 KB < a 10 (a 18 KA).toNat) ∧ (∃ t q, el rv (sk 22) (a 18 KA).toNat = some t ∧ rv t 4 = some q ∧ rv ch 2 = el rv q (a 18 KB).toNat) ∧ iv ch 3 = a 18 KC := by
  subst k0
  subst k1
  subst k2
  subst k3
  exact h.1 e
theorem CH2.e4 {K KA KB KC : Nat} (h : CH2 sk ln iv rv v a k ch) (k0 : 4 * k = K) (k1 : K + 1 = KA) (k2 : K + 2 = KB) (k3 : K + 3 = KC) (e : a 18 K = 4) : (0 ≤ a 18 KA ∧ a 18 KA < 4 * v 4) ∧ rv ch 1 = el rv (sk 22) (a 18 KA / 4).toNat ∧ iv ch 3 = a 18 KA % 4 ∧ INDR ln iv rv (rv ch 2) (a 18 KA % 4) (a 18 KB) (fun j => UPK (a 18 KC) (a 18 KB) (j : Int)) := by
  subst k0
  subst k1
  subst k2
  subst k3
  exact h.2 e
theorem rp_undo {lm lm2 : Nat → Nat} (h : RP2 o sk ln iv rv v a) (hT : TABR sk iv rv v a) (hW : WT g sk L cl ln iv rv) (hS : SKL sk L cl) (hX : XT L cl ln L2 cl2 ln2) (hSt : STK lm v a) (hSt2 : STK lm2 v2 a2) (h0 : v 19 ≠ 0) (hc : el rv (sk 23) (iv (sk 23) 2 - 1).toNat = some ch) (hp : PUND ch sk iv rv iv2 rv2) (hu : UKP L cl ch iv rv iv2 rv2) (hq : TUND v a v2 a2) : RP2 o sk ln2 iv2 rv2 v2 a2 := by
  obtain ⟨h4s, T0, R0, hent, _⟩ := STK.pop hSt h0
  obtain ⟨p1, p2, p3⟩ := hp
  obtain ⟨q19, q18, q6, q7, ⟨q8, q9, q12, q13, q14, q15⟩, q5⟩ := hq
  refine hv2 (hT.1) (hT.2.2.2.1) (fun n22 n23 => ?_)
  have tch := el23 hW hS (by omega) hc
  have k0 : 4 * (iv (sk 23) 2 - 1).toNat = (v 19 - 4).toNat := by omega
  have k1 : (v 19 - 4).toNat + 1 = (v 19 - 4 + 1).toNat := by omega
  have k2 : (v 19 - 4).toNat + 2 = (v 19 - 4 + 2).toNat := by omega
  have k3 : (v 19 - 4).toNat + 3 = (v 19 - 4 + 3).toNat := by omega
  have t0 : (((v 19 - 4).toNat : Nat) : Int) = v 19 - 4 := Int.toNat_of_nonneg (by omega)
  have t1 : (((v 19 - 4 + 1).toNat : Nat) : Int) = v 19 - 4 + 1 := Int.toNat_of_nonneg (by omega)
  have t2 : (((v 19 - 4 + 2).toNat : Nat) : Int) = v 19 - 4 + 2 := Int.toNat_of_nonneg (by omega)
  have t3 : (((v 19 - 4 + 3).toNat : Nat) : Int) = v 19 - 4 + 3 := Int.toNat_of_nonneg (by omega)
  have t9 : (((iv (sk 23) 2 - 1).toNat : Nat) : Int) = iv (sk 23) 2 - 1 := Int.toNat_of_nonneg (by omega)
  obtain ⟨c', c1', c2', c3'⟩ := hT.2.2.2.2.1 (iv (sk 23) 2 - 1).toNat (by omega)
  rw [hc] at c1'; cases c1'
  rw [k0] at c2' c3'
  rw [k1] at c3'
  obtain ⟨c', d1', top⟩ := h.2 (iv (sk 23) 2 - 1).toNat (by omega)
  rw [hc] at d1'; cases d1'
  have hle : v2 4 ≤ v 4 := by rcases q5 with q | q | q | q | q <;> omega
  have stk2 : ∀ {C Q S X : Nat → Prop} {N : Nat → Nat → Prop}, KP L cl C Q S X N iv rv iv2 rv2 → (∀ j : Nat, (j : Int) < v2 4 → el rv2 (sk 22) j = el rv (sk 22) j) → (∀ j t q : Nat, (j : Int) < v2 4 → el rv (sk 22) j = some t → rv t 4 = some q → ∀ y : Nat, (y : Int) < a 10 j → (y : Int) < a2 10 j → el rv2 q y = el rv q y) → ∀ k : Nat, (k : Int) < iv2 (sk 23) 2 → ∃ ch, el rv2 (sk 23) k = some ch ∧ CH2 sk ln2 iv2 rv2 v2 a2 k ch := by
    intro C Q S X N hk he hel k hk2
    obtain ⟨c, c1, c2⟩ := h.2 k (by omega)
    have g := p2 k (by omega)
    have lt := hSt2.lt2 k (by omega)
    rw [q18] at lt
    exact ⟨c, g.1.trans c1, c2.keep (T := v2 4) (el23 hW hS (by omega) c1) hW hX hk (g.2 c c1).2 (fun j _ => by rw [q18]) (Int.le_refl _) hle (fun e => ⟨(lt.1 e).1.2, (lt.1 e).2.2⟩) (fun e => (lt.2 e).2) he (fun j t hj ht => (hk.tb t (el22 hW hS (by omega) ht)).2.2.1) hel⟩
  rcases q5 with ⟨w1, w2, w5, w10, w11, w16, w17⟩ | ⟨w1, w2, w5, w10, w11, w16, w17⟩ | ⟨w1, w2, w5, w10, w11, w16, w17⟩ | ⟨w1, w2, w5, w10, w11, w16, w17⟩ | ⟨w1, w2, w5, w10, w11, w16, w17⟩
  · have hk := hu.1 (by omega)
    obtain ⟨e1, _, _⟩ := hent.e0 w1
    have he : ∀ j : Nat, (j : Int) < v2 4 → el rv2 (sk 22) j = el rv (sk 22) j := by
      rcases p3 with ⟨d1, d2, d3, d4, d5⟩ | ⟨d1, _⟩ | ⟨d1, _⟩ | ⟨d1, _⟩
      · exact fun j hj => d3 j (by omega)
      · omega
      · omega
      · omega
    refine ⟨fun i hi => ?_, stk2 hk he (fun j t q hj ht hq y hy _ => (hk.li q (ty4 hW (el22 hW hS (by omega) ht) hq) (fun e => e)).2 y (by rw [hT.sz (by omega) ht hq]; exact hy))⟩
    obtain ⟨t, e1, e2⟩ := h.1 i (by omega)
    exact ⟨t, (he i hi).trans e1, e2.keep0 (el22 hW hS (by omega) e1) hW hX hk (fun j hj => he j (by omega)) (fun _ _ => rfl) (hT.r200 (by omega)).2 (by rw [q8]) (by rw [q9]) (by rw [w10]) (fun r _ => ⟨by rw [w11], ARW.of q12 q13 q14 q15⟩) (fun w _ => AIN.of w16 w17)⟩
  · have hk := hu.2.1 (by omega)
    have he : ∀ j : Nat, (j : Int) < v2 4 → el rv2 (sk 22) j = el rv (sk 22) j := by
      rcases p3 with ⟨d1, _⟩ | ⟨d1, t, d2, d3, ⟨d4, d5, d6⟩, d7⟩ | ⟨d1, _⟩ | ⟨d1, _⟩
      · omega
      · exact fun j hj => d4 j (by omega)
      · omega
      · omega
    refine ⟨fun i hi => ?_, stk2 hk he (fun j t q hj ht hq y hy _ => (hk.li q (ty4 hW (el22 hW hS (by omega) ht) hq) (fun e => e)).2 y (by rw [hT.sz (by omega) ht hq]; exact hy))⟩
    obtain ⟨t, e1, e2⟩ := h.1 i (by omega)
    exact ⟨t, (he i hi).trans e1, e2.keep0 (el22 hW hS (by omega) e1) hW hX hk (fun j hj => he j (by omega)) (fun _ _ => rfl) (hT.r200 (by omega)).2 (by rw [q8]) (by rw [q9]) (by rw [w10]) (fun r _ => ⟨by rw [w11], ARW.of q12 q13 q14 q15⟩) (fun w _ => AIN.of w16 w17)⟩
  · obtain ⟨x1, x2, _, _⟩ := hent.e2 w1
    have ta : (((a 18 (v 19 - 4 + 1).toNat).toNat : Nat) : Int) = a 18 (v 19 - 4 + 1).toNat := Int.toNat_of_nonneg x1.1
    rcases p3 with ⟨d1, _⟩ | ⟨d1, _⟩ | ⟨d1, t, q, d2, d8, d3, ⟨d4, d5, d6⟩, d7⟩ | ⟨d1, _⟩
    · omega
    · omega
    · have y3 : el rv (sk 22) (a 18 (v 19 - 4 + 1).toNat).toNat = some t := ((c3' (Or.inr w1)).2).symm.trans d2
      have tt := el22 hW hS (by omega) y3
      have tq := ty4 hW tt d8
      have zq := hT.sz (i := (a 18 (v 19 - 4 + 1).toNat).toNat) (by omega) y3 d8
      obtain ⟨t', e1', e2'⟩ := h.1 (a 18 (v 19 - 4 + 1).toNat).toNat (by omega)
      rw [y3] at e1'; cases e1'
      obtain ⟨qq, s, x, n6, ⟨g4, g5, gx, g6⟩, ⟨o1, o2', o3, o4, o5⟩, ⟨bs1, bs2⟩, ⟨z1, z2⟩, rr, ctt, ii⟩ := e2'
      rw [d8] at g4; cases g4
      obtain ⟨s', ws1, ts⟩ := hW.ref tt 5 rfl rfl rfl
      rw [g5] at ws1; cases ws1
      obtain ⟨n', wn1, tn⟩ := hW.ref tt 6 rfl rfl rfl
      rw [g6] at wn1; cases wn1
      obtain ⟨x', wx1, tx⟩ := hW.ref ts 1 rfl rfl rfl
      rw [gx] at wx1; cases wx1
      obtain ⟨hk, hel, hsz, hrv⟩ := hu.2.2.1 (by omega) t q s d2 d8 g5
      refine hv2 (show ∀ j : Nat, (j : Int) < v2 4 → el rv2 (sk 22) j = el rv (sk 22) j from fun j hj => d4 j (by omega)) (show a2 10 (a 18 (v 19 - 4 + 1).toNat).toNat = a 10 (a 18 (v 19 - 4 + 1).toNat).toNat - 1 from by rw [w10, va_up_self]) (fun he a10s => ?_)
      have b0 := hT.r200 (i := (a 18 (v 19 - 4 + 1).toNat).toNat) (by omega)
      have s2 := hsz (by omega)
      refine ⟨fun i hi => ?_, stk2 hk he (fun j t9 q9 hj ht hq y hy hy2 => ?_)⟩
      · by_cases ei : i = (a 18 (v 19 - 4 + 1).toNat).toNat
        · subst ei
          have ks := hk.tb t tt
          refine ⟨t, (he _ (by omega)).trans y3, q, s, x, n6, ⟨ks.2.2.1.trans d8, ks.2.2.2.1.trans g5, hrv.trans gx, ks.2.2.2.2.trans g6⟩, ⟨o1, o2', o3, o4, o5⟩, ⟨by rw [ks.1, q8]; exact bs1.keep (fun j hj => he j (by omega)), by rw [ks.2.1, q9]; exact bs2.keep (fun j hj => he j (by omega))⟩, ⟨by rw [a10s]; omega, by rw [a10s]; omega⟩, ?_, ?_, fun w' hw' => inds_keep (ii w' hw') tn hW hX hk (fun e => e) (AIN.of w16 w17)⟩
          · rw [a10s]
            exact rows_keep (z := a 10 (a 18 (v 19 - 4 + 1).toNat).toNat - 1) (fun r hr => rr r (by omega)) tq (by omega) (fun r hr => hel r (by omega)) hW hX hk (fun _ _ => rfl) (fun r w hz _ tw _ e => by rw [hk.rwc w tw (fun e => e), w11]; exact e) (fun r _ => ARW.of q12 q13 q14 q15)
          · exact ctt.kp ts hW hk hrv (by omega) (fun _ _ e => e) (fun j hj => by rw [q14])
        · obtain ⟨u, e1, e2⟩ := h.1 i (by omega)
          have r2 := hT.r200 (i := i) (by omega)
          exact ⟨u, (he i hi).trans e1, e2.keep (el22 hW hS (by omega) e1) hW hX hk (fun j hj => he j (by omega)) (fun _ _ => rfl) (fun b e => by rw [e, o2']; exact Ne.symm ei) (fun b e => by rw [e, o3]; exact Ne.symm ei) (fun _ e => e.elim) (by rw [q8]) (by rw [q9]) (by rw [w10, va_up_ne _ _ ei]) r2.2 (fun qb r wb _ _ _ tw _ e => by rw [hk.rwc wb tw (fun e => e), w11]; exact e) (fun r _ => ARW.of q12 q13 q14 q15) (fun n w _ tn _ hw hi => inds_keep hi tn hW hX hk (fun e => e) (AIN.of w16 w17))⟩
      · by_cases eq : q9 = q
        · subst eq
          have ej : j = (a 18 (v 19 - 4 + 1).toNat).toNat := hT.2.2.1 j (a 18 (v 19 - 4 + 1).toNat).toNat t9 t q9 (by omega) (by omega) ht y3 hq d8
          subst ej
          exact hel y (by omega)
        · exact (hk.li q9 (ty4 hW (el22 hW hS (by omega) ht) hq) eq).2 y (by rw [hT.sz (by omega) ht hq]; exact hy)
    · omega
  · obtain ⟨⟨y1, y2, y3⟩, ⟨t, q, e1t, e4q, e2w⟩, e3z⟩ := top.e3 k0 k1 k2 k3 w1
    have ta : (((a 18 (v 19 - 4 + 1).toNat).toNat : Nat) : Int) = a 18 (v 19 - 4 + 1).toNat := Int.toNat_of_nonneg (by omega)
    have tb : (((a 18 (v 19 - 4 + 2).toNat).toNat : Nat) : Int) = a 18 (v 19 - 4 + 2).toNat := Int.toNat_of_nonneg (by omega)
    have he : ∀ j : Nat, (j : Int) < v2 4 → el rv2 (sk 22) j = el rv (sk 22) j := by
      rcases p3 with ⟨d1, _⟩ | ⟨d1, _⟩ | ⟨d1, _⟩ | ⟨d1, d3, ⟨d4, d5, d6⟩⟩
      · omega
      · omega
      · omega
      · exact fun j hj => d4 j (by omega)
    obtain ⟨t', e1', e2'⟩ := h.1 (a 18 (v 19 - 4 + 1).toNat).toNat (by omega)
    rw [e1t] at e1'; cases e1'
    obtain ⟨qq, s, x, n6, ⟨g4, g5, gx, g6⟩, _, _, _, rr, _, _⟩ := e2'
    rw [e4q] at g4; cases g4
    obtain ⟨w, k1', k2', k3'⟩ := rr (a 18 (v 19 - 4 + 2).toNat).toNat (by omega)
    obtain ⟨hk, hx⟩ := hu.2.2.2.1 (by omega) w (e2w.trans k1')
    have b0 := hT.r200 (i := (a 18 (v 19 - 4 + 1).toNat).toNat) (by omega)
    have ix : (200 * a 18 (v 19 - 4 + 1).toNat + a 18 (v 19 - 4 + 2).toNat).toNat = 200 * (a 18 (v 19 - 4 + 1).toNat).toNat + (a 18 (v 19 - 4 + 2).toNat).toNat := by omega
    rw [ix] at w11
    refine ⟨fun i hi => ?_, stk2 hk he (fun j t q hj ht hq y hy _ => (hk.li q (ty4 hW (el22 hW hS (by omega) ht) hq) (fun e => e)).2 y (by rw [hT.sz (by omega) ht hq]; exact hy))⟩
    obtain ⟨u, e1, e2⟩ := h.1 i (by omega)
    have r2 := hT.r200 (i := i) (by omega)
    refine ⟨u, (he i hi).trans e1, e2.keep (el22 hW hS (by omega) e1) hW hX hk (fun j hj => he j (by omega)) (fun _ _ => rfl) (fun _ e => e.elim) (fun _ e => e.elim) (fun _ e => e.elim) (by rw [q8]) (by rw [q9]) (by rw [w10]) r2.2 (fun qb r wb hqb hr hel tw ow e3 => ?_) (fun r _ => ARW.of q12 q13 q14 q15) (fun n w _ tn _ hw hi => inds_keep hi tn hW hX hk (fun e => e) (AIN.of w16 w17))⟩
    rw [w11]
    by_cases e : 200 * i + r = 200 * (a 18 (v 19 - 4 + 1).toNat).toNat + (a 18 (v 19 - 4 + 2).toNat).toNat
    · have ei : i = (a 18 (v 19 - 4 + 1).toNat).toNat := by omega
      have er : r = (a 18 (v 19 - 4 + 2).toNat).toNat := by omega
      rw [ei, e1t] at e1; cases e1
      rw [e4q] at hqb; cases hqb
      rw [er, k1'] at hel; cases hel
      rw [e, va_up_self, hx]; exact e3z
    · rw [va_up_ne _ _ e, hk.rwc wb tw (fun ec => e (by rw [← ow, ec]; exact k2'))]
      exact e3
  · obtain ⟨y1, e1t, e3z, ind⟩ := top.e4 k0 k1 k2 k3 w1
    have ta : (((a 18 (v 19 - 4 + 1).toNat).toNat : Nat) : Int) = a 18 (v 19 - 4 + 1).toNat := Int.toNat_of_nonneg (by omega)
    have he : ∀ j : Nat, (j : Int) < v2 4 → el rv2 (sk 22) j = el rv (sk 22) j := by
      rcases p3 with ⟨d1, _⟩ | ⟨d1, _⟩ | ⟨d1, _⟩ | ⟨d1, d3, ⟨d4, d5, d6⟩⟩
      · omega
      · omega
      · omega
      · exact fun j hj => d4 j (by omega)
    obtain ⟨t, e1', e2'⟩ := h.1 (a 18 (v 19 - 4 + 1).toNat / 4).toNat (by omega)
    have tt := el22 hW hS (by omega) e1'
    obtain ⟨qq, s, x, n6, ⟨g4, g5, gx, g6⟩, ⟨o1, o2', o3, o4, o5⟩, _, _, _, _, _⟩ := e2'
    obtain ⟨n', wn1, tn⟩ := hW.ref tt 6 rfl rfl rfl
    rw [g6] at wn1; cases wn1
    obtain ⟨hk, hx⟩ := hu.2.2.2.2 (by omega) (by omega) t n6 (e1t.trans e1') g6
    have m5 : (iv ch 3).toNat = (a 18 (v 19 - 4 + 1).toNat).toNat % 4 := by omega
    rw [m5] at hk hx
    have ix : (a 18 (v 19 - 4 + 1).toNat).toNat = 4 * (a 18 (v 19 - 4 + 1).toNat / 4).toNat + (a 18 (v 19 - 4 + 1).toNat).toNat % 4 := by omega
    have ix4 : (4 * a 18 (v 19 - 4 + 1).toNat).toNat = 4 * (a 18 (v 19 - 4 + 1).toNat).toNat := by omega
    rw [ix4] at w17
    have ain : ∀ i w : Nat, w < 4 → 4 * i + w ≠ (a 18 (v 19 - 4 + 1).toNat).toNat → AIN a a2 (4 * i + w) := fun i w hw hne => ⟨by rw [w16, va_up_ne _ _ hne], fun k hk4 => w17.2 _ (by omega)⟩
    refine ⟨fun i hi => ?_, stk2 hk he (fun j t q hj ht hq y hy _ => (hk.li q (ty4 hW (el22 hW hS (by omega) ht) hq) (fun e => e)).2 y (by rw [hT.sz (by omega) ht hq]; exact hy))⟩
    obtain ⟨u, e1, e2⟩ := h.1 i (by omega)
    have r2 := hT.r200 (i := i) (by omega)
    refine ⟨u, (he i hi).trans e1, e2.keep (el22 hW hS (by omega) e1) hW hX hk (fun j hj => he j (by omega)) (fun _ _ => rfl) (fun _ e => e.elim) (fun _ e => e.elim) (fun _ e => e.elim) (by rw [q8]) (by rw [q9]) (by rw [w10]) r2.2 (fun qb r wb _ _ _ tw _ e => by rw [hk.rwc wb tw (fun e => e), w11]; exact e) (fun r _ => ARW.of q12 q13 q14 q15) (fun nb w hnb tnb onb hw hi => ?_)⟩
    by_cases e : 4 * i + w = (a 18 (v 19 - 4 + 1).toNat).toNat
    · have ei : i = (a 18 (v 19 - 4 + 1).toNat / 4).toNat := by omega
      have ew : w = (a 18 (v 19 - 4 + 1).toNat).toNat % 4 := by omega
      rw [ei, e1'] at e1; cases e1
      rw [g6] at hnb; cases hnb
      rw [e, w16, va_up_self, ew, hx]
      have ind2 := ind
      rw [show a 18 (v 19 - 4 + 1).toNat % 4 = (((a 18 (v 19 - 4 + 1).toNat).toNat % 4 : Nat) : Int) by omega] at ind2
      refine ind2.keep (fun b hb => ?_) hW hX hk (fun k hk3 hk4 => w17.1 k (by omega))
      rcases hW.opt tch 2 rfl rfl with f1 | ⟨c, f1, f2⟩
      · rw [f1.1] at hb; cases hb
      · rw [f1] at hb; cases hb; exact f2
    · exact inds_keep hi tnb hW hX hk (fun eN => e (by have f1 : i = (a 18 (v 19 - 4 + 1).toNat / 4).toNat := by rw [← onb, eN.1]; exact o5
                                                       have f2 := eN.2
                                                       omega)) (ain i w hw e)
end REPS
section RPB
variable {sk : Nat → Nat} {L L2 : List Nat} {cl ln cl2 ln2 : Nat → Nat} {iv iv2 : Nat → Nat → Int} {rv rv2 : Nat → Nat → Option Nat} {v v2 : Nat → Int} {a a2 : Nat → Nat → Int} {i j x y n r f1 f2 : Int}
theorem rps_same (hr : TABR sk iv rv v a ∧ ∃ o, RP2 o sk ln iv rv v a) (hp : PSAME sk iv rv iv2 rv2 ∧ (∃ g, WT g sk L cl ln iv rv ∧ WT g sk L2 cl2 ln2 iv2 rv2) ∧ SKL sk L cl ∧ XT L cl ln L2 cl2 ln2 ∧ (KP L cl (fun _ => False) (fun _ => False) (fun _ => False) (fun _ => False) (fun _ _ => False) iv rv iv2 rv2)) (hq : TSAME v a v2 a2) : ∃ o, RP2 o sk ln2 iv2 rv2 v2 a2 := by
  obtain ⟨hT, o, h⟩ := hr
  obtain ⟨p, ⟨g, hW, _⟩, hS, hX, hk⟩ := hp
  exact ⟨o, rp_same h hT hW hS hX hk p hq⟩
theorem tbl_rp (hT : TABR sk iv rv v a) (hr : ∃ o, RP2 o sk ln iv rv v a) (hp : PTBL x y i f1 sk iv rv iv2 rv2) (hk : (∃ g, WT g sk L cl ln iv rv ∧ WT g sk L2 cl2 ln2 iv2 rv2) ∧ SKL sk L cl ∧ XT L cl ln L2 cl2 ln2 ∧ ((f1 = -1 ∧ KP L cl (fun _ => False) (fun _ => False) (fun _ => False) (fun _ => False) (fun _ _ => False) iv rv iv2 rv2) ∨ (f1 ≠ -1 ∧ KP L cl (fun _ => False) (fun _ => False) (fun _ => False) (fun _ => False) (fun _ _ => False) iv rv iv2 rv2 ∧ ∃ b, (((x < 1 ∨ 3 < x) ∧ b = none) ∨ ((1 ≤ x ∧ x ≤ 3) ∧ ∃ t, ALV sk iv rv i t ∧ b = some t)) ∧ KNW L sk b none iv iv2 rv2))) (hq : ((f2 = -1 ∧ TSAME v a v2 a2 ∧ ¬ (0 ≤ x ∧ x ≤ 4 ∧ (y = 6 ∨ y = 8) ∧ v 4 ≠ 30 ∧ (x < 1 ∨ 3 < x ∨ (0 ≤ i ∧ i < v 4 ∧ a 5 i.toNat = 1 ∧ a 6 i.toNat ≤ 3)))) ∨ (f2 = v 4 ∧ (0 ≤ x ∧ x ≤ 4 ∧ (y = 6 ∨ y = 8) ∧ v 4 ≠ 30 ∧ (x < 1 ∨ 3 < x ∨ (0 ≤ i ∧ i < v 4 ∧ a 5 i.toNat = 1 ∧ a 6 i.toNat ≤ 3))) ∧ TNEW x y (if x < 1 ∨ 3 < x then -1 else i) (-1) v a v2 a2))) : ∃ o, RP2 o sk ln2 iv2 rv2 v2 a2 := by
  have fe := (tbl_both hT hp hq).1
  obtain ⟨o, h⟩ := hr
  obtain ⟨⟨g, hW, hW2⟩, hS, hX, kb⟩ := hk
  refine hv2 (hT.2.2.2.2.2.1) (hT.1) (fun v0 n22 => ?_)
  rcases hp with ⟨p1, p2, -⟩ | ⟨p1, -, p3⟩
  · rcases kb with ⟨_, k2⟩ | ⟨k1, -⟩
    · rcases hq with ⟨q1, q2, -⟩ | ⟨q1, -⟩
      · exact ⟨o, rp_same h hT hW hS hX k2 p2 q2⟩
      · omega
    · clear hq; omega
  · rcases kb with ⟨k1, -⟩ | ⟨_, k2, b, k3, k4⟩
    · clear hq; omega
    · rcases hq with ⟨q1, -⟩ | ⟨q1, -, q3⟩
      · omega
      · refine rp_new h hT hW hS hX k2 p3 k4 q3 ?_ (Or.inl ⟨rfl, rfl⟩)
        rcases k3 with ⟨k5, k6⟩ | ⟨k5, t, k6, k7⟩
        · rw [k6, if_pos k5]; exact Or.inl ⟨rfl, rfl⟩
        · have w := (hT.al k6).1
          rw [k7, if_neg (by omega)]; exact Or.inr ⟨w.1, by omega, k6.2.2.1.symm⟩
theorem joi_rp (hT : TABR sk iv rv v a) (hr : ∃ o, RP2 o sk ln iv rv v a) (hp : PJOI i j f1 sk iv rv iv2 rv2) (hk : (∃ g, WT g sk L cl ln iv rv ∧ WT g sk L2 cl2 ln2 iv2 rv2) ∧ SKL sk L cl ∧ XT L cl ln L2 cl2 ln2 ∧ ((f1 = -1 ∧ KP L cl (fun _ => False) (fun _ => False) (fun _ => False) (fun _ => False) (fun _ _ => False) iv rv iv2 rv2) ∨ (f1 ≠ -1 ∧ KP L cl (fun _ => False) (fun _ => False) (fun _ => False) (fun _ => False) (fun _ _ => False) iv rv iv2 rv2 ∧ ∃ t u, ALV sk iv rv i t ∧ ALV sk iv rv j u ∧ KNW L sk (some t) (some u) iv iv2 rv2))) (hq : ((f2 = -1 ∧ TSAME v a v2 a2 ∧ ¬ (0 ≤ i ∧ i < v 4 ∧ a 5 i.toNat = 1 ∧ a 6 i.toNat ≤ 3 ∧ 0 ≤ j ∧ j < v 4 ∧ a 5 j.toNat = 1 ∧ a 6 j.toNat ≤ 3 ∧ v 4 ≠ 30)) ∨ (f2 = v 4 ∧ (0 ≤ i ∧ i < v 4 ∧ a 5 i.toNat = 1 ∧ a 6 i.toNat ≤ 3 ∧ 0 ≤ j ∧ j < v 4 ∧ a 5 j.toNat = 1 ∧ a 6 j.toNat ≤ 3 ∧ v 4 ≠ 30) ∧ TNEW 5 (max (a 7 i.toNat) (a 7 j.toNat)) i j v a v2 a2))) : ∃ o, RP2 o sk ln2 iv2 rv2 v2 a2 := by
  have fe := (joi_both hT hp hq).1
  obtain ⟨o, h⟩ := hr
  obtain ⟨⟨g, hW, hW2⟩, hS, hX, kb⟩ := hk
  refine hv2 (hT.2.2.2.2.2.1) (hT.1) (fun v0 n22 => ?_)
  rcases hp with ⟨p1, p2, -⟩ | ⟨p1, p2, t, u, ⟨ht, -⟩, ⟨hu, -⟩, p3⟩
  · rcases kb with ⟨_, k2⟩ | ⟨k1, -⟩
    · rcases hq with ⟨q1, q2, -⟩ | ⟨q1, -⟩
      · exact ⟨o, rp_same h hT hW hS hX k2 p2 q2⟩
      · omega
    · clear hq; omega
  · rcases kb with ⟨k1, -⟩ | ⟨_, k2, t', u', k3, k4, k5⟩
    · clear hq; omega
    · rcases hq with ⟨q1, -⟩ | ⟨q1, -, q3⟩
      · omega
      · have e1 := k3.uni ht
        have e2 := k4.uni hu
        subst e1
        subst e2
        refine hv2 ((hT.al ht).1) ((hT.al hu).1) (fun w w2 => ?_)
        rw [(hT.al ht).2.2.1, (hT.al hu).2.2.1] at p3
        exact rp_new h hT hW hS hX k2 p3 k5 q3 (Or.inr ⟨w.1, by omega, ht.2.2.1.symm⟩) (Or.inr ⟨w2.1, by omega, hu.2.2.1.symm⟩)
theorem drp_rp (hT : TABR sk iv rv v a) (hr : ∃ o, RP2 o sk ln iv rv v a) (hp : PDRP i f1 sk iv rv iv2 rv2) (hk : (∃ g, WT g sk L cl ln iv rv ∧ WT g sk L2 cl2 ln2 iv2 rv2) ∧ SKL sk L cl ∧ XT L cl ln L2 cl2 ln2 ∧ (KP L cl (fun _ => False) (fun _ => False) (fun _ => False) (fun _ => False) (fun _ _ => False) iv rv iv2 rv2)) (hq : ((f2 = -1 ∧ TSAME v a v2 a2 ∧ ¬ (0 ≤ i ∧ i < v 4 ∧ a 5 i.toNat = 1)) ∨ (f2 = 1 ∧ (0 ≤ i ∧ i < v 4 ∧ a 5 i.toNat = 1) ∧ TDRP i v a v2 a2))) : ∃ o, RP2 o sk ln2 iv2 rv2 v2 a2 := by
  have fe := (drp_both hT hp hq).1
  obtain ⟨o, h⟩ := hr
  obtain ⟨⟨g, hW, hW2⟩, hS, hX, kb⟩ := hk
  rcases hp with ⟨p1, p2, -⟩ | ⟨p1, t, -, -, p3, -, p5⟩
  · rcases hq with ⟨q1, q2, -⟩ | ⟨q1, -⟩
    · exact ⟨o, rp_same h hT hW hS hX kb p2 q2⟩
    · omega
  · rcases hq with ⟨q1, -⟩ | ⟨q1, -, q3⟩
    · omega
    · exact ⟨o, rp_drop h hT hW hS hX kb p3 p5 q3⟩
theorem rul_rp (hT : TABR sk iv rv v a) (hr : ∃ o, RP2 o sk ln iv rv v a) (hs : iv (sk 2) 2 = v 3) (hc : CT iv rv (sk 2) (a 2)) (hp : PRUL i x n f1 sk iv rv iv2 rv2) (hk : (∃ g, WT g sk L cl ln iv rv ∧ WT g sk L2 cl2 ln2 iv2 rv2) ∧ SKL sk L cl ∧ XT L cl ln L2 cl2 ln2 ∧ (KRU L cl sk iv rv L2 cl2 ln2 iv2 rv2 i x n f1)) (hq : ((f2 = -1 ∧ TSAME v a v2 a2 ∧ ¬ ((0 ≤ i ∧ i < v 4 ∧ a 5 i.toNat = 1 ∧ a 6 i.toNat ≠ 5 ∧ 0 ≤ x ∧ x ≤ 5 ∧ 1 ≤ n ∧ n ≤ 8 ∧ 1 ≤ v 3 - n ∧ v 3 - n ≤ 4 ∧ a 10 i.toNat ≠ 200) ∧ ACL (a 2) n (v 3 - n) (DC (a 7 i.toNat)) ∧ LTK (a 2) n)) ∨ (f2 = a 10 i.toNat ∧ ((0 ≤ i ∧ i < v 4 ∧ a 5 i.toNat = 1 ∧ a 6 i.toNat ≠ 5 ∧ 0 ≤ x ∧ x ≤ 5 ∧ 1 ≤ n ∧ n ≤ 8 ∧ 1 ≤ v 3 - n ∧ v 3 - n ≤ 4 ∧ a 10 i.toNat ≠ 200) ∧ ACL (a 2) n (v 3 - n) (DC (a 7 i.toNat)) ∧ LTK (a 2) n) ∧ TRUL i x n v a v2 a2))) : ∃ o, RP2 o sk ln2 iv2 rv2 v2 a2 := by
  have fe := (rul_both hT hs hc hp hq).1
  obtain ⟨o, h⟩ := hr
  obtain ⟨⟨g, hW, hW2⟩, hS, hX, kb⟩ := hk
  rcases hp with ⟨p1, p2, -⟩ | ⟨t, q, ht, h4, p1, p2, p3, p4, p5, p6⟩
  · rcases kb with ⟨_, k2⟩ | ⟨t, q, s, x5, w, l, c, ⟨c1, c2, c3, c4, c5⟩, -⟩
    · rcases hq with ⟨q1, q2, -⟩ | ⟨q1, ⟨q2, -⟩, -⟩
      · exact ⟨o, rp_same h hT hW hS hX k2 p2 q2⟩
      · have b := hT.r200 (i := i.toNat) (by omega)
        omega
    · have b := (c1.t4 hW hS c2).2
      clear hq; omega
  · have b := (ht.t4 hW hS h4).2
    obtain ⟨w1, w2, w3, w4, q', w5, w6⟩ := hT.al ht
    rw [h4] at w5; cases w5
    obtain ⟨⟨r1, r2, r3, r4, r5, r6, r7, r8⟩, r9, r10⟩ := p2 (a 2) hc w4
    rcases kb with ⟨k1, -⟩ | ⟨t', q', s, x5, w, l, c, ⟨c1, c2, c3, c4, c5⟩, k, ⟨d1, d2, d3⟩, ⟨e1, e2, e3, e4, e5, e6⟩, ⟨f1', f2', f3'⟩, ⟨g1, g2, g3⟩, ⟨i1, i2, i3⟩⟩
    · clear hq; omega
    · have e := c1.uni ht
      subst e
      rw [h4] at c2; cases c2
      rcases hq with ⟨q1, -⟩ | ⟨q1, -, q3⟩
      · omega
      · exact rp_rule h hT hW hS hX hW2 hs hc ⟨r4, r5⟩ (by omega) (fun k hk => r10 k hk) (fun k h1 h2 => by
          refine hv2 (r9 k h1 (by omega)) (dcf (iv t' 1)) (fun b1 b2 => ?_)
          exact ⟨b1.1, by omega⟩) (by omega) ht h4 c3 c4 k d1 d2 d3 e1 e2 e3 e4 e5 e6 f2' f3' g2 g3 i1 i2 i3 p4 p6 q3
theorem cnd_rp (hT : TABR sk iv rv v a) (hr : ∃ o, RP2 o sk ln iv rv v a) (hp : PCND i r x f1 sk iv rv iv2 rv2) (hk : (∃ g, WT g sk L cl ln iv rv ∧ WT g sk L2 cl2 ln2 iv2 rv2) ∧ SKL sk L cl ∧ XT L cl ln L2 cl2 ln2 ∧ (KCN L cl sk iv rv iv2 rv2 i r x f1)) (hq : ((f2 = -1 ∧ TSAME v a v2 a2 ∧ ¬ (0 ≤ i ∧ i < v 4 ∧ a 5 i.toNat = 1 ∧ a 6 i.toNat ≠ 5 ∧ 0 ≤ r ∧ r < a 10 i.toNat ∧ 0 ≤ x ∧ x ≤ 5)) ∨ (f2 = a 11 (200 * i + r).toNat ∧ (0 ≤ i ∧ i < v 4 ∧ a 5 i.toNat = 1 ∧ a 6 i.toNat ≠ 5 ∧ 0 ≤ r ∧ r < a 10 i.toNat ∧ 0 ≤ x ∧ x ≤ 5) ∧ TCND i r x v a v2 a2))) : f1 = f2 ∧ ∃ o, RP2 o sk ln2 iv2 rv2 v2 a2 := by
  obtain ⟨o, h⟩ := hr
  obtain ⟨⟨g, hW, hW2⟩, hS, hX, kb⟩ := hk
  rcases hp with ⟨p1, p2, p3⟩ | ⟨t, q, ht, h4, p1, p3, p4, p6⟩
  · rcases hq with ⟨q1, q2, -⟩ | ⟨q1, q2, -⟩
    · rcases kb with ⟨_, k2, _⟩ | ⟨t, q, w, ⟨c1, c2, c3, c4⟩, k, k2, k3⟩
      · exact ⟨by omega, o, rp_same h hT hW hS hX k2 p2 q2⟩
      · exfalso
        obtain ⟨s1, -⟩ := k3
        have e1 := p2.2.1
        omega
    · exfalso
      obtain ⟨t, ht⟩ := hT.la (i := i) (by omega) (by omega) (by omega)
      obtain ⟨w1, w2, w3, w4, q, w5, w6⟩ := hT.al ht
      exact p3 t q ht w5 ⟨by omega, by omega, by omega, by omega, by omega⟩
  · obtain ⟨w1, w2, w3, w4, q', w5, w6⟩ := hT.al ht
    rw [h4] at w5; cases w5
    rcases hq with ⟨q1, q2, q3⟩ | ⟨q1, q2, q3⟩
    · exact absurd ⟨w1.1, w1.2.1, w1.2.2, by omega, by omega, by omega, by omega, by omega⟩ q3
    · rcases kb with ⟨k1, k2, k4⟩ | ⟨t', q', w, ⟨c1, c2, c3, c4⟩, k, k2, k3⟩
      · exfalso
        have e1 := p6.1
        omega
      · have e := c1.uni ht
        subst e
        rw [h4] at c2; cases c2
        refine ⟨?_, o, rp_cond h hT hW hS hX ht h4 c3 ⟨by omega, by omega⟩ c4 k k2 p4 p6.2.1 k3 q3⟩
        obtain ⟨t2, e1', e2'⟩ := h.1 i.toNat (by omega)
        rw [ht.2.2.1] at e1'; cases e1'
        obtain ⟨qq, _, _, _, ⟨g1, _⟩, _, _, _, rr, _⟩ := e2'
        rw [h4] at g1; cases g1
        obtain ⟨w', k1', k2', k3'⟩ := rr r.toNat (by omega)
        rw [c3] at k1'; cases k1'
        rw [c4, q1, k3'.1]
        exact congrArg (a 11) (by omega)
theorem ind_rp (hT : TABR sk iv rv v a) (hr : ∃ o, RP2 o sk ln iv rv v a) (hs : iv (sk 2) 2 = v 3) (hc : CT iv rv (sk 2) (a 2)) (hp : PIND i x f1 sk iv rv iv2 rv2) (hk : (∃ g, WT g sk L cl ln iv rv ∧ WT g sk L2 cl2 ln2 iv2 rv2) ∧ SKL sk L cl ∧ XT L cl ln L2 cl2 ln2 ∧ (KIN L cl sk iv rv L2 cl2 ln2 iv2 rv2 i x f1)) (hq : ((f2 = -1 ∧ TSAME v a v2 a2 ∧ ¬ ((0 ≤ x ∧ x ≤ 3 ∧ 0 ≤ i ∧ i < v 4 ∧ a 5 i.toNat = 1 ∧ ((x = 0 ∧ a 6 i.toNat ≤ 2) ∨ (x = 1 ∧ a 6 i.toNat = 2) ∨ (x ≠ 0 ∧ x ≠ 1 ∧ a 6 i.toNat = 5)) ∧ v 3 ≤ 4) ∧ ACL (a 2) 0 (v 3) (DC (a 7 i.toNat)) ∧ True)) ∨ (f2 = v 3 ∧ ((0 ≤ x ∧ x ≤ 3 ∧ 0 ≤ i ∧ i < v 4 ∧ a 5 i.toNat = 1 ∧ ((x = 0 ∧ a 6 i.toNat ≤ 2) ∨ (x = 1 ∧ a 6 i.toNat = 2) ∨ (x ≠ 0 ∧ x ≠ 1 ∧ a 6 i.toNat = 5)) ∧ v 3 ≤ 4) ∧ ACL (a 2) 0 (v 3) (DC (a 7 i.toNat)) ∧ True) ∧ TIND i x v a v2 a2))) : ∃ o, RP2 o sk ln2 iv2 rv2 v2 a2 := by
  have fe := (ind_both hT hs hc hp hq).1
  obtain ⟨o, h⟩ := hr
  obtain ⟨⟨g, hW, hW2⟩, hS, hX, kb⟩ := hk
  have z2 : 0 ≤ iv (sk 2) 2 := (hW.int (show ty L cl (sk 2) 2 from ⟨(hS 2 rfl).1, by rw [(hS 2 rfl).2]; rfl⟩) 2).1
  rcases hp with ⟨p1, p2, -⟩ | ⟨p1, t, ht, p2, p3, p4, p6⟩
  · rcases kb with ⟨_, k2⟩ | ⟨t, n6, ⟨c1, c2, c3⟩, -⟩
    · rcases hq with ⟨q1, q2, -⟩ | ⟨q1, -⟩
      · exact ⟨o, rp_same h hT hW hS hX k2 p2 q2⟩
      · omega
    · clear hq; omega
  · obtain ⟨w1, w2, w3, w4, q', w5, w6⟩ := hT.al ht
    obtain ⟨⟨r1, r2, r3, r4⟩, r9⟩ := p2 (a 2) hc w4
    rcases kb with ⟨k1, -⟩ | ⟨t', n6, ⟨c1, c2, c3⟩, k, k2, k3⟩
    · clear hq; omega
    · have e := c1.uni ht
      subst e
      have k2i : IDD sk L2 cl2 ln2 iv rv iv2 rv2 n6 x := k2
      clear k2
      rcases hq with ⟨q1, -⟩ | ⟨q1, -, q3⟩
      · omega
      · exact ⟨o, rp_ind h hT hW hS hX hs hc (fun k hk => by
          refine hv2 (r9 k (by omega) (by omega)) (dcf (iv t' 1)) (fun b1 b2 => ?_)
          exact ⟨b1.1, by omega⟩) (by omega) ht c2 ⟨r1, r2⟩ k k2i p4 p6.2.1 k3 q3⟩
theorem und_rp (hT : TABR sk iv rv v a) (hr : ∃ o, RP2 o sk ln iv rv v a) (hp : PUNX f1 sk iv rv iv2 rv2) (hk : (∃ g, WT g sk L cl ln iv rv ∧ WT g sk L2 cl2 ln2 iv2 rv2) ∧ SKL sk L cl ∧ XT L cl ln L2 cl2 ln2 ∧ ((f1 = 0 ∧ KP L cl (fun _ => False) (fun _ => False) (fun _ => False) (fun _ => False) (fun _ _ => False) iv rv iv2 rv2) ∨ (f1 = 1 ∧ ∃ ch, el rv (sk 23) (iv (sk 23) 2 - 1).toNat = some ch ∧ UKP L cl ch iv rv iv2 rv2))) (hq : (∃ ln, STK ln v a) ∧ (∃ ln, STK ln v2 a2) ∧ ((v 19 = 0 ∧ f2 = 0 ∧ TSAME v a v2 a2) ∨ (v 19 ≠ 0 ∧ f2 = 1 ∧ TUND v a v2 a2))) : ∃ o, RP2 o sk ln2 iv2 rv2 v2 a2 := by
  obtain ⟨o, h⟩ := hr
  obtain ⟨⟨g, hW, hW2⟩, hS, hX, kb⟩ := hk
  obtain ⟨⟨lm, s1⟩, ⟨lm2, s2⟩, hq⟩ := hq
  have n23 := hT.2.2.2.1
  rcases hp with ⟨p1, p2, p3⟩ | ⟨p1, p2, ch, p3, p4⟩
  · rcases kb with ⟨_, k2⟩ | ⟨k1, -⟩
    · rcases hq with ⟨q1, q2, q3⟩ | ⟨q1, -⟩
      · exact ⟨o, rp_same h hT hW hS hX k2 p3 q3⟩
      · omega
    · clear hq; omega
  · rcases kb with ⟨k1, -⟩ | ⟨_, ch', k2, k3⟩
    · clear hq; omega
    · rw [p3] at k2; cases k2
      rcases hq with ⟨q1, -⟩ | ⟨q1, -, q3⟩
      · omega
      · exact ⟨o, rp_undo h hT hW hS hX s1 s2 q1 p3 p4 k3 q3⟩
theorem rp_zero (h2 : iv (sk 23) 2 = 0) (h3 : v 4 = 0) : ∃ o, RP2 o sk ln iv rv v a := ⟨fun _ => 0, fun i hi => absurd hi (by omega), fun k hk => absurd hk (by omega)⟩
end RPB
end
section
def SEC (v : Nat → Int) (a : Nat → Nat → Int) : Prop := ∀ i : Nat, (i : Int) < v 4 → a 6 i ≠ 5 → a 9 i = -1
def TRL (sk ln : Nat → Nat) (iv : Nat → Nat → Int) (rv : Nat → Nat → Option Nat) (v : Nat → Int) (a : Nat → Nat → Int) : Prop := TABR sk iv rv v a ∧ (∃ o, RP2 o sk ln iv rv v a) ∧ TBL v a ∧ SEC v a
def RWD (ln : Nat → Nat) (iv : Nat → Nat → Int) (rv : Nat → Nat → Option Nat) (a : Nat → Nat → Int) (w : Nat) (d : Int) : Prop := (0 ≤ d → ROWR ln iv rv a w d.toNat) ∧ (d < 0 → (iv w 0 = (-1 - d) % 4 ∧ ∃ lb, rv w 1 = some lb ∧ ln lb = 0) ∧ ∃ c, rv w 2 = some c ∧ ((ln c : Nat) : Int) = a 16 (-1 - d).toNat ∧ ∀ k : Nat, k < ln c → iv c k = a 17 (4 * (-1 - d).toNat + k))
def HL (L : List Nat) (cl ln : Nat → Nat) (iv : Nat → Nat → Int) (rv : Nat → Nat → Option Nat) (a : Nat → Nat → Int) (q : Nat) (l : List Int) : Prop := iv q 2 = (l.length : Int) ∧ ∀ (r : Nat) (d : Int), l[r]? = some d → ∃ w, el rv q r = some w ∧ ty L cl w 20 ∧ RWD ln iv rv a w d
def QT (g : Nat) (sk : Nat → Nat) (L : List Nat) (cl ln : Nat → Nat) (iv : Nat → Nat → Int) (rv : Nat → Nat → Option Nat) (L1 : List Nat) (cl1 ln1 : Nat → Nat) (iv1 : Nat → Nat → Int) (rv1 : Nat → Nat → Option Nat) : Prop := WT g sk L cl ln iv rv ∧ SKL sk L cl ∧ XT L cl ln L1 cl1 ln1 ∧ PSAME sk iv rv iv1 rv1 ∧ KP L cl (fun _ => False) (fun _ => False) (fun _ => False) (fun _ => False) (fun _ _ => False) iv rv iv1 rv1
def UPX (sk ln : Nat → Nat) (iv : Nat → Nat → Int) (rv : Nat → Nat → Option Nat) (r : Option Nat) (f : Int) : Prop := ∀ v a, TRL sk ln iv rv v a → ∀ t : Int, BASR sk rv (v 4).toNat r t → (f = 1 ↔ UPC a t)
def UPI (sk ln : Nat → Nat) (iv : Nat → Nat → Int) (rv : Nat → Nat → Option Nat) (r x : Option Nat) : Prop := ∀ v a, TRL sk ln iv rv v a → ∀ t : Int, BASR sk rv (v 4).toNat r t → ∃ t2 : Int, BASR sk rv (v 4).toNat x t2 ∧ (UPC a t ↔ UPC a t2)
def TWX (sk ln : Nat → Nat) (iv : Nat → Nat → Int) (rv : Nat → Nat → Option Nat) (b : Nat) (f : Int) : Prop := ∀ v a, TRL sk ln iv rv v a → ∀ i : Nat, (i : Int) < v 4 → el rv (sk 22) i = some b → (f = 1 ↔ WHL v a i)
def WOX (sk ln : Nat → Nat) (iv : Nat → Nat → Int) (rv : Nat → Nat → Option Nat) (i : Int) (f : Option Nat) : Prop := ∀ v a, TRL sk ln iv rv v a → (f = none ∧ ¬ WHL v a i) ∨ (∃ b, f = some b ∧ (0 ≤ i ∧ i < v 4) ∧ el rv (sk 22) i.toNat = some b ∧ WHL v a i)
def LAD (q : Nat) (r : Option Nat) (iv : Nat → Nat → Int) (rv : Nat → Nat → Option Nat) (iv2 : Nat → Nat → Int) (rv2 : Nat → Nat → Option Nat) : Prop := (r = none ∧ iv2 q 2 = iv q 2 ∧ ∀ j : Nat, (j : Int) < iv q 2 → el rv2 q j = el rv q j) ∨ ∃ x, r = some x ∧ iv2 q 2 = iv q 2 + 1 ∧ el rv2 q (iv q 2).toNat = some x ∧ ∀ j : Nat, (j : Int) < iv q 2 → el rv2 q j = el rv q j
def GLQ (sk ln : Nat → Nat) (iv : Nat → Nat → Int) (rv : Nat → Nat → Option Nat) (b : Nat) (L1 : List Nat) (cl1 ln1 : Nat → Nat) (iv1 : Nat → Nat → Int) (rv1 : Nat → Nat → Option Nat) (q : Nat) (P : (Nat → Nat → Int) → Int → List Int) : Prop := ∀ v a, TRL sk ln iv rv v a → ∀ i : Nat, (i : Int) < v 4 → el rv (sk 22) i = some b → HL L1 cl1 ln1 iv1 rv1 a q (P a i)
def GP7 (sk ln : Nat → Nat) (iv : Nat → Nat → Int) (rv : Nat → Nat → Option Nat) (b : Nat) (L1 : List Nat) (cl1 ln1 : Nat → Nat) (iv1 : Nat → Nat → Int) (rv1 : Nat → Nat → Option Nat) (q : Nat) (x : Option Nat) : Prop := ∀ v a, TRL sk ln iv rv v a → ∀ i : Nat, (i : Int) < v 4 → el rv (sk 22) i = some b → ∃ (t : Int) (l : List Int), BASR sk rv1 (v 4).toNat x t ∧ HL L1 cl1 ln1 iv1 rv1 a q l ∧ l ++ RWL a t = RWL a i
def GP13 (sk ln : Nat → Nat) (iv : Nat → Nat → Int) (rv : Nat → Nat → Option Nat) (b : Nat) (L1 : List Nat) (cl1 ln1 : Nat → Nat) (iv1 : Nat → Nat → Int) (rv1 : Nat → Nat → Option Nat) (q tr : Nat) (k : Int) : Prop := ∀ v a, TRL sk ln iv rv v a → ∀ i : Nat, (i : Int) < v 4 → el rv (sk 22) i = some b → ∃ (j : Nat) (l : List Int), ((j : Int) < v 4 ∧ 0 ≤ k) ∧ el rv1 (sk 22) j = some tr ∧ HL L1 cl1 ln1 iv1 rv1 a q l ∧ l ++ (rng (200 * (j : Int) + a 10 j - (200 * (j : Int) + k)).toNat (200 * (j : Int) + k) ++ RWL a (a 8 j)) = RWL a i
section ROWS
variable {g : Nat} {sk : Nat → Nat} {L L1 L2 L3 : List Nat} {cl ln cl1 ln1 cl2 ln2 cl3 ln3 : Nat → Nat} {iv iv1 iv2 iv3 : Nat → Nat → Int} {rv rv1 rv2 rv3 : Nat → Nat → Option Nat} {v : Nat → Int} {a : Nat → Nat → Int} {ls : List Nat} {t b q n w u c0 tr : Nat} {d f f1 f2 i0 j0 k0 : Int} {r x y : Option Nat} {l : List Int}
theorem QT.of (hW : WT g sk L cl ln iv rv) (hS : SKL sk L cl) (hX : XT L cl ln L1 cl1 ln1) (hF : fT ls L cl iv rv iv1 rv1) (h1 : kpl ls = true) (a1 : ls.contains 22 = false) (a2 : ls.contains 1000 = false) (a3 : ls.contains 23 = false) (a4 : ls.contains 1001 = false) : QT g sk L cl ln iv rv L1 cl1 ln1 iv1 rv1 :=
  have k := kpl_no h1
  ⟨hW, hS, hX, PSAME.fr hW hS hF a1 a2 a3 a4 k.1 k.2.2.2.2.2.2.1 k.2.2.1, KP.fr hW hF h1⟩
theorem TSAME.rf : TSAME v a v a := ⟨rfl, rfl, rfl, rfl, rfl, rfl, rfl, rfl, rfl, rfl, rfl, rfl, rfl, rfl, rfl, rfl⟩
theorem TRL.qq (h : TRL sk ln iv rv v a) (q : QT g sk L cl ln iv rv L1 cl1 ln1 iv1 rv1) : TRL sk ln1 iv1 rv1 v a := by
  obtain ⟨hW, hS, hX, hp, hk⟩ := q
  obtain ⟨h1, ⟨o, h2⟩, h3, h4⟩ := h
  exact ⟨tab_same h1 hp TSAME.rf, ⟨o, rp_same h2 h1 hW hS hX hk hp TSAME.rf⟩, h3, h4⟩
theorem QT.el (q : QT g sk L cl ln iv rv L1 cl1 ln1 iv1 rv1) (h : TRL sk ln iv rv v a) {i : Nat} (hi : (i : Int) < v 4) : el rv1 (sk 22) i = el rv (sk 22) i := by
  obtain ⟨hW, hS, hX, hp, hk⟩ := q
  exact hp.2.2.1.1 i (by rw [h.1.1]; exact hi)
theorem TRL.tab (h : TRL sk ln iv rv v a) {i : Nat} (hi : (i : Int) < v 4) (ht : el rv (sk 22) i = some t) : (iv t 0 = a 6 i ∧ iv t 7 + a 5 i = 1 ∧ (a 5 i = 0 ∨ a 5 i = 1) ∧ 0 ≤ a 10 i ∧ a 10 i ≤ 200) ∧ (BASR sk rv i (rv t 2) (a 8 i) ∧ BASR sk rv i (rv t 3) (a 9 i)) ∧ ∃ q n, (rv t 4 = some q ∧ rv t 6 = some n ∧ iv q 2 = a 10 i) ∧ (∀ r : Nat, (r : Int) < a 10 i → ∃ w, el rv q r = some w ∧ ROWR ln iv rv a w (200 * i + r)) ∧ (∀ w : Nat, w < 4 → INDR ln iv rv (rv n w) (w : Int) (a 16 (4 * i + w)) (fun k => a 17 (4 * (4 * i + w) + k))) := by
  obtain ⟨h1, ⟨o, h2⟩, _, _⟩ := h
  obtain ⟨t1, q1, b1, b2, b3, b4, b5, b6, b7, b8, b9⟩ := h1.2.1 i hi
  rw [ht] at b1; cases b1
  obtain ⟨t1, c1, c2⟩ := h2.1 i hi
  rw [ht] at c1; cases c1
  obtain ⟨q2, s, x, n, ⟨e1, e2, e3, e4⟩, _, e5, ⟨_, e6⟩, e7, _, e8⟩ := c2
  rw [b2] at e1; cases e1
  refine ⟨⟨b3, b5, b8, b9⟩, e5, q1, n, ⟨b2, e4, b6⟩, fun r hr => ?_, e8⟩
  obtain ⟨w, g1, _, g2⟩ := e7 r hr
  exact ⟨w, g1, g2⟩
theorem TRL.smt (h : TRL sk ln iv rv v a) {i : Nat} (hi : (i : Int) < v 4) : ∃ t, el rv (sk 22) i = some t := by
  obtain ⟨t, q, b1, _⟩ := h.1.2.1 i hi
  exact ⟨t, b1⟩
theorem BASR.up {i m : Nat} {z : Int} (h : BASR sk rv i r z) (hm : i ≤ m) : BASR sk rv m r z := by
  rcases h with h | ⟨h1, h2, h3⟩
  · exact Or.inl h
  · exact Or.inr ⟨h1, by omega, h3⟩
theorem BASR.tb {z : Int} (h : TRL sk ln iv rv v a) (hb : BASR sk rv (v 4).toNat (some b) z) : 0 ≤ z ∧ z < v 4 ∧ el rv (sk 22) z.toNat = some b := by
  have h4 := h.1.2.2.2.2.2.1.1
  rcases hb with ⟨_, e⟩ | ⟨h1, h2, h3⟩
  · cases e
  · exact ⟨h1, by omega, h3.symm⟩
theorem BASR.no {z : Int} (h : TRL sk ln iv rv v a) (hb : BASR sk rv (v 4).toNat none z) : z < 0 := by
  have h4 := h.1.2.2.2.2.2.1.1
  rcases hb with ⟨e, _⟩ | ⟨h1, h2, h3⟩
  · omega
  · obtain ⟨t, ht⟩ := h.smt (i := z.toNat) (by omega)
    rw [ht] at h3; cases h3
theorem TRL.v30 (h : TRL sk ln iv rv v a) : v 4 ≤ 30 := h.1.2.2.2.2.2.1.2
theorem TRL.b0 (h : TRL sk ln iv rv v a) : 0 ≤ v 4 := h.1.2.2.2.2.2.1.1
theorem TRL.s (h : TRL sk ln iv rv v a) {z : Int} (h0 : 0 ≤ z) (h4 : z < v 4) : UPC a z ↔ (a 5 z.toNat = 1 ∧ UPC a (a 8 z.toNat)) := UPC.s h.2.2.1 h.v30 h0 h4
theorem TRL.both (h : TRL sk ln iv rv v a) {i : Nat} (hi : (i : Int) < v 4) : WHL v a i ↔ (UPC a i ∧ UPC a (a 9 i)) := by
  by_cases e : a 6 i = 5
  · exact WHL.j h.2.2.1 h.v30 (by omega) hi e
  · have e9 := h.2.2.2 i hi e
    rw [WHL.p h.2.2.1 h.v30 (t := (i : Int)) (by omega) hi e]
    exact ⟨fun g => ⟨g, UPC.neg0 (by omega)⟩, fun g => g.1⟩
theorem UPI.refl : UPI sk ln iv rv r r := fun v a _ t hb => ⟨t, hb, Iff.rfl⟩
theorem UPI.no (h : UPI sk ln iv rv r (some b)) (h7 : iv b 7 ≠ 0) : UPX sk ln iv rv r 0 := by
  intro v a hR t hb
  obtain ⟨t2, g1, g2⟩ := h v a hR t hb
  obtain ⟨p1, p2, p3⟩ := g1.tb hR
  have p4 := (hR.tab (i := t2.toNat) (by omega) p3).1
  refine ⟨fun e => absurd e (by decide), fun e => ?_⟩
  have p5 := ((hR.s p1 p2).mp (g2.mp e)).1
  omega
theorem UPI.yes (h : UPI sk ln iv rv r none) : UPX sk ln iv rv r 1 := by
  intro v a hR t hb
  obtain ⟨t2, g1, g2⟩ := h v a hR t hb
  exact ⟨fun _ => g2.mpr (UPC.neg0 (g1.no hR)), fun _ => rfl⟩
theorem UPI.next (h : UPI sk ln iv rv r (some b)) (h7 : iv b 7 = 0) (h2 : rv b 2 = x) : UPI sk ln iv rv r x := by
  intro v a hR t hb
  obtain ⟨t2, g1, g2⟩ := h v a hR t hb
  obtain ⟨p1, p2, p3⟩ := g1.tb hR
  obtain ⟨⟨_, p4, _⟩, ⟨p5, _⟩, _⟩ := hR.tab (i := t2.toNat) (by omega) p3
  rw [h2] at p5
  refine ⟨_, p5.up (by omega), g2.trans ?_⟩
  rw [hR.s p1 p2]
  exact ⟨fun g => g.2, fun g => ⟨by omega, g⟩⟩
theorem el_bas {i m : Nat} (h : el rv (sk 22) i = some b) (hi : i < m) : BASR sk rv m (some b) (i : Int) := Or.inr ⟨by omega, by omega, by rw [Int.toNat_natCast]; exact h.symm⟩
theorem TWX.yes (h1 : UPX sk ln iv rv (some b) f1) (h2 : UPX sk ln iv rv x f2) (hx : rv b 3 = x) (e1 : f1 = 1) (e2 : f2 = 1) : TWX sk ln iv rv b 1 := by
  intro v a hR i hi ht
  have h4 := hR.b0
  obtain ⟨_, ⟨_, p6⟩, _⟩ := hR.tab hi ht
  rw [hx] at p6
  exact ⟨fun _ => (hR.both hi).mpr ⟨(h1 v a hR i (el_bas ht (by omega))).mp e1, (h2 v a hR _ (p6.up (by omega))).mp e2⟩, fun _ => rfl⟩
theorem TWX.no1 (h1 : UPX sk ln iv rv (some b) f1) (e1 : f1 ≠ 1) : TWX sk ln iv rv b 0 := by
  intro v a hR i hi ht
  exact ⟨fun e => absurd e (by decide), fun e => absurd ((h1 v a hR i (el_bas ht (by omega))).mpr ((hR.both hi).mp e).1) e1⟩
theorem TWX.no2 (h2 : UPX sk ln iv rv x f2) (hx : rv b 3 = x) (e2 : f2 ≠ 1) : TWX sk ln iv rv b 0 := by
  intro v a hR i hi ht
  obtain ⟨_, ⟨_, p6⟩, _⟩ := hR.tab hi ht
  rw [hx] at p6
  exact ⟨fun e => absurd e (by decide), fun e => absurd ((h2 v a hR _ (p6.up (by omega))).mpr ((hR.both hi).mp e).2) e2⟩
theorem WOX.n1 (h : ∀ b, ¬ ALV sk iv rv i0 b) : WOX sk ln iv rv i0 none := fun v a hR => Or.inl ⟨rfl, fun hw => by
  obtain ⟨w1, w2, w3⟩ := WHL.tr hw
  obtain ⟨t, ht⟩ := hR.1.la w1 w2 w3
  exact h t ht⟩
theorem ALV.i (hA : ALV sk iv rv i0 b) (hR : TRL sk ln iv rv v a) : 0 ≤ i0 ∧ i0 < v 4 ∧ ((i0.toNat : Nat) : Int) = i0 := ⟨hA.1, by have := hA.2.1; rw [hR.1.1] at this; exact this, Int.toNat_of_nonneg hA.1⟩
theorem WOX.n2 (hA : ALV sk iv rv i0 b) (hw : TWX sk ln iv rv b f2) (e : f2 ≠ 1) : WOX sk ln iv rv i0 none := fun v a hR => Or.inl ⟨rfl, fun g => by
  obtain ⟨p1, p2, p3⟩ := hA.i hR
  exact e ((hw v a hR i0.toNat (by omega) hA.2.2.1).mpr (by rw [p3]; exact g))⟩
theorem WOX.ys (hA : ALV sk iv rv i0 b) (hw : TWX sk ln iv rv b f2) (e : f2 = 1) : WOX sk ln iv rv i0 (some b) := fun v a hR => by
  obtain ⟨p1, p2, p3⟩ := hA.i hR
  have g := (hw v a hR i0.toNat (by omega) hA.2.2.1).mp e
  rw [p3] at g
  exact Or.inr ⟨b, rfl, ⟨p1, p2⟩, hA.2.2.1, g⟩
theorem RWD.keep (h : RWD ln iv rv a w d) (tw : ty L cl w 20) (hW : WT g sk L cl ln iv rv) (hX : XT L cl ln L1 cl1 ln1) (hk : KP L cl (fun _ => False) (fun _ => False) (fun _ => False) (fun _ => False) (fun _ _ => False) iv rv iv1 rv1) : RWD ln1 iv1 rv1 a w d := by
  refine ⟨fun e => ?_, fun e => ?_⟩
  · have g := h.1 e
    exact g.keep tw hW hX hk (by rw [hk.rwc w tw (fun e => e)]; exact g.1) ⟨rfl, rfl, fun _ _ => rfl, fun _ _ => rfl⟩
  · obtain ⟨g1, c, g2, g3, g4⟩ := h.2 e
    obtain ⟨c', w2, tc⟩ := hW.ref tw 2 rfl rfl rfl
    rw [g2] at w2; cases w2
    refine hv2 (hk.rw0 w tw) ((hX c tc.1).2.2) (fun q n2 => ?_)
    obtain ⟨g1, lb, g7, g8⟩ := g1
    obtain ⟨l', w3, tl⟩ := hW.ref tw 1 rfl rfl rfl
    rw [g7] at w3; cases w3
    refine ⟨⟨q.1.trans g1, lb, q.2.1.trans g7, by rw [(hX lb tl.1).2.2]; exact g8⟩, c, q.2.2.trans g2, by rw [n2]; exact g3, fun k hk2 => ?_⟩
    rw [n2] at hk2
    rw [hk.ce c tc k]; exact g4 k hk2
theorem HL.nil (h : iv q 2 = 0) : HL L cl ln iv rv a q [] := ⟨h, fun r d e => by simp at e⟩
theorem HL.mv (h : HL L cl ln iv rv a q l) (hq : QT g sk L cl ln iv rv L1 cl1 ln1 iv1 rv1) (hz : iv1 q 2 = iv q 2) (he : ∀ j : Nat, (j : Int) < iv q 2 → el rv1 q j = el rv q j) : HL L1 cl1 ln1 iv1 rv1 a q l := by
  obtain ⟨hW, hS, hX, hp, hk⟩ := hq
  obtain ⟨h1, h2⟩ := h
  refine ⟨hz.trans h1, fun r d e => ?_⟩
  obtain ⟨w, g1, g2, g3⟩ := h2 r d e
  exact ⟨w, (he r (by rw [h1]; have := gl_lt e; omega)).trans g1, hX.ty g2, g3.keep g2 hW hX hk⟩
theorem HL.snoc (h : HL L cl ln iv rv a q l) (hq : QT g sk L cl ln iv rv L1 cl1 ln1 iv1 rv1) (hz : iv1 q 2 = iv q 2 + 1) (hw : el rv1 q (iv q 2).toNat = some w) (he : ∀ j : Nat, (j : Int) < iv q 2 → el rv1 q j = el rv q j) (tw : ty L cl w 20) (hd : RWD ln iv rv a w d) : HL L1 cl1 ln1 iv1 rv1 a q (l ++ [d]) := by
  obtain ⟨hW, hS, hX, hp, hk⟩ := hq
  obtain ⟨h1, h2⟩ := h
  refine ⟨by rw [hz, h1, List.length_append]; rfl, fun r e he2 => ?_⟩
  have lt := gl_lt he2
  rw [List.length_append] at lt
  have lt2 : r < l.length + 1 := lt
  by_cases e1 : r < l.length
  · rw [List.getElem?_append_left e1] at he2
    obtain ⟨w, g1, g2, g3⟩ := h2 r e he2
    exact ⟨w, (he r (by omega)).trans g1, hX.ty g2, g3.keep g2 hW hX hk⟩
  · rw [List.getElem?_append_right (by omega), show r - l.length = 0 by omega] at he2
    cases he2
    exact ⟨w, by rw [show r = (iv q 2).toNat by omega]; exact hw, hX.ty tw, hd.keep tw hW hX hk⟩
theorem HL.ind {i j : Nat} (h : HL L cl ln iv rv a q l) (hq : QT g sk L cl ln iv rv L1 cl1 ln1 iv1 rv1) (hL : LAD q r iv rv iv1 rv1) (tr : ∀ b, r = some b → ty L cl b 20) (hI : INDR ln iv rv r (j : Int) (a 16 (4 * i + j)) (fun k => a 17 (4 * (4 * i + j) + k))) (hj : j < 4) : HL L1 cl1 ln1 iv1 rv1 a q (l ++ indl a (4 * (i : Int) + (j : Int))) := by
  have en : (4 * (i : Int) + (j : Int)).toNat = 4 * i + j := by omega
  unfold indl
  rw [en]
  rcases hL with ⟨g1, g2, g3⟩ | ⟨x, g1, g2, g3, g4⟩
  · rcases hI with ⟨_, p2⟩ | ⟨b, c, p1, _⟩
    · rw [p2, if_neg (by decide), List.append_nil]; exact h.mv hq g2 g3
    · rw [g1] at p1; cases p1
  · rcases hI with ⟨p1, _⟩ | ⟨b, c, p1, p2, p3, p4, p5, p6⟩
    · rw [g1] at p1; cases p1
    · rw [g1] at p1; cases p1
      rw [if_pos p5]
      refine h.snoc hq g2 g3 g4 (tr x g1) ⟨fun e => absurd e (by omega), fun _ => ⟨⟨by rw [p2.1]; omega, p2.2⟩, c, p3, ?_, fun k hk => ?_⟩⟩
      · rw [p4]; exact congrArg (a 16) (by omega)
      · have e9 : (-1 - (-1 - (4 * (i : Int) + (j : Int)))).toNat = 4 * i + j := by omega
        rw [e9]; exact (p6 k hk).1
theorem GLQ.nil (h : iv1 q 2 = 0) : GLQ sk ln iv rv b L1 cl1 ln1 iv1 rv1 q (fun _ _ => []) := fun _ _ _ _ _ _ => HL.nil h
theorem GLQ.mv {P : (Nat → Nat → Int) → Int → List Int} (h : GLQ sk ln iv rv b L1 cl1 ln1 iv1 rv1 q P) (hq : QT g sk L1 cl1 ln1 iv1 rv1 L2 cl2 ln2 iv2 rv2) (hz : iv2 q 2 = iv1 q 2) (he : ∀ j : Nat, (j : Int) < iv1 q 2 → el rv2 q j = el rv1 q j) : GLQ sk ln iv rv b L2 cl2 ln2 iv2 rv2 q P := fun v a hR i hi ht => (h v a hR i hi ht).mv hq hz he
theorem GLQ.ind {P : (Nat → Nat → Int) → Int → List Int} {j : Nat} (h : GLQ sk ln iv rv b L1 cl1 ln1 iv1 rv1 q P) (h0 : QT g sk L cl ln iv rv L1 cl1 ln1 iv1 rv1) (hq : QT g sk L1 cl1 ln1 iv1 rv1 L2 cl2 ln2 iv2 rv2) (tn : ty L1 cl1 n 68) (e6 : rv1 b 6 = some n) (er : rv1 n j = r) (hL : LAD q r iv1 rv1 iv2 rv2) (hj : j < 4) : GLQ sk ln iv rv b L2 cl2 ln2 iv2 rv2 q (fun a i => P a i ++ indl a (4 * i + (j : Int))) := by
  intro v a hR i hi ht
  have hR1 := hR.qq h0
  obtain ⟨_, _, q1, n1, ⟨_, p2, _⟩, _, p5⟩ := hR1.tab hi ((h0.el hR hi).trans ht)
  rw [e6] at p2; cases p2
  have p6 := p5 j hj
  rw [er] at p6
  refine (h v a hR i hi ht).ind hq hL (fun x hx => ?_) p6 hj
  obtain ⟨hW, _⟩ := hq
  rcases hW.opt tn j rfl rfl with e | ⟨c, e1, e2⟩
  · rw [er, hx] at e; exact absurd e.1 (by simp)
  · rw [er, hx] at e1; cases e1; exact e2
theorem GP7.init (h : iv q 2 = 0) : GP7 sk ln iv rv b L cl ln iv rv q (some b) := fun v a hR i hi ht => ⟨i, [], el_bas ht (by have := hR.b0; omega), HL.nil h, rfl⟩
theorem GP7.start (h : GP7 sk ln iv rv b L1 cl1 ln1 iv1 rv1 q (some tr)) (h0 : QT g sk L cl ln iv rv L1 cl1 ln1 iv1 rv1) : GP13 sk ln iv rv b L1 cl1 ln1 iv1 rv1 q tr 0 := by
  intro v a hR i hi ht
  obtain ⟨t, l, g1, g2, g3⟩ := h v a hR i hi ht
  have hR1 := hR.qq h0
  obtain ⟨p1, p2, p3⟩ := g1.tb hR1
  have e : ((t.toNat : Nat) : Int) = t := Int.toNat_of_nonneg p1
  refine ⟨t.toNat, l, ⟨by omega, Int.le_refl _⟩, p3, g2, ?_⟩
  rw [RWL.s hR.2.2.1 hR.v30 p1 p2] at g3
  rw [e, show 200 * t + a 10 t.toNat - (200 * t + 0) = a 10 t.toNat by omega, Int.add_zero]
  exact g3
theorem ty26 (hW : WT g sk L cl ln iv rv) (tt : ty L cl t 100) (h4 : rv t 4 = some q) : ty L cl q 26 := ty4 hW tt h4
theorem GP13.step {k : Int} {q4 : Nat} (h : GP13 sk ln iv rv b L1 cl1 ln1 iv1 rv1 q tr k) (h0 : QT g sk L cl ln iv rv L1 cl1 ln1 iv1 rv1) (hq : QT g sk L1 cl1 ln1 iv1 rv1 L2 cl2 ln2 iv2 rv2) (tt : ty L1 cl1 tr 100) (e4 : rv1 tr 4 = some q4) (hk : k < iv1 q4 2) (hw : el rv1 q4 k.toNat = some w) (hA : iv2 q 2 = iv1 q 2 + 1 ∧ el rv2 q (iv1 q 2).toNat = some w ∧ ∀ j : Nat, (j : Int) < iv1 q 2 → el rv2 q j = el rv1 q j) : GP13 sk ln iv rv b L2 cl2 ln2 iv2 rv2 q tr (k + 1) := by
  intro v a hR i hi ht
  obtain ⟨j, l, ⟨p1, p2⟩, p3, p4, p5⟩ := h v a hR i hi ht
  have hR1 := hR.qq h0
  obtain ⟨_, _, q1, n1, ⟨c1, _, c3⟩, c4, _⟩ := hR1.tab p1 p3
  rw [e4] at c1; cases c1
  have hk2 : k < a 10 j := by omega
  obtain ⟨w', d1, d2⟩ := c4 k.toNat (by omega)
  rw [hw] at d1; cases d1
  have tw := el26 hq.1 (ty4 hq.1 tt e4) (by omega) hw
  have e : (200 * (j : Int) + k).toNat = 200 * j + k.toNat := by omega
  refine ⟨j, l ++ [200 * (j : Int) + k], ⟨p1, by omega⟩, (hq.el hR1 p1).trans p3, p4.snoc hq hA.1 hA.2.1 hA.2.2 tw ⟨fun _ => by rw [e]; exact d2, fun e2 => absurd e2 (by omega)⟩, ?_⟩
  rw [rng_c (by omega)] at p5
  rw [List.append_assoc, ← Int.add_assoc]
  exact p5
theorem GP13.fin {k : Int} {q4 : Nat} (h : GP13 sk ln iv rv b L1 cl1 ln1 iv1 rv1 q tr k) (h0 : QT g sk L cl ln iv rv L1 cl1 ln1 iv1 rv1) (e4 : rv1 tr 4 = some q4) (hk : iv1 q4 2 ≤ k) (e2 : rv1 tr 2 = x) : GP7 sk ln iv rv b L1 cl1 ln1 iv1 rv1 q x := by
  intro v a hR i hi ht
  obtain ⟨j, l, ⟨p1, p2⟩, p3, p4, p5⟩ := h v a hR i hi ht
  have hR1 := hR.qq h0
  obtain ⟨_, ⟨c0, _⟩, q1, n1, ⟨c1, _, c3⟩, _, _⟩ := hR1.tab p1 p3
  rw [e4] at c1; cases c1
  rw [e2] at c0
  refine ⟨a 8 j, l, c0.up (by have := hR.b0; omega), p4, ?_⟩
  rw [rng_z (by omega)] at p5
  exact p5
theorem GP7.done (h : GP7 sk ln iv rv b L1 cl1 ln1 iv1 rv1 q none) (h0 : QT g sk L cl ln iv rv L1 cl1 ln1 iv1 rv1) : GLQ sk ln iv rv b L1 cl1 ln1 iv1 rv1 q (fun a i => RWL a i) := by
  intro v a hR i hi ht
  obtain ⟨t, l, g1, g2, g3⟩ := h v a hR i hi ht
  rw [RWL.neg0 (g1.no (hR.qq h0)), List.append_nil] at g3
  show HL L1 cl1 ln1 iv1 rv1 a q (RWL a (i : Int))
  rw [← g3]; exact g2
theorem GLQ.rws (h : GLQ sk ln iv rv b L1 cl1 ln1 iv1 rv1 q (fun a i => (RWL a i ++ indl a (4 * i + ((0 : Nat) : Int))) ++ indl a (4 * i + ((1 : Nat) : Int)))) : GLQ sk ln iv rv b L1 cl1 ln1 iv1 rv1 q rws1 := h
theorem GLQ.sub (h : GLQ sk ln1 iv1 rv1 t L2 cl2 ln2 iv2 rv2 q rws1) (h0 : QT g sk L cl ln iv rv L1 cl1 ln1 iv1 rv1) (e2 : rv1 b 2 = some t) : GLQ sk ln iv rv b L2 cl2 ln2 iv2 rv2 q (fun a i => rws1 a (a 8 i.toNat)) := by
  intro v a hR i hi ht
  have hR1 := hR.qq h0
  obtain ⟨_, ⟨c0, _⟩, _⟩ := hR1.tab hi ((h0.el hR hi).trans ht)
  rw [e2] at c0
  obtain ⟨p1, p2, p3⟩ := (c0.up (m := (v 4).toNat) (by omega)).tb hR1
  have g := h v a hR1 (a 8 i).toNat (by omega) p3
  rw [Int.toNat_of_nonneg p1] at g
  exact g
theorem GLQ.sub3 (h : GLQ sk ln1 iv1 rv1 t L2 cl2 ln2 iv2 rv2 q rws1) (h0 : QT g sk L cl ln iv rv L1 cl1 ln1 iv1 rv1) (e3 : rv1 b 3 = some t) : GLQ sk ln iv rv b L2 cl2 ln2 iv2 rv2 q (fun a i => rws1 a (a 9 i.toNat)) := by
  intro v a hR i hi ht
  have hR1 := hR.qq h0
  obtain ⟨_, ⟨_, c0⟩, _⟩ := hR1.tab hi ((h0.el hR hi).trans ht)
  rw [e3] at c0
  obtain ⟨p1, p2, p3⟩ := (c0.up (m := (v 4).toNat) (by omega)).tb hR1
  have g := h v a hR1 (a 9 i).toNat (by omega) p3
  rw [Int.toNat_of_nonneg p1] at g
  exact g
theorem GLQ.no2 {P : (Nat → Nat → Int) → Int → List Int} (h0 : QT g sk L cl ln iv rv L1 cl1 ln1 iv1 rv1) (e0 : iv1 b 0 = 5) (e2 : rv1 b 2 = none) : GLQ sk ln iv rv b L2 cl2 ln2 iv2 rv2 q P := by
  intro v a hR i hi ht
  have hR1 := hR.qq h0
  obtain ⟨⟨c1, _⟩, ⟨c0, _⟩, _⟩ := hR1.tab hi ((h0.el hR hi).trans ht)
  rw [e2] at c0
  have g := (c0.up (m := (v 4).toNat) (by omega)).no hR1
  have g2 := hR.2.2.1.1 i (by omega) hi
  rw [Int.toNat_natCast] at g2
  omega
theorem GLQ.no3 {P : (Nat → Nat → Int) → Int → List Int} (h0 : QT g sk L cl ln iv rv L1 cl1 ln1 iv1 rv1) (e0 : iv1 b 0 = 5) (e3 : rv1 b 3 = none) : GLQ sk ln iv rv b L2 cl2 ln2 iv2 rv2 q P := by
  intro v a hR i hi ht
  have hR1 := hR.qq h0
  obtain ⟨⟨c1, _⟩, ⟨_, c0⟩, _⟩ := hR1.tab hi ((h0.el hR hi).trans ht)
  rw [e3] at c0
  have g := (c0.up (m := (v 4).toNat) (by omega)).no hR1
  have g2 := hR.2.2.1.1 i (by omega) hi
  rw [Int.toNat_natCast] at g2
  omega
theorem GLQ.slf (h : GLQ sk ln1 iv1 rv1 b L2 cl2 ln2 iv2 rv2 q rws1) (h0 : QT g sk L cl ln iv rv L1 cl1 ln1 iv1 rv1) : GLQ sk ln iv rv b L2 cl2 ln2 iv2 rv2 q rws1 := fun v a hR i hi ht => h v a (hR.qq h0) i hi ((h0.el hR hi).trans ht)
theorem GLQ.g0 (h : GLQ sk ln iv rv b L1 cl1 ln1 iv1 rv1 q (fun a i => rws1 a (a 8 i.toNat) ++ indl a (4 * i + ((2 : Nat) : Int)))) (e0 : iv b 0 = 5) : GLQ sk ln iv rv b L1 cl1 ln1 iv1 rv1 q gat0 := by
  intro v a hR i hi ht
  refine hv2 ((hR.tab hi ht).1.1) (h v a hR i hi ht) (fun c g => ?_)
  unfold gat0
  rw [if_pos (show a 6 (i : Int).toNat = 5 by rw [Int.toNat_natCast]; omega)]
  exact g
theorem GLQ.g1 (h : GLQ sk ln iv rv b L1 cl1 ln1 iv1 rv1 q (fun a i => rws1 a (a 9 i.toNat) ++ indl a (4 * i + ((3 : Nat) : Int)))) (e0 : iv b 0 = 5) : GLQ sk ln iv rv b L1 cl1 ln1 iv1 rv1 q gat1 := by
  intro v a hR i hi ht
  refine hv2 ((hR.tab hi ht).1.1) (h v a hR i hi ht) (fun c g => ?_)
  unfold gat1
  rw [if_pos (show a 6 (i : Int).toNat = 5 by rw [Int.toNat_natCast]; omega)]
  exact g
theorem GLQ.n0 (h : GLQ sk ln iv rv b L1 cl1 ln1 iv1 rv1 q rws1) (e0 : iv b 0 ≠ 5) : GLQ sk ln iv rv b L1 cl1 ln1 iv1 rv1 q gat0 := by
  intro v a hR i hi ht
  refine hv2 ((hR.tab hi ht).1.1) (h v a hR i hi ht) (fun c g => ?_)
  unfold gat0
  rw [if_neg (show ¬ a 6 (i : Int).toNat = 5 by rw [Int.toNat_natCast]; omega)]
  exact g
theorem GLQ.n1 (h : GLQ sk ln iv rv b L1 cl1 ln1 iv1 rv1 q (fun _ _ => [])) (e0 : iv b 0 ≠ 5) : GLQ sk ln iv rv b L1 cl1 ln1 iv1 rv1 q gat1 := by
  intro v a hR i hi ht
  refine hv2 ((hR.tab hi ht).1.1) (h v a hR i hi ht) (fun c g => ?_)
  unfold gat1
  rw [if_neg (show ¬ a 6 (i : Int).toNat = 5 by rw [Int.toNat_natCast]; omega)]
  exact g
theorem RWD.c (h : RWD ln iv rv a w d) : ∃ c, rv w 2 = some c ∧ ((ln c : Nat) : Int) = rlen a d ∧ ∀ k : Nat, k < ln c → iv c k = dcl a d k := by
  unfold rlen dcl
  by_cases e : 0 ≤ d
  · obtain ⟨_, _, l, c, _, g2, _, g4, _, g6⟩ := h.1 e
    refine ⟨c, g2, by rw [if_pos e]; exact g4, fun k hk => ?_⟩
    rw [if_pos e, (g6 k hk).1]; exact congrArg (a 15) (by omega)
  · obtain ⟨_, c, g2, g3, g4⟩ := h.2 (by omega)
    refine ⟨c, g2, by rw [if_neg e]; exact g3, fun k hk => ?_⟩
    rw [if_neg e, g4 k hk]; exact congrArg (a 17) (by omega)
theorem WOX.smt (h : WOX sk ln iv rv i0 (some b)) (hR : TRL sk ln iv rv v a) : (0 ≤ i0 ∧ i0 < v 4) ∧ el rv (sk 22) i0.toNat = some b ∧ WHL v a i0 := by
  rcases h v a hR with ⟨e, _⟩ | ⟨b', e, g⟩
  · cases e
  · cases e; exact g
end ROWS
theorem el24.fr {g : Nat} {sk : Nat → Nat} {L : List Nat} {cl ln : Nat → Nat} {iv iv2 : Nat → Nat → Int} {rv rv2 : Nat → Nat → Option Nat} {ls : List Nat} (h : WT g sk L cl ln iv rv) (hS : SKL sk L cl) (hF : fT ls L cl iv rv iv2 rv2) (a1 : ls.contains 24 = false) (a2 : ls.contains 1002 = false) : iv2 (sk 24) 2 = iv (sk 24) 2 ∧ ∀ j : Nat, (j : Int) < iv (sk 24) 2 → el rv2 (sk 24) j = el rv (sk 24) j := by
  have tq : ty L cl (sk 24) 24 := ⟨(hS 24 rfl).1, by rw [(hS 24 rfl).2]; rfl⟩
  refine ⟨hF.i tq a1 2, fun j hj => ?_⟩
  obtain ⟨b, q1, q2, q3, q4⟩ := h.ed2 tq rfl rfl (by omega)
  rw [el_of ((hF.r tq a1 1).trans q1), el_of q1]
  exact hF.r q2 a2 j
theorem el25.fr {g : Nat} {sk : Nat → Nat} {L : List Nat} {cl ln : Nat → Nat} {iv iv2 : Nat → Nat → Int} {rv rv2 : Nat → Nat → Option Nat} {ls : List Nat} (h : WT g sk L cl ln iv rv) (hS : SKL sk L cl) (hF : fT ls L cl iv rv iv2 rv2) (a1 : ls.contains 25 = false) (a2 : ls.contains 1003 = false) : iv2 (sk 25) 2 = iv (sk 25) 2 ∧ ∀ j : Nat, (j : Int) < iv (sk 25) 2 → el rv2 (sk 25) j = el rv (sk 25) j := by
  have tq : ty L cl (sk 25) 25 := ⟨(hS 25 rfl).1, by rw [(hS 25 rfl).2]; rfl⟩
  refine ⟨hF.i tq a1 2, fun j hj => ?_⟩
  obtain ⟨b, q1, q2, q3, q4⟩ := h.ed2 tq rfl rfl (by omega)
  rw [el_of ((hF.r tq a1 1).trans q1), el_of q1]
  exact hF.r q2 a2 j
end
section
set_option maxHeartbeats 4000000 in
set_option maxRecDepth 100000 in
theorem G_isUpright {l : Launch} {G : GT} {mi : Nat} {sk : Nat → Nat} {L : List Nat} {cl ln : Nat → Nat} {iv : Nat → Nat → Int} {rv : Nat → Nat → Option Nat}  {r : Option Nat} (hW : WT (g0 G) sk L cl ln iv rv) (hS : SKL sk L cl) (t_r : ∀ b, r = some b → ty L cl b 100)  : Mc l G mi (Phi (g0 G) sk) PHM yX9_isUpright cX9_isUpright 2 (some .boolean) 0 [va_rf r] L cl ln iv rv 0 (fun v L2 cl2 ln2 iv2 rv2 => ∃ f : Int, v = some (.int (iI f)) ∧ L = L2 ∧ cl = cl2 ∧ ln = ln2 ∧ iv = iv2 ∧ rv = rv2 ∧ (f = 0 ∨ f = 1) ∧ (UPX sk ln iv rv r f)) := by
  refine Mc.mk (by decide) (by cases r <;> exact Nat.le_of_ble_eq_true rfl) ?_
  intro p e s m args below meth c A C hM
  have hph := Phi.le hW hS
  refine c_lveq (show lv_args 0 [va_rf r] = [(0, (va_rf r))] from by cases r <;> rfl) ?_
  refine hv2 (show XT L cl ln L cl ln from XT.refl) (show fT [] L cl iv rv iv rv from fT.refl) (fun hX0 hF0 => ?_)
  refine c_aloadr_n (j := 0) (r := r) C dX9_isUpright_0 rfl ?_
  refine c_astorer_n (r := r) (lv2 := [(1, (va_rf r)), (0, (va_rf r))]) C dX9_isUpright_1 (by decide) (by cases r <;> rfl) ?_
  have Lp1 : ∀ (nn : Nat) (tq : Option Nat) (rk : Int) , rk - 99 < (nn : Int) → (∀ b, tq = some b → ty L cl b 100) → (99 ≤ rk) → (∀ b, tq = some b → ((cl b : Nat) : Int) ≤ rk) → (UPI sk ln iv rv r tq) → cw p l e 0 ((PHM) + 0 - ((Phi (g0 G) sk) ln rv)) s m args below meth c G A 2 (MQ below (Qu G A (Qp G (Phi (g0 G) sk) ((Phi (g0 G) sk) ln rv) 0 (fun v L2 cl2 ln2 iv2 rv2 => ∃ f : Int, v = some (.int (iI f)) ∧ L = L2 ∧ cl = cl2 ∧ ln = ln2 ∧ iv = iv2 ∧ rv = rv2 ∧ (f = 0 ∨ f = 1) ∧ (UPX sk ln iv rv r f)))) args s (((PHM) + 0 - ((Phi (g0 G) sk) ln rv)) / 16) ((PHM) + 0 - ((Phi (g0 G) sk) ln rv)) A) (Phi (g0 G) sk) ((Phi (g0 G) sk) ln rv) L cl ln iv rv 0 2 [(1, (va_rf tq)), (0, (va_rf r))] [] := by
    intro nn
    induction nn with
    | zero =>
      intro tq rk  hm  ty_tq h99 hrk hup
      exact absurd hm (by omega)
    | succ nn ih1 =>
      intro tq rk  hm  ty_tq h99 hrk hup
      refine c_aloadr_n (j := 0) (r := tq) C dX9_isUpright_2 rfl ?_
      refine c_ifnull (r := tq) (tgt := 23) C dX9_isUpright_3 (by decide) (fun oq1 => ?_) (fun ob1 oq1 => ?_)
      · subst oq1
        refine c_lv (lv2 := [(1, .null), (0, (va_rf r))]) [0, 1] rfl ?_
        refine c_st (st2 := []) rfl ?_
        refine c_iconst C dX9_isUpright_23 ?_
        exact c_zret C dX9_isUpright_24 rfl (Or.inr rfl) (by decide) (rom0 hph hph (by decide)) ⟨1, rfl, rfl, rfl, rfl, rfl, rfl, (Or.inr rfl), hup.yes⟩
      · subst oq1
        refine hv2 (ty_tq ob1 rfl) (hrk ob1 rfl) (fun tob1 hkob1 => ?_)
        have tgob1 := bt_100 tob1.2
        refine c_lv (lv2 := [(1, .ref ob1), (0, (va_rf r))]) [0, 1] rfl ?_
        refine c_st (st2 := []) rfl ?_
        refine c_aload_n (j := 0) (x := ob1) C dX9_isUpright_6 rfl ?_
        have ri1 : 0 ≤ iv ob1 7 ∧ iv ob1 7 ≤ 1 := hW.int tob1 7
        refine c_get (k := 7) C ck_10 dX9_isUpright_7 w2_197 (by decide) tob1 rfl rfl (by decide) rfl ?_
        refine c_if_eq (tgt := 15) C (r32_c (lo := 0) (hi := 1) ri1.1 ri1.2 (by decide) (by decide)) dX9_isUpright_10 (by decide) (fun c1 => ?_) (fun c1 => ?_)
        · refine c_aload_n (j := 0) (x := ob1) C dX9_isUpright_15 rfl ?_
          rcases hW.opt tob1 2 rfl rfl with ⟨nq1, _⟩ | ⟨nb1, nq1, tnb1⟩
          · refine c_getr (k := 2) C ck_10 dX9_isUpright_16 w2_180 (by decide) tob1 rfl rfl (by decide) rfl nq1 ?_
            refine c_st (st2 := [.null]) rfl ?_
            refine c_astorer_n (r := none) (lv2 := [(1, .null), (0, (va_rf r))]) C dX9_isUpright_19 (by decide) (by cases r <;> rfl) ?_
            refine c_goto (tgt := 2) C dX9_isUpright_20 (by decide) ?_
            refine c_lv (lv2 := [(1, .null), (0, (va_rf r))]) [0, 1] rfl ?_
            exact ih1  none (rk - 1)  (by omega)  (fun _ q => by cases q) (by omega) (fun _ q => by cases q) (hup.next (by omega) nq1)
          · have rknb1 := hW.rank tob1 (k := 2) (by decide) nq1
            refine c_getr (k := 2) C ck_10 dX9_isUpright_16 w2_180 (by decide) tob1 rfl rfl (by decide) rfl nq1 ?_
            refine c_st (st2 := [.ref nb1]) rfl ?_
            refine c_astore_n (lv2 := [(1, .ref nb1), (0, (va_rf r))]) C dX9_isUpright_19 (by decide) (by cases r <;> rfl) ?_
            refine c_goto (tgt := 2) C dX9_isUpright_20 (by decide) ?_
            have trnb1 := bt_100 tnb1.2
            refine c_lv (lv2 := [(1, .ref nb1), (0, (va_rf r))]) [0, 1] rfl ?_
            exact ih1  (some nb1) (rk - 1)  (by omega)  (fun _ q => by cases q; exact tnb1) (by omega) (fun _ q => by cases q; omega) (hup.next (by omega) nq1)
        · refine c_iconst C dX9_isUpright_13 ?_
          exact c_zret C dX9_isUpright_14 rfl (Or.inl rfl) (by decide) (rom0 hph hph (by decide)) ⟨0, rfl, rfl, rfl, rfl, rfl, rfl, (Or.inl rfl), (hup.no (by omega))⟩
  refine c_lv (lv2 := [(1, (va_rf r)), (0, (va_rf r))]) [0, 1] rfl ?_
  exact Lp1 31 r 129  (by omega)  t_r (by omega) (fun b q => by have q2 := bt_100 (t_r b q).2; omega) UPI.refl
set_option maxHeartbeats 4000000 in
set_option maxRecDepth 100000 in
theorem G_tisWhole {l : Launch} {G : GT} {mi : Nat} {sk : Nat → Nat} {L : List Nat} {cl ln : Nat → Nat} {iv : Nat → Nat → Int} {rv : Nat → Nat → Option Nat}  {a0 : Nat} (hW : WT (g0 G) sk L cl ln iv rv) (hS : SKL sk L cl) (t_a0 : ty L cl a0 100)  : Mc l G mi (Phi (g0 G) sk) PHM yX9_isWhole cX9_isWhole 1 (some .boolean) 1 [.ref a0] L cl ln iv rv 0 (fun v L2 cl2 ln2 iv2 rv2 => ∃ f : Int, v = some (.int (iI f)) ∧ L = L2 ∧ cl = cl2 ∧ ln = ln2 ∧ iv = iv2 ∧ rv = rv2 ∧ (f = 0 ∨ f = 1) ∧ (TWX sk ln iv rv a0 f)) := by
  refine Mc.mk (by decide) (Nat.le_of_ble_eq_true rfl) ?_
  intro p e s m args below meth c A C hM
  refine hv3 (Phi.le hW hS) (show XT L cl ln L cl ln from XT.refl) (show fT [] L cl iv rv iv rv from fT.refl) (fun hph hX0 hF0 => ?_)
  refine c_aload_n (j := 0) (x := a0) C dX9_isWhole_0 rfl ?_
  refine d_callS (As := [.ref a0]) (rest := []) C hM (G_isUpright (r := (some a0)) hW hS (fun _ q => by cases q; exact t_a0)  ) dX9_isWhole_1 kS_X9_76 rfl rfl (Nat.le_of_ble_eq_true rfl) ⟨(Nat.le_of_ble_eq_true rfl), (Nat.le_of_ble_eq_true rfl)⟩ hph hph (show 0 + 0 = 0 from rfl) (by decide) (fun rh1 Lh1 clh1 lnh1 ivh1 rvh1 h1 => ?_)
  obtain ⟨f1, rfl, rfl, rfl, rfl, rfl, rfl, rgf1, exf1⟩ := h1
  refine c_st (st2 := [.int (iI f1)]) rfl ?_
  have gf1 : UPX sk ln iv rv (some a0) f1 := exf1
  refine c_if_eq (tgt := 21) C ⟨by omega, by omega⟩ dX9_isWhole_4 (by decide) (fun c1 => ?_) (fun c1 => ?_)
  · refine c_iconst C dX9_isWhole_21 ?_
    exact c_zret C dX9_isWhole_22 rfl (Or.inl rfl) (by decide) (rom0 hph hph (by decide)) ⟨0, rfl, rfl, rfl, rfl, rfl, rfl, (Or.inl rfl), (TWX.no1 gf1 (by omega))⟩
  · refine c_aload_n (j := 0) (x := a0) C dX9_isWhole_7 rfl ?_
    rcases hW.opt t_a0 3 rfl rfl with ⟨nq1, _⟩ | ⟨nb1, nq1, tnb1⟩
    · refine c_getr (k := 3) C ck_10 dX9_isWhole_8 w2_183 (by decide) t_a0 rfl rfl (by decide) rfl nq1 ?_
      refine c_st (st2 := [.null]) rfl ?_
      refine d_callS (As := [.null]) (rest := []) C hM (G_isUpright (r := none) hW hS (fun _ q => by cases q)  ) dX9_isWhole_11 kS_X9_76 rfl rfl (Nat.le_of_ble_eq_true rfl) ⟨(Nat.le_of_ble_eq_true rfl), (Nat.le_of_ble_eq_true rfl)⟩ hph hph (show 0 + 0 = 0 from rfl) (by decide) (fun rh2 Lh2 clh2 lnh2 ivh2 rvh2 h2 => ?_)
      obtain ⟨f2, rfl, rfl, rfl, rfl, rfl, rfl, rgf2, exf2⟩ := h2
      refine c_st (st2 := [.int (iI f2)]) rfl ?_
      have gf2 : UPX sk ln iv rv none f2 := exf2
      refine c_if_eq (tgt := 21) C ⟨by omega, by omega⟩ dX9_isWhole_14 (by decide) (fun c2 => ?_) (fun c2 => ?_)
      · refine c_iconst C dX9_isWhole_21 ?_
        exact c_zret C dX9_isWhole_22 rfl (Or.inl rfl) (by decide) (rom0 hph hph (by decide)) ⟨0, rfl, rfl, rfl, rfl, rfl, rfl, (Or.inl rfl), (TWX.no2 gf2 nq1 (by omega))⟩
      · refine c_iconst C dX9_isWhole_17 ?_
        refine c_goto (tgt := 22) C dX9_isWhole_18 (by decide) ?_
        exact c_zret C dX9_isWhole_22 rfl (Or.inr rfl) (by decide) (rom0 hph hph (by decide)) ⟨1, rfl, rfl, rfl, rfl, rfl, rfl, (Or.inr rfl), (TWX.yes gf1 gf2 nq1 (by omega) (by omega))⟩
    · have rknb1 := hW.rank t_a0 (k := 3) (by decide) nq1
      refine c_getr (k := 3) C ck_10 dX9_isWhole_8 w2_183 (by decide) t_a0 rfl rfl (by decide) rfl nq1 ?_
      refine c_st (st2 := [.ref nb1]) rfl ?_
      refine d_callS (As := [.ref nb1]) (rest := []) C hM (G_isUpright (r := (some nb1)) hW hS (fun _ q => by cases q; exact tnb1)  ) dX9_isWhole_11 kS_X9_76 rfl rfl (Nat.le_of_ble_eq_true rfl) ⟨(Nat.le_of_ble_eq_true rfl), (Nat.le_of_ble_eq_true rfl)⟩ hph hph (show 0 + 0 = 0 from rfl) (by decide) (fun rh3 Lh3 clh3 lnh3 ivh3 rvh3 h3 => ?_)
      obtain ⟨f3, rfl, rfl, rfl, rfl, rfl, rfl, rgf3, exf3⟩ := h3
      refine c_st (st2 := [.int (iI f3)]) rfl ?_
      have gf3 : UPX sk ln iv rv (some nb1) f3 := exf3
      refine c_if_eq (tgt := 21) C ⟨by omega, by omega⟩ dX9_isWhole_14 (by decide) (fun c3 => ?_) (fun c3 => ?_)
      · refine c_iconst C dX9_isWhole_21 ?_
        exact c_zret C dX9_isWhole_22 rfl (Or.inl rfl) (by decide) (rom0 hph hph (by decide)) ⟨0, rfl, rfl, rfl, rfl, rfl, rfl, (Or.inl rfl), (TWX.no2 gf3 nq1 (by omega))⟩
      · refine c_iconst C dX9_isWhole_17 ?_
        refine c_goto (tgt := 22) C dX9_isWhole_18 (by decide) ?_
        exact c_zret C dX9_isWhole_22 rfl (Or.inr rfl) (by decide) (rom0 hph hph (by decide)) ⟨1, rfl, rfl, rfl, rfl, rfl, rfl, (Or.inr rfl), (TWX.yes gf1 gf3 nq1 (by omega) (by omega))⟩
set_option maxHeartbeats 4000000 in
set_option maxRecDepth 100000 in
theorem G_whole {l : Launch} {G : GT} {mi : Nat} {sk : Nat → Nat} {L : List Nat} {cl ln : Nat → Nat} {iv : Nat → Nat → Int} {rv : Nat → Nat → Option Nat}  {a0 : Nat} {i : Int} (hW : WT (g0 G) sk L cl ln iv rv) (hS : SKL sk L cl) (t_a0 : ty L cl a0 13) (h_i : -2147483648 ≤ i ∧ i ≤ 2147483647) (hmr : MRK sk cl iv rv) : Mc l G mi (Phi (g0 G) sk) PHM yX10_whole cX10_whole 3 (some (.object "DotPress$Table")) 4 [.ref a0, .int (iI i)] L cl ln iv rv 0 (fun v L2 cl2 ln2 iv2 rv2 => ∃ f : Option Nat, v = some ((va_rf f)) ∧ L = L2 ∧ cl = cl2 ∧ ln = ln2 ∧ iv = iv2 ∧ rv = rv2 ∧ (∀ b, f = some b → ty L2 cl2 b 100) ∧ (WOX sk ln iv rv i f)) := by
  refine Mc.mk (by decide) (Nat.le_of_ble_eq_true rfl) ?_
  intro p e s m args below meth c A C hM
  refine hv5 (Phi.le hW hS) (show ty L cl (sk 22) 22 from ⟨(hS 22 rfl).1, by rw [(hS 22 rfl).2]; rfl⟩) (show ty L cl (sk 23) 23 from ⟨(hS 23 rfl).1, by rw [(hS 23 rfl).2]; rfl⟩) (show XT L cl ln L cl ln from XT.refl) (show fT [] L cl iv rv iv rv from fT.refl) (fun hph tsk22 tsk23 hX0 hF0 => ?_)
  refine c_aload_n (j := 0) (x := a0) C dX10_whole_0 rfl ?_
  refine c_iload_n (j := 1) C dX10_whole_1 rfl ?_
  have ri1 : 0 ≤ iv (sk 22) 2 ∧ iv (sk 22) 2 ≤ 30 := hW.int tsk22 2
  refine d_callV (As := [.int (iI i)]) (rest := []) C hM (C_alive (a0 := a0) (i := i) hW hS t_a0 (by omega) hmr) dX10_whole_2 kV_X10_35 rfl t_a0 rfl rfl (by decide) ck_11 rfl (Nat.le_of_ble_eq_true rfl) ⟨(Nat.le_of_ble_eq_true rfl), (Nat.le_of_ble_eq_true rfl)⟩ hph hph (show 0 + 0 = 0 from rfl) (by decide) (fun rh1 Lh1 clh1 lnh1 ivh1 rvh1 h1 => ?_)
  obtain ⟨f1, rfl, rfl, rfl, rfl, rfl, rfl, rgf1, exf1⟩ := h1
  refine c_st (st2 := [(va_rf f1)]) rfl ?_
  have gf1 : (∀ b, f1 = some b → ((cl b : Nat) : Int) < 100 + iv (sk 22) 2 ∧ ALV sk iv rv i b) ∧ (f1 = none → ∀ b, ¬ ALV sk iv rv i b) := exf1
  refine c_astorer_n (r := f1) (lv2 := [(2, (va_rf f1)), (0, .ref a0), (1, .int (iI i))]) C dX10_whole_5 (by decide) rfl ?_
  refine c_aloadr_n (j := 0) (r := f1) C dX10_whole_6 rfl ?_
  refine c_ifnull (r := f1) (tgt := 21) C dX10_whole_7 (by decide) (fun oq1 => ?_) (fun ob1 oq1 => ?_)
  · subst oq1
    refine c_lv (lv2 := [(2, .null), (0, .ref a0), (1, .int (iI i))]) [0, 1, 2] rfl ?_
    refine c_st (st2 := []) rfl ?_
    refine c_null C dX10_whole_21 ?_
    exact c_aret (x := none) C dX10_whole_22 rfl (Or.inl ⟨_, rfl⟩) (by decide) (rom0 hph hph (by decide)) ⟨none, rfl, rfl, rfl, rfl, rfl, rfl, (fun _ q => by cases q), (WOX.n1 (gf1.2 rfl))⟩
  · subst oq1
    refine hv2 (rgf1 ob1 rfl) (gf1.1 ob1 rfl) (fun tob1 akob1 => ?_)
    refine c_lv (lv2 := [(2, .ref ob1), (0, .ref a0), (1, .int (iI i))]) [0, 1, 2] rfl ?_
    refine c_st (st2 := []) rfl ?_
    refine c_aload_n (j := 0) (x := ob1) C dX10_whole_10 rfl ?_
    refine d_callV (As := []) (rest := []) C hM (G_tisWhole (a0 := ob1) hW hS tob1  ) dX10_whole_11 kV_X10_39 rfl tob1 rfl rfl (by decide) ck_10 rfl (Nat.le_of_ble_eq_true rfl) ⟨(Nat.le_of_ble_eq_true rfl), (Nat.le_of_ble_eq_true rfl)⟩ hph hph (show 0 + 0 = 0 from rfl) (by decide) (fun rh2 Lh2 clh2 lnh2 ivh2 rvh2 h2 => ?_)
    obtain ⟨f2, rfl, rfl, rfl, rfl, rfl, rfl, rgf2, exf2⟩ := h2
    refine c_st (st2 := [.int (iI f2)]) rfl ?_
    have gf2 : TWX sk ln iv rv ob1 f2 := exf2
    refine c_if_eq (tgt := 21) C ⟨by omega, by omega⟩ dX10_whole_14 (by decide) (fun c1 => ?_) (fun c1 => ?_)
    · refine c_null C dX10_whole_21 ?_
      exact c_aret (x := none) C dX10_whole_22 rfl (Or.inl ⟨_, rfl⟩) (by decide) (rom0 hph hph (by decide)) ⟨none, rfl, rfl, rfl, rfl, rfl, rfl, (fun _ q => by cases q), (WOX.n2 akob1.2 gf2 (by omega))⟩
    · refine c_aload_n (j := 0) (x := ob1) C dX10_whole_17 rfl ?_
      refine c_goto (tgt := 22) C dX10_whole_18 (by decide) ?_
      exact c_aret (x := some ob1) C dX10_whole_22 rfl (Or.inl ⟨_, rfl⟩) (by decide) (rom0 hph hph (by decide)) ⟨(some ob1), rfl, rfl, rfl, rfl, rfl, rfl, (fun _ q => by cases q; exact tob1), (WOX.ys akob1.2 gf2 (by omega))⟩
set_option maxHeartbeats 4000000 in
set_option maxRecDepth 100000 in
theorem G_addInd_24 {l : Launch} {G : GT} {mi : Nat} {sk : Nat → Nat} {L : List Nat} {cl ln : Nat → Nat} {iv : Nat → Nat → Int} {rv : Nat → Nat → Option Nat}  {a0 : Nat} {r : Option Nat} (hW : WT (g0 G) sk L cl ln iv rv) (hS : SKL sk L cl) (t_a0 : ty L cl a0 24) (t_r : ∀ b, r = some b → ty L cl b 20) (hn : iv a0 2 < 6003) : Mc l G mi (Phi (g0 G) sk) PHM yX3_addIndicator cX3_addIndicator 2 none 7 [.ref a0, va_rf r] L cl ln iv rv 0 (fun v L2 cl2 ln2 iv2 rv2 => v = none ∧ XT L cl ln L2 cl2 ln2 ∧ fT [24, 1002] L cl iv rv iv2 rv2 ∧ WT (g0 G) sk L2 cl2 ln2 iv2 rv2 ∧ (iv a0 2 ≤ iv2 a0 2 ∧ iv2 a0 2 ≤ iv a0 2 + 1) ∧ (LAD a0 r iv rv iv2 rv2)) := by
  refine Mc.mk (by decide) (by cases r <;> exact Nat.le_of_ble_eq_true rfl) ?_
  intro p e s m args below meth c A C hM
  have hph := Phi.le hW hS
  refine c_lveq (show lv_args 0 [.ref a0, va_rf r] = [(0, .ref a0), (1, (va_rf r))] from by cases r <;> rfl) ?_
  refine hv3 (show 0 ≤ iv a0 2 from (hW.int t_a0 2).1) (show XT L cl ln L cl ln from XT.refl) (show fT [24, 1002] L cl iv rv iv rv from fT.refl) (fun hb0 hX0 hF0 => ?_)
  refine c_aloadr_n (j := 1) (r := r) C dX3_addIndicator_0 rfl ?_
  refine c_ifnull (r := r) (tgt := 10) C dX3_addIndicator_1 (by decide) (fun oq1 => ?_) (fun ob1 oq1 => ?_)
  · subst oq1
    refine c_lv (lv2 := [(0, .ref a0), (1, .null)]) [0, 1] rfl ?_
    refine c_st (st2 := []) rfl ?_
    have ri1 : 0 ≤ iv a0 2 ∧ iv a0 2 ≤ 6003 := hW.int t_a0 2
    exact c_vret C dX3_addIndicator_10 rfl (by decide) (rom0 hph hph (by decide)) ⟨rfl, hX0, hF0, hW, (by omega), (Or.inl ⟨rfl, rfl, fun _ _ => rfl⟩)⟩
  · subst oq1
    have tob1 := t_r ob1 rfl
    refine c_lv (lv2 := [(0, .ref a0), (1, .ref ob1)]) [0, 1] rfl ?_
    refine c_st (st2 := []) rfl ?_
    refine c_aload_n (j := 0) (x := a0) C dX3_addIndicator_4 rfl ?_
    refine c_aload_n (j := 1) (x := ob1) C dX3_addIndicator_5 rfl ?_
    have ri2 : 0 ≤ iv a0 2 ∧ iv a0 2 ≤ 6003 := hW.int t_a0 2
    refine d_callV (As := [.ref ob1]) (rest := []) C hM (C_add_24 (a0 := a0) (x := ob1) hW hS t_a0 tob1  (by show iv a0 2 < 6003; omega)) dX3_addIndicator_6 kV_X3_97 rfl t_a0 rfl rfl (by decide) ck_0 rfl (Nat.le_of_ble_eq_true rfl) ⟨(Nat.le_of_ble_eq_true rfl), (Nat.le_of_ble_eq_true rfl)⟩ hph hph (show 0 + 0 = 0 from rfl) (by decide) (fun rh1 Lh1 clh1 lnh1 ivh1 rvh1 h1 => ?_)
    obtain ⟨f1, rfl, xl1, fl1, W1, rgf1, exf1⟩ := h1
    refine hv3 (hF0.call hX0 fl1 rfl) (hX0.trans xl1) (xl1.skl hS) (fun F1 X1 sk1 => ?_)
    refine c_st (st2 := [.int (iI f1)]) rfl ?_
    refine hv2 (xl1.ty t_a0) (show ivh1 a0 2 = iv a0 2 + 1 ∧ el rvh1 a0 (iv a0 2).toNat = some ob1 ∧ ∀ i : Nat, (i : Int) < iv a0 2 → el rvh1 a0 i = el rv a0 i from exf1) (fun ty1 gf1 => ?_)
    have ri3 : 0 ≤ ivh1 a0 2 ∧ ivh1 a0 2 ≤ 6003 := W1.int ty1 2
    refine c_pop C dX3_addIndicator_9 rfl ?_
    have pl1 := Phi.le W1 sk1
    exact c_vret C dX3_addIndicator_10 rfl (by decide) (rom0 hph pl1 (by decide)) ⟨rfl, X1, F1, W1, (by omega), (Or.inr ⟨ob1, rfl, gf1⟩)⟩
set_option maxHeartbeats 4000000 in
set_option maxRecDepth 100000 in
theorem G_gatherPart_24 {l : Launch} {G : GT} {mi : Nat} {sk : Nat → Nat} {L : List Nat} {cl ln : Nat → Nat} {iv : Nat → Nat → Int} {rv : Nat → Nat → Option Nat}  {a0 : Nat} {a1 : Nat} (hW : WT (g0 G) sk L cl ln iv rv) (hS : SKL sk L cl) (t_a0 : ty L cl a0 24) (t_a1 : ty L cl a1 100) (hn : iv a0 2 = 0) : Mc l G mi (Phi (g0 G) sk) PHM yX3_gatherPart cX3_gatherPart 4 none 8 [.ref a0, .ref a1] L cl ln iv rv 0 (fun v L2 cl2 ln2 iv2 rv2 => v = none ∧ XT L cl ln L2 cl2 ln2 ∧ fT [24, 1002] L cl iv rv iv2 rv2 ∧ WT (g0 G) sk L2 cl2 ln2 iv2 rv2 ∧ (iv2 a0 2 ≤ 6002) ∧ (GLQ sk ln iv rv a1 L2 cl2 ln2 iv2 rv2 a0 rws1)) := by
  refine Mc.mk (by decide) (Nat.le_of_ble_eq_true rfl) ?_
  intro p e s m args below meth c A C hM
  refine hv3 (Phi.le hW hS) (show XT L cl ln L cl ln from XT.refl) (show fT [24, 1002] L cl iv rv iv rv from fT.refl) (fun hph hX0 hF0 => ?_)
  refine c_aload_n (j := 1) (x := a1) C dX3_gatherPart_0 rfl ?_
  refine c_ifnonnull (r := (some a1)) (tgt := 5) C dX3_gatherPart_1 (by decide) (fun _ _ => ?_) (fun q => by cases q)
  refine c_aload_n (j := 1) (x := a1) C dX3_gatherPart_5 rfl ?_
  refine c_astore_n (lv2 := [(2, .ref a1), (0, .ref a0), (1, .ref a1)]) C dX3_gatherPart_6 (by decide) rfl ?_
  have Lp1 : ∀ (nn : Nat) (tq : Option Nat) (rk : Int) (Lb1 : List Nat) (clb1 lnb1 : Nat → Nat) (ivb1 : Nat → Nat → Int) (rvb1 : Nat → Nat → Option Nat) , rk - 99 < (nn : Int) → XT L cl ln Lb1 clb1 lnb1 → WT (g0 G) sk Lb1 clb1 lnb1 ivb1 rvb1 → fT [24, 1002] L cl iv rv ivb1 rvb1 → (∀ b, tq = some b → ty Lb1 clb1 b 100) → (99 ≤ rk ∧ rk ≤ 129) → (ivb1 a0 2 ≤ 200 * (129 - rk)) → (∀ b, tq = some b → ((clb1 b : Nat) : Int) ≤ rk) → (GP7 sk ln iv rv a1 Lb1 clb1 lnb1 ivb1 rvb1 a0 tq) → cw p l e 8 ((PHM) + 0 - ((Phi (g0 G) sk) ln rv)) s m args below meth c G A 4 (MQ below (Qu G A (Qp G (Phi (g0 G) sk) ((Phi (g0 G) sk) ln rv) 0 (fun v L2 cl2 ln2 iv2 rv2 => v = none ∧ XT L cl ln L2 cl2 ln2 ∧ fT [24, 1002] L cl iv rv iv2 rv2 ∧ WT (g0 G) sk L2 cl2 ln2 iv2 rv2 ∧ (iv2 a0 2 ≤ 6002) ∧ (GLQ sk ln iv rv a1 L2 cl2 ln2 iv2 rv2 a0 rws1)))) args s (((PHM) + 0 - ((Phi (g0 G) sk) ln rv)) / 16) ((PHM) + 0 - ((Phi (g0 G) sk) ln rv)) A) (Phi (g0 G) sk) ((Phi (g0 G) sk) ln rv) Lb1 clb1 lnb1 ivb1 rvb1 0 7 [(2, (va_rf tq)), (0, .ref a0), (1, .ref a1)] [] := by
    intro nn
    induction nn with
    | zero =>
      intro tq rk Lb1 clb1 lnb1 ivb1 rvb1 hm Xb1 Wb1 Fb1 ty_tq h99 hsz hrk hG7
      have skb1 := Xb1.skl hS
      exact absurd hm (by omega)
    | succ nn ih1 =>
      intro tq rk Lb1 clb1 lnb1 ivb1 rvb1 hm Xb1 Wb1 Fb1 ty_tq h99 hsz hrk hG7
      have skb1 := Xb1.skl hS
      refine c_aloadr_n (j := 0) (r := tq) C dX3_gatherPart_7 rfl ?_
      refine c_ifnull (r := tq) (tgt := 54) C dX3_gatherPart_8 (by decide) (fun oq1 => ?_) (fun ob1 oq1 => ?_)
      · subst oq1
        refine c_lv (lv2 := [(2, .null), (0, .ref a0), (1, .ref a1)]) [0, 1, 2] rfl ?_
        refine c_st (st2 := []) rfl ?_
        refine c_aload_n (j := 1) (x := a0) C dX3_gatherPart_54 rfl ?_
        refine c_aload_n (j := 2) (x := a1) C dX3_gatherPart_55 rfl ?_
        have ty1 := Xb1.ty t_a1
        obtain ⟨rb1, rq1, trb1⟩ := Wb1.ref ty1 6 rfl rfl rfl
        have lnrb1 : 4 ≤ lnb1 rb1 ∧ lnb1 rb1 ≤ 4 := Wb1.len trb1 rfl
        refine c_getr (k := 6) C ck_10 dX3_gatherPart_56 w2_193 (by decide) ty1 rfl rfl (by decide) rfl rq1 ?_
        refine c_st (st2 := [.ref rb1, .ref a0]) rfl ?_
        refine c_iconst C dX3_gatherPart_59 ?_
        have ll1 : 4 ≤ lnb1 rb1 ∧ lnb1 rb1 ≤ 4 := Wb1.len trb1 rfl
        rcases Wb1.opt trb1 ((0 : Int).toNat) rfl rfl with ⟨nq1, _⟩ | ⟨nb1, nq1, tnb1⟩
        · refine c_aaldR C dX3_gatherPart_60 trb1 rfl (by omega) (by omega) (by omega) nq1 ?_
          refine c_st (st2 := [.null, .ref a0]) rfl ?_
          refine hv2 (Xb1.ty t_a0) (Phi.le Wb1 skb1) (fun ty2 pl1 => ?_)
          have ri1 : 0 ≤ ivb1 a0 2 ∧ ivb1 a0 2 ≤ 6003 := Wb1.int ty2 2
          refine d_callS (As := [.ref a0, .null]) (rest := []) C hM (G_addInd_24 (a0 := a0) (r := none) Wb1 skb1 ty2 (fun _ q => by cases q)  (by show ivb1 a0 2 < 6003; omega)) dX3_gatherPart_61 kS_X3_67 rfl rfl (Nat.le_of_ble_eq_true rfl) ⟨(Nat.le_of_ble_eq_true rfl), (Nat.le_of_ble_eq_true rfl)⟩ hph pl1 (show 0 + 0 = 0 from rfl) (by decide) (fun rh1 Lh1 clh1 lnh1 ivh1 rvh1 h1 => ?_)
          obtain ⟨rfl, xl1, fl1, W1, exf1, ladf1⟩ := h1
          refine hv3 (Fb1.call Xb1 fl1 rfl) (Xb1.trans xl1) (xl1.skl skb1) (fun F1 X1 sk1 => ?_)
          refine c_st (st2 := []) rfl ?_
          refine hv2 (xl1.ty ty2) (show ivb1 a0 2 ≤ ivh1 a0 2 ∧ ivh1 a0 2 ≤ ivb1 a0 2 + 1 from exf1) (fun ty3 gf1 => ?_)
          have ri2 : 0 ≤ ivh1 a0 2 ∧ ivh1 a0 2 ≤ 6003 := W1.int ty3 2
          refine c_aload_n (j := 1) (x := a0) C dX3_gatherPart_64 rfl ?_
          refine c_aload_n (j := 2) (x := a1) C dX3_gatherPart_65 rfl ?_
          refine hv2 (xl1.ty ty1) (show rvh1 a1 6 = rvb1 a1 6 from (fl1.r ty1 rfl 6)) (fun ty4 re1 => ?_)
          rw [rq1] at re1
          refine c_getr (k := 6) C ck_10 dX3_gatherPart_66 w2_193 (by decide) ty4 rfl rfl (by decide) rfl re1 ?_
          refine c_st (st2 := [.ref rb1, .ref a0]) rfl ?_
          refine c_iconst C dX3_gatherPart_69 ?_
          have ty5 := xl1.ty trb1
          have ll2 : 4 ≤ lnh1 rb1 ∧ lnh1 rb1 ≤ 4 := W1.len ty5 rfl
          rcases W1.opt ty5 ((1 : Int).toNat) rfl rfl with ⟨nq2, _⟩ | ⟨nb2, nq2, tnb2⟩
          · refine c_aaldR C dX3_gatherPart_70 ty5 rfl (by omega) (by omega) (by omega) nq2 ?_
            refine c_st (st2 := [.null, .ref a0]) rfl ?_
            have pl2 := Phi.le W1 sk1
            refine d_callS (As := [.ref a0, .null]) (rest := []) C hM (G_addInd_24 (a0 := a0) (r := none) W1 sk1 ty3 (fun _ q => by cases q)  (by show ivh1 a0 2 < 6003; omega)) dX3_gatherPart_71 kS_X3_67 rfl rfl (Nat.le_of_ble_eq_true rfl) ⟨(Nat.le_of_ble_eq_true rfl), (Nat.le_of_ble_eq_true rfl)⟩ hph pl2 (show 0 + 0 = 0 from rfl) (by decide) (fun rh2 Lh2 clh2 lnh2 ivh2 rvh2 h2 => ?_)
            obtain ⟨rfl, xl2, fl2, W2, exf2, ladf2⟩ := h2
            refine hv3 (F1.call X1 fl2 rfl) (X1.trans xl2) (xl2.skl sk1) (fun F2 X2 sk2 => ?_)
            refine c_st (st2 := []) rfl ?_
            refine hv3 (xl2.ty ty3) (show ivh1 a0 2 ≤ ivh2 a0 2 ∧ ivh2 a0 2 ≤ ivh1 a0 2 + 1 from exf2) (Phi.le W2 sk2) (fun ty6 gf2 pl3 => ?_)
            have ri3 : 0 ≤ ivh2 a0 2 ∧ ivh2 a0 2 ≤ 6003 := W2.int ty6 2
            exact c_vret C dX3_gatherPart_74 rfl (by decide) (rom0 hph pl3 (by decide)) ⟨rfl, X2, F2, W2, (by omega), (GLQ.rws (GLQ.ind (j := 1) (GLQ.ind (j := 0) (GP7.done hG7 (QT.of hW hS Xb1 Fb1 rfl rfl rfl rfl rfl)) (QT.of hW hS Xb1 Fb1 rfl rfl rfl rfl rfl) (QT.of Wb1 skb1 xl1 fl1 rfl rfl rfl rfl rfl) trb1 rq1 nq1 ladf1 (by decide)) (QT.of hW hS X1 F1 rfl rfl rfl rfl rfl) (QT.of W1 sk1 xl2 fl2 rfl rfl rfl rfl rfl) ty5 re1 nq2 ladf2 (by decide)))⟩
          · have tnb2 : ty Lh1 clh1 nb2 20 := tnb2
            refine c_aaldR C dX3_gatherPart_70 ty5 rfl (by omega) (by omega) (by omega) nq2 ?_
            refine c_st (st2 := [.ref nb2, .ref a0]) rfl ?_
            have pl4 := Phi.le W1 sk1
            refine d_callS (As := [.ref a0, .ref nb2]) (rest := []) C hM (G_addInd_24 (a0 := a0) (r := (some nb2)) W1 sk1 ty3 (fun _ q => by cases q; exact tnb2)  (by show ivh1 a0 2 < 6003; omega)) dX3_gatherPart_71 kS_X3_67 rfl rfl (Nat.le_of_ble_eq_true rfl) ⟨(Nat.le_of_ble_eq_true rfl), (Nat.le_of_ble_eq_true rfl)⟩ hph pl4 (show 0 + 0 = 0 from rfl) (by decide) (fun rh3 Lh3 clh3 lnh3 ivh3 rvh3 h3 => ?_)
            obtain ⟨rfl, xl3, fl3, W3, exf3, ladf3⟩ := h3
            refine hv3 (F1.call X1 fl3 rfl) (X1.trans xl3) (xl3.skl sk1) (fun F3 X3 sk3 => ?_)
            refine c_st (st2 := []) rfl ?_
            refine hv3 (xl3.ty ty3) (show ivh1 a0 2 ≤ ivh3 a0 2 ∧ ivh3 a0 2 ≤ ivh1 a0 2 + 1 from exf3) (Phi.le W3 sk3) (fun ty7 gf3 pl5 => ?_)
            have ri4 : 0 ≤ ivh3 a0 2 ∧ ivh3 a0 2 ≤ 6003 := W3.int ty7 2
            exact c_vret C dX3_gatherPart_74 rfl (by decide) (rom0 hph pl5 (by decide)) ⟨rfl, X3, F3, W3, (by omega), (GLQ.rws (GLQ.ind (j := 1) (GLQ.ind (j := 0) (GP7.done hG7 (QT.of hW hS Xb1 Fb1 rfl rfl rfl rfl rfl)) (QT.of hW hS Xb1 Fb1 rfl rfl rfl rfl rfl) (QT.of Wb1 skb1 xl1 fl1 rfl rfl rfl rfl rfl) trb1 rq1 nq1 ladf1 (by decide)) (QT.of hW hS X1 F1 rfl rfl rfl rfl rfl) (QT.of W1 sk1 xl3 fl3 rfl rfl rfl rfl rfl) ty5 re1 nq2 ladf3 (by decide)))⟩
        · have tnb1 : ty Lb1 clb1 nb1 20 := tnb1
          refine c_aaldR C dX3_gatherPart_60 trb1 rfl (by omega) (by omega) (by omega) nq1 ?_
          refine c_st (st2 := [.ref nb1, .ref a0]) rfl ?_
          refine hv2 (Xb1.ty t_a0) (Phi.le Wb1 skb1) (fun ty8 pl6 => ?_)
          have ri5 : 0 ≤ ivb1 a0 2 ∧ ivb1 a0 2 ≤ 6003 := Wb1.int ty8 2
          refine d_callS (As := [.ref a0, .ref nb1]) (rest := []) C hM (G_addInd_24 (a0 := a0) (r := (some nb1)) Wb1 skb1 ty8 (fun _ q => by cases q; exact tnb1)  (by show ivb1 a0 2 < 6003; omega)) dX3_gatherPart_61 kS_X3_67 rfl rfl (Nat.le_of_ble_eq_true rfl) ⟨(Nat.le_of_ble_eq_true rfl), (Nat.le_of_ble_eq_true rfl)⟩ hph pl6 (show 0 + 0 = 0 from rfl) (by decide) (fun rh4 Lh4 clh4 lnh4 ivh4 rvh4 h4 => ?_)
          obtain ⟨rfl, xl4, fl4, W4, exf4, ladf4⟩ := h4
          refine hv3 (Fb1.call Xb1 fl4 rfl) (Xb1.trans xl4) (xl4.skl skb1) (fun F4 X4 sk4 => ?_)
          refine c_st (st2 := []) rfl ?_
          refine hv2 (xl4.ty ty8) (show ivb1 a0 2 ≤ ivh4 a0 2 ∧ ivh4 a0 2 ≤ ivb1 a0 2 + 1 from exf4) (fun ty9 gf4 => ?_)
          have ri6 : 0 ≤ ivh4 a0 2 ∧ ivh4 a0 2 ≤ 6003 := W4.int ty9 2
          refine c_aload_n (j := 1) (x := a0) C dX3_gatherPart_64 rfl ?_
          refine c_aload_n (j := 2) (x := a1) C dX3_gatherPart_65 rfl ?_
          refine hv2 (xl4.ty ty1) (show rvh4 a1 6 = rvb1 a1 6 from (fl4.r ty1 rfl 6)) (fun ty10 re2 => ?_)
          rw [rq1] at re2
          refine c_getr (k := 6) C ck_10 dX3_gatherPart_66 w2_193 (by decide) ty10 rfl rfl (by decide) rfl re2 ?_
          refine c_st (st2 := [.ref rb1, .ref a0]) rfl ?_
          refine c_iconst C dX3_gatherPart_69 ?_
          have ty11 := xl4.ty trb1
          have ll3 : 4 ≤ lnh4 rb1 ∧ lnh4 rb1 ≤ 4 := W4.len ty11 rfl
          rcases W4.opt ty11 ((1 : Int).toNat) rfl rfl with ⟨nq3, _⟩ | ⟨nb3, nq3, tnb3⟩
          · refine c_aaldR C dX3_gatherPart_70 ty11 rfl (by omega) (by omega) (by omega) nq3 ?_
            refine c_st (st2 := [.null, .ref a0]) rfl ?_
            have pl7 := Phi.le W4 sk4
            refine d_callS (As := [.ref a0, .null]) (rest := []) C hM (G_addInd_24 (a0 := a0) (r := none) W4 sk4 ty9 (fun _ q => by cases q)  (by show ivh4 a0 2 < 6003; omega)) dX3_gatherPart_71 kS_X3_67 rfl rfl (Nat.le_of_ble_eq_true rfl) ⟨(Nat.le_of_ble_eq_true rfl), (Nat.le_of_ble_eq_true rfl)⟩ hph pl7 (show 0 + 0 = 0 from rfl) (by decide) (fun rh5 Lh5 clh5 lnh5 ivh5 rvh5 h5 => ?_)
            obtain ⟨rfl, xl5, fl5, W5, exf5, ladf5⟩ := h5
            refine hv4 (F4.call X4 fl5 rfl) (xl4.ty tnb1) (X4.trans xl5) (xl5.skl sk4) (fun F5 ty12 X5 sk5 => ?_)
            refine c_st (st2 := []) rfl ?_
            refine hv3 (xl5.ty ty9) (show ivh4 a0 2 ≤ ivh5 a0 2 ∧ ivh5 a0 2 ≤ ivh4 a0 2 + 1 from exf5) (Phi.le W5 sk5) (fun ty13 gf5 pl8 => ?_)
            have ri7 : 0 ≤ ivh5 a0 2 ∧ ivh5 a0 2 ≤ 6003 := W5.int ty13 2
            exact c_vret C dX3_gatherPart_74 rfl (by decide) (rom0 hph pl8 (by decide)) ⟨rfl, X5, F5, W5, (by omega), (GLQ.rws (GLQ.ind (j := 1) (GLQ.ind (j := 0) (GP7.done hG7 (QT.of hW hS Xb1 Fb1 rfl rfl rfl rfl rfl)) (QT.of hW hS Xb1 Fb1 rfl rfl rfl rfl rfl) (QT.of Wb1 skb1 xl4 fl4 rfl rfl rfl rfl rfl) trb1 rq1 nq1 ladf4 (by decide)) (QT.of hW hS X4 F4 rfl rfl rfl rfl rfl) (QT.of W4 sk4 xl5 fl5 rfl rfl rfl rfl rfl) ty11 re2 nq3 ladf5 (by decide)))⟩
          · have tnb3 : ty Lh4 clh4 nb3 20 := tnb3
            refine c_aaldR C dX3_gatherPart_70 ty11 rfl (by omega) (by omega) (by omega) nq3 ?_
            refine c_st (st2 := [.ref nb3, .ref a0]) rfl ?_
            have pl9 := Phi.le W4 sk4
            refine d_callS (As := [.ref a0, .ref nb3]) (rest := []) C hM (G_addInd_24 (a0 := a0) (r := (some nb3)) W4 sk4 ty9 (fun _ q => by cases q; exact tnb3)  (by show ivh4 a0 2 < 6003; omega)) dX3_gatherPart_71 kS_X3_67 rfl rfl (Nat.le_of_ble_eq_true rfl) ⟨(Nat.le_of_ble_eq_true rfl), (Nat.le_of_ble_eq_true rfl)⟩ hph pl9 (show 0 + 0 = 0 from rfl) (by decide) (fun rh6 Lh6 clh6 lnh6 ivh6 rvh6 h6 => ?_)
            obtain ⟨rfl, xl6, fl6, W6, exf6, ladf6⟩ := h6
            refine hv4 (F4.call X4 fl6 rfl) (xl4.ty tnb1) (X4.trans xl6) (xl6.skl sk4) (fun F6 ty14 X6 sk6 => ?_)
            refine c_st (st2 := []) rfl ?_
            refine hv3 (xl6.ty ty9) (show ivh4 a0 2 ≤ ivh6 a0 2 ∧ ivh6 a0 2 ≤ ivh4 a0 2 + 1 from exf6) (Phi.le W6 sk6) (fun ty15 gf6 pl10 => ?_)
            have ri8 : 0 ≤ ivh6 a0 2 ∧ ivh6 a0 2 ≤ 6003 := W6.int ty15 2
            exact c_vret C dX3_gatherPart_74 rfl (by decide) (rom0 hph pl10 (by decide)) ⟨rfl, X6, F6, W6, (by omega), (GLQ.rws (GLQ.ind (j := 1) (GLQ.ind (j := 0) (GP7.done hG7 (QT.of hW hS Xb1 Fb1 rfl rfl rfl rfl rfl)) (QT.of hW hS Xb1 Fb1 rfl rfl rfl rfl rfl) (QT.of Wb1 skb1 xl4 fl4 rfl rfl rfl rfl rfl) trb1 rq1 nq1 ladf4 (by decide)) (QT.of hW hS X4 F4 rfl rfl rfl rfl rfl) (QT.of W4 sk4 xl6 fl6 rfl rfl rfl rfl rfl) ty11 re2 nq3 ladf6 (by decide)))⟩
      · subst oq1
        refine hv2 (ty_tq ob1 rfl) (hrk ob1 rfl) (fun tob1 hkob1 => ?_)
        have tgob1 := bt_100 tob1.2
        refine c_lv (lv2 := [(2, .ref ob1), (0, .ref a0), (1, .ref a1)]) [0, 1, 2] rfl ?_
        refine c_st (st2 := []) rfl ?_
        refine c_iconst C dX3_gatherPart_11 ?_
        refine c_istore_n (lv2 := [(3, .int (iI 0)), (2, .ref ob1), (0, .ref a0), (1, .ref a1)]) C dX3_gatherPart_12 (by decide) rfl ?_
        have Lp2 : ∀ (nn : Nat) (tr : Nat) (k : Int) (Lb2 : List Nat) (clb2 lnb2 : Nat → Nat) (ivb2 : Nat → Nat → Int) (rvb2 : Nat → Nat → Option Nat) , 201 - k < (nn : Int) → XT L cl ln Lb2 clb2 lnb2 → WT (g0 G) sk Lb2 clb2 lnb2 ivb2 rvb2 → fT [24, 1002] L cl iv rv ivb2 rvb2 → (ty Lb2 clb2 tr 100) → (0 ≤ k ∧ k ≤ 200) → (ivb2 a0 2 ≤ 200 * (129 - rk) + k) → (100 ≤ clb2 tr ∧ ((clb2 tr : Nat) : Int) ≤ rk) → (GP13 sk ln iv rv a1 Lb2 clb2 lnb2 ivb2 rvb2 a0 tr k) → cw p l e 8 ((PHM) + 0 - ((Phi (g0 G) sk) ln rv)) s m args below meth c G A 4 (MQ below (Qu G A (Qp G (Phi (g0 G) sk) ((Phi (g0 G) sk) ln rv) 0 (fun v L2 cl2 ln2 iv2 rv2 => v = none ∧ XT L cl ln L2 cl2 ln2 ∧ fT [24, 1002] L cl iv rv iv2 rv2 ∧ WT (g0 G) sk L2 cl2 ln2 iv2 rv2 ∧ (iv2 a0 2 ≤ 6002) ∧ (GLQ sk ln iv rv a1 L2 cl2 ln2 iv2 rv2 a0 rws1)))) args s (((PHM) + 0 - ((Phi (g0 G) sk) ln rv)) / 16) ((PHM) + 0 - ((Phi (g0 G) sk) ln rv)) A) (Phi (g0 G) sk) ((Phi (g0 G) sk) ln rv) Lb2 clb2 lnb2 ivb2 rvb2 0 13 [(2, .ref tr), (3, .int (iI k)), (0, .ref a0), (1, .ref a1)] [] := by
          intro nn
          induction nn with
          | zero =>
            intro tr k Lb2 clb2 lnb2 ivb2 rvb2 hm Xb2 Wb2 Fb2 ty_tr hk hs2 hcr hG13
            have skb2 := Xb2.skl hS
            exact absurd hm (by omega)
          | succ nn ih2 =>
            intro tr k Lb2 clb2 lnb2 ivb2 rvb2 hm Xb2 Wb2 Fb2 ty_tr hk hs2 hcr hG13
            have skb2 := Xb2.skl hS
            refine c_iload_n (j := 1) C dX3_gatherPart_13 rfl ?_
            refine c_aload_n (j := 0) (x := tr) C dX3_gatherPart_14 rfl ?_
            obtain ⟨rb2, rq2, trb2⟩ := Wb2.ref ty_tr 4 rfl rfl rfl
            refine c_getr (k := 4) C ck_10 dX3_gatherPart_15 w2_187 (by decide) ty_tr rfl rfl (by decide) rfl rq2 ?_
            refine c_st (st2 := [.ref rb2, .int (iI k)]) rfl ?_
            refine hv2 (show 0 ≤ ivb2 rb2 2 ∧ ivb2 rb2 2 ≤ 200 from Wb2.int trb2 2) (Phi.le Wb2 skb2) (fun ri9 pl11 => ?_)
            refine d_callV (As := []) (rest := [.int (iI k)]) C hM (C_size_26 (a0 := rb2) Wb2 skb2 trb2  ) dX3_gatherPart_18 kV_X3_78 rfl trb2 rfl rfl (by decide) ck_0 rfl (Nat.le_of_ble_eq_true rfl) ⟨(Nat.le_of_ble_eq_true rfl), (Nat.le_of_ble_eq_true rfl)⟩ hph pl11 (show 0 + 0 = 0 from rfl) (by decide) (fun rh7 Lh7 clh7 lnh7 ivh7 rvh7 h7 => ?_)
            obtain ⟨f7, rfl, rfl, rfl, rfl, rfl, rfl, rgf7, exf7⟩ := h7
            refine c_st (st2 := [.int (iI f7), .int (iI k)]) rfl ?_
            have gf7 : f7 = ivb2 rb2 2 := exf7
            refine c_icmp_ge (tgt := 46) C (r32_c (lo := 0) (hi := 200) hk.1 hk.2 (by decide) (by decide)) ⟨by omega, by omega⟩ dX3_gatherPart_21 (by decide) (fun c1 => ?_) (fun c1 => ?_)
            · refine c_aload_n (j := 0) (x := tr) C dX3_gatherPart_46 rfl ?_
              rcases Wb2.opt ty_tr 2 rfl rfl with ⟨nq4, _⟩ | ⟨nb4, nq4, tnb4⟩
              · refine c_getr (k := 2) C ck_10 dX3_gatherPart_47 w2_181 (by decide) ty_tr rfl rfl (by decide) rfl nq4 ?_
                refine c_st (st2 := [.null]) rfl ?_
                refine c_astorer_n (r := none) (lv2 := [(2, .null), (3, .int (iI k)), (0, .ref a0), (1, .ref a1)]) C dX3_gatherPart_50 (by decide) rfl ?_
                refine c_goto (tgt := 7) C dX3_gatherPart_51 (by decide) ?_
                have ty16 := Xb2.ty t_a0
                have ri10 : 0 ≤ ivb2 a0 2 ∧ ivb2 a0 2 ≤ 6003 := Wb2.int ty16 2
                refine c_lv (lv2 := [(2, .null), (0, .ref a0), (1, .ref a1)]) [0, 2, 3] rfl ?_
                exact ih1  none (rk - 1) _ _ _ _ _ (by omega) Xb2 Wb2 Fb2 (fun _ q => by cases q) (by omega) (by show ivb2 a0 2 ≤ 200 * (129 - (rk - 1)); omega) (fun _ q => by cases q) (GP13.fin hG13 (QT.of hW hS Xb2 Fb2 rfl rfl rfl rfl rfl) rq2 (by omega) nq4)
              · have rknb4 := Wb2.rank ty_tr (k := 2) (by decide) nq4
                refine c_getr (k := 2) C ck_10 dX3_gatherPart_47 w2_181 (by decide) ty_tr rfl rfl (by decide) rfl nq4 ?_
                refine c_st (st2 := [.ref nb4]) rfl ?_
                refine c_astore_n (lv2 := [(2, .ref nb4), (3, .int (iI k)), (0, .ref a0), (1, .ref a1)]) C dX3_gatherPart_50 (by decide) rfl ?_
                refine c_goto (tgt := 7) C dX3_gatherPart_51 (by decide) ?_
                refine hv2 (Xb2.ty t_a0) (bt_100 tnb4.2) (fun ty17 trnb4 => ?_)
                have ri11 : 0 ≤ ivb2 a0 2 ∧ ivb2 a0 2 ≤ 6003 := Wb2.int ty17 2
                refine c_lv (lv2 := [(2, .ref nb4), (0, .ref a0), (1, .ref a1)]) [0, 2, 3] rfl ?_
                exact ih1  (some nb4) (rk - 1) _ _ _ _ _ (by omega) Xb2 Wb2 Fb2 (fun _ q => by cases q; exact tnb4) (by omega) (by show ivb2 a0 2 ≤ 200 * (129 - (rk - 1)); omega) (fun _ q => by cases q; omega) (GP13.fin hG13 (QT.of hW hS Xb2 Fb2 rfl rfl rfl rfl rfl) rq2 (by omega) nq4)
            · refine c_aload_n (j := 2) (x := a0) C dX3_gatherPart_24 rfl ?_
              refine c_aload_n (j := 0) (x := tr) C dX3_gatherPart_25 rfl ?_
              refine c_getr (k := 4) C ck_10 dX3_gatherPart_26 w2_187 (by decide) ty_tr rfl rfl (by decide) rfl rq2 ?_
              refine c_st (st2 := [.ref rb2, .ref a0]) rfl ?_
              refine c_iload_n (j := 1) C dX3_gatherPart_29 rfl ?_
              refine d_callV (As := [.int (iI k)]) (rest := [.ref a0]) C hM (C_get_26 (a0 := rb2) (i := k) Wb2 skb2 trb2 (by omega) (by show 0 ≤ k ∧ k < ivb2 rb2 2; omega)) dX3_gatherPart_30 kV_X3_82 rfl trb2 rfl rfl (by decide) ck_0 rfl (Nat.le_of_ble_eq_true rfl) ⟨(Nat.le_of_ble_eq_true rfl), (Nat.le_of_ble_eq_true rfl)⟩ hph pl11 (show 0 + 0 = 0 from rfl) (by decide) (fun rh8 Lh8 clh8 lnh8 ivh8 rvh8 h8 => ?_)
              obtain ⟨f8, rfl, rfl, rfl, rfl, rfl, rfl, rgf8, exf8⟩ := h8
              refine c_st (st2 := [.ref f8, .ref a0]) rfl ?_
              have gf8 : el rvb2 rb2 k.toNat = some f8 := exf8
              refine c_cast C ck_6 dX3_gatherPart_33 w5_63 w8_169t rgf8 rfl rfl (by decide) ?_
              have ty18 := Xb2.ty t_a0
              have ri12 : 0 ≤ ivb2 a0 2 ∧ ivb2 a0 2 ≤ 6003 := Wb2.int ty18 2
              refine d_callV (As := [.ref f8]) (rest := []) C hM (C_add_24 (a0 := a0) (x := f8) Wb2 skb2 ty18 rgf8  (by show ivb2 a0 2 < 6003; omega)) dX3_gatherPart_36 kV_X3_97 rfl ty18 rfl rfl (by decide) ck_0 rfl (Nat.le_of_ble_eq_true rfl) ⟨(Nat.le_of_ble_eq_true rfl), (Nat.le_of_ble_eq_true rfl)⟩ hph pl11 (show 0 + 0 = 0 from rfl) (by decide) (fun rh9 Lh9 clh9 lnh9 ivh9 rvh9 h9 => ?_)
              obtain ⟨f9, rfl, xl9, fl9, W9, rgf9, exf9⟩ := h9
              refine hv4 (Fb2.call Xb2 fl9 rfl) (Xb2.ty t_a1) (Xb2.trans xl9) (xl9.skl skb2) (fun F7 ty19 X7 sk7 => ?_)
              refine c_st (st2 := [.int (iI f9)]) rfl ?_
              refine hv2 (xl9.ty ty18) (show ivh9 a0 2 = ivb2 a0 2 + 1 ∧ el rvh9 a0 (ivb2 a0 2).toNat = some f8 ∧ ∀ i : Nat, (i : Int) < ivb2 a0 2 → el rvh9 a0 i = el rvb2 a0 i from exf9) (fun ty20 gf9 => ?_)
              have ri13 : 0 ≤ ivh9 a0 2 ∧ ivh9 a0 2 ≤ 6003 := W9.int ty20 2
              refine c_pop C dX3_gatherPart_39 rfl ?_
              refine c_iinc (z := k) (j := 1) (lv2 := [(3, .int (iI (k + 1))), (2, .ref tr), (0, .ref a0), (1, .ref a1)]) C dX3_gatherPart_40 rfl (by decide) rfl ?_
              refine c_goto (tgt := 13) C dX3_gatherPart_43 (by decide) ?_
              refine hv2 (xl9.ty ty_tr) (show clh9 tr = clb2 tr from (xl9 tr ty_tr.1).2.1) (fun ty21 ce1 => ?_)
              refine c_lv (lv2 := [(2, .ref tr), (3, .int (iI (k + 1))), (0, .ref a0), (1, .ref a1)]) [1, 0, 2, 3] rfl ?_
              exact ih2  tr (k + 1) _ _ _ _ _ (by omega) X7 W9 F7 ty21 (by omega) (by show ivh9 a0 2 ≤ 200 * (129 - rk) + (k + 1); omega) (by show 100 ≤ clh9 tr ∧ ((clh9 tr : Nat) : Int) ≤ rk; omega) (GP13.step hG13 (QT.of hW hS Xb2 Fb2 rfl rfl rfl rfl rfl) (QT.of Wb2 skb2 xl9 fl9 rfl rfl rfl rfl rfl) ty_tr rq2 (by omega) exf8 gf9)
        have ty22 := Xb1.ty t_a0
        have ri14 : 0 ≤ ivb1 a0 2 ∧ ivb1 a0 2 ≤ 6003 := Wb1.int ty22 2
        refine c_lv (lv2 := [(2, .ref ob1), (3, .int (iI 0)), (0, .ref a0), (1, .ref a1)]) [1, 0, 2, 3] rfl ?_
        exact Lp2 203 ob1 0 _ _ _ _ _ (by omega) Xb1 Wb1 Fb1 tob1 (by omega) (by show ivb1 a0 2 ≤ 200 * (129 - rk) + 0; omega) (by show 100 ≤ clb1 ob1 ∧ ((clb1 ob1 : Nat) : Int) ≤ rk; omega) (GP7.start hG7 (QT.of hW hS Xb1 Fb1 rfl rfl rfl rfl rfl))
  have ri15 : 0 ≤ iv a0 2 ∧ iv a0 2 ≤ 6003 := hW.int t_a0 2
  refine c_lv (lv2 := [(2, .ref a1), (0, .ref a0), (1, .ref a1)]) [0, 1, 2] rfl ?_
  exact Lp1 31 (some a1) 129 _ _ _ _ _ (by omega) hX0 hW hF0 (fun _ q => by cases q; exact t_a1) (by omega) (by show iv a0 2 ≤ 200 * (129 - 129); omega) (fun _ q => by cases q; have q2 := bt_100 t_a1.2; omega) (GP7.init hn)
set_option maxHeartbeats 4000000 in
set_option maxRecDepth 100000 in
theorem G_addInd_25 {l : Launch} {G : GT} {mi : Nat} {sk : Nat → Nat} {L : List Nat} {cl ln : Nat → Nat} {iv : Nat → Nat → Int} {rv : Nat → Nat → Option Nat}  {a0 : Nat} {r : Option Nat} (hW : WT (g0 G) sk L cl ln iv rv) (hS : SKL sk L cl) (t_a0 : ty L cl a0 25) (t_r : ∀ b, r = some b → ty L cl b 20) (hn : iv a0 2 < 6003) : Mc l G mi (Phi (g0 G) sk) PHM yX3_addIndicator cX3_addIndicator 2 none 7 [.ref a0, va_rf r] L cl ln iv rv 0 (fun v L2 cl2 ln2 iv2 rv2 => v = none ∧ XT L cl ln L2 cl2 ln2 ∧ fT [25, 1003] L cl iv rv iv2 rv2 ∧ WT (g0 G) sk L2 cl2 ln2 iv2 rv2 ∧ (iv a0 2 ≤ iv2 a0 2 ∧ iv2 a0 2 ≤ iv a0 2 + 1) ∧ (LAD a0 r iv rv iv2 rv2)) := by
  refine Mc.mk (by decide) (by cases r <;> exact Nat.le_of_ble_eq_true rfl) ?_
  intro p e s m args below meth c A C hM
  have hph := Phi.le hW hS
  refine c_lveq (show lv_args 0 [.ref a0, va_rf r] = [(0, .ref a0), (1, (va_rf r))] from by cases r <;> rfl) ?_
  refine hv3 (show 0 ≤ iv a0 2 from (hW.int t_a0 2).1) (show XT L cl ln L cl ln from XT.refl) (show fT [25, 1003] L cl iv rv iv rv from fT.refl) (fun hb0 hX0 hF0 => ?_)
  refine c_aloadr_n (j := 1) (r := r) C dX3_addIndicator_0 rfl ?_
  refine c_ifnull (r := r) (tgt := 10) C dX3_addIndicator_1 (by decide) (fun oq1 => ?_) (fun ob1 oq1 => ?_)
  · subst oq1
    refine c_lv (lv2 := [(0, .ref a0), (1, .null)]) [0, 1] rfl ?_
    refine c_st (st2 := []) rfl ?_
    have ri1 : 0 ≤ iv a0 2 ∧ iv a0 2 ≤ 6003 := hW.int t_a0 2
    exact c_vret C dX3_addIndicator_10 rfl (by decide) (rom0 hph hph (by decide)) ⟨rfl, hX0, hF0, hW, (by omega), (Or.inl ⟨rfl, rfl, fun _ _ => rfl⟩)⟩
  · subst oq1
    have tob1 := t_r ob1 rfl
    refine c_lv (lv2 := [(0, .ref a0), (1, .ref ob1)]) [0, 1] rfl ?_
    refine c_st (st2 := []) rfl ?_
    refine c_aload_n (j := 0) (x := a0) C dX3_addIndicator_4 rfl ?_
    refine c_aload_n (j := 1) (x := ob1) C dX3_addIndicator_5 rfl ?_
    have ri2 : 0 ≤ iv a0 2 ∧ iv a0 2 ≤ 6003 := hW.int t_a0 2
    refine d_callV (As := [.ref ob1]) (rest := []) C hM (C_add_25 (a0 := a0) (x := ob1) hW hS t_a0 tob1  (by show iv a0 2 < 6003; omega)) dX3_addIndicator_6 kV_X3_97 rfl t_a0 rfl rfl (by decide) ck_0 rfl (Nat.le_of_ble_eq_true rfl) ⟨(Nat.le_of_ble_eq_true rfl), (Nat.le_of_ble_eq_true rfl)⟩ hph hph (show 0 + 0 = 0 from rfl) (by decide) (fun rh1 Lh1 clh1 lnh1 ivh1 rvh1 h1 => ?_)
    obtain ⟨f1, rfl, xl1, fl1, W1, rgf1, exf1⟩ := h1
    refine hv3 (hF0.call hX0 fl1 rfl) (hX0.trans xl1) (xl1.skl hS) (fun F1 X1 sk1 => ?_)
    refine c_st (st2 := [.int (iI f1)]) rfl ?_
    refine hv2 (xl1.ty t_a0) (show ivh1 a0 2 = iv a0 2 + 1 ∧ el rvh1 a0 (iv a0 2).toNat = some ob1 ∧ ∀ i : Nat, (i : Int) < iv a0 2 → el rvh1 a0 i = el rv a0 i from exf1) (fun ty1 gf1 => ?_)
    have ri3 : 0 ≤ ivh1 a0 2 ∧ ivh1 a0 2 ≤ 6003 := W1.int ty1 2
    refine c_pop C dX3_addIndicator_9 rfl ?_
    have pl1 := Phi.le W1 sk1
    exact c_vret C dX3_addIndicator_10 rfl (by decide) (rom0 hph pl1 (by decide)) ⟨rfl, X1, F1, W1, (by omega), (Or.inr ⟨ob1, rfl, gf1⟩)⟩
set_option maxHeartbeats 4000000 in
set_option maxRecDepth 100000 in
theorem G_gatherPart_25 {l : Launch} {G : GT} {mi : Nat} {sk : Nat → Nat} {L : List Nat} {cl ln : Nat → Nat} {iv : Nat → Nat → Int} {rv : Nat → Nat → Option Nat}  {a0 : Nat} {a1 : Nat} (hW : WT (g0 G) sk L cl ln iv rv) (hS : SKL sk L cl) (t_a0 : ty L cl a0 25) (t_a1 : ty L cl a1 100) (hn : iv a0 2 = 0) : Mc l G mi (Phi (g0 G) sk) PHM yX3_gatherPart cX3_gatherPart 4 none 8 [.ref a0, .ref a1] L cl ln iv rv 0 (fun v L2 cl2 ln2 iv2 rv2 => v = none ∧ XT L cl ln L2 cl2 ln2 ∧ fT [25, 1003] L cl iv rv iv2 rv2 ∧ WT (g0 G) sk L2 cl2 ln2 iv2 rv2 ∧ (iv2 a0 2 ≤ 6002) ∧ (GLQ sk ln iv rv a1 L2 cl2 ln2 iv2 rv2 a0 rws1)) := by
  refine Mc.mk (by decide) (Nat.le_of_ble_eq_true rfl) ?_
  intro p e s m args below meth c A C hM
  refine hv3 (Phi.le hW hS) (show XT L cl ln L cl ln from XT.refl) (show fT [25, 1003] L cl iv rv iv rv from fT.refl) (fun hph hX0 hF0 => ?_)
  refine c_aload_n (j := 1) (x := a1) C dX3_gatherPart_0 rfl ?_
  refine c_ifnonnull (r := (some a1)) (tgt := 5) C dX3_gatherPart_1 (by decide) (fun _ _ => ?_) (fun q => by cases q)
  refine c_aload_n (j := 1) (x := a1) C dX3_gatherPart_5 rfl ?_
  refine c_astore_n (lv2 := [(2, .ref a1), (0, .ref a0), (1, .ref a1)]) C dX3_gatherPart_6 (by decide) rfl ?_
  have Lp1 : ∀ (nn : Nat) (tq : Option Nat) (rk : Int) (Lb1 : List Nat) (clb1 lnb1 : Nat → Nat) (ivb1 : Nat → Nat → Int) (rvb1 : Nat → Nat → Option Nat) , rk - 99 < (nn : Int) → XT L cl ln Lb1 clb1 lnb1 → WT (g0 G) sk Lb1 clb1 lnb1 ivb1 rvb1 → fT [25, 1003] L cl iv rv ivb1 rvb1 → (∀ b, tq = some b → ty Lb1 clb1 b 100) → (99 ≤ rk ∧ rk ≤ 129) → (ivb1 a0 2 ≤ 200 * (129 - rk)) → (∀ b, tq = some b → ((clb1 b : Nat) : Int) ≤ rk) → (GP7 sk ln iv rv a1 Lb1 clb1 lnb1 ivb1 rvb1 a0 tq) → cw p l e 8 ((PHM) + 0 - ((Phi (g0 G) sk) ln rv)) s m args below meth c G A 4 (MQ below (Qu G A (Qp G (Phi (g0 G) sk) ((Phi (g0 G) sk) ln rv) 0 (fun v L2 cl2 ln2 iv2 rv2 => v = none ∧ XT L cl ln L2 cl2 ln2 ∧ fT [25, 1003] L cl iv rv iv2 rv2 ∧ WT (g0 G) sk L2 cl2 ln2 iv2 rv2 ∧ (iv2 a0 2 ≤ 6002) ∧ (GLQ sk ln iv rv a1 L2 cl2 ln2 iv2 rv2 a0 rws1)))) args s (((PHM) + 0 - ((Phi (g0 G) sk) ln rv)) / 16) ((PHM) + 0 - ((Phi (g0 G) sk) ln rv)) A) (Phi (g0 G) sk) ((Phi (g0 G) sk) ln rv) Lb1 clb1 lnb1 ivb1 rvb1 0 7 [(2, (va_rf tq)), (0, .ref a0), (1, .ref a1)] [] := by
    intro nn
    induction nn with
    | zero =>
      intro tq rk Lb1 clb1 lnb1 ivb1 rvb1 hm Xb1 Wb1 Fb1 ty_tq h99 hsz hrk hG7
      have skb1 := Xb1.skl hS
      exact absurd hm (by omega)
    | succ nn ih1 =>
      intro tq rk Lb1 clb1 lnb1 ivb1 rvb1 hm Xb1 Wb1 Fb1 ty_tq h99 hsz hrk hG7
      have skb1 := Xb1.skl hS
      refine c_aloadr_n (j := 0) (r := tq) C dX3_gatherPart_7 rfl ?_
      refine c_ifnull (r := tq) (tgt := 54) C dX3_gatherPart_8 (by decide) (fun oq1 => ?_) (fun ob1 oq1 => ?_)
      · subst oq1
        refine c_lv (lv2 := [(2, .null), (0, .ref a0), (1, .ref a1)]) [0, 1, 2] rfl ?_
        refine c_st (st2 := []) rfl ?_
        refine c_aload_n (j := 1) (x := a0) C dX3_gatherPart_54 rfl ?_
        refine c_aload_n (j := 2) (x := a1) C dX3_gatherPart_55 rfl ?_
        have ty1 := Xb1.ty t_a1
        obtain ⟨rb1, rq1, trb1⟩ := Wb1.ref ty1 6 rfl rfl rfl
        have lnrb1 : 4 ≤ lnb1 rb1 ∧ lnb1 rb1 ≤ 4 := Wb1.len trb1 rfl
        refine c_getr (k := 6) C ck_10 dX3_gatherPart_56 w2_193 (by decide) ty1 rfl rfl (by decide) rfl rq1 ?_
        refine c_st (st2 := [.ref rb1, .ref a0]) rfl ?_
        refine c_iconst C dX3_gatherPart_59 ?_
        have ll1 : 4 ≤ lnb1 rb1 ∧ lnb1 rb1 ≤ 4 := Wb1.len trb1 rfl
        rcases Wb1.opt trb1 ((0 : Int).toNat) rfl rfl with ⟨nq1, _⟩ | ⟨nb1, nq1, tnb1⟩
        · refine c_aaldR C dX3_gatherPart_60 trb1 rfl (by omega) (by omega) (by omega) nq1 ?_
          refine c_st (st2 := [.null, .ref a0]) rfl ?_
          refine hv2 (Xb1.ty t_a0) (Phi.le Wb1 skb1) (fun ty2 pl1 => ?_)
          have ri1 : 0 ≤ ivb1 a0 2 ∧ ivb1 a0 2 ≤ 6003 := Wb1.int ty2 2
          refine d_callS (As := [.ref a0, .null]) (rest := []) C hM (G_addInd_25 (a0 := a0) (r := none) Wb1 skb1 ty2 (fun _ q => by cases q)  (by show ivb1 a0 2 < 6003; omega)) dX3_gatherPart_61 kS_X3_67 rfl rfl (Nat.le_of_ble_eq_true rfl) ⟨(Nat.le_of_ble_eq_true rfl), (Nat.le_of_ble_eq_true rfl)⟩ hph pl1 (show 0 + 0 = 0 from rfl) (by decide) (fun rh1 Lh1 clh1 lnh1 ivh1 rvh1 h1 => ?_)
          obtain ⟨rfl, xl1, fl1, W1, exf1, ladf1⟩ := h1
          refine hv3 (Fb1.call Xb1 fl1 rfl) (Xb1.trans xl1) (xl1.skl skb1) (fun F1 X1 sk1 => ?_)
          refine c_st (st2 := []) rfl ?_
          refine hv2 (xl1.ty ty2) (show ivb1 a0 2 ≤ ivh1 a0 2 ∧ ivh1 a0 2 ≤ ivb1 a0 2 + 1 from exf1) (fun ty3 gf1 => ?_)
          have ri2 : 0 ≤ ivh1 a0 2 ∧ ivh1 a0 2 ≤ 6003 := W1.int ty3 2
          refine c_aload_n (j := 1) (x := a0) C dX3_gatherPart_64 rfl ?_
          refine c_aload_n (j := 2) (x := a1) C dX3_gatherPart_65 rfl ?_
          refine hv2 (xl1.ty ty1) (show rvh1 a1 6 = rvb1 a1 6 from (fl1.r ty1 rfl 6)) (fun ty4 re1 => ?_)
          rw [rq1] at re1
          refine c_getr (k := 6) C ck_10 dX3_gatherPart_66 w2_193 (by decide) ty4 rfl rfl (by decide) rfl re1 ?_
          refine c_st (st2 := [.ref rb1, .ref a0]) rfl ?_
          refine c_iconst C dX3_gatherPart_69 ?_
          have ty5 := xl1.ty trb1
          have ll2 : 4 ≤ lnh1 rb1 ∧ lnh1 rb1 ≤ 4 := W1.len ty5 rfl
          rcases W1.opt ty5 ((1 : Int).toNat) rfl rfl with ⟨nq2, _⟩ | ⟨nb2, nq2, tnb2⟩
          · refine c_aaldR C dX3_gatherPart_70 ty5 rfl (by omega) (by omega) (by omega) nq2 ?_
            refine c_st (st2 := [.null, .ref a0]) rfl ?_
            have pl2 := Phi.le W1 sk1
            refine d_callS (As := [.ref a0, .null]) (rest := []) C hM (G_addInd_25 (a0 := a0) (r := none) W1 sk1 ty3 (fun _ q => by cases q)  (by show ivh1 a0 2 < 6003; omega)) dX3_gatherPart_71 kS_X3_67 rfl rfl (Nat.le_of_ble_eq_true rfl) ⟨(Nat.le_of_ble_eq_true rfl), (Nat.le_of_ble_eq_true rfl)⟩ hph pl2 (show 0 + 0 = 0 from rfl) (by decide) (fun rh2 Lh2 clh2 lnh2 ivh2 rvh2 h2 => ?_)
            obtain ⟨rfl, xl2, fl2, W2, exf2, ladf2⟩ := h2
            refine hv3 (F1.call X1 fl2 rfl) (X1.trans xl2) (xl2.skl sk1) (fun F2 X2 sk2 => ?_)
            refine c_st (st2 := []) rfl ?_
            refine hv3 (xl2.ty ty3) (show ivh1 a0 2 ≤ ivh2 a0 2 ∧ ivh2 a0 2 ≤ ivh1 a0 2 + 1 from exf2) (Phi.le W2 sk2) (fun ty6 gf2 pl3 => ?_)
            have ri3 : 0 ≤ ivh2 a0 2 ∧ ivh2 a0 2 ≤ 6003 := W2.int ty6 2
            exact c_vret C dX3_gatherPart_74 rfl (by decide) (rom0 hph pl3 (by decide)) ⟨rfl, X2, F2, W2, (by omega), (GLQ.rws (GLQ.ind (j := 1) (GLQ.ind (j := 0) (GP7.done hG7 (QT.of hW hS Xb1 Fb1 rfl rfl rfl rfl rfl)) (QT.of hW hS Xb1 Fb1 rfl rfl rfl rfl rfl) (QT.of Wb1 skb1 xl1 fl1 rfl rfl rfl rfl rfl) trb1 rq1 nq1 ladf1 (by decide)) (QT.of hW hS X1 F1 rfl rfl rfl rfl rfl) (QT.of W1 sk1 xl2 fl2 rfl rfl rfl rfl rfl) ty5 re1 nq2 ladf2 (by decide)))⟩
          · have tnb2 : ty Lh1 clh1 nb2 20 := tnb2
            refine c_aaldR C dX3_gatherPart_70 ty5 rfl (by omega) (by omega) (by omega) nq2 ?_
            refine c_st (st2 := [.ref nb2, .ref a0]) rfl ?_
            have pl4 := Phi.le W1 sk1
            refine d_callS (As := [.ref a0, .ref nb2]) (rest := []) C hM (G_addInd_25 (a0 := a0) (r := (some nb2)) W1 sk1 ty3 (fun _ q => by cases q; exact tnb2)  (by show ivh1 a0 2 < 6003; omega)) dX3_gatherPart_71 kS_X3_67 rfl rfl (Nat.le_of_ble_eq_true rfl) ⟨(Nat.le_of_ble_eq_true rfl), (Nat.le_of_ble_eq_true rfl)⟩ hph pl4 (show 0 + 0 = 0 from rfl) (by decide) (fun rh3 Lh3 clh3 lnh3 ivh3 rvh3 h3 => ?_)
            obtain ⟨rfl, xl3, fl3, W3, exf3, ladf3⟩ := h3
            refine hv3 (F1.call X1 fl3 rfl) (X1.trans xl3) (xl3.skl sk1) (fun F3 X3 sk3 => ?_)
            refine c_st (st2 := []) rfl ?_
            refine hv3 (xl3.ty ty3) (show ivh1 a0 2 ≤ ivh3 a0 2 ∧ ivh3 a0 2 ≤ ivh1 a0 2 + 1 from exf3) (Phi.le W3 sk3) (fun ty7 gf3 pl5 => ?_)
            have ri4 : 0 ≤ ivh3 a0 2 ∧ ivh3 a0 2 ≤ 6003 := W3.int ty7 2
            exact c_vret C dX3_gatherPart_74 rfl (by decide) (rom0 hph pl5 (by decide)) ⟨rfl, X3, F3, W3, (by omega), (GLQ.rws (GLQ.ind (j := 1) (GLQ.ind (j := 0) (GP7.done hG7 (QT.of hW hS Xb1 Fb1 rfl rfl rfl rfl rfl)) (QT.of hW hS Xb1 Fb1 rfl rfl rfl rfl rfl) (QT.of Wb1 skb1 xl1 fl1 rfl rfl rfl rfl rfl) trb1 rq1 nq1 ladf1 (by decide)) (QT.of hW hS X1 F1 rfl rfl rfl rfl rfl) (QT.of W1 sk1 xl3 fl3 rfl rfl rfl rfl rfl) ty5 re1 nq2 ladf3 (by decide)))⟩
        · have tnb1 : ty Lb1 clb1 nb1 20 := tnb1
          refine c_aaldR C dX3_gatherPart_60 trb1 rfl (by omega) (by omega) (by omega) nq1 ?_
          refine c_st (st2 := [.ref nb1, .ref a0]) rfl ?_
          refine hv2 (Xb1.ty t_a0) (Phi.le Wb1 skb1) (fun ty8 pl6 => ?_)
          have ri5 : 0 ≤ ivb1 a0 2 ∧ ivb1 a0 2 ≤ 6003 := Wb1.int ty8 2
          refine d_callS (As := [.ref a0, .ref nb1]) (rest := []) C hM (G_addInd_25 (a0 := a0) (r := (some nb1)) Wb1 skb1 ty8 (fun _ q => by cases q; exact tnb1)  (by show ivb1 a0 2 < 6003; omega)) dX3_gatherPart_61 kS_X3_67 rfl rfl (Nat.le_of_ble_eq_true rfl) ⟨(Nat.le_of_ble_eq_true rfl), (Nat.le_of_ble_eq_true rfl)⟩ hph pl6 (show 0 + 0 = 0 from rfl) (by decide) (fun rh4 Lh4 clh4 lnh4 ivh4 rvh4 h4 => ?_)
          obtain ⟨rfl, xl4, fl4, W4, exf4, ladf4⟩ := h4
          refine hv3 (Fb1.call Xb1 fl4 rfl) (Xb1.trans xl4) (xl4.skl skb1) (fun F4 X4 sk4 => ?_)
          refine c_st (st2 := []) rfl ?_
          refine hv2 (xl4.ty ty8) (show ivb1 a0 2 ≤ ivh4 a0 2 ∧ ivh4 a0 2 ≤ ivb1 a0 2 + 1 from exf4) (fun ty9 gf4 => ?_)
          have ri6 : 0 ≤ ivh4 a0 2 ∧ ivh4 a0 2 ≤ 6003 := W4.int ty9 2
          refine c_aload_n (j := 1) (x := a0) C dX3_gatherPart_64 rfl ?_
          refine c_aload_n (j := 2) (x := a1) C dX3_gatherPart_65 rfl ?_
          refine hv2 (xl4.ty ty1) (show rvh4 a1 6 = rvb1 a1 6 from (fl4.r ty1 rfl 6)) (fun ty10 re2 => ?_)
          rw [rq1] at re2
          refine c_getr (k := 6) C ck_10 dX3_gatherPart_66 w2_193 (by decide) ty10 rfl rfl (by decide) rfl re2 ?_
          refine c_st (st2 := [.ref rb1, .ref a0]) rfl ?_
          refine c_iconst C dX3_gatherPart_69 ?_
          have ty11 := xl4.ty trb1
          have ll3 : 4 ≤ lnh4 rb1 ∧ lnh4 rb1 ≤ 4 := W4.len ty11 rfl
          rcases W4.opt ty11 ((1 : Int).toNat) rfl rfl with ⟨nq3, _⟩ | ⟨nb3, nq3, tnb3⟩
          · refine c_aaldR C dX3_gatherPart_70 ty11 rfl (by omega) (by omega) (by omega) nq3 ?_
            refine c_st (st2 := [.null, .ref a0]) rfl ?_
            have pl7 := Phi.le W4 sk4
            refine d_callS (As := [.ref a0, .null]) (rest := []) C hM (G_addInd_25 (a0 := a0) (r := none) W4 sk4 ty9 (fun _ q => by cases q)  (by show ivh4 a0 2 < 6003; omega)) dX3_gatherPart_71 kS_X3_67 rfl rfl (Nat.le_of_ble_eq_true rfl) ⟨(Nat.le_of_ble_eq_true rfl), (Nat.le_of_ble_eq_true rfl)⟩ hph pl7 (show 0 + 0 = 0 from rfl) (by decide) (fun rh5 Lh5 clh5 lnh5 ivh5 rvh5 h5 => ?_)
            obtain ⟨rfl, xl5, fl5, W5, exf5, ladf5⟩ := h5
            refine hv4 (F4.call X4 fl5 rfl) (xl4.ty tnb1) (X4.trans xl5) (xl5.skl sk4) (fun F5 ty12 X5 sk5 => ?_)
            refine c_st (st2 := []) rfl ?_
            refine hv3 (xl5.ty ty9) (show ivh4 a0 2 ≤ ivh5 a0 2 ∧ ivh5 a0 2 ≤ ivh4 a0 2 + 1 from exf5) (Phi.le W5 sk5) (fun ty13 gf5 pl8 => ?_)
            have ri7 : 0 ≤ ivh5 a0 2 ∧ ivh5 a0 2 ≤ 6003 := W5.int ty13 2
            exact c_vret C dX3_gatherPart_74 rfl (by decide) (rom0 hph pl8 (by decide)) ⟨rfl, X5, F5, W5, (by omega), (GLQ.rws (GLQ.ind (j := 1) (GLQ.ind (j := 0) (GP7.done hG7 (QT.of hW hS Xb1 Fb1 rfl rfl rfl rfl rfl)) (QT.of hW hS Xb1 Fb1 rfl rfl rfl rfl rfl) (QT.of Wb1 skb1 xl4 fl4 rfl rfl rfl rfl rfl) trb1 rq1 nq1 ladf4 (by decide)) (QT.of hW hS X4 F4 rfl rfl rfl rfl rfl) (QT.of W4 sk4 xl5 fl5 rfl rfl rfl rfl rfl) ty11 re2 nq3 ladf5 (by decide)))⟩
          · have tnb3 : ty Lh4 clh4 nb3 20 := tnb3
            refine c_aaldR C dX3_gatherPart_70 ty11 rfl (by omega) (by omega) (by omega) nq3 ?_
            refine c_st (st2 := [.ref nb3, .ref a0]) rfl ?_
            have pl9 := Phi.le W4 sk4
            refine d_callS (As := [.ref a0, .ref nb3]) (rest := []) C hM (G_addInd_25 (a0 := a0) (r := (some nb3)) W4 sk4 ty9 (fun _ q => by cases q; exact tnb3)  (by show ivh4 a0 2 < 6003; omega)) dX3_gatherPart_71 kS_X3_67 rfl rfl (Nat.le_of_ble_eq_true rfl) ⟨(Nat.le_of_ble_eq_true rfl), (Nat.le_of_ble_eq_true rfl)⟩ hph pl9 (show 0 + 0 = 0 from rfl) (by decide) (fun rh6 Lh6 clh6 lnh6 ivh6 rvh6 h6 => ?_)
            obtain ⟨rfl, xl6, fl6, W6, exf6, ladf6⟩ := h6
            refine hv4 (F4.call X4 fl6 rfl) (xl4.ty tnb1) (X4.trans xl6) (xl6.skl sk4) (fun F6 ty14 X6 sk6 => ?_)
            refine c_st (st2 := []) rfl ?_
            refine hv3 (xl6.ty ty9) (show ivh4 a0 2 ≤ ivh6 a0 2 ∧ ivh6 a0 2 ≤ ivh4 a0 2 + 1 from exf6) (Phi.le W6 sk6) (fun ty15 gf6 pl10 => ?_)
            have ri8 : 0 ≤ ivh6 a0 2 ∧ ivh6 a0 2 ≤ 6003 := W6.int ty15 2
            exact c_vret C dX3_gatherPart_74 rfl (by decide) (rom0 hph pl10 (by decide)) ⟨rfl, X6, F6, W6, (by omega), (GLQ.rws (GLQ.ind (j := 1) (GLQ.ind (j := 0) (GP7.done hG7 (QT.of hW hS Xb1 Fb1 rfl rfl rfl rfl rfl)) (QT.of hW hS Xb1 Fb1 rfl rfl rfl rfl rfl) (QT.of Wb1 skb1 xl4 fl4 rfl rfl rfl rfl rfl) trb1 rq1 nq1 ladf4 (by decide)) (QT.of hW hS X4 F4 rfl rfl rfl rfl rfl) (QT.of W4 sk4 xl6 fl6 rfl rfl rfl rfl rfl) ty11 re2 nq3 ladf6 (by decide)))⟩
      · subst oq1
        refine hv2 (ty_tq ob1 rfl) (hrk ob1 rfl) (fun tob1 hkob1 => ?_)
        have tgob1 := bt_100 tob1.2
        refine c_lv (lv2 := [(2, .ref ob1), (0, .ref a0), (1, .ref a1)]) [0, 1, 2] rfl ?_
        refine c_st (st2 := []) rfl ?_
        refine c_iconst C dX3_gatherPart_11 ?_
        refine c_istore_n (lv2 := [(3, .int (iI 0)), (2, .ref ob1), (0, .ref a0), (1, .ref a1)]) C dX3_gatherPart_12 (by decide) rfl ?_
        have Lp2 : ∀ (nn : Nat) (tr : Nat) (k : Int) (Lb2 : List Nat) (clb2 lnb2 : Nat → Nat) (ivb2 : Nat → Nat → Int) (rvb2 : Nat → Nat → Option Nat) , 201 - k < (nn : Int) → XT L cl ln Lb2 clb2 lnb2 → WT (g0 G) sk Lb2 clb2 lnb2 ivb2 rvb2 → fT [25, 1003] L cl iv rv ivb2 rvb2 → (ty Lb2 clb2 tr 100) → (0 ≤ k ∧ k ≤ 200) → (ivb2 a0 2 ≤ 200 * (129 - rk) + k) → (100 ≤ clb2 tr ∧ ((clb2 tr : Nat) : Int) ≤ rk) → (GP13 sk ln iv rv a1 Lb2 clb2 lnb2 ivb2 rvb2 a0 tr k) → cw p l e 8 ((PHM) + 0 - ((Phi (g0 G) sk) ln rv)) s m args below meth c G A 4 (MQ below (Qu G A (Qp G (Phi (g0 G) sk) ((Phi (g0 G) sk) ln rv) 0 (fun v L2 cl2 ln2 iv2 rv2 => v = none ∧ XT L cl ln L2 cl2 ln2 ∧ fT [25, 1003] L cl iv rv iv2 rv2 ∧ WT (g0 G) sk L2 cl2 ln2 iv2 rv2 ∧ (iv2 a0 2 ≤ 6002) ∧ (GLQ sk ln iv rv a1 L2 cl2 ln2 iv2 rv2 a0 rws1)))) args s (((PHM) + 0 - ((Phi (g0 G) sk) ln rv)) / 16) ((PHM) + 0 - ((Phi (g0 G) sk) ln rv)) A) (Phi (g0 G) sk) ((Phi (g0 G) sk) ln rv) Lb2 clb2 lnb2 ivb2 rvb2 0 13 [(2, .ref tr), (3, .int (iI k)), (0, .ref a0), (1, .ref a1)] [] := by
          intro nn
          induction nn with
          | zero =>
            intro tr k Lb2 clb2 lnb2 ivb2 rvb2 hm Xb2 Wb2 Fb2 ty_tr hk hs2 hcr hG13
            have skb2 := Xb2.skl hS
            exact absurd hm (by omega)
          | succ nn ih2 =>
            intro tr k Lb2 clb2 lnb2 ivb2 rvb2 hm Xb2 Wb2 Fb2 ty_tr hk hs2 hcr hG13
            have skb2 := Xb2.skl hS
            refine c_iload_n (j := 1) C dX3_gatherPart_13 rfl ?_
            refine c_aload_n (j := 0) (x := tr) C dX3_gatherPart_14 rfl ?_
            obtain ⟨rb2, rq2, trb2⟩ := Wb2.ref ty_tr 4 rfl rfl rfl
            refine c_getr (k := 4) C ck_10 dX3_gatherPart_15 w2_187 (by decide) ty_tr rfl rfl (by decide) rfl rq2 ?_
            refine c_st (st2 := [.ref rb2, .int (iI k)]) rfl ?_
            refine hv2 (show 0 ≤ ivb2 rb2 2 ∧ ivb2 rb2 2 ≤ 200 from Wb2.int trb2 2) (Phi.le Wb2 skb2) (fun ri9 pl11 => ?_)
            refine d_callV (As := []) (rest := [.int (iI k)]) C hM (C_size_26 (a0 := rb2) Wb2 skb2 trb2  ) dX3_gatherPart_18 kV_X3_78 rfl trb2 rfl rfl (by decide) ck_0 rfl (Nat.le_of_ble_eq_true rfl) ⟨(Nat.le_of_ble_eq_true rfl), (Nat.le_of_ble_eq_true rfl)⟩ hph pl11 (show 0 + 0 = 0 from rfl) (by decide) (fun rh7 Lh7 clh7 lnh7 ivh7 rvh7 h7 => ?_)
            obtain ⟨f7, rfl, rfl, rfl, rfl, rfl, rfl, rgf7, exf7⟩ := h7
            refine c_st (st2 := [.int (iI f7), .int (iI k)]) rfl ?_
            have gf7 : f7 = ivb2 rb2 2 := exf7
            refine c_icmp_ge (tgt := 46) C (r32_c (lo := 0) (hi := 200) hk.1 hk.2 (by decide) (by decide)) ⟨by omega, by omega⟩ dX3_gatherPart_21 (by decide) (fun c1 => ?_) (fun c1 => ?_)
            · refine c_aload_n (j := 0) (x := tr) C dX3_gatherPart_46 rfl ?_
              rcases Wb2.opt ty_tr 2 rfl rfl with ⟨nq4, _⟩ | ⟨nb4, nq4, tnb4⟩
              · refine c_getr (k := 2) C ck_10 dX3_gatherPart_47 w2_181 (by decide) ty_tr rfl rfl (by decide) rfl nq4 ?_
                refine c_st (st2 := [.null]) rfl ?_
                refine c_astorer_n (r := none) (lv2 := [(2, .null), (3, .int (iI k)), (0, .ref a0), (1, .ref a1)]) C dX3_gatherPart_50 (by decide) rfl ?_
                refine c_goto (tgt := 7) C dX3_gatherPart_51 (by decide) ?_
                have ty16 := Xb2.ty t_a0
                have ri10 : 0 ≤ ivb2 a0 2 ∧ ivb2 a0 2 ≤ 6003 := Wb2.int ty16 2
                refine c_lv (lv2 := [(2, .null), (0, .ref a0), (1, .ref a1)]) [0, 2, 3] rfl ?_
                exact ih1  none (rk - 1) _ _ _ _ _ (by omega) Xb2 Wb2 Fb2 (fun _ q => by cases q) (by omega) (by show ivb2 a0 2 ≤ 200 * (129 - (rk - 1)); omega) (fun _ q => by cases q) (GP13.fin hG13 (QT.of hW hS Xb2 Fb2 rfl rfl rfl rfl rfl) rq2 (by omega) nq4)
              · have rknb4 := Wb2.rank ty_tr (k := 2) (by decide) nq4
                refine c_getr (k := 2) C ck_10 dX3_gatherPart_47 w2_181 (by decide) ty_tr rfl rfl (by decide) rfl nq4 ?_
                refine c_st (st2 := [.ref nb4]) rfl ?_
                refine c_astore_n (lv2 := [(2, .ref nb4), (3, .int (iI k)), (0, .ref a0), (1, .ref a1)]) C dX3_gatherPart_50 (by decide) rfl ?_
                refine c_goto (tgt := 7) C dX3_gatherPart_51 (by decide) ?_
                refine hv2 (Xb2.ty t_a0) (bt_100 tnb4.2) (fun ty17 trnb4 => ?_)
                have ri11 : 0 ≤ ivb2 a0 2 ∧ ivb2 a0 2 ≤ 6003 := Wb2.int ty17 2
                refine c_lv (lv2 := [(2, .ref nb4), (0, .ref a0), (1, .ref a1)]) [0, 2, 3] rfl ?_
                exact ih1  (some nb4) (rk - 1) _ _ _ _ _ (by omega) Xb2 Wb2 Fb2 (fun _ q => by cases q; exact tnb4) (by omega) (by show ivb2 a0 2 ≤ 200 * (129 - (rk - 1)); omega) (fun _ q => by cases q; omega) (GP13.fin hG13 (QT.of hW hS Xb2 Fb2 rfl rfl rfl rfl rfl) rq2 (by omega) nq4)
            · refine c_aload_n (j := 2) (x := a0) C dX3_gatherPart_24 rfl ?_
              refine c_aload_n (j := 0) (x := tr) C dX3_gatherPart_25 rfl ?_
              refine c_getr (k := 4) C ck_10 dX3_gatherPart_26 w2_187 (by decide) ty_tr rfl rfl (by decide) rfl rq2 ?_
              refine c_st (st2 := [.ref rb2, .ref a0]) rfl ?_
              refine c_iload_n (j := 1) C dX3_gatherPart_29 rfl ?_
              refine d_callV (As := [.int (iI k)]) (rest := [.ref a0]) C hM (C_get_26 (a0 := rb2) (i := k) Wb2 skb2 trb2 (by omega) (by show 0 ≤ k ∧ k < ivb2 rb2 2; omega)) dX3_gatherPart_30 kV_X3_82 rfl trb2 rfl rfl (by decide) ck_0 rfl (Nat.le_of_ble_eq_true rfl) ⟨(Nat.le_of_ble_eq_true rfl), (Nat.le_of_ble_eq_true rfl)⟩ hph pl11 (show 0 + 0 = 0 from rfl) (by decide) (fun rh8 Lh8 clh8 lnh8 ivh8 rvh8 h8 => ?_)
              obtain ⟨f8, rfl, rfl, rfl, rfl, rfl, rfl, rgf8, exf8⟩ := h8
              refine c_st (st2 := [.ref f8, .ref a0]) rfl ?_
              have gf8 : el rvb2 rb2 k.toNat = some f8 := exf8
              refine c_cast C ck_6 dX3_gatherPart_33 w5_63 w8_169t rgf8 rfl rfl (by decide) ?_
              have ty18 := Xb2.ty t_a0
              have ri12 : 0 ≤ ivb2 a0 2 ∧ ivb2 a0 2 ≤ 6003 := Wb2.int ty18 2
              refine d_callV (As := [.ref f8]) (rest := []) C hM (C_add_25 (a0 := a0) (x := f8) Wb2 skb2 ty18 rgf8  (by show ivb2 a0 2 < 6003; omega)) dX3_gatherPart_36 kV_X3_97 rfl ty18 rfl rfl (by decide) ck_0 rfl (Nat.le_of_ble_eq_true rfl) ⟨(Nat.le_of_ble_eq_true rfl), (Nat.le_of_ble_eq_true rfl)⟩ hph pl11 (show 0 + 0 = 0 from rfl) (by decide) (fun rh9 Lh9 clh9 lnh9 ivh9 rvh9 h9 => ?_)
              obtain ⟨f9, rfl, xl9, fl9, W9, rgf9, exf9⟩ := h9
              refine hv4 (Fb2.call Xb2 fl9 rfl) (Xb2.ty t_a1) (Xb2.trans xl9) (xl9.skl skb2) (fun F7 ty19 X7 sk7 => ?_)
              refine c_st (st2 := [.int (iI f9)]) rfl ?_
              refine hv2 (xl9.ty ty18) (show ivh9 a0 2 = ivb2 a0 2 + 1 ∧ el rvh9 a0 (ivb2 a0 2).toNat = some f8 ∧ ∀ i : Nat, (i : Int) < ivb2 a0 2 → el rvh9 a0 i = el rvb2 a0 i from exf9) (fun ty20 gf9 => ?_)
              have ri13 : 0 ≤ ivh9 a0 2 ∧ ivh9 a0 2 ≤ 6003 := W9.int ty20 2
              refine c_pop C dX3_gatherPart_39 rfl ?_
              refine c_iinc (z := k) (j := 1) (lv2 := [(3, .int (iI (k + 1))), (2, .ref tr), (0, .ref a0), (1, .ref a1)]) C dX3_gatherPart_40 rfl (by decide) rfl ?_
              refine c_goto (tgt := 13) C dX3_gatherPart_43 (by decide) ?_
              refine hv2 (xl9.ty ty_tr) (show clh9 tr = clb2 tr from (xl9 tr ty_tr.1).2.1) (fun ty21 ce1 => ?_)
              refine c_lv (lv2 := [(2, .ref tr), (3, .int (iI (k + 1))), (0, .ref a0), (1, .ref a1)]) [1, 0, 2, 3] rfl ?_
              exact ih2  tr (k + 1) _ _ _ _ _ (by omega) X7 W9 F7 ty21 (by omega) (by show ivh9 a0 2 ≤ 200 * (129 - rk) + (k + 1); omega) (by show 100 ≤ clh9 tr ∧ ((clh9 tr : Nat) : Int) ≤ rk; omega) (GP13.step hG13 (QT.of hW hS Xb2 Fb2 rfl rfl rfl rfl rfl) (QT.of Wb2 skb2 xl9 fl9 rfl rfl rfl rfl rfl) ty_tr rq2 (by omega) exf8 gf9)
        have ty22 := Xb1.ty t_a0
        have ri14 : 0 ≤ ivb1 a0 2 ∧ ivb1 a0 2 ≤ 6003 := Wb1.int ty22 2
        refine c_lv (lv2 := [(2, .ref ob1), (3, .int (iI 0)), (0, .ref a0), (1, .ref a1)]) [1, 0, 2, 3] rfl ?_
        exact Lp2 203 ob1 0 _ _ _ _ _ (by omega) Xb1 Wb1 Fb1 tob1 (by omega) (by show ivb1 a0 2 ≤ 200 * (129 - rk) + 0; omega) (by show 100 ≤ clb1 ob1 ∧ ((clb1 ob1 : Nat) : Int) ≤ rk; omega) (GP7.start hG7 (QT.of hW hS Xb1 Fb1 rfl rfl rfl rfl rfl))
  have ri15 : 0 ≤ iv a0 2 ∧ iv a0 2 ≤ 6003 := hW.int t_a0 2
  refine c_lv (lv2 := [(2, .ref a1), (0, .ref a0), (1, .ref a1)]) [0, 1, 2] rfl ?_
  exact Lp1 31 (some a1) 129 _ _ _ _ _ (by omega) hX0 hW hF0 (fun _ q => by cases q; exact t_a1) (by omega) (by show iv a0 2 ≤ 200 * (129 - 129); omega) (fun _ q => by cases q; have q2 := bt_100 t_a1.2; omega) (GP7.init hn)
end
section
section JROW
variable {g : Nat} {sk : Nat → Nat} {L L1 L2 L3 : List Nat} {cl ln cl1 ln1 cl2 ln2 cl3 ln3 : Nat → Nat} {iv iv1 iv2 iv3 : Nat → Nat → Int} {rv rv1 rv2 rv3 : Nat → Nat → Option Nat} {v : Nat → Int} {a : Nat → Nat → Int} {t b b2 q n w u c0 tr : Nat} {d e f f1 f2 i0 j0 k0 h k k2 z : Int} {r x y : Option Nat} {l : List Int}
theorem HL.lt (hH : HL L cl ln iv rv a q l) {i : Nat} (h : l[i]? = some d) : (i : Int) < iv q 2 := by
  rw [hH.1]; have := gl_lt h; omega
theorem HL.of (hH : HL L cl ln iv rv a q l) {i : Nat} (h : l[i]? = some d) (hw : el rv q i = some w) : ty L cl w 20 ∧ RWD ln iv rv a w d := by
  obtain ⟨w', p1, p2, p3⟩ := hH.2 i d h
  rw [hw] at p1; cases p1
  exact ⟨p2, p3⟩
end JROW
end
section
def LTW (iv : Nat → Nat → Int) (rv : Nat → Nat → Option Nat) (s : Nat) (W : Nat → Int) (q u : Int) : Prop := ∀ lb, rv s 0 = some lb → ∀ j : Int, q ≤ j → j < u → iv lb j.toNat = W j.toNat
def FTX (ln : Nat → Nat) (iv : Nat → Nat → Int) (rv : Nat → Nat → Option Nat) (s w : Nat) (i f : Int) : Prop := ∀ a W R, ROWR ln iv rv a w R → 1 ≤ a 12 R → LTW iv rv s W (i + 1) (iv s 11) → a 14 (8 * R) = W i.toNat → (f = 1 ↔ FIT a W (iv s 10) (iv s 11) i (R : Int))
def FXI (iv : Nat → Nat → Int) (rv : Nat → Nat → Option Nat) (s w : Nat) (i k : Int) : Prop := ∀ l lb, rv w 1 = some l → rv s 0 = some lb → ∀ j : Int, 1 ≤ j → j < k → iv l j.toNat = iv lb (i + j).toNat
def BST (ln : Nat → Nat) (iv : Nat → Nat → Int) (rv : Nat → Nat → Option Nat) (a : Nat → Nat → Int) (r : Option Nat) (z : Int) : Prop := (r = none ∧ z = -1) ∨ ∃ w, r = some w ∧ 0 ≤ z ∧ ROWR ln iv rv a w z.toNat
def OWC (a : Nat → Nat → Int) (W : Nat → Int) (q u x t rb z k : Int) : Prop := ∃ y, OWI a W q u x t y (200 * t + k) ∧ z = cmb a rb y
def FOX (sk ln : Nat → Nat) (iv : Nat → Nat → Int) (rv : Nat → Nat → Option Nat) (s tb : Nat) (i x : Int) (r f : Option Nat) : Prop := ∀ v a W (t : Nat) (rb : Int), TRL sk ln iv rv v a → (t : Int) < v 4 → el rv (sk 22) t = some tb → LTW iv rv s W (i + 1) (iv s 11) → W i.toNat = x → -1 ≤ rb → BST ln iv rv a r rb → ∃ y, OWR a W (iv s 10) (iv s 11) i t y ∧ BST ln iv rv a f (cmb a rb y)
def FOI (sk ln : Nat → Nat) (iv : Nat → Nat → Int) (rv : Nat → Nat → Option Nat) (s tb : Nat) (i x : Int) (r bs : Option Nat) (lg k : Int) : Prop := ∀ v a W (t : Nat) (rb : Int), TRL sk ln iv rv v a → (t : Int) < v 4 → el rv (sk 22) t = some tb → LTW iv rv s W (i + 1) (iv s 11) → W i.toNat = x → -1 ≤ rb → BST ln iv rv a r rb → ∃ z, OWC a W (iv s 10) (iv s 11) i t rb z k ∧ BST ln iv rv a bs z ∧ ((bs = none ∧ lg = 0) ∨ ∃ w l, bs = some w ∧ rv w 1 = some l ∧ lg = ((ln l : Nat) : Int))
def FDX (sk ln : Nat → Nat) (iv : Nat → Nat → Int) (rv : Nat → Nat → Option Nat) (s tb : Nat) (i x : Int) (f : Option Nat) : Prop := ∀ v a W (t : Nat), TRL sk ln iv rv v a → (t : Int) < v 4 → a 6 t ≠ 5 → el rv (sk 22) t = some tb → LTW iv rv s W (i + 1) (iv s 11) → ∃ y, fnd a (iv s 10) (iv s 11) i 30 (va_up W i.toNat x) t y ∧ BST ln iv rv a f y
def FDI (sk ln : Nat → Nat) (iv : Nat → Nat → Int) (rv : Nat → Nat → Option Nat) (s tb : Nat) (i x : Int) (bs : Option Nat) (he : Int) (tq : Option Nat) : Prop := ∀ v a W (t : Nat), TRL sk ln iv rv v a → (t : Int) < v 4 → a 6 t ≠ 5 → el rv (sk 22) t = some tb → LTW iv rv s W (i + 1) (iv s 11) → ∃ rb t2, -1 ≤ rb ∧ BST ln iv rv a bs rb ∧ BASR sk rv (v 4).toNat tq t2 ∧ (0 ≤ t2 → a 6 t2.toNat ≠ 5) ∧ (tq = none → False) ∧ ∀ y, fnd a (iv s 10) (iv s 11) i 30 (va_up W i.toNat he) t2 y → fnd a (iv s 10) (iv s 11) i 30 (va_up W i.toNat x) t (cmb a rb y)
section FROW
variable {g : Nat} {sk : Nat → Nat} {L : List Nat} {cl ln : Nat → Nat} {iv iv2 : Nat → Nat → Int} {rv : Nat → Nat → Option Nat} {v : Nat → Int} {a : Nat → Nat → Int} {W : Nat → Int} {s w u tb b l lb c q4 : Nat} {R t : Nat} {i k x y z rb f lg he q n : Int} {r bs tq : Option Nat}
theorem LTW.up (h : LTW iv rv s W (i + 1) n) (h0 : 0 ≤ i) : LTW iv rv s (va_up W i.toNat x) (i + 1) n := fun lb hb j h1 h2 => by
  rw [va_up_ne _ _ (by omega)]; exact h lb hb j h1 h2
theorem vuu (W : Nat → Int) (i : Nat) (x y : Int) : va_up (va_up W i x) i y = va_up W i y := by
  funext j
  unfold va_up
  split <;> rfl
theorem FXI.zero : FXI iv rv s w i 1 := fun _ _ _ _ j h1 h2 => absurd h1 (by omega)
theorem FXI.step (h : FXI iv rv s w i k) (h1 : rv w 1 = some l) (h2 : rv s 0 = some lb) (e : iv l k.toNat = iv lb (i + k).toNat) : FXI iv rv s w i (k + 1) := fun l2 lb2 p1 p2 j j1 j2 => by
  by_cases c : j < k
  · exact h l2 lb2 p1 p2 j j1 c
  · rw [h1] at p1; cases p1
    rw [h2] at p2; cases p2
    rw [show j = k by omega]; exact e
theorem FTX.n1 (h1 : rv w 1 = some l) (h : iv s 11 < i + ((ln l : Nat) : Int)) : FTX ln iv rv s w i 0 := fun a W R hr _ _ _ => by
  obtain ⟨_, _, l', c', e3, _, e5, _⟩ := hr
  rw [h1] at e3; cases e3
  refine ⟨fun e => absurd e (by decide), fun e => ?_⟩
  have := e.1.1
  rw [Int.toNat_natCast] at this
  omega
theorem FTX.n2 (h1 : rv w 1 = some l) (h2 : rv s 0 = some lb) (hk : 1 ≤ k ∧ k < ((ln l : Nat) : Int)) (hu : i + ((ln l : Nat) : Int) ≤ iv s 11) (e : iv l k.toNat ≠ iv lb (i + k).toNat) : FTX ln iv rv s w i 0 := fun a W R hr _ hl _ => by
  obtain ⟨_, _, l', c', e3, _, e5, _, e7, _⟩ := hr
  rw [h1] at e3; cases e3
  refine ⟨fun e => absurd e (by decide), fun g => (e ?_).elim⟩
  have g1 := g.1.2 k (by omega) (by rw [Int.toNat_natCast]; omega)
  rw [(e7 k.toNat (by omega)).1, hl lb h2 (i + k) (by omega) (by omega), ← g1]
  exact congrArg (a 14) (by omega)
theorem FTX.cc (h : FXI iv rv s w i k) (h1 : rv w 1 = some l) (h2 : rv s 0 = some lb) (hk : ((ln l : Nat) : Int) ≤ k) (hu : i + ((ln l : Nat) : Int) ≤ iv s 11) (h3 : 0 ≤ iv w 3 ∧ iv w 3 ≤ 5) (hc : f = 1 ↔ (iv w 3 = 0 ∨ (iv w 3 = 1 ∧ i = iv s 10) ∨ (iv w 3 = 2 ∧ i ≠ iv s 10 ∧ i + ((ln l : Nat) : Int) ≠ iv s 11) ∨ (iv w 3 = 3 ∧ i + ((ln l : Nat) : Int) = iv s 11) ∨ (iv w 3 = 4 ∧ i = iv s 10 ∧ i + ((ln l : Nat) : Int) = iv s 11) ∨ (iv w 3 = 5 ∧ i + ((ln l : Nat) : Int) ≠ iv s 11 ∧ ¬ isD (iv lb (i + ((ln l : Nat) : Int)).toNat) ∧ ¬ isG (iv lb (i + ((ln l : Nat) : Int)).toNat) ∧ ¬ isS (iv lb (i + ((ln l : Nat) : Int)).toNat)))) : FTX ln iv rv s w i f := fun a W R hr hr1 hl hw0 => by
  obtain ⟨e1, _, l', c', e3, _, e5, _, e7, _⟩ := hr
  rw [h1] at e3; cases e3
  have ft : FTL a W (iv s 11) i (R : Int) (a 12 (R : Int).toNat) := by
    rw [FTL, Int.toNat_natCast]
    refine ⟨by omega, fun j j0 j1 => ?_⟩
    by_cases c0 : j = 0
    · subst c0
      rw [Int.add_zero, Int.add_zero, ← hw0]
      exact congrArg (a 14) (by omega)
    · have q1 := h l lb h1 h2 j (by omega) (by omega)
      rw [(e7 j.toNat (by omega)).1, hl lb h2 (i + j) (by omega) (by omega)] at q1
      rw [← q1]
      exact congrArg (a 14) (by omega)
  have cn : CND a W (iv s 10) (iv s 11) i (R : Int) ↔ f = 1 := by
    rw [hc]
    unfold CND
    rw [Int.toNat_natCast, ← e1, ← e5]
    by_cases c0 : i + ((ln l : Nat) : Int) = iv s 11
    · constructor
      · rintro (g | g | g | g | g | g)
        · exact Or.inl g
        · exact Or.inr (Or.inl g)
        · exact Or.inr (Or.inr (Or.inl g))
        · exact Or.inr (Or.inr (Or.inr (Or.inl g)))
        · exact Or.inr (Or.inr (Or.inr (Or.inr (Or.inl g))))
        · exact absurd c0 g.2.1
      · rintro (g | g | g | g | g | g)
        · exact Or.inl g
        · exact Or.inr (Or.inl g)
        · exact Or.inr (Or.inr (Or.inl g))
        · exact Or.inr (Or.inr (Or.inr (Or.inl g)))
        · exact Or.inr (Or.inr (Or.inr (Or.inr (Or.inl g))))
        · exact absurd c0 g.2.1
    · rw [hl lb h2 (i + ((ln l : Nat) : Int)) (by omega) (by omega)]
      constructor
      · rintro (g | g | g | g | g | g)
        · exact Or.inl g
        · exact Or.inr (Or.inl g)
        · exact Or.inr (Or.inr (Or.inl g))
        · exact Or.inr (Or.inr (Or.inr (Or.inl g)))
        · exact Or.inr (Or.inr (Or.inr (Or.inr (Or.inl g))))
        · exact Or.inr (Or.inr (Or.inr (Or.inr (Or.inr ⟨by omega, g.2⟩))))
      · rintro (g | g | g | g | g | g)
        · exact Or.inl g
        · exact Or.inr (Or.inl g)
        · exact Or.inr (Or.inr (Or.inl g))
        · exact Or.inr (Or.inr (Or.inr (Or.inl g)))
        · exact Or.inr (Or.inr (Or.inr (Or.inr (Or.inl g))))
        · exact Or.inr (Or.inr (Or.inr (Or.inr (Or.inr ⟨Or.inr (by omega), g.2⟩))))
  exact ⟨fun e => ⟨ft, cn.mpr e⟩, fun e => cn.mp e.2⟩
theorem cmb_n (h : -1 ≤ rb) : cmb a rb (-1) = rb := by
  unfold cmb
  split
  · omega
  · rfl
theorem cmb_0 : cmb a (-1) y = y := by
  unfold cmb
  rw [if_pos (Or.inl (by decide))]
theorem cmb_as (h1 : -1 ≤ x) (h2 : -1 ≤ y) (h3 : -1 ≤ z) : cmb a (cmb a x y) z = cmb a x (cmb a y z) := by
  unfold cmb
  repeat' split
  all_goals omega
theorem OWC.zero (h : -1 ≤ rb) : OWC a W q n i (t : Int) rb rb 0 := ⟨-1, by rw [Int.add_zero]; exact OWI.zero, (cmb_n h).symm⟩
theorem OWC.miss (h : OWC a W q n i (t : Int) rb z k) (hf : ¬ FIT a W q n i (200 * (t : Int) + k)) : OWC a W q n i (t : Int) rb z (k + 1) := by
  obtain ⟨y, h1, h2⟩ := h
  exact ⟨y, by rw [← Int.add_assoc]; exact h1.miss hf, h2⟩
theorem OWC.short (h : OWC a W q n i (t : Int) rb z k) (hk : 0 ≤ k) (hz : 0 ≤ z) (hl : a 12 (200 * (t : Int) + k).toNat ≤ a 12 z.toNat) : OWC a W q n i (t : Int) rb z (k + 1) := by
  obtain ⟨y, h1, h2⟩ := h
  by_cases hf : FIT a W q n i (200 * (t : Int) + k)
  · by_cases hy : y < 0 ∨ a 12 y.toNat < a 12 (200 * (t : Int) + k).toNat
    · refine ⟨200 * (t : Int) + k, by rw [← Int.add_assoc]; exact h1.hit (by omega) hy (by omega) hf, ?_⟩
      have r := h1.rg
      unfold cmb at h2 ⊢
      split at h2
      · subst h2
        omega
      · subst h2
        rw [if_neg (by omega)]
    · refine ⟨y, ?_, h2⟩
      have r := h1.rg
      rw [← Int.add_assoc]
      exact h1.skip (by omega) (by omega) (by omega)
  · exact ⟨y, by rw [← Int.add_assoc]; exact h1.miss hf, h2⟩
theorem OWC.hit (h : OWC a W q n i (t : Int) rb z k) (hk : 0 ≤ k) (hl : z < 0 ∨ a 12 z.toNat < a 12 (200 * (t : Int) + k).toNat) (hf : FIT a W q n i (200 * (t : Int) + k)) : OWC a W q n i (t : Int) rb (200 * (t : Int) + k) (k + 1) := by
  obtain ⟨y, h1, h2⟩ := h
  have r := h1.rg
  have e : cmb a rb (200 * (t : Int) + k) = 200 * (t : Int) + k ∧ (y < 0 ∨ a 12 y.toNat < a 12 (200 * (t : Int) + k).toNat) := by
    unfold cmb at h2 ⊢
    split at h2
    · subst h2
      refine ⟨?_, hl⟩
      rename_i c
      rw [if_pos (by omega)]
    · subst h2
      rename_i c
      refine ⟨by rw [if_pos (by omega)], by omega⟩
  exact ⟨_, by rw [← Int.add_assoc]; exact h1.hit (by omega) e.2 (by omega) hf, e.1.symm⟩
theorem TRL.ini {s5 xb : Nat} (h : TRL sk ln iv rv v a) (hi : (t : Int) < v 4) (ht : el rv (sk 22) t = some tb) (h5 : rv tb 5 = some s5) (hx : rv s5 1 = some xb) : iv s5 2 = a 10 t ∧ ∀ j : Nat, (j : Int) < a 10 t → iv xb j = a 14 (8 * (200 * t + j)) := by
  obtain ⟨_, ⟨o, h2⟩, _, _⟩ := h
  obtain ⟨t1, c1, c2⟩ := h2.1 t hi
  rw [ht] at c1; cases c1
  obtain ⟨q2, s6, x6, n6, ⟨_, e2, _, _⟩, _, _, ⟨e6, _⟩, _, e8, _⟩ := c2
  rw [h5] at e2; cases e2
  exact ⟨e6, fun j hj => e8 xb hx j (by rw [e6]; exact hj)⟩
theorem TRL.row (h : TRL sk ln iv rv v a) (hi : (t : Int) < v 4) (ht : el rv (sk 22) t = some tb) (h4 : rv tb 4 = some q4) (hk : 0 ≤ k ∧ k < iv q4 2) (hw : el rv q4 k.toNat = some w) : (k < a 10 t ∧ iv q4 2 = a 10 t) ∧ ROWR ln iv rv a w (200 * t + k.toNat) ∧ (1 ≤ a 12 (200 * t + k.toNat) ∧ a 12 (200 * t + k.toNat) ≤ 8) := by
  obtain ⟨_, _, q1, n1, ⟨c1, _, c3⟩, c4, _⟩ := h.tab hi ht
  rw [h4] at c1; cases c1
  obtain ⟨w', d1, d2⟩ := c4 k.toNat (by omega)
  rw [hw] at d1; cases d1
  have g := (h.2.2.1.2 t (200 * (t : Int) + k) (by omega) hi (by omega) (by rw [Int.toNat_natCast]; omega)).1
  rw [show (200 * (t : Int) + k).toNat = 200 * t + k.toNat by omega] at g
  exact ⟨⟨by omega, c3⟩, d2, g⟩
theorem FOI.i0 : FOI sk ln iv rv s tb i x none none 0 0 := fun v a W t rb hR ht he hl hw hrb hB => ⟨rb, OWC.zero hrb, hB, Or.inl ⟨rfl, rfl⟩⟩
theorem FOI.i1 (h1 : rv w 1 = some l) : FOI sk ln iv rv s tb i x (some w) (some w) ((ln l : Nat) : Int) 0 := fun v a W t rb hR ht he hl hw hrb hB => ⟨rb, OWC.zero hrb, hB, Or.inr ⟨w, l, rfl, h1, rfl⟩⟩
theorem FOI.lng {z0 : Int} (h2 : BST ln iv rv a bs z0) (h3 : (bs = none ∧ lg = 0) ∨ ∃ w l, bs = some w ∧ rv w 1 = some l ∧ lg = ((ln l : Nat) : Int)) : (z0 = -1 ∧ lg = 0) ∨ (0 ≤ z0 ∧ lg = a 12 z0.toNat) := by
  rcases h2 with ⟨p1, p2⟩ | ⟨w, p1, p2, p3⟩
  · rcases h3 with ⟨_, q2⟩ | ⟨w, l, q1, _⟩
    · exact Or.inl ⟨p2, q2⟩
    · rw [p1] at q1; cases q1
  · rcases h3 with ⟨q1, _⟩ | ⟨w, l, q1, q2, q3⟩
    · rw [p1] at q1; cases q1
    · rw [p1] at q1; cases q1
      obtain ⟨_, _, l', c', e3, _, e5, _⟩ := p3
      rw [q2] at e3; cases e3
      exact Or.inr ⟨p2, q3.trans e5⟩
theorem FOI.skip {s5 xb : Nat} (h : FOI sk ln iv rv s tb i x r bs lg k) (h5 : rv tb 5 = some s5) (hx5 : rv s5 1 = some xb) (hk : 0 ≤ k ∧ k < iv s5 2) (e : iv xb k.toNat ≠ x) : FOI sk ln iv rv s tb i x r bs lg (k + 1) := fun v a W t rb hR ht he hl hw hrb hB => by
  obtain ⟨z, h1, h2, h3⟩ := h v a W t rb hR ht he hl hw hrb hB
  obtain ⟨i1, i2⟩ := hR.ini ht he h5 hx5
  have g := (hR.2.2.1.2 t (200 * (t : Int) + k) (by omega) ht (by omega) (by rw [Int.toNat_natCast]; omega)).1
  refine ⟨z, h1.miss (fun hf => e ?_), h2, h3⟩
  have g1 := hf.1.2 0 (by omega) (by omega)
  rw [i2 k.toNat (by omega), ← hw]
  rw [Int.add_zero, Int.add_zero] at g1
  rw [← g1]
  exact congrArg (a 14) (by omega)
theorem FOI.short (h : FOI sk ln iv rv s tb i x r bs lg k) (h4 : rv tb 4 = some q4) (hk : 0 ≤ k ∧ k < iv q4 2) (hw4 : el rv q4 k.toNat = some w) (h1 : rv w 1 = some l) (hl0 : ((ln l : Nat) : Int) ≤ lg) : FOI sk ln iv rv s tb i x r bs lg (k + 1) := fun v a W t rb hR ht he hl hw hrb hB => by
  obtain ⟨z, p1, p2, p3⟩ := h v a W t rb hR ht he hl hw hrb hB
  obtain ⟨_, rr, r12⟩ := hR.row ht he h4 hk hw4
  obtain ⟨_, _, l', c', e3, _, e5, _⟩ := rr
  rw [h1] at e3; cases e3
  have g := FOI.lng p2 p3
  have ix : (200 * (t : Int) + k).toNat = 200 * t + k.toNat := by omega
  exact ⟨z, p1.short hk.1 (by omega) (by rw [ix]; omega), p2, p3⟩
theorem FOI.miss {s5 xb : Nat} (h : FOI sk ln iv rv s tb i x r bs lg k) (h4 : rv tb 4 = some q4) (hk : 0 ≤ k ∧ k < iv q4 2) (hw4 : el rv q4 k.toNat = some w) (h5 : rv tb 5 = some s5) (hx5 : rv s5 1 = some xb) (ex : iv xb k.toNat = x) (hF : FTX ln iv rv s w i f) (e : f ≠ 1) : FOI sk ln iv rv s tb i x r bs lg (k + 1) := fun v a W t rb hR ht he hl hw hrb hB => by
  obtain ⟨z, p1, p2, p3⟩ := h v a W t rb hR ht he hl hw hrb hB
  obtain ⟨kk, rr, r12⟩ := hR.row ht he h4 hk hw4
  obtain ⟨i1, i2⟩ := hR.ini ht he h5 hx5
  have q := hF a W _ rr r12.1 hl (by rw [hw, ← ex, i2 k.toNat (by omega)])
  rw [show (((200 * t + k.toNat : Nat)) : Int) = 200 * (t : Int) + k by omega] at q
  exact ⟨z, p1.miss (fun w => e (q.mpr w)), p2, p3⟩
theorem FOI.hit {s5 xb : Nat} (h : FOI sk ln iv rv s tb i x r bs lg k) (h4 : rv tb 4 = some q4) (hk : 0 ≤ k ∧ k < iv q4 2) (hw4 : el rv q4 k.toNat = some w) (h5 : rv tb 5 = some s5) (hx5 : rv s5 1 = some xb) (ex : iv xb k.toNat = x) (hF : FTX ln iv rv s w i f) (e : f = 1) (h1 : rv w 1 = some l) (hl0 : lg < ((ln l : Nat) : Int)) : FOI sk ln iv rv s tb i x r (some w) ((ln l : Nat) : Int) (k + 1) := fun v a W t rb hR ht he hl hw hrb hB => by
  obtain ⟨z, p1, p2, p3⟩ := h v a W t rb hR ht he hl hw hrb hB
  obtain ⟨kk, rr, r12⟩ := hR.row ht he h4 hk hw4
  obtain ⟨i1, i2⟩ := hR.ini ht he h5 hx5
  have q := hF a W _ rr r12.1 hl (by rw [hw, ← ex, i2 k.toNat (by omega)])
  have ix : (200 * (t : Int) + k).toNat = 200 * t + k.toNat := by omega
  rw [show (((200 * t + k.toNat : Nat)) : Int) = 200 * (t : Int) + k by omega] at q
  have g := FOI.lng p2 p3
  obtain ⟨_, _, l', c', e3, _, e5, _⟩ := id rr
  rw [h1] at e3; cases e3
  refine ⟨200 * (t : Int) + k, p1.hit hk.1 (by rw [ix]; omega) (q.mp e), Or.inr ⟨w, rfl, by omega, by rw [ix]; exact rr⟩, Or.inr ⟨w, l, rfl, h1, rfl⟩⟩
theorem FOI.fin (h : FOI sk ln iv rv s tb i x r bs lg k) (h4 : rv tb 4 = some q4) {s5 : Nat} (h5 : rv tb 5 = some s5) (hk : k = iv s5 2 ∨ k = iv q4 2) {xb : Nat} (hx5 : rv s5 1 = some xb) : FOX sk ln iv rv s tb i x r bs := fun v a W t rb hR ht he hl hw hrb hB => by
  obtain ⟨z, ⟨y, p1, p4⟩, p2, p3⟩ := h v a W t rb hR ht he hl hw hrb hB
  obtain ⟨i1, i2⟩ := hR.ini ht he h5 hx5
  obtain ⟨_, _, q1, n1, ⟨c1, _, c3⟩, c4, _⟩ := hR.tab ht he
  rw [h4] at c1; cases c1
  refine ⟨y, ?_, by rw [← p4]; exact p2⟩
  unfold OWR
  rw [Int.toNat_natCast]
  have hk2 : k = a 10 t := by
    rcases hk with e | e
    · exact e.trans i1
    · exact e.trans c3
  rw [hk2] at p1
  exact p1
theorem FDI.init : FDI sk ln iv rv s tb i x none x (some tb) := fun v a W t hR ht h5 he hl => ⟨-1, t, by decide, Or.inl ⟨rfl, rfl⟩, el_bas he (by have := hR.b0; omega), fun _ => by rw [Int.toNat_natCast]; exact h5, (fun e => by cases e), fun y hy => by rw [cmb_0]; exact hy⟩
theorem fnd_lower (hT : TBL v a) : ∀ (m : Nat) (W : Nat → Int) (z r : Int), z < v 4 → 0 ≤ z → fnd a q n i m W z r → ∀ m2 : Nat, z < (m2 : Int) → fnd a q n i m2 W z r := by
  intro m
  induction m with
  | zero => intro W z r _ _ h; exact False.elim h
  | succ m ih =>
    intro W z r h4 h0 h m2 hle
    have ht := hT.1 z h0 h4
    have t8 : 1 ≤ a 6 z.toNat → a 6 z.toNat ≤ 3 → 0 ≤ a 8 z.toNat ∧ a 8 z.toNat < v 4 ∧ a 8 z.toNat < z := by omega
    clear ht
    cases m2 with
    | zero => omega
    | succ m2 =>
      rw [fnd_s] at h
      rw [fnd_s]
      obtain ⟨p1, p2, p3, p4⟩ := h
      refine ⟨fun k => ?_, fun k => ⟨(p2 k).1, fun c => ih _ _ _ (t8 (by omega) (by omega)).2.1 (t8 (by omega) (by omega)).1 ((p2 k).2 c) m2 (by have q := (t8 (by omega) (by omega)).2.2; omega)⟩, fun k => ?_, p4⟩
      · obtain ⟨y, z2, e1, e2, e3⟩ := p1 k
        exact ⟨y, z2, e1, ih _ _ _ (t8 (by omega) (by omega)).2.1 (t8 (by omega) (by omega)).1 e2 m2 (by have q := (t8 (by omega) (by omega)).2.2; omega), e3⟩
      · obtain ⟨y, z2, e1, e2, e3⟩ := p3 k
        exact ⟨y, z2, e1, ih _ _ _ (t8 (by omega) (by omega)).2.1 (t8 (by omega) (by omega)).1 e2 m2 (by have q := (t8 (by omega) (by omega)).2.2; omega), e3⟩
theorem fnd_ge (hT : TBL v a) : ∀ (m : Nat) (W : Nat → Int) (z r : Int), z < v 4 → 0 ≤ z → fnd a q n i m W z r → r = -1 ∨ 0 ≤ r := by
  intro m
  induction m with
  | zero => intro W z r _ _ h; exact False.elim h
  | succ m ih =>
    intro W z r h4 h0 h
    have ht := hT.1 z h0 h4
    have t8 : 1 ≤ a 6 z.toNat → a 6 z.toNat ≤ 3 → 0 ≤ a 8 z.toNat ∧ a 8 z.toNat < v 4 := by omega
    have t6 : a 6 z.toNat ≠ 1 → a 6 z.toNat ≠ 2 → a 6 z.toNat ≠ 3 → a 6 z.toNat < 1 ∨ 3 < a 6 z.toNat := by omega
    clear ht
    have ow : ∀ (W : Nat → Int) (y : Int), OWR a W q n i z y → y = -1 ∨ 0 ≤ y := fun W y ho => by
      rcases ho.rg with e | e
      · exact Or.inl e
      · exact Or.inr (by omega)
    rw [fnd_s] at h
    obtain ⟨p1, p2, p3, p4⟩ := h
    by_cases k1 : a 6 z.toNat = 1
    · obtain ⟨y, z2, e1, e2, e3⟩ := p1 k1
      rw [e3]
      exact cmb_rg (P := fun r => r = -1 ∨ 0 ≤ r) (ow _ _ e1) (ih _ _ _ (t8 (by omega) (by omega)).2 (t8 (by omega) (by omega)).1 e2)
    · by_cases k2 : a 6 z.toNat = 2
      · by_cases c : isD (W i.toNat)
        · exact ow _ _ ((p2 k2).1 c)
        · exact ih _ _ _ (t8 (by omega) (by omega)).2 (t8 (by omega) (by omega)).1 ((p2 k2).2 c)
      · by_cases k3 : a 6 z.toNat = 3
        · obtain ⟨y, z2, e1, e2, e3⟩ := p3 k3
          rw [e3]
          exact cmb_rg (P := fun r => r = -1 ∨ 0 ≤ r) (ow _ _ e1) (ih _ _ _ (t8 (by omega) (by omega)).2 (t8 (by omega) (by omega)).1 e2)
        · exact ow _ _ (p4 (t6 k1 k2 k3))
theorem FDI.get (h : FDI sk ln iv rv s tb i x bs he (some b)) {v : Nat → Int} {a : Nat → Nat → Int} {W : Nat → Int} {t : Nat} (hR : TRL sk ln iv rv v a) (ht : (t : Int) < v 4) (h5 : a 6 t ≠ 5) (hl0 : el rv (sk 22) t = some tb) (hl : LTW iv rv s W (i + 1) (iv s 11)) : ∃ (rb : Int) (t2 : Nat), -1 ≤ rb ∧ BST ln iv rv a bs rb ∧ (t2 : Int) < v 4 ∧ el rv (sk 22) t2 = some b ∧ (iv b 0 = a 6 t2 ∧ a 6 t2 ≠ 5) ∧ BASR sk rv (v 4).toNat (rv b 2) (a 8 t2) ∧ ∀ y, fnd a (iv s 10) (iv s 11) i 30 (va_up W i.toNat he) t2 y → fnd a (iv s 10) (iv s 11) i 30 (va_up W i.toNat x) t (cmb a rb y) := by
  obtain ⟨rb, t2, p1, p2, p3, p4, _, p6⟩ := h v a W t hR ht h5 hl0 hl
  obtain ⟨q1, q2, q3⟩ := p3.tb hR
  have e : ((t2.toNat : Nat) : Int) = t2 := Int.toNat_of_nonneg q1
  obtain ⟨⟨c1, _⟩, ⟨c2, _⟩, _⟩ := hR.tab (i := t2.toNat) (by omega) q3
  refine ⟨rb, t2.toNat, p1, p2, by omega, q3, ⟨c1, p4 q1⟩, c2.up (by omega), fun y hy => p6 y ?_⟩
  rw [e] at hy; exact hy
theorem FDI.plain (h : FDI sk ln iv rv s tb i x bs he (some b)) (hO : FOX sk ln iv rv s b i he bs r) (h0 : iv b 0 = 0 ∨ iv b 0 = 4) (hi : 0 ≤ i) : FDX sk ln iv rv s tb i x r := fun v a W t hR ht h5 hl0 hl => by
  obtain ⟨rb, t2, p1, p2, p3, p4, p5, _, p7⟩ := h.get hR ht h5 hl0 hl
  obtain ⟨y, o1, o2⟩ := hO v a (va_up W i.toNat he) t2 rb hR p3 p4 (hl.up hi) (va_up_self _ _ _) p1 p2
  exact ⟨_, p7 y (fnd.k0 (n := 29) (by rw [Int.toNat_natCast]; omega) o1), o2⟩
theorem FDI.num (h : FDI sk ln iv rv s tb i x bs he (some b)) (hO : FOX sk ln iv rv s b i he bs r) (h0 : iv b 0 = 2) (hd : isD he) (hi : 0 ≤ i) : FDX sk ln iv rv s tb i x r := fun v a W t hR ht h5 hl0 hl => by
  obtain ⟨rb, t2, p1, p2, p3, p4, p5, _, p7⟩ := h.get hR ht h5 hl0 hl
  obtain ⟨y, o1, o2⟩ := hO v a (va_up W i.toNat he) t2 rb hR p3 p4 (hl.up hi) (va_up_self _ _ _) p1 p2
  exact ⟨_, p7 y (fnd.k2 (n := 29) (by rw [Int.toNat_natCast]; omega) (by rw [va_up_self]; exact hd) o1), o2⟩
theorem FDI.mk (hR : TRL sk ln iv rv v a) {t2 : Nat} (p3 : (t2 : Int) < v 4) (hk : 1 ≤ a 6 t2 ∧ a 6 t2 ≤ 3) (p6 : BASR sk rv (v 4).toNat tq (a 8 t2)) : (0 ≤ a 8 t2 → a 6 (a 8 t2).toNat ≠ 5) ∧ (tq = none → False) ∧ (0 ≤ a 8 t2 ∧ a 8 t2 < v 4 ∧ a 8 t2 < ((29 : Nat) : Int)) := by
  have g := hR.2.2.1.1 t2 (by omega) p3
  rw [Int.toNat_natCast] at g
  have h30 := hR.v30
  refine ⟨fun _ => by omega, fun e => ?_, by omega⟩
  subst e
  have := p6.no hR
  omega
theorem FDI.numn (h : FDI sk ln iv rv s tb i x bs he (some b)) (h0 : iv b 0 = 2) (hd : ¬ isD he) (h2 : rv b 2 = tq) : FDI sk ln iv rv s tb i x bs he tq := fun v a W t hR ht h5 hl0 hl => by
  obtain ⟨rb, t2, p1, p2, p3, p4, p5, p6, p7⟩ := h.get hR ht h5 hl0 hl
  rw [h2] at p6
  obtain ⟨m1, m2, m3⟩ := FDI.mk hR p3 (by omega) p6
  exact ⟨rb, a 8 t2, p1, p2, p6, m1, m2, fun y hy => p7 y (fnd.k2n (n := 29) (by rw [Int.toNat_natCast]; omega) (by rw [va_up_self]; exact hd) (by rw [Int.toNat_natCast]; exact fnd_lower hR.2.2.1 30 _ _ _ m3.2.1 m3.1 hy 29 m3.2.2))⟩
theorem BST.ge (h : BST ln iv rv a r z) : -1 ≤ z := by
  rcases h with ⟨_, e⟩ | ⟨_, _, e, _⟩ <;> omega
theorem FDI.con (h : FDI sk ln iv rv s tb i x bs he (some b)) (hO : FOX sk ln iv rv s b i he bs r) (h0 : iv b 0 ≠ 0 ∧ iv b 0 ≠ 2 ∧ iv b 0 ≠ 3 ∧ iv b 0 ≠ 4) (h2 : rv b 2 = tq) (hi : 0 ≤ i) : FDI sk ln iv rv s tb i x r he tq := fun v a W t hR ht h5 hl0 hl => by
  obtain ⟨rb, t2, p1, p2, p3, p4, p5, p6, p7⟩ := h.get hR ht h5 hl0 hl
  rw [h2] at p6
  have p8 := hR.2.2.1.1 t2 (by omega) p3
  rw [Int.toNat_natCast] at p8
  obtain ⟨m1, m2, m3⟩ := FDI.mk hR p3 (by omega) p6
  obtain ⟨y, o1, o2⟩ := hO v a (va_up W i.toNat he) t2 rb hR p3 p4 (hl.up hi) (va_up_self _ _ _) p1 p2
  refine ⟨_, a 8 t2, o2.ge, o2, p6, m1, m2, fun z hz => ?_⟩
  have oy := o1.rg
  have zy : -1 ≤ z := by
    rcases fnd_ge hR.2.2.1 30 _ _ _ m3.2.1 m3.1 hz with e | e <;> omega
  rw [cmb_as p1 (by omega) zy]
  exact p7 _ (fnd.k1 (n := 29) (by rw [Int.toNat_natCast]; omega) ⟨y, z, o1, by rw [Int.toNat_natCast]; exact fnd_lower hR.2.2.1 30 _ _ _ m3.2.1 m3.1 hz 29 m3.2.2, rfl⟩)
theorem FDI.sho (h : FDI sk ln iv rv s tb i x bs he (some b)) (hO : FOX sk ln iv rv s b i y bs r) (h0 : iv b 0 = 3) (hy : y = sml he) (h2 : rv b 2 = tq) (hi : 0 ≤ i) : FDI sk ln iv rv s tb i x r y tq := fun v a W t hR ht h5 hl0 hl => by
  subst hy
  obtain ⟨rb, t2, p1, p2, p3, p4, p5, p6, p7⟩ := h.get hR ht h5 hl0 hl
  rw [h2] at p6
  obtain ⟨m1, m2, m3⟩ := FDI.mk hR p3 (by omega) p6
  obtain ⟨y, o1, o2⟩ := hO v a (va_up W i.toNat (sml he)) t2 rb hR p3 p4 (hl.up hi) (va_up_self _ _ _) p1 p2
  refine ⟨_, a 8 t2, o2.ge, o2, p6, m1, m2, fun z hz => ?_⟩
  have oy := o1.rg
  have zy : -1 ≤ z := by
    rcases fnd_ge hR.2.2.1 30 _ _ _ m3.2.1 m3.1 hz with e | e <;> omega
  rw [cmb_as p1 (by omega) zy]
  exact p7 _ (fnd.k3 (n := 29) (by rw [Int.toNat_natCast]; omega) (by rw [va_up_self, vuu]) ⟨y, z, o1, by rw [Int.toNat_natCast]; exact fnd_lower hR.2.2.1 30 _ _ _ m3.2.1 m3.1 hz 29 m3.2.2, rfl⟩)
theorem FDI.fin0 (h : FDI sk ln iv rv s tb i x bs he none) : FDX sk ln iv rv s tb i x r := fun v a W t hR ht h5 hl0 hl => by
  obtain ⟨_, _, _, _, _, _, p, _⟩ := h v a W t hR ht h5 hl0 hl
  exact (p rfl).elim
end FROW
section FRN
variable {g : Nat} {sk : Nat → Nat} {L : List Nat} {cl ln : Nat → Nat} {iv iv1 iv2 iv3 : Nat → Nat → Int} {rv : Nat → Nat → Option Nat} {v : Nat → Int} {a : Nat → Nat → Int} {W : Nat → Int} {s w tb b : Nat} {R t : Nat} {i k x y z rb he q u : Int} {r f : Option Nat} {ls : List Nat}
theorem fT.sym {rv1 : Nat → Nat → Option Nat} (h : fT ls L cl iv rv iv1 rv1) : fT ls L cl iv1 rv1 iv rv := fun b hb hc => ⟨(h b hb hc).1.symm, (h b hb hc).2.symm⟩
theorem ROWR.ni (hW : WT g sk L cl ln iv rv) (hF : fT ls L cl iv rv iv1 rv) (h1 : kpl ls = true) (tw : ty L cl w 20) (h : ROWR ln iv rv a w R) : ROWR ln iv1 rv a w R := by
  have k := kpl_no h1
  obtain ⟨e1, e2, l, c, e3, e4, e5, e6, e7, e8⟩ := h
  obtain ⟨l', q1, tl⟩ := hW.ref tw 1 rfl rfl rfl
  rw [e3] at q1; cases q1
  obtain ⟨c', q2, tc⟩ := hW.ref tw 2 rfl rfl rfl
  rw [e4] at q2; cases q2
  refine hv2 (show ty L cl l 65 from tl) (show ty L cl c 66 from tc) (fun t65 t66 => ?_)
  refine ⟨(hF.i tw k.2.1 3).trans e1, (hF.i tw k.2.1 0).trans e2, l, c, e3, e4, e5, e6, fun j hj => ?_, fun j hj => ?_⟩
  · rw [hF.i t65 k.2.2.2.1 j]; exact e7 j hj
  · rw [hF.i t66 k.2.2.2.2.1 j]; exact e8 j hj
theorem BST.ni (hW : WT g sk L cl ln iv rv) (hF : fT ls L cl iv rv iv1 rv) (h1 : kpl ls = true) (tr : ∀ b, r = some b → ty L cl b 20) (h : BST ln iv rv a r z) : BST ln iv1 rv a r z := by
  rcases h with h | ⟨w, e1, e2, e3⟩
  · exact Or.inl h
  · exact Or.inr ⟨w, e1, e2, e3.ni hW hF h1 (tr w e1)⟩
theorem LTW.ni (hW : WT g sk L cl ln iv rv) (hF : fT ls L cl iv rv iv1 rv) (hc : ls.contains 50 = false) (ts : ty L cl s 15) (h : LTW iv rv s W q u) : LTW iv1 rv s W q u := fun lb hb j h1 h2 => by
  obtain ⟨b', q1, tb'⟩ := hW.ref ts 0 rfl rfl rfl
  rw [hb] at q1; cases q1
  have t50 : ty L cl lb 50 := tb'
  rw [hF.i t50 hc j.toNat]; exact h lb hb j h1 h2
theorem TRL.ni (hW : WT g sk L cl ln iv rv) (hS : SKL sk L cl) (hF : fT ls L cl iv rv iv1 rv) (h1 : kpl ls = true) (a1 : ls.contains 22 = false) (a2 : ls.contains 1000 = false) (a3 : ls.contains 23 = false) (a4 : ls.contains 1001 = false) (h : TRL sk ln iv rv v a) : TRL sk ln iv1 rv v a := h.qq (QT.of hW hS XT.refl hF h1 a1 a2 a3 a4)
theorem FOX.ni (hW : WT g sk L cl ln iv rv) (hS : SKL sk L cl) (hW1 : WT g sk L cl ln iv1 rv) (hF : fT [55] L cl iv rv iv1 rv) (ts : ty L cl s 15) (tr : ∀ b, r = some b → ty L cl b 20) (tf : ∀ b, f = some b → ty L cl b 20) (h : FOX sk ln iv1 rv s tb i x r f) : FOX sk ln iv rv s tb i x r f := fun v a W t rb hR ht he hl hw hrb hB => by
  refine hv2 (hF.i ts rfl 10) (hF.i ts rfl 11) (fun e10 e11 => ?_)
  obtain ⟨y, p1, p2⟩ := h v a W t rb (hR.ni hW hS hF rfl rfl rfl rfl rfl) ht he (by rw [e11]; exact hl.ni hW hF rfl ts) hw hrb (hB.ni hW hF rfl tr)
  rw [e10, e11] at p1
  exact ⟨y, p1, p2.ni hW1 hF.sym rfl tf⟩
end FRN
end
section
theorem sgn_i {t z : Int} (ht : R32 t) (hz : R32 z) (e : sgn (iI t) = iI z) : z = 1 ↔ (¬ isD t ∧ ¬ isG t ∧ ¬ isS t) := by
  refine hv2 (show ∀ n : Int, R32 n → ((iI t < iI n ↔ t < n) ∧ (iI n < iI t ↔ n < t)) from fun n hn => ⟨iI_lt ht hn, iI_lt hn ht⟩) (show sgn (iI t) = if iI t < iI 48 ∨ (iI 57 < iI t ∧ iI t < iI 65) ∨ (iI 90 < iI t ∧ iI t < iI 97) ∨ iI 122 < iI t then iI 1 else iI 0 from rfl) (fun k e0 => ?_)
  refine hv6 ((k 48 ⟨by decide, by decide⟩).1) ((k 57 ⟨by decide, by decide⟩).2) ((k 65 ⟨by decide, by decide⟩).1) ((k 90 ⟨by decide, by decide⟩).2) ((k 97 ⟨by decide, by decide⟩).1) ((k 122 ⟨by decide, by decide⟩).2) (fun a1 a2 a3 a4 a5 a6 => ?_)
  rw [e0] at e
  unfold isD isG isS
  split at e
  · rename_i c
    rw [a1, a2, a3, a4, a5, a6] at c
    have q := (iI_eq ⟨by decide, by decide⟩ hz).mp e
    exact ⟨fun _ => by omega, fun _ => q.symm⟩
  · rename_i c
    rw [a1, a2, a3, a4, a5, a6] at c
    have q := (iI_eq ⟨by decide, by decide⟩ hz).mp e
    exact ⟨fun w => by omega, fun w => by omega⟩
set_option maxHeartbeats 4000000 in
set_option maxRecDepth 100000 in
theorem G_fits {l : Launch} {G : GT} {mi : Nat} {sk : Nat → Nat} {L : List Nat} {cl ln : Nat → Nat} {iv : Nat → Nat → Int} {rv : Nat → Nat → Option Nat}  {a0 : Nat} {a1 : Nat} {i : Int} (hW : WT (g0 G) sk L cl ln iv rv) (hS : SKL sk L cl) (t_a0 : ty L cl a0 15) (t_a1 : ty L cl a1 20) (h_i : -2147483648 ≤ i ∧ i ≤ 2147483647) (hi : 0 ≤ i ∧ i ≤ 500) : Mc l G mi (Phi (g0 G) sk) PHM yX6_fits cX6_fits 6 (some .boolean) 1 [.ref a0, .ref a1, .int (iI i)] L cl ln iv rv 0 (fun v L2 cl2 ln2 iv2 rv2 => ∃ f : Int, v = some (.int (iI f)) ∧ L = L2 ∧ cl = cl2 ∧ ln = ln2 ∧ iv = iv2 ∧ rv = rv2 ∧ (f = 0 ∨ f = 1) ∧ (FTX ln iv rv a0 a1 i f)) := by
  refine Mc.mk (by decide) (Nat.le_of_ble_eq_true rfl) ?_
  intro p e s m args below meth c A C hM
  refine hv3 (Phi.le hW hS) (show XT L cl ln L cl ln from XT.refl) (show fT [] L cl iv rv iv rv from fT.refl) (fun hph hX0 hF0 => ?_)
  refine c_iload_n (j := 2) C dX6_fits_0 rfl ?_
  refine c_aload_n (j := 1) (x := a1) C dX6_fits_1 rfl ?_
  obtain ⟨rb1, rq1, trb1⟩ := hW.ref t_a1 1 rfl rfl rfl
  have lnrb1 : 0 ≤ ln rb1 ∧ ln rb1 ≤ 8 := hW.len trb1 rfl
  refine c_getr (k := 1) C ck_6 dX6_fits_2 w3_141 (by decide) t_a1 rfl rfl (by decide) rfl rq1 ?_
  refine c_st (st2 := [.ref rb1, .int (iI i)]) rfl ?_
  have ll1 : 0 ≤ ln rb1 ∧ ln rb1 ≤ 8 := hW.len trb1 rfl
  refine c_alenI C dX6_fits_5 trb1 rfl ?_
  refine c_iadd C dX6_fits_6 ?_
  refine c_istore_n (lv2 := [(3, .int (iI (i + ((ln rb1 : Nat) : Int)))), (0, .ref a0), (1, .ref a1), (2, .int (iI i))]) C dX6_fits_7 (by decide) rfl ?_
  refine c_iload_n (j := 0) C dX6_fits_8 rfl ?_
  refine c_aload_n (j := 1) (x := a0) C dX6_fits_9 rfl ?_
  have ri1 : 0 ≤ iv a0 11 ∧ iv a0 11 ≤ 500 := hW.int t_a0 11
  refine c_get (k := 11) C ck_7 dX6_fits_10 w1_153 (by decide) t_a0 rfl rfl (by decide) rfl ?_
  refine c_icmp_le (tgt := 18) C ⟨by omega, by omega⟩ (r32_c (lo := 0) (hi := 500) ri1.1 ri1.2 (by decide) (by decide)) dX6_fits_13 (by decide) (fun c1 => ?_) (fun c1 => ?_)
  · refine c_iconst C dX6_fits_18 ?_
    refine c_istore (lv2 := [(4, .int (iI 1)), (3, .int (iI (i + ((ln rb1 : Nat) : Int)))), (0, .ref a0), (1, .ref a1), (2, .int (iI i))]) C dX6_fits_19 (by decide) rfl ?_
    have Lp1 : ∀ (nn : Nat) (k : Int) , 10 - k < (nn : Int) → (1 ≤ k ∧ k ≤ 9) → (FXI iv rv a0 a1 i k) → cw p l e 1 ((PHM) + 0 - ((Phi (g0 G) sk) ln rv)) s m args below meth c G A 6 (MQ below (Qu G A (Qp G (Phi (g0 G) sk) ((Phi (g0 G) sk) ln rv) 0 (fun v L2 cl2 ln2 iv2 rv2 => ∃ f : Int, v = some (.int (iI f)) ∧ L = L2 ∧ cl = cl2 ∧ ln = ln2 ∧ iv = iv2 ∧ rv = rv2 ∧ (f = 0 ∨ f = 1) ∧ (FTX ln iv rv a0 a1 i f)))) args s (((PHM) + 0 - ((Phi (g0 G) sk) ln rv)) / 16) ((PHM) + 0 - ((Phi (g0 G) sk) ln rv)) A) (Phi (g0 G) sk) ((Phi (g0 G) sk) ln rv) L cl ln iv rv 0 21 [(4, .int (iI k)), (3, .int (iI (i + ((ln rb1 : Nat) : Int)))), (0, .ref a0), (1, .ref a1), (2, .int (iI i))] [] := by
      intro nn
      induction nn with
      | zero =>
        intro  k  hm   hk hF
        exact absurd hm (by omega)
      | succ nn ih1 =>
        intro  k  hm   hk hF
        refine c_iload (j := 0) C dX6_fits_21 rfl ?_
        refine c_aload_n (j := 3) (x := a1) C dX6_fits_23 rfl ?_
        refine c_getr (k := 1) C ck_6 dX6_fits_24 w3_141 (by decide) t_a1 rfl rfl (by decide) rfl rq1 ?_
        refine c_st (st2 := [.ref rb1, .int (iI k)]) rfl ?_
        refine c_alenI C dX6_fits_27 trb1 rfl ?_
        refine c_icmp_ge (tgt := 58) C (r32_c (lo := 1) (hi := 9) hk.1 hk.2 (by decide) (by decide)) ⟨by omega, by omega⟩ dX6_fits_28 (by decide) (fun c2 => ?_) (fun c2 => ?_)
        · refine c_iload_n (j := 4) C dX6_fits_58 rfl ?_
          refine c_aload_n (j := 2) (x := a0) C dX6_fits_59 rfl ?_
          have ri2 : 0 ≤ iv a0 10 ∧ iv a0 10 ≤ 500 := hW.int t_a0 10
          refine c_get (k := 10) C ck_7 dX6_fits_60 w1_152 (by decide) t_a0 rfl rfl (by decide) rfl ?_
          refine c_icmp_ne (tgt := 70) C ⟨by omega, by omega⟩ (r32_c (lo := 0) (hi := 500) ri2.1 ri2.2 (by decide) (by decide)) dX6_fits_63 (by decide) (fun c3 => ?_) (fun c3 => ?_)
          · refine c_iconst C dX6_fits_70 ?_
            refine c_istore (lv2 := [(4, .int (iI 0)), (3, .int (iI (i + ((ln rb1 : Nat) : Int)))), (0, .ref a0), (1, .ref a1), (2, .int (iI i))]) C dX6_fits_71 (by decide) rfl ?_
            refine c_iload_n (j := 1) C dX6_fits_73 rfl ?_
            refine c_aload_n (j := 2) (x := a0) C dX6_fits_74 rfl ?_
            refine c_get (k := 11) C ck_7 dX6_fits_75 w1_153 (by decide) t_a0 rfl rfl (by decide) rfl ?_
            refine c_icmp_ne (tgt := 85) C ⟨by omega, by omega⟩ (r32_c (lo := 0) (hi := 500) ri1.1 ri1.2 (by decide) (by decide)) dX6_fits_78 (by decide) (fun c4 => ?_) (fun c4 => ?_)
            · refine c_iconst C dX6_fits_85 ?_
              refine c_istore (lv2 := [(5, .int (iI 0)), (4, .int (iI 0)), (3, .int (iI (i + ((ln rb1 : Nat) : Int)))), (0, .ref a0), (1, .ref a1), (2, .int (iI i))]) C dX6_fits_86 (by decide) rfl ?_
              refine c_aload_n (j := 4) (x := a1) C dX6_fits_88 rfl ?_
              have ri3 : 0 ≤ iv a1 3 ∧ iv a1 3 ≤ 5 := hW.int t_a1 3
              refine c_get (k := 3) C ck_6 dX6_fits_89 w3_150 (by decide) t_a1 rfl rfl (by decide) rfl ?_
              rcases (show (iv a1 3) = 1 ∨ (iv a1 3) = 2 ∨ (iv a1 3) = 3 ∨ (iv a1 3) = 4 ∨ (iv a1 3) = 5 ∨ ((iv a1 3) < 1 ∨ 5 < (iv a1 3)) by omega) with sw1 | sw1 | sw1 | sw1 | sw1 | sw1
              · refine c_tabIn (tgt := 128) (off := 36) C (r32_c (lo := 0) (hi := 5) ri3.1 ri3.2 (by decide) (by decide)) dX6_fits_92 (by omega) (by omega) (by rw [sw1]; rfl) (by decide) ?_
                refine c_iload (j := 1) C dX6_fits_128 rfl ?_
                obtain ⟨lb0, hlb0, tlb0⟩ := hW.ref t_a0 0 rfl rfl rfl
                exact c_zret C dX6_fits_130 rfl (Or.inl rfl) (by decide) (rom0 hph hph (by decide)) ⟨0, rfl, rfl, rfl, rfl, rfl, rfl, (Or.inl rfl), (FTX.cc hF rq1 hlb0 (by omega) (by omega) (by omega) ⟨fun q => absurd q (by decide), fun q => by unfold isD isG isS at q; omega⟩)⟩
              · refine c_tabIn (tgt := 131) (off := 39) C (r32_c (lo := 0) (hi := 5) ri3.1 ri3.2 (by decide) (by decide)) dX6_fits_92 (by omega) (by omega) (by rw [sw1]; rfl) (by decide) ?_
                refine c_iload (j := 1) C dX6_fits_131 rfl ?_
                refine c_if_ne (tgt := 145) C ⟨by decide, by decide⟩ dX6_fits_133 (by decide) (fun z => absurd z (by omega)) (fun _ => ?_)
                refine c_iload (j := 0) C dX6_fits_136 rfl ?_
                refine c_if_ne (tgt := 145) C ⟨by decide, by decide⟩ dX6_fits_138 (by decide) (fun z => absurd z (by omega)) (fun _ => ?_)
                refine c_iconst C dX6_fits_141 ?_
                refine c_goto (tgt := 146) C dX6_fits_142 (by decide) ?_
                obtain ⟨lb0, hlb0, tlb0⟩ := hW.ref t_a0 0 rfl rfl rfl
                exact c_zret C dX6_fits_146 rfl (Or.inr rfl) (by decide) (rom0 hph hph (by decide)) ⟨1, rfl, rfl, rfl, rfl, rfl, rfl, (Or.inr rfl), (FTX.cc hF rq1 hlb0 (by omega) (by omega) (by omega) ⟨fun _ => by unfold isD isG isS; omega, fun _ => rfl⟩)⟩
              · refine c_tabIn (tgt := 147) (off := 55) C (r32_c (lo := 0) (hi := 5) ri3.1 ri3.2 (by decide) (by decide)) dX6_fits_92 (by omega) (by omega) (by rw [sw1]; rfl) (by decide) ?_
                refine c_iload (j := 0) C dX6_fits_147 rfl ?_
                obtain ⟨lb0, hlb0, tlb0⟩ := hW.ref t_a0 0 rfl rfl rfl
                exact c_zret C dX6_fits_149 rfl (Or.inl rfl) (by decide) (rom0 hph hph (by decide)) ⟨0, rfl, rfl, rfl, rfl, rfl, rfl, (Or.inl rfl), (FTX.cc hF rq1 hlb0 (by omega) (by omega) (by omega) ⟨fun q => absurd q (by decide), fun q => by unfold isD isG isS at q; omega⟩)⟩
              · refine c_tabIn (tgt := 150) (off := 58) C (r32_c (lo := 0) (hi := 5) ri3.1 ri3.2 (by decide) (by decide)) dX6_fits_92 (by omega) (by omega) (by rw [sw1]; rfl) (by decide) ?_
                refine c_iload (j := 1) C dX6_fits_150 rfl ?_
                refine c_if_eq (tgt := 164) C ⟨by decide, by decide⟩ dX6_fits_152 (by decide) (fun _ => ?_) (fun z => absurd z (by omega))
                refine c_iconst C dX6_fits_164 ?_
                obtain ⟨lb0, hlb0, tlb0⟩ := hW.ref t_a0 0 rfl rfl rfl
                exact c_zret C dX6_fits_165 rfl (Or.inl rfl) (by decide) (rom0 hph hph (by decide)) ⟨0, rfl, rfl, rfl, rfl, rfl, rfl, (Or.inl rfl), (FTX.cc hF rq1 hlb0 (by omega) (by omega) (by omega) ⟨fun q => absurd q (by decide), fun q => by unfold isD isG isS at q; omega⟩)⟩
              · refine c_tabIn (tgt := 166) (off := 74) C (r32_c (lo := 0) (hi := 5) ri3.1 ri3.2 (by decide) (by decide)) dX6_fits_92 (by omega) (by omega) (by rw [sw1]; rfl) (by decide) ?_
                refine c_iload (j := 0) C dX6_fits_166 rfl ?_
                refine c_if_ne (tgt := 187) C ⟨by decide, by decide⟩ dX6_fits_168 (by decide) (fun z => absurd z (by omega)) (fun _ => ?_)
                refine c_aload_n (j := 3) (x := a0) C dX6_fits_171 rfl ?_
                obtain ⟨rb2, rq2, trb2⟩ := hW.ref t_a0 0 rfl rfl rfl
                have lnrb2 : 500 ≤ ln rb2 ∧ ln rb2 ≤ 500 := hW.len trb2 rfl
                refine c_getr (k := 0) C ck_7 dX6_fits_172 w1_136 (by decide) t_a0 rfl rfl (by decide) rfl rq2 ?_
                refine c_st (st2 := [.ref rb2]) rfl ?_
                refine c_iload_n (j := 2) C dX6_fits_175 rfl ?_
                have ll2 : 500 ≤ ln rb2 ∧ ln rb2 ≤ 500 := hW.len trb2 rfl
                refine c_iald C dX6_fits_176 trb2 rfl (by omega) (by omega) (by omega) ?_
                have ri4 : (-2147483648) ≤ iv rb2 ((i + ((ln rb1 : Nat) : Int)).toNat) ∧ iv rb2 ((i + ((ln rb1 : Nat) : Int)).toNat) ≤ 2147483647 := hW.int trb2 ((i + ((ln rb1 : Nat) : Int)).toNat)
                refine c_callS0 (As := [.int (iI (iv rb2 (i + ((ln rb1 : Nat) : Int)).toNat))]) (rest := []) C (fun L E => s6_isSign (iI (iv rb2 (i + ((ln rb1 : Nat) : Int)).toNat))) dX6_fits_177 kS_X6_156 rfl rfl (Nat.le_of_ble_eq_true rfl) ⟨(Nat.le_of_ble_eq_true rfl), (Nat.le_of_ble_eq_true rfl)⟩ (rom0 hph hph (by decide)) ?_
                obtain ⟨sg1, hsg1, esg1⟩ := sgn_c (iI (iv rb2 (i + ((ln rb1 : Nat) : Int)).toNat))
                refine c_st (st2 := [.int (iI sg1)]) (by rw [esg1]) ?_
                refine c_if_eq (tgt := 187) C ⟨by omega, by omega⟩ dX6_fits_180 (by decide) (fun c5 => ?_) (fun c5 => ?_)
                · refine c_iconst C dX6_fits_187 ?_
                  have sq := sgn_i (by omega) (by omega) esg1
                  exact c_zret C dX6_fits_188 rfl (Or.inl rfl) (by decide) (rom0 hph hph (by decide)) ⟨0, rfl, rfl, rfl, rfl, rfl, rfl, (Or.inl rfl), (FTX.cc hF rq1 rq2 (by omega) (by omega) (by omega) ⟨fun q => absurd q (by decide), fun q => by
                      rcases q with q | q | q | q | q | q
                      · omega
                      · omega
                      · omega
                      · omega
                      · omega
                      · have q2 := sq.mpr q.2.2
                        omega⟩)⟩
                · refine c_iconst C dX6_fits_183 ?_
                  refine c_goto (tgt := 188) C dX6_fits_184 (by decide) ?_
                  have sq := sgn_i (by omega) (by omega) esg1
                  exact c_zret C dX6_fits_188 rfl (Or.inr rfl) (by decide) (rom0 hph hph (by decide)) ⟨1, rfl, rfl, rfl, rfl, rfl, rfl, (Or.inr rfl), (FTX.cc hF rq1 rq2 (by omega) (by omega) (by omega) ⟨fun _ => Or.inr (Or.inr (Or.inr (Or.inr (Or.inr ⟨by omega, by omega, sq.mp (by omega)⟩)))), fun _ => rfl⟩)⟩
              · refine c_tabOut (tgt := 189) C (r32_c (lo := 0) (hi := 5) ri3.1 ri3.2 (by decide) (by decide)) dX6_fits_92 sw1 (by decide) ?_
                refine c_iconst C dX6_fits_189 ?_
                obtain ⟨lb0, hlb0, tlb0⟩ := hW.ref t_a0 0 rfl rfl rfl
                exact c_zret C dX6_fits_190 rfl (Or.inr rfl) (by decide) (rom0 hph hph (by decide)) ⟨1, rfl, rfl, rfl, rfl, rfl, rfl, (Or.inr rfl), (FTX.cc hF rq1 hlb0 (by omega) (by omega) (by omega) ⟨fun _ => by unfold isD isG isS; omega, fun _ => rfl⟩)⟩
            · refine c_iconst C dX6_fits_81 ?_
              refine c_goto (tgt := 86) C dX6_fits_82 (by decide) ?_
              refine c_istore (lv2 := [(5, .int (iI 1)), (4, .int (iI 0)), (3, .int (iI (i + ((ln rb1 : Nat) : Int)))), (0, .ref a0), (1, .ref a1), (2, .int (iI i))]) C dX6_fits_86 (by decide) rfl ?_
              refine c_aload_n (j := 4) (x := a1) C dX6_fits_88 rfl ?_
              have ri5 : 0 ≤ iv a1 3 ∧ iv a1 3 ≤ 5 := hW.int t_a1 3
              refine c_get (k := 3) C ck_6 dX6_fits_89 w3_150 (by decide) t_a1 rfl rfl (by decide) rfl ?_
              rcases (show (iv a1 3) = 1 ∨ (iv a1 3) = 2 ∨ (iv a1 3) = 3 ∨ (iv a1 3) = 4 ∨ (iv a1 3) = 5 ∨ ((iv a1 3) < 1 ∨ 5 < (iv a1 3)) by omega) with sw2 | sw2 | sw2 | sw2 | sw2 | sw2
              · refine c_tabIn (tgt := 128) (off := 36) C (r32_c (lo := 0) (hi := 5) ri5.1 ri5.2 (by decide) (by decide)) dX6_fits_92 (by omega) (by omega) (by rw [sw2]; rfl) (by decide) ?_
                refine c_iload (j := 1) C dX6_fits_128 rfl ?_
                obtain ⟨lb0, hlb0, tlb0⟩ := hW.ref t_a0 0 rfl rfl rfl
                exact c_zret C dX6_fits_130 rfl (Or.inl rfl) (by decide) (rom0 hph hph (by decide)) ⟨0, rfl, rfl, rfl, rfl, rfl, rfl, (Or.inl rfl), (FTX.cc hF rq1 hlb0 (by omega) (by omega) (by omega) ⟨fun q => absurd q (by decide), fun q => by unfold isD isG isS at q; omega⟩)⟩
              · refine c_tabIn (tgt := 131) (off := 39) C (r32_c (lo := 0) (hi := 5) ri5.1 ri5.2 (by decide) (by decide)) dX6_fits_92 (by omega) (by omega) (by rw [sw2]; rfl) (by decide) ?_
                refine c_iload (j := 1) C dX6_fits_131 rfl ?_
                refine c_if_ne (tgt := 145) C ⟨by decide, by decide⟩ dX6_fits_133 (by decide) (fun z => absurd z (by omega)) (fun _ => ?_)
                refine c_iload (j := 0) C dX6_fits_136 rfl ?_
                refine c_if_ne (tgt := 145) C ⟨by decide, by decide⟩ dX6_fits_138 (by decide) (fun _ => ?_) (fun z => absurd z (by omega))
                refine c_iconst C dX6_fits_145 ?_
                obtain ⟨lb0, hlb0, tlb0⟩ := hW.ref t_a0 0 rfl rfl rfl
                exact c_zret C dX6_fits_146 rfl (Or.inl rfl) (by decide) (rom0 hph hph (by decide)) ⟨0, rfl, rfl, rfl, rfl, rfl, rfl, (Or.inl rfl), (FTX.cc hF rq1 hlb0 (by omega) (by omega) (by omega) ⟨fun q => absurd q (by decide), fun q => by unfold isD isG isS at q; omega⟩)⟩
              · refine c_tabIn (tgt := 147) (off := 55) C (r32_c (lo := 0) (hi := 5) ri5.1 ri5.2 (by decide) (by decide)) dX6_fits_92 (by omega) (by omega) (by rw [sw2]; rfl) (by decide) ?_
                refine c_iload (j := 0) C dX6_fits_147 rfl ?_
                obtain ⟨lb0, hlb0, tlb0⟩ := hW.ref t_a0 0 rfl rfl rfl
                exact c_zret C dX6_fits_149 rfl (Or.inr rfl) (by decide) (rom0 hph hph (by decide)) ⟨1, rfl, rfl, rfl, rfl, rfl, rfl, (Or.inr rfl), (FTX.cc hF rq1 hlb0 (by omega) (by omega) (by omega) ⟨fun _ => by unfold isD isG isS; omega, fun _ => rfl⟩)⟩
              · refine c_tabIn (tgt := 150) (off := 58) C (r32_c (lo := 0) (hi := 5) ri5.1 ri5.2 (by decide) (by decide)) dX6_fits_92 (by omega) (by omega) (by rw [sw2]; rfl) (by decide) ?_
                refine c_iload (j := 1) C dX6_fits_150 rfl ?_
                refine c_if_eq (tgt := 164) C ⟨by decide, by decide⟩ dX6_fits_152 (by decide) (fun _ => ?_) (fun z => absurd z (by omega))
                refine c_iconst C dX6_fits_164 ?_
                obtain ⟨lb0, hlb0, tlb0⟩ := hW.ref t_a0 0 rfl rfl rfl
                exact c_zret C dX6_fits_165 rfl (Or.inl rfl) (by decide) (rom0 hph hph (by decide)) ⟨0, rfl, rfl, rfl, rfl, rfl, rfl, (Or.inl rfl), (FTX.cc hF rq1 hlb0 (by omega) (by omega) (by omega) ⟨fun q => absurd q (by decide), fun q => by unfold isD isG isS at q; omega⟩)⟩
              · refine c_tabIn (tgt := 166) (off := 74) C (r32_c (lo := 0) (hi := 5) ri5.1 ri5.2 (by decide) (by decide)) dX6_fits_92 (by omega) (by omega) (by rw [sw2]; rfl) (by decide) ?_
                refine c_iload (j := 0) C dX6_fits_166 rfl ?_
                refine c_if_ne (tgt := 187) C ⟨by decide, by decide⟩ dX6_fits_168 (by decide) (fun _ => ?_) (fun z => absurd z (by omega))
                refine c_iconst C dX6_fits_187 ?_
                obtain ⟨lb0, hlb0, tlb0⟩ := hW.ref t_a0 0 rfl rfl rfl
                exact c_zret C dX6_fits_188 rfl (Or.inl rfl) (by decide) (rom0 hph hph (by decide)) ⟨0, rfl, rfl, rfl, rfl, rfl, rfl, (Or.inl rfl), (FTX.cc hF rq1 hlb0 (by omega) (by omega) (by omega) ⟨fun q => absurd q (by decide), fun q => by unfold isD isG isS at q; omega⟩)⟩
              · refine c_tabOut (tgt := 189) C (r32_c (lo := 0) (hi := 5) ri5.1 ri5.2 (by decide) (by decide)) dX6_fits_92 sw2 (by decide) ?_
                refine c_iconst C dX6_fits_189 ?_
                obtain ⟨lb0, hlb0, tlb0⟩ := hW.ref t_a0 0 rfl rfl rfl
                exact c_zret C dX6_fits_190 rfl (Or.inr rfl) (by decide) (rom0 hph hph (by decide)) ⟨1, rfl, rfl, rfl, rfl, rfl, rfl, (Or.inr rfl), (FTX.cc hF rq1 hlb0 (by omega) (by omega) (by omega) ⟨fun _ => by unfold isD isG isS; omega, fun _ => rfl⟩)⟩
          · refine c_iconst C dX6_fits_66 ?_
            refine c_goto (tgt := 71) C dX6_fits_67 (by decide) ?_
            refine c_istore (lv2 := [(4, .int (iI 1)), (3, .int (iI (i + ((ln rb1 : Nat) : Int)))), (0, .ref a0), (1, .ref a1), (2, .int (iI i))]) C dX6_fits_71 (by decide) rfl ?_
            refine c_iload_n (j := 1) C dX6_fits_73 rfl ?_
            refine c_aload_n (j := 2) (x := a0) C dX6_fits_74 rfl ?_
            refine c_get (k := 11) C ck_7 dX6_fits_75 w1_153 (by decide) t_a0 rfl rfl (by decide) rfl ?_
            refine c_icmp_ne (tgt := 85) C ⟨by omega, by omega⟩ (r32_c (lo := 0) (hi := 500) ri1.1 ri1.2 (by decide) (by decide)) dX6_fits_78 (by decide) (fun c6 => ?_) (fun c6 => ?_)
            · refine c_iconst C dX6_fits_85 ?_
              refine c_istore (lv2 := [(5, .int (iI 0)), (4, .int (iI 1)), (3, .int (iI (i + ((ln rb1 : Nat) : Int)))), (0, .ref a0), (1, .ref a1), (2, .int (iI i))]) C dX6_fits_86 (by decide) rfl ?_
              refine c_aload_n (j := 4) (x := a1) C dX6_fits_88 rfl ?_
              have ri6 : 0 ≤ iv a1 3 ∧ iv a1 3 ≤ 5 := hW.int t_a1 3
              refine c_get (k := 3) C ck_6 dX6_fits_89 w3_150 (by decide) t_a1 rfl rfl (by decide) rfl ?_
              rcases (show (iv a1 3) = 1 ∨ (iv a1 3) = 2 ∨ (iv a1 3) = 3 ∨ (iv a1 3) = 4 ∨ (iv a1 3) = 5 ∨ ((iv a1 3) < 1 ∨ 5 < (iv a1 3)) by omega) with sw3 | sw3 | sw3 | sw3 | sw3 | sw3
              · refine c_tabIn (tgt := 128) (off := 36) C (r32_c (lo := 0) (hi := 5) ri6.1 ri6.2 (by decide) (by decide)) dX6_fits_92 (by omega) (by omega) (by rw [sw3]; rfl) (by decide) ?_
                refine c_iload (j := 1) C dX6_fits_128 rfl ?_
                obtain ⟨lb0, hlb0, tlb0⟩ := hW.ref t_a0 0 rfl rfl rfl
                exact c_zret C dX6_fits_130 rfl (Or.inr rfl) (by decide) (rom0 hph hph (by decide)) ⟨1, rfl, rfl, rfl, rfl, rfl, rfl, (Or.inr rfl), (FTX.cc hF rq1 hlb0 (by omega) (by omega) (by omega) ⟨fun _ => by unfold isD isG isS; omega, fun _ => rfl⟩)⟩
              · refine c_tabIn (tgt := 131) (off := 39) C (r32_c (lo := 0) (hi := 5) ri6.1 ri6.2 (by decide) (by decide)) dX6_fits_92 (by omega) (by omega) (by rw [sw3]; rfl) (by decide) ?_
                refine c_iload (j := 1) C dX6_fits_131 rfl ?_
                refine c_if_ne (tgt := 145) C ⟨by decide, by decide⟩ dX6_fits_133 (by decide) (fun _ => ?_) (fun z => absurd z (by omega))
                refine c_iconst C dX6_fits_145 ?_
                obtain ⟨lb0, hlb0, tlb0⟩ := hW.ref t_a0 0 rfl rfl rfl
                exact c_zret C dX6_fits_146 rfl (Or.inl rfl) (by decide) (rom0 hph hph (by decide)) ⟨0, rfl, rfl, rfl, rfl, rfl, rfl, (Or.inl rfl), (FTX.cc hF rq1 hlb0 (by omega) (by omega) (by omega) ⟨fun q => absurd q (by decide), fun q => by unfold isD isG isS at q; omega⟩)⟩
              · refine c_tabIn (tgt := 147) (off := 55) C (r32_c (lo := 0) (hi := 5) ri6.1 ri6.2 (by decide) (by decide)) dX6_fits_92 (by omega) (by omega) (by rw [sw3]; rfl) (by decide) ?_
                refine c_iload (j := 0) C dX6_fits_147 rfl ?_
                obtain ⟨lb0, hlb0, tlb0⟩ := hW.ref t_a0 0 rfl rfl rfl
                exact c_zret C dX6_fits_149 rfl (Or.inl rfl) (by decide) (rom0 hph hph (by decide)) ⟨0, rfl, rfl, rfl, rfl, rfl, rfl, (Or.inl rfl), (FTX.cc hF rq1 hlb0 (by omega) (by omega) (by omega) ⟨fun q => absurd q (by decide), fun q => by unfold isD isG isS at q; omega⟩)⟩
              · refine c_tabIn (tgt := 150) (off := 58) C (r32_c (lo := 0) (hi := 5) ri6.1 ri6.2 (by decide) (by decide)) dX6_fits_92 (by omega) (by omega) (by rw [sw3]; rfl) (by decide) ?_
                refine c_iload (j := 1) C dX6_fits_150 rfl ?_
                refine c_if_eq (tgt := 164) C ⟨by decide, by decide⟩ dX6_fits_152 (by decide) (fun z => absurd z (by omega)) (fun _ => ?_)
                refine c_iload (j := 0) C dX6_fits_155 rfl ?_
                refine c_if_eq (tgt := 164) C ⟨by decide, by decide⟩ dX6_fits_157 (by decide) (fun _ => ?_) (fun z => absurd z (by omega))
                refine c_iconst C dX6_fits_164 ?_
                obtain ⟨lb0, hlb0, tlb0⟩ := hW.ref t_a0 0 rfl rfl rfl
                exact c_zret C dX6_fits_165 rfl (Or.inl rfl) (by decide) (rom0 hph hph (by decide)) ⟨0, rfl, rfl, rfl, rfl, rfl, rfl, (Or.inl rfl), (FTX.cc hF rq1 hlb0 (by omega) (by omega) (by omega) ⟨fun q => absurd q (by decide), fun q => by unfold isD isG isS at q; omega⟩)⟩
              · refine c_tabIn (tgt := 166) (off := 74) C (r32_c (lo := 0) (hi := 5) ri6.1 ri6.2 (by decide) (by decide)) dX6_fits_92 (by omega) (by omega) (by rw [sw3]; rfl) (by decide) ?_
                refine c_iload (j := 0) C dX6_fits_166 rfl ?_
                refine c_if_ne (tgt := 187) C ⟨by decide, by decide⟩ dX6_fits_168 (by decide) (fun z => absurd z (by omega)) (fun _ => ?_)
                refine c_aload_n (j := 3) (x := a0) C dX6_fits_171 rfl ?_
                obtain ⟨rb3, rq3, trb3⟩ := hW.ref t_a0 0 rfl rfl rfl
                have lnrb3 : 500 ≤ ln rb3 ∧ ln rb3 ≤ 500 := hW.len trb3 rfl
                refine c_getr (k := 0) C ck_7 dX6_fits_172 w1_136 (by decide) t_a0 rfl rfl (by decide) rfl rq3 ?_
                refine c_st (st2 := [.ref rb3]) rfl ?_
                refine c_iload_n (j := 2) C dX6_fits_175 rfl ?_
                have ll3 : 500 ≤ ln rb3 ∧ ln rb3 ≤ 500 := hW.len trb3 rfl
                refine c_iald C dX6_fits_176 trb3 rfl (by omega) (by omega) (by omega) ?_
                have ri7 : (-2147483648) ≤ iv rb3 ((i + ((ln rb1 : Nat) : Int)).toNat) ∧ iv rb3 ((i + ((ln rb1 : Nat) : Int)).toNat) ≤ 2147483647 := hW.int trb3 ((i + ((ln rb1 : Nat) : Int)).toNat)
                refine c_callS0 (As := [.int (iI (iv rb3 (i + ((ln rb1 : Nat) : Int)).toNat))]) (rest := []) C (fun L E => s6_isSign (iI (iv rb3 (i + ((ln rb1 : Nat) : Int)).toNat))) dX6_fits_177 kS_X6_156 rfl rfl (Nat.le_of_ble_eq_true rfl) ⟨(Nat.le_of_ble_eq_true rfl), (Nat.le_of_ble_eq_true rfl)⟩ (rom0 hph hph (by decide)) ?_
                obtain ⟨sg2, hsg2, esg2⟩ := sgn_c (iI (iv rb3 (i + ((ln rb1 : Nat) : Int)).toNat))
                refine c_st (st2 := [.int (iI sg2)]) (by rw [esg2]) ?_
                refine c_if_eq (tgt := 187) C ⟨by omega, by omega⟩ dX6_fits_180 (by decide) (fun c7 => ?_) (fun c7 => ?_)
                · refine c_iconst C dX6_fits_187 ?_
                  have sq := sgn_i (by omega) (by omega) esg2
                  exact c_zret C dX6_fits_188 rfl (Or.inl rfl) (by decide) (rom0 hph hph (by decide)) ⟨0, rfl, rfl, rfl, rfl, rfl, rfl, (Or.inl rfl), (FTX.cc hF rq1 rq3 (by omega) (by omega) (by omega) ⟨fun q => absurd q (by decide), fun q => by
                      rcases q with q | q | q | q | q | q
                      · omega
                      · omega
                      · omega
                      · omega
                      · omega
                      · have q2 := sq.mpr q.2.2
                        omega⟩)⟩
                · refine c_iconst C dX6_fits_183 ?_
                  refine c_goto (tgt := 188) C dX6_fits_184 (by decide) ?_
                  have sq := sgn_i (by omega) (by omega) esg2
                  exact c_zret C dX6_fits_188 rfl (Or.inr rfl) (by decide) (rom0 hph hph (by decide)) ⟨1, rfl, rfl, rfl, rfl, rfl, rfl, (Or.inr rfl), (FTX.cc hF rq1 rq3 (by omega) (by omega) (by omega) ⟨fun _ => Or.inr (Or.inr (Or.inr (Or.inr (Or.inr ⟨by omega, by omega, sq.mp (by omega)⟩)))), fun _ => rfl⟩)⟩
              · refine c_tabOut (tgt := 189) C (r32_c (lo := 0) (hi := 5) ri6.1 ri6.2 (by decide) (by decide)) dX6_fits_92 sw3 (by decide) ?_
                refine c_iconst C dX6_fits_189 ?_
                obtain ⟨lb0, hlb0, tlb0⟩ := hW.ref t_a0 0 rfl rfl rfl
                exact c_zret C dX6_fits_190 rfl (Or.inr rfl) (by decide) (rom0 hph hph (by decide)) ⟨1, rfl, rfl, rfl, rfl, rfl, rfl, (Or.inr rfl), (FTX.cc hF rq1 hlb0 (by omega) (by omega) (by omega) ⟨fun _ => by unfold isD isG isS; omega, fun _ => rfl⟩)⟩
            · refine c_iconst C dX6_fits_81 ?_
              refine c_goto (tgt := 86) C dX6_fits_82 (by decide) ?_
              refine c_istore (lv2 := [(5, .int (iI 1)), (4, .int (iI 1)), (3, .int (iI (i + ((ln rb1 : Nat) : Int)))), (0, .ref a0), (1, .ref a1), (2, .int (iI i))]) C dX6_fits_86 (by decide) rfl ?_
              refine c_aload_n (j := 4) (x := a1) C dX6_fits_88 rfl ?_
              have ri8 : 0 ≤ iv a1 3 ∧ iv a1 3 ≤ 5 := hW.int t_a1 3
              refine c_get (k := 3) C ck_6 dX6_fits_89 w3_150 (by decide) t_a1 rfl rfl (by decide) rfl ?_
              rcases (show (iv a1 3) = 1 ∨ (iv a1 3) = 2 ∨ (iv a1 3) = 3 ∨ (iv a1 3) = 4 ∨ (iv a1 3) = 5 ∨ ((iv a1 3) < 1 ∨ 5 < (iv a1 3)) by omega) with sw4 | sw4 | sw4 | sw4 | sw4 | sw4
              · refine c_tabIn (tgt := 128) (off := 36) C (r32_c (lo := 0) (hi := 5) ri8.1 ri8.2 (by decide) (by decide)) dX6_fits_92 (by omega) (by omega) (by rw [sw4]; rfl) (by decide) ?_
                refine c_iload (j := 1) C dX6_fits_128 rfl ?_
                obtain ⟨lb0, hlb0, tlb0⟩ := hW.ref t_a0 0 rfl rfl rfl
                exact c_zret C dX6_fits_130 rfl (Or.inr rfl) (by decide) (rom0 hph hph (by decide)) ⟨1, rfl, rfl, rfl, rfl, rfl, rfl, (Or.inr rfl), (FTX.cc hF rq1 hlb0 (by omega) (by omega) (by omega) ⟨fun _ => by unfold isD isG isS; omega, fun _ => rfl⟩)⟩
              · refine c_tabIn (tgt := 131) (off := 39) C (r32_c (lo := 0) (hi := 5) ri8.1 ri8.2 (by decide) (by decide)) dX6_fits_92 (by omega) (by omega) (by rw [sw4]; rfl) (by decide) ?_
                refine c_iload (j := 1) C dX6_fits_131 rfl ?_
                refine c_if_ne (tgt := 145) C ⟨by decide, by decide⟩ dX6_fits_133 (by decide) (fun _ => ?_) (fun z => absurd z (by omega))
                refine c_iconst C dX6_fits_145 ?_
                obtain ⟨lb0, hlb0, tlb0⟩ := hW.ref t_a0 0 rfl rfl rfl
                exact c_zret C dX6_fits_146 rfl (Or.inl rfl) (by decide) (rom0 hph hph (by decide)) ⟨0, rfl, rfl, rfl, rfl, rfl, rfl, (Or.inl rfl), (FTX.cc hF rq1 hlb0 (by omega) (by omega) (by omega) ⟨fun q => absurd q (by decide), fun q => by unfold isD isG isS at q; omega⟩)⟩
              · refine c_tabIn (tgt := 147) (off := 55) C (r32_c (lo := 0) (hi := 5) ri8.1 ri8.2 (by decide) (by decide)) dX6_fits_92 (by omega) (by omega) (by rw [sw4]; rfl) (by decide) ?_
                refine c_iload (j := 0) C dX6_fits_147 rfl ?_
                obtain ⟨lb0, hlb0, tlb0⟩ := hW.ref t_a0 0 rfl rfl rfl
                exact c_zret C dX6_fits_149 rfl (Or.inr rfl) (by decide) (rom0 hph hph (by decide)) ⟨1, rfl, rfl, rfl, rfl, rfl, rfl, (Or.inr rfl), (FTX.cc hF rq1 hlb0 (by omega) (by omega) (by omega) ⟨fun _ => by unfold isD isG isS; omega, fun _ => rfl⟩)⟩
              · refine c_tabIn (tgt := 150) (off := 58) C (r32_c (lo := 0) (hi := 5) ri8.1 ri8.2 (by decide) (by decide)) dX6_fits_92 (by omega) (by omega) (by rw [sw4]; rfl) (by decide) ?_
                refine c_iload (j := 1) C dX6_fits_150 rfl ?_
                refine c_if_eq (tgt := 164) C ⟨by decide, by decide⟩ dX6_fits_152 (by decide) (fun z => absurd z (by omega)) (fun _ => ?_)
                refine c_iload (j := 0) C dX6_fits_155 rfl ?_
                refine c_if_eq (tgt := 164) C ⟨by decide, by decide⟩ dX6_fits_157 (by decide) (fun z => absurd z (by omega)) (fun _ => ?_)
                refine c_iconst C dX6_fits_160 ?_
                refine c_goto (tgt := 165) C dX6_fits_161 (by decide) ?_
                obtain ⟨lb0, hlb0, tlb0⟩ := hW.ref t_a0 0 rfl rfl rfl
                exact c_zret C dX6_fits_165 rfl (Or.inr rfl) (by decide) (rom0 hph hph (by decide)) ⟨1, rfl, rfl, rfl, rfl, rfl, rfl, (Or.inr rfl), (FTX.cc hF rq1 hlb0 (by omega) (by omega) (by omega) ⟨fun _ => by unfold isD isG isS; omega, fun _ => rfl⟩)⟩
              · refine c_tabIn (tgt := 166) (off := 74) C (r32_c (lo := 0) (hi := 5) ri8.1 ri8.2 (by decide) (by decide)) dX6_fits_92 (by omega) (by omega) (by rw [sw4]; rfl) (by decide) ?_
                refine c_iload (j := 0) C dX6_fits_166 rfl ?_
                refine c_if_ne (tgt := 187) C ⟨by decide, by decide⟩ dX6_fits_168 (by decide) (fun _ => ?_) (fun z => absurd z (by omega))
                refine c_iconst C dX6_fits_187 ?_
                obtain ⟨lb0, hlb0, tlb0⟩ := hW.ref t_a0 0 rfl rfl rfl
                exact c_zret C dX6_fits_188 rfl (Or.inl rfl) (by decide) (rom0 hph hph (by decide)) ⟨0, rfl, rfl, rfl, rfl, rfl, rfl, (Or.inl rfl), (FTX.cc hF rq1 hlb0 (by omega) (by omega) (by omega) ⟨fun q => absurd q (by decide), fun q => by unfold isD isG isS at q; omega⟩)⟩
              · refine c_tabOut (tgt := 189) C (r32_c (lo := 0) (hi := 5) ri8.1 ri8.2 (by decide) (by decide)) dX6_fits_92 sw4 (by decide) ?_
                refine c_iconst C dX6_fits_189 ?_
                obtain ⟨lb0, hlb0, tlb0⟩ := hW.ref t_a0 0 rfl rfl rfl
                exact c_zret C dX6_fits_190 rfl (Or.inr rfl) (by decide) (rom0 hph hph (by decide)) ⟨1, rfl, rfl, rfl, rfl, rfl, rfl, (Or.inr rfl), (FTX.cc hF rq1 hlb0 (by omega) (by omega) (by omega) ⟨fun _ => by unfold isD isG isS; omega, fun _ => rfl⟩)⟩
        · refine c_aload_n (j := 3) (x := a1) C dX6_fits_31 rfl ?_
          refine c_getr (k := 1) C ck_6 dX6_fits_32 w3_141 (by decide) t_a1 rfl rfl (by decide) rfl rq1 ?_
          refine c_st (st2 := [.ref rb1]) rfl ?_
          refine c_iload (j := 0) C dX6_fits_35 rfl ?_
          refine c_iald C dX6_fits_37 trb1 rfl (by omega) (by omega) (by omega) ?_
          have ri9 : (-2147483648) ≤ iv rb1 k.toNat ∧ iv rb1 k.toNat ≤ 2147483647 := hW.int trb1 k.toNat
          refine c_aload_n (j := 2) (x := a0) C dX6_fits_38 rfl ?_
          obtain ⟨rb4, rq4, trb4⟩ := hW.ref t_a0 0 rfl rfl rfl
          have lnrb4 : 500 ≤ ln rb4 ∧ ln rb4 ≤ 500 := hW.len trb4 rfl
          refine c_getr (k := 0) C ck_7 dX6_fits_39 w1_136 (by decide) t_a0 rfl rfl (by decide) rfl rq4 ?_
          refine c_st (st2 := [.ref rb4, .int (iI (iv rb1 k.toNat))]) rfl ?_
          refine c_iload_n (j := 4) C dX6_fits_42 rfl ?_
          refine c_iload (j := 0) C dX6_fits_43 rfl ?_
          refine c_iadd C dX6_fits_45 ?_
          have ll4 : 500 ≤ ln rb4 ∧ ln rb4 ≤ 500 := hW.len trb4 rfl
          refine c_iald C dX6_fits_46 trb4 rfl (by omega) (by omega) (by omega) ?_
          have ri10 : (-2147483648) ≤ iv rb4 ((i + k).toNat) ∧ iv rb4 ((i + k).toNat) ≤ 2147483647 := hW.int trb4 ((i + k).toNat)
          refine c_icmp_eq (tgt := 52) C (r32_c (lo := (-2147483648)) (hi := 2147483647) ri9.1 ri9.2 (by decide) (by decide)) ⟨by omega, by omega⟩ dX6_fits_47 (by decide) (fun c8 => ?_) (fun c8 => ?_)
          · refine c_iinc (z := k) (j := 0) (lv2 := [(4, .int (iI (k + 1))), (3, .int (iI (i + ((ln rb1 : Nat) : Int)))), (0, .ref a0), (1, .ref a1), (2, .int (iI i))]) C dX6_fits_52 rfl (by decide) rfl ?_
            refine c_goto (tgt := 21) C dX6_fits_55 (by decide) ?_
            refine c_lv (lv2 := [(4, .int (iI (k + 1))), (3, .int (iI (i + ((ln rb1 : Nat) : Int)))), (0, .ref a0), (1, .ref a1), (2, .int (iI i))]) [0, 1, 2, 3, 4] rfl ?_
            exact ih1  (k + 1)  (by omega)   (by omega) (hF.step rq1 rq4 (by omega))
          · refine c_iconst C dX6_fits_50 ?_
            refine hv2 (show 0 ≤ iv a1 3 ∧ iv a1 3 ≤ 5 from hW.int t_a1 3) (show 0 ≤ iv a0 10 ∧ iv a0 10 ≤ 500 from hW.int t_a0 10) (fun ri11 ri12 => ?_)
            exact c_zret C dX6_fits_51 rfl (Or.inl rfl) (by decide) (rom0 hph hph (by decide)) ⟨0, rfl, rfl, rfl, rfl, rfl, rfl, (Or.inl rfl), (FTX.n2 (k := k) rq1 rq4 ⟨by omega, by omega⟩ (by omega) (by omega))⟩
    refine c_lv (lv2 := [(4, .int (iI 1)), (3, .int (iI (i + ((ln rb1 : Nat) : Int)))), (0, .ref a0), (1, .ref a1), (2, .int (iI i))]) [0, 1, 2, 3, 4] rfl ?_
    exact Lp1 10 1  (by omega)   (by omega) FXI.zero
  · refine c_iconst C dX6_fits_16 ?_
    refine hv2 (show 0 ≤ iv a1 3 ∧ iv a1 3 ≤ 5 from hW.int t_a1 3) (show 0 ≤ iv a0 10 ∧ iv a0 10 ≤ 500 from hW.int t_a0 10) (fun ri13 ri14 => ?_)
    exact c_zret C dX6_fits_17 rfl (Or.inl rfl) (by decide) (rom0 hph hph (by decide)) ⟨0, rfl, rfl, rfl, rfl, rfl, rfl, (Or.inl rfl), (FTX.n1 rq1 (by omega))⟩
set_option maxHeartbeats 4000000 in
set_option maxRecDepth 100000 in
theorem G_findOwn {l : Launch} {G : GT} {mi : Nat} {sk : Nat → Nat} {L : List Nat} {cl ln : Nat → Nat} {iv : Nat → Nat → Int} {rv : Nat → Nat → Option Nat}  {a0 : Nat} {a1 : Nat} {i : Int} {x : Int} {r : Option Nat} (hW : WT (g0 G) sk L cl ln iv rv) (hS : SKL sk L cl) (t_a0 : ty L cl a0 15) (t_a1 : ty L cl a1 100) (t_r : ∀ b, r = some b → ty L cl b 20) (h_i : -2147483648 ≤ i ∧ i ≤ 2147483647) (h_x : -2147483648 ≤ x ∧ x ≤ 2147483647) (hi : 0 ≤ i ∧ i ≤ 500) : Mc l G mi (Phi (g0 G) sk) PHM yX6_findOwn cX6_findOwn 11 (some (.object "DotPress$Row")) 3 [.ref a0, .ref a1, .int (iI i), .int (iI x), va_rf r] L cl ln iv rv 0 (fun v L2 cl2 ln2 iv2 rv2 => ∃ f : Option Nat, v = some ((va_rf f)) ∧ L = L2 ∧ cl = cl2 ∧ ln = ln2 ∧ iv = iv2 ∧ rv = rv2 ∧ (∀ b, f = some b → ty L2 cl2 b 20) ∧ (FOX sk ln iv rv a0 a1 i x r f)) := by
  refine Mc.mk (by decide) (by cases r <;> exact Nat.le_of_ble_eq_true rfl) ?_
  intro p e s m args below meth c A C hM
  have hph := Phi.le hW hS
  refine c_lveq (show lv_args 0 [.ref a0, .ref a1, .int (iI i), .int (iI x), va_rf r] = [(0, .ref a0), (1, .ref a1), (2, .int (iI i)), (3, .int (iI x)), (4, (va_rf r))] from by cases r <;> rfl) ?_
  refine hv2 (show XT L cl ln L cl ln from XT.refl) (show fT [] L cl iv rv iv rv from fT.refl) (fun hX0 hF0 => ?_)
  refine c_aloadr (j := 4) (r := r) C dX6_findOwn_0 rfl ?_
  refine c_astorer (r := r) (lv2 := [(5, (va_rf r)), (0, .ref a0), (1, .ref a1), (2, .int (iI i)), (3, .int (iI x)), (4, (va_rf r))]) C dX6_findOwn_2 (by decide) (by cases r <;> rfl) ?_
  refine c_aloadr (j := 0) (r := r) C dX6_findOwn_4 rfl ?_
  refine c_ifnonnull (r := r) (tgt := 13) C dX6_findOwn_6 (by decide) (fun ob1 oq1 => ?_) (fun oq1 => ?_)
  · subst oq1
    have tob1 := t_r ob1 rfl
    refine c_lv (lv2 := [(5, .ref ob1), (0, .ref a0), (1, .ref a1), (2, .int (iI i)), (3, .int (iI x)), (4, .ref ob1)]) [0, 1, 2, 3, 4, 5] rfl ?_
    refine c_st (st2 := []) rfl ?_
    refine c_aload (j := 0) (x := ob1) C dX6_findOwn_13 rfl ?_
    obtain ⟨rb1, rq1, trb1⟩ := hW.ref tob1 1 rfl rfl rfl
    have lnrb1 : 0 ≤ ln rb1 ∧ ln rb1 ≤ 8 := hW.len trb1 rfl
    refine c_getr (k := 1) C ck_6 dX6_findOwn_15 w3_141 (by decide) tob1 rfl rfl (by decide) rfl rq1 ?_
    refine c_st (st2 := [.ref rb1]) rfl ?_
    have ll1 : 0 ≤ ln rb1 ∧ ln rb1 ≤ 8 := hW.len trb1 rfl
    refine c_alenI C dX6_findOwn_18 trb1 rfl ?_
    refine c_istore (lv2 := [(6, .int (iI ((ln rb1 : Nat) : Int))), (5, .ref ob1), (0, .ref a0), (1, .ref a1), (2, .int (iI i)), (3, .int (iI x)), (4, .ref ob1)]) C dX6_findOwn_19 (by decide) rfl ?_
    refine c_aload_n (j := 3) (x := a1) C dX6_findOwn_21 rfl ?_
    obtain ⟨rb2, rq2, trb2⟩ := hW.ref t_a1 5 rfl rfl rfl
    refine c_getr (k := 5) C ck_10 dX6_findOwn_22 w2_191 (by decide) t_a1 rfl rfl (by decide) rfl rq2 ?_
    refine c_st (st2 := [.ref rb2]) rfl ?_
    have ri1 : 0 ≤ iv rb2 2 ∧ iv rb2 2 ≤ 200 := hW.int trb2 2
    refine c_get (k := 2) C ck_2 dX6_findOwn_25 w1_47 (by decide) trb2 rfl rfl (by decide) rfl ?_
    refine c_aload_n (j := 3) (x := a1) C dX6_findOwn_28 rfl ?_
    obtain ⟨rb3, rq3, trb3⟩ := hW.ref t_a1 4 rfl rfl rfl
    refine c_getr (k := 4) C ck_10 dX6_findOwn_29 w2_189 (by decide) t_a1 rfl rfl (by decide) rfl rq3 ?_
    refine c_st (st2 := [.ref rb3, .int (iI (iv rb2 2))]) rfl ?_
    have ri2 : 0 ≤ iv rb3 2 ∧ iv rb3 2 ≤ 200 := hW.int trb3 2
    refine d_callV (As := []) (rest := [.int (iI (iv rb2 2))]) C hM (C_size_26 (a0 := rb3) hW hS trb3  ) dX6_findOwn_32 kV_X6_134 rfl trb3 rfl rfl (by decide) ck_0 rfl (Nat.le_of_ble_eq_true rfl) ⟨(Nat.le_of_ble_eq_true rfl), (Nat.le_of_ble_eq_true rfl)⟩ hph hph (show 0 + 0 = 0 from rfl) (by decide) (fun rh1 Lh1 clh1 lnh1 ivh1 rvh1 h1 => ?_)
    obtain ⟨f1, rfl, rfl, rfl, rfl, rfl, rfl, rgf1, exf1⟩ := h1
    refine c_st (st2 := [.int (iI f1), .int (iI (iv rb2 2))]) rfl ?_
    have gf1 : f1 = iv rb3 2 := exf1
    obtain ⟨mn1, hmn1, emn1⟩ := mmin_c (x := iv rb2 2) (y := f1) (r32_c (lo := 0) (hi := 200) ri1.1 ri1.2 (by decide) (by decide)) ⟨by omega, by omega⟩
    refine c_mmin (w := iI mn1) C dX6_findOwn_35 w4_109 w2_129 w1_14 w2_130 (by decide) (rom0 hph hph (by decide)) (Nat.le_of_ble_eq_true rfl) emn1 ?_
    refine c_istore (lv2 := [(7, .int (iI mn1)), (6, .int (iI ((ln rb1 : Nat) : Int))), (5, .ref ob1), (0, .ref a0), (1, .ref a1), (2, .int (iI i)), (3, .int (iI x)), (4, .ref ob1)]) C dX6_findOwn_38 (by decide) rfl ?_
    refine c_aload_n (j := 4) (x := a1) C dX6_findOwn_40 rfl ?_
    refine c_getr (k := 5) C ck_10 dX6_findOwn_41 w2_191 (by decide) t_a1 rfl rfl (by decide) rfl rq2 ?_
    refine c_st (st2 := [.ref rb2]) rfl ?_
    obtain ⟨rb4, rq4, trb4⟩ := hW.ref trb2 1 rfl rfl rfl
    refine hv2 (show 16 ≤ ln rb4 ∧ ln rb4 ≤ 400 from hW.len trb4 rfl) (hW.isz trb2 rfl rfl rq4) (fun lnrb4 szrb4 => ?_)
    refine c_getr (k := 1) C ck_2 dX6_findOwn_44 w1_42 (by decide) trb2 rfl rfl (by decide) rfl rq4 ?_
    refine c_st (st2 := [.ref rb4]) rfl ?_
    refine c_astore (lv2 := [(8, .ref rb4), (7, .int (iI mn1)), (6, .int (iI ((ln rb1 : Nat) : Int))), (5, .ref ob1), (0, .ref a0), (1, .ref a1), (2, .int (iI i)), (3, .int (iI x)), (4, .ref ob1)]) C dX6_findOwn_47 (by decide) rfl ?_
    refine c_iconst C dX6_findOwn_49 ?_
    refine c_istore (lv2 := [(9, .int (iI 0)), (8, .ref rb4), (7, .int (iI mn1)), (6, .int (iI ((ln rb1 : Nat) : Int))), (5, .ref ob1), (0, .ref a0), (1, .ref a1), (2, .int (iI i)), (3, .int (iI x)), (4, .ref ob1)]) C dX6_findOwn_50 (by decide) rfl ?_
    have Lp1 : ∀ (nn : Nat) (bs : Option Nat) (lg k : Int) , 201 - k < (nn : Int) → (∀ b, bs = some b → ty L cl b 20) → (0 ≤ lg ∧ lg ≤ 8) → (0 ≤ k ∧ k ≤ mn1) → (FOI sk ln iv rv a0 a1 i x (some ob1) bs lg k) → cw p l e 3 ((PHM) + 0 - ((Phi (g0 G) sk) ln rv)) s m args below meth c G A 11 (MQ below (Qu G A (Qp G (Phi (g0 G) sk) ((Phi (g0 G) sk) ln rv) 0 (fun v L2 cl2 ln2 iv2 rv2 => ∃ f : Option Nat, v = some ((va_rf f)) ∧ L = L2 ∧ cl = cl2 ∧ ln = ln2 ∧ iv = iv2 ∧ rv = rv2 ∧ (∀ b, f = some b → ty L2 cl2 b 20) ∧ (FOX sk ln iv rv a0 a1 i x (some ob1) f)))) args s (((PHM) + 0 - ((Phi (g0 G) sk) ln rv)) / 16) ((PHM) + 0 - ((Phi (g0 G) sk) ln rv)) A) (Phi (g0 G) sk) ((Phi (g0 G) sk) ln rv) L cl ln iv rv 0 52 [(5, (va_rf bs)), (6, .int (iI lg)), (9, .int (iI k)), (8, .ref rb4), (7, .int (iI mn1)), (0, .ref a0), (1, .ref a1), (2, .int (iI i)), (3, .int (iI x)), (4, .ref ob1)] [] := by
      intro nn
      induction nn with
      | zero =>
        intro bs lg k  hm  ty_bs hlg hk hO
        exact absurd hm (by omega)
      | succ nn ih1 =>
        intro bs lg k  hm  ty_bs hlg hk hO
        refine c_iload (j := 2) C dX6_findOwn_52 rfl ?_
        refine c_iload (j := 4) C dX6_findOwn_54 rfl ?_
        refine c_icmp_ge (tgt := 124) C ⟨by omega, by omega⟩ ⟨by omega, by omega⟩ dX6_findOwn_56 (by decide) (fun c1 => ?_) (fun c1 => ?_)
        · refine c_aloadr (j := 0) (r := bs) C dX6_findOwn_124 rfl ?_
          exact c_aret (x := bs) C dX6_findOwn_126 rfl (Or.inl ⟨_, rfl⟩) (by decide) (rom0 hph hph (by decide)) ⟨bs, rfl, rfl, rfl, rfl, rfl, rfl, ty_bs, (hO.fin rq3 rq2 (by omega) rq4)⟩
        · refine c_aload (j := 3) (x := rb4) C dX6_findOwn_59 rfl ?_
          refine c_iload (j := 2) C dX6_findOwn_61 rfl ?_
          have ll2 : 16 ≤ ln rb4 ∧ ln rb4 ≤ 400 := hW.len trb4 rfl
          refine c_iald C dX6_findOwn_63 trb4 rfl (by omega) (by omega) (by omega) ?_
          have ri3 : (-2147483648) ≤ iv rb4 k.toNat ∧ iv rb4 k.toNat ≤ 2147483647 := hW.int trb4 k.toNat
          refine c_iload_n (j := 8) C dX6_findOwn_64 rfl ?_
          refine c_icmp_eq (tgt := 71) C (r32_c (lo := (-2147483648)) (hi := 2147483647) ri3.1 ri3.2 (by decide) (by decide)) ⟨by omega, by omega⟩ dX6_findOwn_65 (by decide) (fun c2 => ?_) (fun c2 => ?_)
          · refine c_aload_n (j := 6) (x := a1) C dX6_findOwn_71 rfl ?_
            refine c_getr (k := 4) C ck_10 dX6_findOwn_72 w2_189 (by decide) t_a1 rfl rfl (by decide) rfl rq3 ?_
            refine c_st (st2 := [.ref rb3]) rfl ?_
            refine c_iload (j := 2) C dX6_findOwn_75 rfl ?_
            refine d_callV (As := [.int (iI k)]) (rest := []) C hM (C_get_26 (a0 := rb3) (i := k) hW hS trb3 (by omega) (by show 0 ≤ k ∧ k < iv rb3 2; omega)) dX6_findOwn_77 kV_X6_145 rfl trb3 rfl rfl (by decide) ck_0 rfl (Nat.le_of_ble_eq_true rfl) ⟨(Nat.le_of_ble_eq_true rfl), (Nat.le_of_ble_eq_true rfl)⟩ hph hph (show 0 + 0 = 0 from rfl) (by decide) (fun rh2 Lh2 clh2 lnh2 ivh2 rvh2 h2 => ?_)
            obtain ⟨f2, rfl, rfl, rfl, rfl, rfl, rfl, rgf2, exf2⟩ := h2
            refine c_st (st2 := [.ref f2]) rfl ?_
            have gf2 : el rv rb3 k.toNat = some f2 := exf2
            refine c_cast C ck_6 dX6_findOwn_80 w4_111 w8_169t rgf2 rfl rfl (by decide) ?_
            refine c_astore (lv2 := [(10, .ref f2), (5, (va_rf bs)), (6, .int (iI lg)), (9, .int (iI k)), (8, .ref rb4), (7, .int (iI mn1)), (0, .ref a0), (1, .ref a1), (2, .int (iI i)), (3, .int (iI x)), (4, .ref ob1)]) C dX6_findOwn_83 (by decide) rfl ?_
            refine c_aload (j := 0) (x := f2) C dX6_findOwn_85 rfl ?_
            obtain ⟨rb5, rq5, trb5⟩ := hW.ref rgf2 1 rfl rfl rfl
            have lnrb5 : 0 ≤ ln rb5 ∧ ln rb5 ≤ 8 := hW.len trb5 rfl
            refine c_getr (k := 1) C ck_6 dX6_findOwn_87 w3_141 (by decide) rgf2 rfl rfl (by decide) rfl rq5 ?_
            refine c_st (st2 := [.ref rb5]) rfl ?_
            have ll3 : 0 ≤ ln rb5 ∧ ln rb5 ≤ 8 := hW.len trb5 rfl
            refine c_alenI C dX6_findOwn_90 trb5 rfl ?_
            refine c_iload (j := 2) C dX6_findOwn_91 rfl ?_
            refine c_icmp_le (tgt := 118) C ⟨by omega, by omega⟩ (r32_c (lo := 0) (hi := 8) hlg.1 hlg.2 (by decide) (by decide)) dX6_findOwn_93 (by decide) (fun c3 => ?_) (fun c3 => ?_)
            · refine c_iinc (z := k) (j := 3) (lv2 := [(9, .int (iI (k + 1))), (10, .ref f2), (5, (va_rf bs)), (6, .int (iI lg)), (8, .ref rb4), (7, .int (iI mn1)), (0, .ref a0), (1, .ref a1), (2, .int (iI i)), (3, .int (iI x)), (4, .ref ob1)]) C dX6_findOwn_118 rfl (by decide) rfl ?_
              refine c_goto (tgt := 52) C dX6_findOwn_121 (by decide) ?_
              refine c_lv (lv2 := [(5, (va_rf bs)), (6, .int (iI lg)), (9, .int (iI (k + 1))), (8, .ref rb4), (7, .int (iI mn1)), (0, .ref a0), (1, .ref a1), (2, .int (iI i)), (3, .int (iI x)), (4, .ref ob1)]) [2, 3, 0, 4, 5, 6, 7, 8, 9, 10] rfl ?_
              exact ih1  bs lg (k + 1)  (by omega)  ty_bs (by omega) (by omega) (hO.short rq3 ⟨by omega, by omega⟩ exf2 rq5 (by omega))
            · refine c_aload_n (j := 6) (x := a0) C dX6_findOwn_96 rfl ?_
              refine c_aload (j := 0) (x := f2) C dX6_findOwn_97 rfl ?_
              refine c_iload_n (j := 8) C dX6_findOwn_99 rfl ?_
              refine d_callV (As := [.ref f2, .int (iI i)]) (rest := []) C hM (G_fits (a0 := a0) (a1 := f2) (i := i) hW hS t_a0 rgf2 (by omega) (by show 0 ≤ i ∧ i ≤ 500; omega)) dX6_findOwn_100 kV_X6_149 rfl t_a0 rfl rfl (by decide) ck_7 rfl (Nat.le_of_ble_eq_true rfl) ⟨(Nat.le_of_ble_eq_true rfl), (Nat.le_of_ble_eq_true rfl)⟩ hph hph (show 0 + 0 = 0 from rfl) (by decide) (fun rh3 Lh3 clh3 lnh3 ivh3 rvh3 h3 => ?_)
              obtain ⟨f3, rfl, rfl, rfl, rfl, rfl, rfl, rgf3, exf3⟩ := h3
              refine c_st (st2 := [.int (iI f3)]) rfl ?_
              have gf3 : FTX ln iv rv a0 f2 i f3 := exf3
              refine c_if_eq (tgt := 118) C ⟨by omega, by omega⟩ dX6_findOwn_103 (by decide) (fun c4 => ?_) (fun c4 => ?_)
              · refine c_iinc (z := k) (j := 3) (lv2 := [(9, .int (iI (k + 1))), (10, .ref f2), (5, (va_rf bs)), (6, .int (iI lg)), (8, .ref rb4), (7, .int (iI mn1)), (0, .ref a0), (1, .ref a1), (2, .int (iI i)), (3, .int (iI x)), (4, .ref ob1)]) C dX6_findOwn_118 rfl (by decide) rfl ?_
                refine c_goto (tgt := 52) C dX6_findOwn_121 (by decide) ?_
                refine c_lv (lv2 := [(5, (va_rf bs)), (6, .int (iI lg)), (9, .int (iI (k + 1))), (8, .ref rb4), (7, .int (iI mn1)), (0, .ref a0), (1, .ref a1), (2, .int (iI i)), (3, .int (iI x)), (4, .ref ob1)]) [2, 3, 0, 4, 5, 6, 7, 8, 9, 10] rfl ?_
                exact ih1  bs lg (k + 1)  (by omega)  ty_bs (by omega) (by omega) (hO.miss rq3 ⟨by omega, by omega⟩ exf2 rq2 rq4 (by omega) gf3 (by omega))
              · refine c_aload (j := 0) (x := f2) C dX6_findOwn_106 rfl ?_
                refine c_astore (lv2 := [(5, .ref f2), (10, .ref f2), (6, .int (iI lg)), (9, .int (iI k)), (8, .ref rb4), (7, .int (iI mn1)), (0, .ref a0), (1, .ref a1), (2, .int (iI i)), (3, .int (iI x)), (4, .ref ob1)]) C dX6_findOwn_108 (by decide) rfl ?_
                refine c_aload (j := 1) (x := f2) C dX6_findOwn_110 rfl ?_
                refine c_getr (k := 1) C ck_6 dX6_findOwn_112 w3_141 (by decide) rgf2 rfl rfl (by decide) rfl rq5 ?_
                refine c_st (st2 := [.ref rb5]) rfl ?_
                refine c_alenI C dX6_findOwn_115 trb5 rfl ?_
                refine c_istore (lv2 := [(6, .int (iI ((ln rb5 : Nat) : Int))), (5, .ref f2), (10, .ref f2), (9, .int (iI k)), (8, .ref rb4), (7, .int (iI mn1)), (0, .ref a0), (1, .ref a1), (2, .int (iI i)), (3, .int (iI x)), (4, .ref ob1)]) C dX6_findOwn_116 (by decide) rfl ?_
                refine c_iinc (z := k) (j := 3) (lv2 := [(9, .int (iI (k + 1))), (6, .int (iI ((ln rb5 : Nat) : Int))), (5, .ref f2), (10, .ref f2), (8, .ref rb4), (7, .int (iI mn1)), (0, .ref a0), (1, .ref a1), (2, .int (iI i)), (3, .int (iI x)), (4, .ref ob1)]) C dX6_findOwn_118 rfl (by decide) rfl ?_
                refine c_goto (tgt := 52) C dX6_findOwn_121 (by decide) ?_
                refine c_lv (lv2 := [(5, .ref f2), (6, .int (iI ((ln rb5 : Nat) : Int))), (9, .int (iI (k + 1))), (8, .ref rb4), (7, .int (iI mn1)), (0, .ref a0), (1, .ref a1), (2, .int (iI i)), (3, .int (iI x)), (4, .ref ob1)]) [2, 1, 0, 4, 5, 6, 7, 8, 9, 10] rfl ?_
                exact ih1  (some f2) ((ln rb5 : Nat) : Int) (k + 1)  (by omega)  (fun _ q => by cases q; exact rgf2) (by omega) (by omega) (hO.hit rq3 ⟨by omega, by omega⟩ exf2 rq2 rq4 (by omega) gf3 (by omega) rq5 (by omega))
          · refine c_goto (tgt := 118) C dX6_findOwn_68 (by decide) ?_
            refine c_iinc (z := k) (j := 2) (lv2 := [(9, .int (iI (k + 1))), (5, (va_rf bs)), (6, .int (iI lg)), (8, .ref rb4), (7, .int (iI mn1)), (0, .ref a0), (1, .ref a1), (2, .int (iI i)), (3, .int (iI x)), (4, .ref ob1)]) C dX6_findOwn_118 rfl (by decide) rfl ?_
            refine c_goto (tgt := 52) C dX6_findOwn_121 (by decide) ?_
            refine c_lv (lv2 := [(5, (va_rf bs)), (6, .int (iI lg)), (9, .int (iI (k + 1))), (8, .ref rb4), (7, .int (iI mn1)), (0, .ref a0), (1, .ref a1), (2, .int (iI i)), (3, .int (iI x)), (4, .ref ob1)]) [1, 2, 0, 3, 4, 5, 6, 7, 8, 9] rfl ?_
            exact ih1  bs lg (k + 1)  (by omega)  ty_bs (by omega) (by omega) (hO.skip rq2 rq4 ⟨by omega, by omega⟩ (by omega))
    refine c_lv (lv2 := [(5, .ref ob1), (6, .int (iI ((ln rb1 : Nat) : Int))), (9, .int (iI 0)), (8, .ref rb4), (7, .int (iI mn1)), (0, .ref a0), (1, .ref a1), (2, .int (iI i)), (3, .int (iI x)), (4, .ref ob1)]) [4, 3, 0, 1, 2, 5, 6, 7, 8, 9] rfl ?_
    exact Lp1 202 (some ob1) ((ln rb1 : Nat) : Int) 0  (by omega)  (fun _ q => by cases q; exact tob1) (by omega) (by omega) (FOI.i1 rq1)
  · subst oq1
    refine c_lv (lv2 := [(5, .null), (0, .ref a0), (1, .ref a1), (2, .int (iI i)), (3, .int (iI x)), (4, .null)]) [0, 1, 2, 3, 4, 5] rfl ?_
    refine c_st (st2 := []) rfl ?_
    refine c_iconst C dX6_findOwn_9 ?_
    refine c_goto (tgt := 19) C dX6_findOwn_10 (by decide) ?_
    refine c_istore (lv2 := [(6, .int (iI 0)), (5, .null), (0, .ref a0), (1, .ref a1), (2, .int (iI i)), (3, .int (iI x)), (4, .null)]) C dX6_findOwn_19 (by decide) rfl ?_
    refine c_aload_n (j := 3) (x := a1) C dX6_findOwn_21 rfl ?_
    obtain ⟨rb6, rq6, trb6⟩ := hW.ref t_a1 5 rfl rfl rfl
    refine c_getr (k := 5) C ck_10 dX6_findOwn_22 w2_191 (by decide) t_a1 rfl rfl (by decide) rfl rq6 ?_
    refine c_st (st2 := [.ref rb6]) rfl ?_
    have ri4 : 0 ≤ iv rb6 2 ∧ iv rb6 2 ≤ 200 := hW.int trb6 2
    refine c_get (k := 2) C ck_2 dX6_findOwn_25 w1_47 (by decide) trb6 rfl rfl (by decide) rfl ?_
    refine c_aload_n (j := 3) (x := a1) C dX6_findOwn_28 rfl ?_
    obtain ⟨rb7, rq7, trb7⟩ := hW.ref t_a1 4 rfl rfl rfl
    refine c_getr (k := 4) C ck_10 dX6_findOwn_29 w2_189 (by decide) t_a1 rfl rfl (by decide) rfl rq7 ?_
    refine c_st (st2 := [.ref rb7, .int (iI (iv rb6 2))]) rfl ?_
    have ri5 : 0 ≤ iv rb7 2 ∧ iv rb7 2 ≤ 200 := hW.int trb7 2
    refine d_callV (As := []) (rest := [.int (iI (iv rb6 2))]) C hM (C_size_26 (a0 := rb7) hW hS trb7  ) dX6_findOwn_32 kV_X6_134 rfl trb7 rfl rfl (by decide) ck_0 rfl (Nat.le_of_ble_eq_true rfl) ⟨(Nat.le_of_ble_eq_true rfl), (Nat.le_of_ble_eq_true rfl)⟩ hph hph (show 0 + 0 = 0 from rfl) (by decide) (fun rh4 Lh4 clh4 lnh4 ivh4 rvh4 h4 => ?_)
    obtain ⟨f4, rfl, rfl, rfl, rfl, rfl, rfl, rgf4, exf4⟩ := h4
    refine c_st (st2 := [.int (iI f4), .int (iI (iv rb6 2))]) rfl ?_
    have gf4 : f4 = iv rb7 2 := exf4
    obtain ⟨mn2, hmn2, emn2⟩ := mmin_c (x := iv rb6 2) (y := f4) (r32_c (lo := 0) (hi := 200) ri4.1 ri4.2 (by decide) (by decide)) ⟨by omega, by omega⟩
    refine c_mmin (w := iI mn2) C dX6_findOwn_35 w4_109 w2_129 w1_14 w2_130 (by decide) (rom0 hph hph (by decide)) (Nat.le_of_ble_eq_true rfl) emn2 ?_
    refine c_istore (lv2 := [(7, .int (iI mn2)), (6, .int (iI 0)), (5, .null), (0, .ref a0), (1, .ref a1), (2, .int (iI i)), (3, .int (iI x)), (4, .null)]) C dX6_findOwn_38 (by decide) rfl ?_
    refine c_aload_n (j := 4) (x := a1) C dX6_findOwn_40 rfl ?_
    refine c_getr (k := 5) C ck_10 dX6_findOwn_41 w2_191 (by decide) t_a1 rfl rfl (by decide) rfl rq6 ?_
    refine c_st (st2 := [.ref rb6]) rfl ?_
    obtain ⟨rb8, rq8, trb8⟩ := hW.ref trb6 1 rfl rfl rfl
    refine hv2 (show 16 ≤ ln rb8 ∧ ln rb8 ≤ 400 from hW.len trb8 rfl) (hW.isz trb6 rfl rfl rq8) (fun lnrb8 szrb8 => ?_)
    refine c_getr (k := 1) C ck_2 dX6_findOwn_44 w1_42 (by decide) trb6 rfl rfl (by decide) rfl rq8 ?_
    refine c_st (st2 := [.ref rb8]) rfl ?_
    refine c_astore (lv2 := [(8, .ref rb8), (7, .int (iI mn2)), (6, .int (iI 0)), (5, .null), (0, .ref a0), (1, .ref a1), (2, .int (iI i)), (3, .int (iI x)), (4, .null)]) C dX6_findOwn_47 (by decide) rfl ?_
    refine c_iconst C dX6_findOwn_49 ?_
    refine c_istore (lv2 := [(9, .int (iI 0)), (8, .ref rb8), (7, .int (iI mn2)), (6, .int (iI 0)), (5, .null), (0, .ref a0), (1, .ref a1), (2, .int (iI i)), (3, .int (iI x)), (4, .null)]) C dX6_findOwn_50 (by decide) rfl ?_
    have Lp2 : ∀ (nn : Nat) (bs : Option Nat) (lg k : Int) , 201 - k < (nn : Int) → (∀ b, bs = some b → ty L cl b 20) → (0 ≤ lg ∧ lg ≤ 8) → (0 ≤ k ∧ k ≤ mn2) → (FOI sk ln iv rv a0 a1 i x none bs lg k) → cw p l e 3 ((PHM) + 0 - ((Phi (g0 G) sk) ln rv)) s m args below meth c G A 11 (MQ below (Qu G A (Qp G (Phi (g0 G) sk) ((Phi (g0 G) sk) ln rv) 0 (fun v L2 cl2 ln2 iv2 rv2 => ∃ f : Option Nat, v = some ((va_rf f)) ∧ L = L2 ∧ cl = cl2 ∧ ln = ln2 ∧ iv = iv2 ∧ rv = rv2 ∧ (∀ b, f = some b → ty L2 cl2 b 20) ∧ (FOX sk ln iv rv a0 a1 i x none f)))) args s (((PHM) + 0 - ((Phi (g0 G) sk) ln rv)) / 16) ((PHM) + 0 - ((Phi (g0 G) sk) ln rv)) A) (Phi (g0 G) sk) ((Phi (g0 G) sk) ln rv) L cl ln iv rv 0 52 [(5, (va_rf bs)), (6, .int (iI lg)), (9, .int (iI k)), (8, .ref rb8), (7, .int (iI mn2)), (0, .ref a0), (1, .ref a1), (2, .int (iI i)), (3, .int (iI x)), (4, .null)] [] := by
      intro nn
      induction nn with
      | zero =>
        intro bs lg k  hm  ty_bs hlg hk hO
        exact absurd hm (by omega)
      | succ nn ih2 =>
        intro bs lg k  hm  ty_bs hlg hk hO
        refine c_iload (j := 2) C dX6_findOwn_52 rfl ?_
        refine c_iload (j := 4) C dX6_findOwn_54 rfl ?_
        refine c_icmp_ge (tgt := 124) C ⟨by omega, by omega⟩ ⟨by omega, by omega⟩ dX6_findOwn_56 (by decide) (fun c5 => ?_) (fun c5 => ?_)
        · refine c_aloadr (j := 0) (r := bs) C dX6_findOwn_124 rfl ?_
          exact c_aret (x := bs) C dX6_findOwn_126 rfl (Or.inl ⟨_, rfl⟩) (by decide) (rom0 hph hph (by decide)) ⟨bs, rfl, rfl, rfl, rfl, rfl, rfl, ty_bs, (hO.fin rq7 rq6 (by omega) rq8)⟩
        · refine c_aload (j := 3) (x := rb8) C dX6_findOwn_59 rfl ?_
          refine c_iload (j := 2) C dX6_findOwn_61 rfl ?_
          have ll4 : 16 ≤ ln rb8 ∧ ln rb8 ≤ 400 := hW.len trb8 rfl
          refine c_iald C dX6_findOwn_63 trb8 rfl (by omega) (by omega) (by omega) ?_
          have ri6 : (-2147483648) ≤ iv rb8 k.toNat ∧ iv rb8 k.toNat ≤ 2147483647 := hW.int trb8 k.toNat
          refine c_iload_n (j := 8) C dX6_findOwn_64 rfl ?_
          refine c_icmp_eq (tgt := 71) C (r32_c (lo := (-2147483648)) (hi := 2147483647) ri6.1 ri6.2 (by decide) (by decide)) ⟨by omega, by omega⟩ dX6_findOwn_65 (by decide) (fun c6 => ?_) (fun c6 => ?_)
          · refine c_aload_n (j := 6) (x := a1) C dX6_findOwn_71 rfl ?_
            refine c_getr (k := 4) C ck_10 dX6_findOwn_72 w2_189 (by decide) t_a1 rfl rfl (by decide) rfl rq7 ?_
            refine c_st (st2 := [.ref rb7]) rfl ?_
            refine c_iload (j := 2) C dX6_findOwn_75 rfl ?_
            refine d_callV (As := [.int (iI k)]) (rest := []) C hM (C_get_26 (a0 := rb7) (i := k) hW hS trb7 (by omega) (by show 0 ≤ k ∧ k < iv rb7 2; omega)) dX6_findOwn_77 kV_X6_145 rfl trb7 rfl rfl (by decide) ck_0 rfl (Nat.le_of_ble_eq_true rfl) ⟨(Nat.le_of_ble_eq_true rfl), (Nat.le_of_ble_eq_true rfl)⟩ hph hph (show 0 + 0 = 0 from rfl) (by decide) (fun rh5 Lh5 clh5 lnh5 ivh5 rvh5 h5 => ?_)
            obtain ⟨f5, rfl, rfl, rfl, rfl, rfl, rfl, rgf5, exf5⟩ := h5
            refine c_st (st2 := [.ref f5]) rfl ?_
            have gf5 : el rv rb7 k.toNat = some f5 := exf5
            refine c_cast C ck_6 dX6_findOwn_80 w4_111 w8_169t rgf5 rfl rfl (by decide) ?_
            refine c_astore (lv2 := [(10, .ref f5), (5, (va_rf bs)), (6, .int (iI lg)), (9, .int (iI k)), (8, .ref rb8), (7, .int (iI mn2)), (0, .ref a0), (1, .ref a1), (2, .int (iI i)), (3, .int (iI x)), (4, .null)]) C dX6_findOwn_83 (by decide) rfl ?_
            refine c_aload (j := 0) (x := f5) C dX6_findOwn_85 rfl ?_
            obtain ⟨rb9, rq9, trb9⟩ := hW.ref rgf5 1 rfl rfl rfl
            have lnrb9 : 0 ≤ ln rb9 ∧ ln rb9 ≤ 8 := hW.len trb9 rfl
            refine c_getr (k := 1) C ck_6 dX6_findOwn_87 w3_141 (by decide) rgf5 rfl rfl (by decide) rfl rq9 ?_
            refine c_st (st2 := [.ref rb9]) rfl ?_
            have ll5 : 0 ≤ ln rb9 ∧ ln rb9 ≤ 8 := hW.len trb9 rfl
            refine c_alenI C dX6_findOwn_90 trb9 rfl ?_
            refine c_iload (j := 2) C dX6_findOwn_91 rfl ?_
            refine c_icmp_le (tgt := 118) C ⟨by omega, by omega⟩ (r32_c (lo := 0) (hi := 8) hlg.1 hlg.2 (by decide) (by decide)) dX6_findOwn_93 (by decide) (fun c7 => ?_) (fun c7 => ?_)
            · refine c_iinc (z := k) (j := 3) (lv2 := [(9, .int (iI (k + 1))), (10, .ref f5), (5, (va_rf bs)), (6, .int (iI lg)), (8, .ref rb8), (7, .int (iI mn2)), (0, .ref a0), (1, .ref a1), (2, .int (iI i)), (3, .int (iI x)), (4, .null)]) C dX6_findOwn_118 rfl (by decide) rfl ?_
              refine c_goto (tgt := 52) C dX6_findOwn_121 (by decide) ?_
              refine c_lv (lv2 := [(5, (va_rf bs)), (6, .int (iI lg)), (9, .int (iI (k + 1))), (8, .ref rb8), (7, .int (iI mn2)), (0, .ref a0), (1, .ref a1), (2, .int (iI i)), (3, .int (iI x)), (4, .null)]) [2, 3, 0, 4, 5, 6, 7, 8, 9, 10] rfl ?_
              exact ih2  bs lg (k + 1)  (by omega)  ty_bs (by omega) (by omega) (hO.short rq7 ⟨by omega, by omega⟩ exf5 rq9 (by omega))
            · refine c_aload_n (j := 6) (x := a0) C dX6_findOwn_96 rfl ?_
              refine c_aload (j := 0) (x := f5) C dX6_findOwn_97 rfl ?_
              refine c_iload_n (j := 8) C dX6_findOwn_99 rfl ?_
              refine d_callV (As := [.ref f5, .int (iI i)]) (rest := []) C hM (G_fits (a0 := a0) (a1 := f5) (i := i) hW hS t_a0 rgf5 (by omega) (by show 0 ≤ i ∧ i ≤ 500; omega)) dX6_findOwn_100 kV_X6_149 rfl t_a0 rfl rfl (by decide) ck_7 rfl (Nat.le_of_ble_eq_true rfl) ⟨(Nat.le_of_ble_eq_true rfl), (Nat.le_of_ble_eq_true rfl)⟩ hph hph (show 0 + 0 = 0 from rfl) (by decide) (fun rh6 Lh6 clh6 lnh6 ivh6 rvh6 h6 => ?_)
              obtain ⟨f6, rfl, rfl, rfl, rfl, rfl, rfl, rgf6, exf6⟩ := h6
              refine c_st (st2 := [.int (iI f6)]) rfl ?_
              have gf6 : FTX ln iv rv a0 f5 i f6 := exf6
              refine c_if_eq (tgt := 118) C ⟨by omega, by omega⟩ dX6_findOwn_103 (by decide) (fun c8 => ?_) (fun c8 => ?_)
              · refine c_iinc (z := k) (j := 3) (lv2 := [(9, .int (iI (k + 1))), (10, .ref f5), (5, (va_rf bs)), (6, .int (iI lg)), (8, .ref rb8), (7, .int (iI mn2)), (0, .ref a0), (1, .ref a1), (2, .int (iI i)), (3, .int (iI x)), (4, .null)]) C dX6_findOwn_118 rfl (by decide) rfl ?_
                refine c_goto (tgt := 52) C dX6_findOwn_121 (by decide) ?_
                refine c_lv (lv2 := [(5, (va_rf bs)), (6, .int (iI lg)), (9, .int (iI (k + 1))), (8, .ref rb8), (7, .int (iI mn2)), (0, .ref a0), (1, .ref a1), (2, .int (iI i)), (3, .int (iI x)), (4, .null)]) [2, 3, 0, 4, 5, 6, 7, 8, 9, 10] rfl ?_
                exact ih2  bs lg (k + 1)  (by omega)  ty_bs (by omega) (by omega) (hO.miss rq7 ⟨by omega, by omega⟩ exf5 rq6 rq8 (by omega) gf6 (by omega))
              · refine c_aload (j := 0) (x := f5) C dX6_findOwn_106 rfl ?_
                refine c_astore (lv2 := [(5, .ref f5), (10, .ref f5), (6, .int (iI lg)), (9, .int (iI k)), (8, .ref rb8), (7, .int (iI mn2)), (0, .ref a0), (1, .ref a1), (2, .int (iI i)), (3, .int (iI x)), (4, .null)]) C dX6_findOwn_108 (by decide) rfl ?_
                refine c_aload (j := 1) (x := f5) C dX6_findOwn_110 rfl ?_
                refine c_getr (k := 1) C ck_6 dX6_findOwn_112 w3_141 (by decide) rgf5 rfl rfl (by decide) rfl rq9 ?_
                refine c_st (st2 := [.ref rb9]) rfl ?_
                refine c_alenI C dX6_findOwn_115 trb9 rfl ?_
                refine c_istore (lv2 := [(6, .int (iI ((ln rb9 : Nat) : Int))), (5, .ref f5), (10, .ref f5), (9, .int (iI k)), (8, .ref rb8), (7, .int (iI mn2)), (0, .ref a0), (1, .ref a1), (2, .int (iI i)), (3, .int (iI x)), (4, .null)]) C dX6_findOwn_116 (by decide) rfl ?_
                refine c_iinc (z := k) (j := 3) (lv2 := [(9, .int (iI (k + 1))), (6, .int (iI ((ln rb9 : Nat) : Int))), (5, .ref f5), (10, .ref f5), (8, .ref rb8), (7, .int (iI mn2)), (0, .ref a0), (1, .ref a1), (2, .int (iI i)), (3, .int (iI x)), (4, .null)]) C dX6_findOwn_118 rfl (by decide) rfl ?_
                refine c_goto (tgt := 52) C dX6_findOwn_121 (by decide) ?_
                refine c_lv (lv2 := [(5, .ref f5), (6, .int (iI ((ln rb9 : Nat) : Int))), (9, .int (iI (k + 1))), (8, .ref rb8), (7, .int (iI mn2)), (0, .ref a0), (1, .ref a1), (2, .int (iI i)), (3, .int (iI x)), (4, .null)]) [2, 1, 0, 4, 5, 6, 7, 8, 9, 10] rfl ?_
                exact ih2  (some f5) ((ln rb9 : Nat) : Int) (k + 1)  (by omega)  (fun _ q => by cases q; exact rgf5) (by omega) (by omega) (hO.hit rq7 ⟨by omega, by omega⟩ exf5 rq6 rq8 (by omega) gf6 (by omega) rq9 (by omega))
          · refine c_goto (tgt := 118) C dX6_findOwn_68 (by decide) ?_
            refine c_iinc (z := k) (j := 2) (lv2 := [(9, .int (iI (k + 1))), (5, (va_rf bs)), (6, .int (iI lg)), (8, .ref rb8), (7, .int (iI mn2)), (0, .ref a0), (1, .ref a1), (2, .int (iI i)), (3, .int (iI x)), (4, .null)]) C dX6_findOwn_118 rfl (by decide) rfl ?_
            refine c_goto (tgt := 52) C dX6_findOwn_121 (by decide) ?_
            refine c_lv (lv2 := [(5, (va_rf bs)), (6, .int (iI lg)), (9, .int (iI (k + 1))), (8, .ref rb8), (7, .int (iI mn2)), (0, .ref a0), (1, .ref a1), (2, .int (iI i)), (3, .int (iI x)), (4, .null)]) [1, 2, 0, 3, 4, 5, 6, 7, 8, 9] rfl ?_
            exact ih2  bs lg (k + 1)  (by omega)  ty_bs (by omega) (by omega) (hO.skip rq6 rq8 ⟨by omega, by omega⟩ (by omega))
    refine c_lv (lv2 := [(5, .null), (6, .int (iI 0)), (9, .int (iI 0)), (8, .ref rb8), (7, .int (iI mn2)), (0, .ref a0), (1, .ref a1), (2, .int (iI i)), (3, .int (iI x)), (4, .null)]) [4, 3, 0, 1, 2, 5, 6, 7, 8, 9] rfl ?_
    exact Lp2 202 none 0 0  (by omega)  (fun _ q => by cases q) (by omega) (by omega) FOI.i0
set_option maxHeartbeats 4000000 in
set_option maxRecDepth 100000 in
theorem G_find {l : Launch} {G : GT} {mi : Nat} {sk : Nat → Nat} {L : List Nat} {cl ln : Nat → Nat} {iv : Nat → Nat → Int} {rv : Nat → Nat → Option Nat}  {a0 : Nat} {a1 : Nat} {i : Int} {x : Int} (hW : WT (g0 G) sk L cl ln iv rv) (hS : SKL sk L cl) (t_a0 : ty L cl a0 15) (t_a1 : ty L cl a1 100) (h_i : -2147483648 ≤ i ∧ i ≤ 2147483647) (h_x : -2147483648 ≤ x ∧ x ≤ 2147483647) (hi : 0 ≤ i ∧ i ≤ 500) : Mc l G mi (Phi (g0 G) sk) PHM yX6_find cX6_find 7 (some (.object "DotPress$Row")) 4 [.ref a0, .ref a1, .int (iI i), .int (iI x)] L cl ln iv rv 0 (fun v L2 cl2 ln2 iv2 rv2 => ∃ f : Option Nat, v = some ((va_rf f)) ∧ L = L2 ∧ cl = cl2 ∧ ln = ln2 ∧ rv = rv2 ∧ fT [55] L cl iv rv iv2 rv2 ∧ WT (g0 G) sk L2 cl2 ln2 iv2 rv2 ∧ (∀ b, f = some b → ty L2 cl2 b 20) ∧ (FDX sk ln iv rv a0 a1 i x f)) := by
  refine Mc.mk (by decide) (Nat.le_of_ble_eq_true rfl) ?_
  intro p e s m args below meth c A C hM
  refine hv3 (Phi.le hW hS) (show XT L cl ln L cl ln from XT.refl) (show fT [55] L cl iv rv iv rv from fT.refl) (fun hph hX0 hF0 => ?_)
  refine c_null C dX6_find_0 ?_
  refine c_astorer (r := none) (lv2 := [(4, .null), (0, .ref a0), (1, .ref a1), (2, .int (iI i)), (3, .int (iI x))]) C dX6_find_1 (by decide) rfl ?_
  refine c_iload_n (j := 4) C dX6_find_3 rfl ?_
  refine c_istore (lv2 := [(5, .int (iI x)), (4, .null), (0, .ref a0), (1, .ref a1), (2, .int (iI i)), (3, .int (iI x))]) C dX6_find_4 (by decide) rfl ?_
  refine c_aload_n (j := 3) (x := a1) C dX6_find_6 rfl ?_
  refine c_astore (lv2 := [(6, .ref a1), (5, .int (iI x)), (4, .null), (0, .ref a0), (1, .ref a1), (2, .int (iI i)), (3, .int (iI x))]) C dX6_find_7 (by decide) rfl ?_
  have Lp1 : ∀ (nn : Nat) (bs : Option Nat) (tq : Option Nat) (he rk : Int) (ivb1 : Nat → Nat → Int) , rk - 99 < (nn : Int) → WT (g0 G) sk L cl ln ivb1 rv → fT [55] L cl iv rv ivb1 rv → (∀ b, bs = some b → ty L cl b 20) → (∀ b, tq = some b → ty L cl b 100) → (-2147483648 ≤ he ∧ he ≤ 2147483647) → (99 ≤ rk) → (∀ b, tq = some b → ((cl b : Nat) : Int) ≤ rk) → (FDI sk ln iv rv a0 a1 i x bs he tq) → cw p l e 4 ((PHM) + 0 - ((Phi (g0 G) sk) ln rv)) s m args below meth c G A 7 (MQ below (Qu G A (Qp G (Phi (g0 G) sk) ((Phi (g0 G) sk) ln rv) 0 (fun v L2 cl2 ln2 iv2 rv2 => ∃ f : Option Nat, v = some ((va_rf f)) ∧ L = L2 ∧ cl = cl2 ∧ ln = ln2 ∧ rv = rv2 ∧ fT [55] L cl iv rv iv2 rv2 ∧ WT (g0 G) sk L2 cl2 ln2 iv2 rv2 ∧ (∀ b, f = some b → ty L2 cl2 b 20) ∧ (FDX sk ln iv rv a0 a1 i x f)))) args s (((PHM) + 0 - ((Phi (g0 G) sk) ln rv)) / 16) ((PHM) + 0 - ((Phi (g0 G) sk) ln rv)) A) (Phi (g0 G) sk) ((Phi (g0 G) sk) ln rv) L cl ln ivb1 rv 0 9 [(4, (va_rf bs)), (5, .int (iI he)), (6, (va_rf tq)), (0, .ref a0), (1, .ref a1), (2, .int (iI i)), (3, .int (iI x))] [] := by
    intro nn
    induction nn with
    | zero =>
      intro bs tq he rk ivb1 hm Wb1 Fb1 ty_bs ty_tq hhe h99 hrk hD
      exact absurd hm (by omega)
    | succ nn ih1 =>
      intro bs tq he rk ivb1 hm Wb1 Fb1 ty_bs ty_tq hhe h99 hrk hD
      refine c_aloadr (j := 2) (r := tq) C dX6_find_9 rfl ?_
      refine c_ifnull (r := tq) (tgt := 146) C dX6_find_11 (by decide) (fun oq1 => ?_) (fun ob1 oq1 => ?_)
      · subst oq1
        refine c_lv (lv2 := [(4, (va_rf bs)), (5, .int (iI he)), (6, .null), (0, .ref a0), (1, .ref a1), (2, .int (iI i)), (3, .int (iI x))]) [0, 1, 2, 3, 4, 5, 6] rfl ?_
        refine c_st (st2 := []) rfl ?_
        refine c_aloadr (j := 0) (r := bs) C dX6_find_146 rfl ?_
        exact c_aret (x := bs) C dX6_find_148 rfl (Or.inl ⟨_, rfl⟩) (by decide) (rom0 hph hph (by decide)) ⟨bs, rfl, rfl, rfl, rfl, rfl, Fb1, Wb1, ty_bs, hD.fin0⟩
      · subst oq1
        refine hv2 (ty_tq ob1 rfl) (hrk ob1 rfl) (fun tob1 hkob1 => ?_)
        have tgob1 := bt_100 tob1.2
        refine c_lv (lv2 := [(4, (va_rf bs)), (5, .int (iI he)), (6, .ref ob1), (0, .ref a0), (1, .ref a1), (2, .int (iI i)), (3, .int (iI x))]) [0, 1, 2, 3, 4, 5, 6] rfl ?_
        refine c_st (st2 := []) rfl ?_
        refine c_aload_n (j := 3) (x := a0) C dX6_find_14 rfl ?_
        refine c_aload (j := 2) (x := ob1) C dX6_find_15 rfl ?_
        refine hv2 (show (-2147483648) ≤ ivb1 ob1 0 ∧ ivb1 ob1 0 ≤ 2147483647 from Wb1.int tob1 0) (show ivb1 ob1 0 = iv ob1 0 from Fb1.i tob1 rfl 0) (fun ri1 ie1 => ?_)
        refine c_get (k := 0) C ck_10 dX6_find_17 w2_177 (by decide) tob1 rfl rfl (by decide) rfl ?_
        refine d_callV (As := [.int (iI (ivb1 ob1 0))]) (rest := []) C hM (C_countFind (a0 := a0) (i := ivb1 ob1 0) Wb1 hS t_a0 (by omega) ) dX6_find_20 kV_X6_119 rfl t_a0 rfl rfl (by decide) ck_7 rfl (Nat.le_of_ble_eq_true rfl) ⟨(Nat.le_of_ble_eq_true rfl), (Nat.le_of_ble_eq_true rfl)⟩ hph hph (show 0 + 0 = 0 from rfl) (by decide) (fun rh1 Lh1 clh1 lnh1 ivh1 rvh1 h1 => ?_)
        obtain ⟨rfl, rfl, rfl, rfl, rfl, fl1, W1, exf1⟩ := h1
        have F1 := Fb1.call hX0 fl1 rfl
        refine c_st (st2 := []) rfl ?_
        refine c_aload (j := 2) (x := ob1) C dX6_find_23 rfl ?_
        refine hv2 (show (-2147483648) ≤ ivh1 ob1 0 ∧ ivh1 ob1 0 ≤ 2147483647 from W1.int tob1 0) (show ivh1 ob1 0 = ivb1 ob1 0 from fl1.i tob1 rfl 0) (fun ri2 ie2 => ?_)
        refine c_get (k := 0) C ck_10 dX6_find_25 w2_177 (by decide) tob1 rfl rfl (by decide) rfl ?_
        refine c_if_eq (tgt := 40) C (r32_c (lo := (-2147483648)) (hi := 2147483647) ri2.1 ri2.2 (by decide) (by decide)) dX6_find_28 (by decide) (fun c1 => ?_) (fun c1 => ?_)
        · refine c_aload_n (j := 3) (x := a0) C dX6_find_40 rfl ?_
          refine c_aload (j := 2) (x := ob1) C dX6_find_41 rfl ?_
          refine c_iload_n (j := 5) C dX6_find_43 rfl ?_
          refine c_iload (j := 1) C dX6_find_44 rfl ?_
          refine c_aloadr (j := 0) (r := bs) C dX6_find_46 rfl ?_
          refine d_callV (As := [.ref ob1, .int (iI i), .int (iI he), (va_rf bs)]) (rest := []) C hM (G_findOwn (a0 := a0) (a1 := ob1) (i := i) (x := he) (r := bs) W1 hS t_a0 tob1 ty_bs (by omega) (by omega) (by show 0 ≤ i ∧ i ≤ 500; omega)) dX6_find_48 kV_X6_122 rfl t_a0 rfl rfl (by decide) ck_7 rfl (Nat.le_of_ble_eq_true rfl) ⟨(Nat.le_of_ble_eq_true rfl), (Nat.le_of_ble_eq_true rfl)⟩ hph hph (show 0 + 0 = 0 from rfl) (by decide) (fun rh2 Lh2 clh2 lnh2 ivh2 rvh2 h2 => ?_)
          obtain ⟨f2, rfl, rfl, rfl, rfl, rfl, rfl, rgf2, exf2⟩ := h2
          refine c_st (st2 := [(va_rf f2)]) rfl ?_
          have gf2 : FOX sk ln ivh1 rv a0 ob1 i he bs f2 := exf2
          exact c_aret (x := f2) C dX6_find_51 rfl (Or.inl ⟨_, rfl⟩) (by decide) (rom0 hph hph (by decide)) ⟨f2, rfl, rfl, rfl, rfl, rfl, F1, W1, rgf2, (hD.plain (FOX.ni hW hS W1 F1 t_a0 ty_bs rgf2 gf2) (by omega) (by omega))⟩
        · refine c_aload (j := 2) (x := ob1) C dX6_find_31 rfl ?_
          refine c_get (k := 0) C ck_10 dX6_find_33 w2_177 (by decide) tob1 rfl rfl (by decide) rfl ?_
          refine c_iconst C dX6_find_36 ?_
          refine c_icmp_ne (tgt := 52) C (r32_c (lo := (-2147483648)) (hi := 2147483647) ri2.1 ri2.2 (by decide) (by decide)) ⟨by decide, by decide⟩ dX6_find_37 (by decide) (fun c2 => ?_) (fun c2 => ?_)
          · refine c_aload (j := 2) (x := ob1) C dX6_find_52 rfl ?_
            refine c_get (k := 0) C ck_10 dX6_find_54 w2_177 (by decide) tob1 rfl rfl (by decide) rfl ?_
            refine c_iconst C dX6_find_57 ?_
            refine c_icmp_ne (tgt := 72) C (r32_c (lo := (-2147483648)) (hi := 2147483647) ri2.1 ri2.2 (by decide) (by decide)) ⟨by decide, by decide⟩ dX6_find_58 (by decide) (fun c3 => ?_) (fun c3 => ?_)
            · refine c_aload (j := 2) (x := ob1) C dX6_find_72 rfl ?_
              refine c_get (k := 0) C ck_10 dX6_find_74 w2_177 (by decide) tob1 rfl rfl (by decide) rfl ?_
              refine c_iconst C dX6_find_77 ?_
              refine c_icmp_ne (tgt := 106) C (r32_c (lo := (-2147483648)) (hi := 2147483647) ri2.1 ri2.2 (by decide) (by decide)) ⟨by decide, by decide⟩ dX6_find_78 (by decide) (fun c4 => ?_) (fun c4 => ?_)
              · refine c_aload_n (j := 3) (x := a0) C dX6_find_106 rfl ?_
                refine c_iconst C dX6_find_107 ?_
                refine d_callV (As := [.int (iI 0)]) (rest := []) C hM (C_countFind (a0 := a0) (i := 0) W1 hS t_a0 ⟨by decide, by decide⟩ ) dX6_find_108 kV_X6_119 rfl t_a0 rfl rfl (by decide) ck_7 rfl (Nat.le_of_ble_eq_true rfl) ⟨(Nat.le_of_ble_eq_true rfl), (Nat.le_of_ble_eq_true rfl)⟩ hph hph (show 0 + 0 = 0 from rfl) (by decide) (fun rh3 Lh3 clh3 lnh3 ivh3 rvh3 h3 => ?_)
                obtain ⟨rfl, rfl, rfl, rfl, rfl, fl3, W3, exf3⟩ := h3
                have F2 := F1.call hX0 fl3 rfl
                refine c_st (st2 := []) rfl ?_
                refine c_aload_n (j := 3) (x := a0) C dX6_find_111 rfl ?_
                refine c_aload (j := 2) (x := ob1) C dX6_find_112 rfl ?_
                refine c_iload_n (j := 5) C dX6_find_114 rfl ?_
                refine c_iload (j := 1) C dX6_find_115 rfl ?_
                refine c_aloadr (j := 0) (r := bs) C dX6_find_117 rfl ?_
                refine d_callV (As := [.ref ob1, .int (iI i), .int (iI he), (va_rf bs)]) (rest := []) C hM (G_findOwn (a0 := a0) (a1 := ob1) (i := i) (x := he) (r := bs) W3 hS t_a0 tob1 ty_bs (by omega) (by omega) (by show 0 ≤ i ∧ i ≤ 500; omega)) dX6_find_119 kV_X6_122 rfl t_a0 rfl rfl (by decide) ck_7 rfl (Nat.le_of_ble_eq_true rfl) ⟨(Nat.le_of_ble_eq_true rfl), (Nat.le_of_ble_eq_true rfl)⟩ hph hph (show 0 + 0 = 0 from rfl) (by decide) (fun rh4 Lh4 clh4 lnh4 ivh4 rvh4 h4 => ?_)
                obtain ⟨f4, rfl, rfl, rfl, rfl, rfl, rfl, rgf4, exf4⟩ := h4
                refine c_st (st2 := [(va_rf f4)]) rfl ?_
                have gf4 : FOX sk ln ivh3 rv a0 ob1 i he bs f4 := exf4
                refine c_astorer (r := f4) (lv2 := [(4, (va_rf f4)), (5, .int (iI he)), (6, .ref ob1), (0, .ref a0), (1, .ref a1), (2, .int (iI i)), (3, .int (iI x))]) C dX6_find_122 (by decide) rfl ?_
                refine c_aload (j := 2) (x := ob1) C dX6_find_124 rfl ?_
                refine hv2 (show (-2147483648) ≤ ivh3 ob1 0 ∧ ivh3 ob1 0 ≤ 2147483647 from W3.int tob1 0) (show ivh3 ob1 0 = ivh1 ob1 0 from fl3.i tob1 rfl 0) (fun ri3 ie3 => ?_)
                refine c_get (k := 0) C ck_10 dX6_find_126 w2_177 (by decide) tob1 rfl rfl (by decide) rfl ?_
                refine c_iconst C dX6_find_129 ?_
                refine c_icmp_ne (tgt := 136) C (r32_c (lo := (-2147483648)) (hi := 2147483647) ri3.1 ri3.2 (by decide) (by decide)) ⟨by decide, by decide⟩ dX6_find_130 (by decide) (fun c5 => ?_) (fun c5 => ?_)
                · refine c_aload (j := 2) (x := ob1) C dX6_find_136 rfl ?_
                  rcases W3.opt tob1 2 rfl rfl with ⟨nq1, _⟩ | ⟨nb1, nq1, tnb1⟩
                  · refine c_getr (k := 2) C ck_10 dX6_find_138 w2_182 (by decide) tob1 rfl rfl (by decide) rfl nq1 ?_
                    refine c_st (st2 := [.null]) rfl ?_
                    refine c_astorer (r := none) (lv2 := [(6, .null), (4, (va_rf f4)), (5, .int (iI he)), (0, .ref a0), (1, .ref a1), (2, .int (iI i)), (3, .int (iI x))]) C dX6_find_141 (by decide) rfl ?_
                    refine c_goto (tgt := 9) C dX6_find_143 (by decide) ?_
                    refine c_lv (lv2 := [(4, (va_rf f4)), (5, .int (iI he)), (6, .null), (0, .ref a0), (1, .ref a1), (2, .int (iI i)), (3, .int (iI x))]) [1, 2, 0, 3, 4, 5, 6] rfl ?_
                    exact ih1  f4 none he (rk - 1) _ (by omega) W3 F2 rgf4 (fun _ q => by cases q) (by omega) (by omega) (fun _ q => by cases q) (hD.con (FOX.ni hW hS W3 F2 t_a0 ty_bs rgf4 gf4) (by omega) nq1 (by omega))
                  · have rknb1 := W3.rank tob1 (k := 2) (by decide) nq1
                    refine c_getr (k := 2) C ck_10 dX6_find_138 w2_182 (by decide) tob1 rfl rfl (by decide) rfl nq1 ?_
                    refine c_st (st2 := [.ref nb1]) rfl ?_
                    refine c_astore (lv2 := [(6, .ref nb1), (4, (va_rf f4)), (5, .int (iI he)), (0, .ref a0), (1, .ref a1), (2, .int (iI i)), (3, .int (iI x))]) C dX6_find_141 (by decide) rfl ?_
                    refine c_goto (tgt := 9) C dX6_find_143 (by decide) ?_
                    have trnb1 := bt_100 tnb1.2
                    refine c_lv (lv2 := [(4, (va_rf f4)), (5, .int (iI he)), (6, .ref nb1), (0, .ref a0), (1, .ref a1), (2, .int (iI i)), (3, .int (iI x))]) [1, 2, 0, 3, 4, 5, 6] rfl ?_
                    exact ih1  f4 (some nb1) he (rk - 1) _ (by omega) W3 F2 rgf4 (fun _ q => by cases q; exact tnb1) (by omega) (by omega) (fun _ q => by cases q; omega) (hD.con (FOX.ni hW hS W3 F2 t_a0 ty_bs rgf4 gf4) (by omega) nq1 (by omega))
                · refine c_aloadr (j := 0) (r := f4) C dX6_find_133 rfl ?_
                  exact c_aret (x := f4) C dX6_find_135 rfl (Or.inl ⟨_, rfl⟩) (by decide) (rom0 hph hph (by decide)) ⟨f4, rfl, rfl, rfl, rfl, rfl, F2, W3, rgf4, (by exfalso; omega)⟩
              · refine c_aload_n (j := 3) (x := a0) C dX6_find_81 rfl ?_
                refine c_iconst C dX6_find_82 ?_
                refine d_callV (As := [.int (iI 1)]) (rest := []) C hM (C_countFind (a0 := a0) (i := 1) W1 hS t_a0 ⟨by decide, by decide⟩ ) dX6_find_83 kV_X6_119 rfl t_a0 rfl rfl (by decide) ck_7 rfl (Nat.le_of_ble_eq_true rfl) ⟨(Nat.le_of_ble_eq_true rfl), (Nat.le_of_ble_eq_true rfl)⟩ hph hph (show 0 + 0 = 0 from rfl) (by decide) (fun rh5 Lh5 clh5 lnh5 ivh5 rvh5 h5 => ?_)
                obtain ⟨rfl, rfl, rfl, rfl, rfl, fl5, W5, exf5⟩ := h5
                have F3 := F1.call hX0 fl5 rfl
                refine c_st (st2 := []) rfl ?_
                refine c_iload (j := 1) C dX6_find_86 rfl ?_
                refine c_callSN0 (As := [.int (iI he)]) (rest := []) C (fun L E => s11_isGreat (iI he)) dX6_find_88 kSN_X6_98 rfl rfl (Nat.le_of_ble_eq_true rfl) ⟨(Nat.le_of_ble_eq_true rfl), (Nat.le_of_ble_eq_true rfl)⟩ (rom0 hph hph (by decide)) ?_
                rcases inn_c (x := he) (lo := 65) (hi := 90) (r32_c (lo := (-2147483648)) (hi := 2147483647) hhe.1 hhe.2 (by decide) (by decide)) ⟨by decide, by decide⟩ ⟨by decide, by decide⟩ with ⟨hs1a, hs1b, hs1e⟩ | ⟨hs1a, hs1e⟩
                · refine c_st (st2 := [.int (iI 1)]) (by rw [show inn (iI he) 65 90 = iI 1 from hs1e]) ?_
                  refine c_if_eq (tgt := 102) C ⟨by decide, by decide⟩ dX6_find_91 (by decide) (fun z => absurd z (by omega)) (fun _ => ?_)
                  refine c_iload (j := 1) C dX6_find_94 rfl ?_
                  refine c_bipush (z := 32) C dX6_find_96 (by decide) ?_
                  refine c_iadd C dX6_find_98 ?_
                  refine c_goto (tgt := 104) C dX6_find_99 (by decide) ?_
                  refine c_istore (lv2 := [(5, .int (iI (he + 32))), (4, (va_rf bs)), (6, .ref ob1), (0, .ref a0), (1, .ref a1), (2, .int (iI i)), (3, .int (iI x))]) C dX6_find_104 (by decide) (by cases bs <;> rfl) ?_
                  refine c_aload_n (j := 3) (x := a0) C dX6_find_106 rfl ?_
                  refine c_iconst C dX6_find_107 ?_
                  refine d_callV (As := [.int (iI 0)]) (rest := []) C hM (C_countFind (a0 := a0) (i := 0) W5 hS t_a0 ⟨by decide, by decide⟩ ) dX6_find_108 kV_X6_119 rfl t_a0 rfl rfl (by decide) ck_7 rfl (Nat.le_of_ble_eq_true rfl) ⟨(Nat.le_of_ble_eq_true rfl), (Nat.le_of_ble_eq_true rfl)⟩ hph hph (show 0 + 0 = 0 from rfl) (by decide) (fun rh6 Lh6 clh6 lnh6 ivh6 rvh6 h6 => ?_)
                  obtain ⟨rfl, rfl, rfl, rfl, rfl, fl6, W6, exf6⟩ := h6
                  have F4 := F3.call hX0 fl6 rfl
                  refine c_st (st2 := []) rfl ?_
                  refine c_aload_n (j := 3) (x := a0) C dX6_find_111 rfl ?_
                  refine c_aload (j := 2) (x := ob1) C dX6_find_112 rfl ?_
                  refine c_iload_n (j := 5) C dX6_find_114 rfl ?_
                  refine c_iload (j := 0) C dX6_find_115 rfl ?_
                  refine c_aloadr (j := 1) (r := bs) C dX6_find_117 rfl ?_
                  refine d_callV (As := [.ref ob1, .int (iI i), .int (iI (he + 32)), (va_rf bs)]) (rest := []) C hM (G_findOwn (a0 := a0) (a1 := ob1) (i := i) (x := he + 32) (r := bs) W6 hS t_a0 tob1 ty_bs (by omega) (by omega) (by show 0 ≤ i ∧ i ≤ 500; omega)) dX6_find_119 kV_X6_122 rfl t_a0 rfl rfl (by decide) ck_7 rfl (Nat.le_of_ble_eq_true rfl) ⟨(Nat.le_of_ble_eq_true rfl), (Nat.le_of_ble_eq_true rfl)⟩ hph hph (show 0 + 0 = 0 from rfl) (by decide) (fun rh7 Lh7 clh7 lnh7 ivh7 rvh7 h7 => ?_)
                  obtain ⟨f7, rfl, rfl, rfl, rfl, rfl, rfl, rgf7, exf7⟩ := h7
                  refine c_st (st2 := [(va_rf f7)]) rfl ?_
                  have gf7 : FOX sk ln ivh6 rv a0 ob1 i (he + 32) bs f7 := exf7
                  refine c_astorer (r := f7) (lv2 := [(4, (va_rf f7)), (5, .int (iI (he + 32))), (6, .ref ob1), (0, .ref a0), (1, .ref a1), (2, .int (iI i)), (3, .int (iI x))]) C dX6_find_122 (by decide) rfl ?_
                  refine c_aload (j := 2) (x := ob1) C dX6_find_124 rfl ?_
                  refine hv3 (show (-2147483648) ≤ ivh6 ob1 0 ∧ ivh6 ob1 0 ≤ 2147483647 from W6.int tob1 0) (show ivh6 ob1 0 = ivh5 ob1 0 from fl6.i tob1 rfl 0) (show ivh5 ob1 0 = ivh1 ob1 0 from fl5.i tob1 rfl 0) (fun ri4 ie4 ie5 => ?_)
                  refine c_get (k := 0) C ck_10 dX6_find_126 w2_177 (by decide) tob1 rfl rfl (by decide) rfl ?_
                  refine c_iconst C dX6_find_129 ?_
                  refine c_icmp_ne (tgt := 136) C (r32_c (lo := (-2147483648)) (hi := 2147483647) ri4.1 ri4.2 (by decide) (by decide)) ⟨by decide, by decide⟩ dX6_find_130 (by decide) (fun c6 => ?_) (fun c6 => ?_)
                  · refine c_aload (j := 2) (x := ob1) C dX6_find_136 rfl ?_
                    rcases W6.opt tob1 2 rfl rfl with ⟨nq2, _⟩ | ⟨nb2, nq2, tnb2⟩
                    · refine c_getr (k := 2) C ck_10 dX6_find_138 w2_182 (by decide) tob1 rfl rfl (by decide) rfl nq2 ?_
                      refine c_st (st2 := [.null]) rfl ?_
                      refine c_astorer (r := none) (lv2 := [(6, .null), (4, (va_rf f7)), (5, .int (iI (he + 32))), (0, .ref a0), (1, .ref a1), (2, .int (iI i)), (3, .int (iI x))]) C dX6_find_141 (by decide) rfl ?_
                      refine c_goto (tgt := 9) C dX6_find_143 (by decide) ?_
                      refine c_lv (lv2 := [(4, (va_rf f7)), (5, .int (iI (he + 32))), (6, .null), (0, .ref a0), (1, .ref a1), (2, .int (iI i)), (3, .int (iI x))]) [1, 2, 0, 3, 4, 5, 6] rfl ?_
                      exact ih1  f7 none (he + 32) (rk - 1) _ (by omega) W6 F4 rgf7 (fun _ q => by cases q) (by omega) (by omega) (fun _ q => by cases q) (hD.sho (FOX.ni hW hS W6 F4 t_a0 ty_bs rgf7 gf7) (by omega) (by unfold sml; split <;> omega) nq2 (by omega))
                    · have rknb2 := W6.rank tob1 (k := 2) (by decide) nq2
                      refine c_getr (k := 2) C ck_10 dX6_find_138 w2_182 (by decide) tob1 rfl rfl (by decide) rfl nq2 ?_
                      refine c_st (st2 := [.ref nb2]) rfl ?_
                      refine c_astore (lv2 := [(6, .ref nb2), (4, (va_rf f7)), (5, .int (iI (he + 32))), (0, .ref a0), (1, .ref a1), (2, .int (iI i)), (3, .int (iI x))]) C dX6_find_141 (by decide) rfl ?_
                      refine c_goto (tgt := 9) C dX6_find_143 (by decide) ?_
                      have trnb2 := bt_100 tnb2.2
                      refine c_lv (lv2 := [(4, (va_rf f7)), (5, .int (iI (he + 32))), (6, .ref nb2), (0, .ref a0), (1, .ref a1), (2, .int (iI i)), (3, .int (iI x))]) [1, 2, 0, 3, 4, 5, 6] rfl ?_
                      exact ih1  f7 (some nb2) (he + 32) (rk - 1) _ (by omega) W6 F4 rgf7 (fun _ q => by cases q; exact tnb2) (by omega) (by omega) (fun _ q => by cases q; omega) (hD.sho (FOX.ni hW hS W6 F4 t_a0 ty_bs rgf7 gf7) (by omega) (by unfold sml; split <;> omega) nq2 (by omega))
                  · refine c_aloadr (j := 0) (r := f7) C dX6_find_133 rfl ?_
                    exact c_aret (x := f7) C dX6_find_135 rfl (Or.inl ⟨_, rfl⟩) (by decide) (rom0 hph hph (by decide)) ⟨f7, rfl, rfl, rfl, rfl, rfl, F4, W6, rgf7, (by exfalso; omega)⟩
                · refine c_st (st2 := [.int (iI 0)]) (by rw [show inn (iI he) 65 90 = iI 0 from hs1e]) ?_
                  refine c_if_eq (tgt := 102) C ⟨by decide, by decide⟩ dX6_find_91 (by decide) (fun _ => ?_) (fun z => absurd z (by omega))
                  refine c_iload (j := 1) C dX6_find_102 rfl ?_
                  refine c_istore (lv2 := [(5, .int (iI he)), (4, (va_rf bs)), (6, .ref ob1), (0, .ref a0), (1, .ref a1), (2, .int (iI i)), (3, .int (iI x))]) C dX6_find_104 (by decide) (by cases bs <;> rfl) ?_
                  refine c_aload_n (j := 3) (x := a0) C dX6_find_106 rfl ?_
                  refine c_iconst C dX6_find_107 ?_
                  refine d_callV (As := [.int (iI 0)]) (rest := []) C hM (C_countFind (a0 := a0) (i := 0) W5 hS t_a0 ⟨by decide, by decide⟩ ) dX6_find_108 kV_X6_119 rfl t_a0 rfl rfl (by decide) ck_7 rfl (Nat.le_of_ble_eq_true rfl) ⟨(Nat.le_of_ble_eq_true rfl), (Nat.le_of_ble_eq_true rfl)⟩ hph hph (show 0 + 0 = 0 from rfl) (by decide) (fun rh8 Lh8 clh8 lnh8 ivh8 rvh8 h8 => ?_)
                  obtain ⟨rfl, rfl, rfl, rfl, rfl, fl8, W8, exf8⟩ := h8
                  have F5 := F3.call hX0 fl8 rfl
                  refine c_st (st2 := []) rfl ?_
                  refine c_aload_n (j := 3) (x := a0) C dX6_find_111 rfl ?_
                  refine c_aload (j := 2) (x := ob1) C dX6_find_112 rfl ?_
                  refine c_iload_n (j := 5) C dX6_find_114 rfl ?_
                  refine c_iload (j := 0) C dX6_find_115 rfl ?_
                  refine c_aloadr (j := 1) (r := bs) C dX6_find_117 rfl ?_
                  refine d_callV (As := [.ref ob1, .int (iI i), .int (iI he), (va_rf bs)]) (rest := []) C hM (G_findOwn (a0 := a0) (a1 := ob1) (i := i) (x := he) (r := bs) W8 hS t_a0 tob1 ty_bs (by omega) (by omega) (by show 0 ≤ i ∧ i ≤ 500; omega)) dX6_find_119 kV_X6_122 rfl t_a0 rfl rfl (by decide) ck_7 rfl (Nat.le_of_ble_eq_true rfl) ⟨(Nat.le_of_ble_eq_true rfl), (Nat.le_of_ble_eq_true rfl)⟩ hph hph (show 0 + 0 = 0 from rfl) (by decide) (fun rh9 Lh9 clh9 lnh9 ivh9 rvh9 h9 => ?_)
                  obtain ⟨f9, rfl, rfl, rfl, rfl, rfl, rfl, rgf9, exf9⟩ := h9
                  refine c_st (st2 := [(va_rf f9)]) rfl ?_
                  have gf9 : FOX sk ln ivh8 rv a0 ob1 i he bs f9 := exf9
                  refine c_astorer (r := f9) (lv2 := [(4, (va_rf f9)), (5, .int (iI he)), (6, .ref ob1), (0, .ref a0), (1, .ref a1), (2, .int (iI i)), (3, .int (iI x))]) C dX6_find_122 (by decide) rfl ?_
                  refine c_aload (j := 2) (x := ob1) C dX6_find_124 rfl ?_
                  refine hv3 (show (-2147483648) ≤ ivh8 ob1 0 ∧ ivh8 ob1 0 ≤ 2147483647 from W8.int tob1 0) (show ivh8 ob1 0 = ivh5 ob1 0 from fl8.i tob1 rfl 0) (show ivh5 ob1 0 = ivh1 ob1 0 from fl5.i tob1 rfl 0) (fun ri5 ie6 ie7 => ?_)
                  refine c_get (k := 0) C ck_10 dX6_find_126 w2_177 (by decide) tob1 rfl rfl (by decide) rfl ?_
                  refine c_iconst C dX6_find_129 ?_
                  refine c_icmp_ne (tgt := 136) C (r32_c (lo := (-2147483648)) (hi := 2147483647) ri5.1 ri5.2 (by decide) (by decide)) ⟨by decide, by decide⟩ dX6_find_130 (by decide) (fun c7 => ?_) (fun c7 => ?_)
                  · refine c_aload (j := 2) (x := ob1) C dX6_find_136 rfl ?_
                    rcases W8.opt tob1 2 rfl rfl with ⟨nq3, _⟩ | ⟨nb3, nq3, tnb3⟩
                    · refine c_getr (k := 2) C ck_10 dX6_find_138 w2_182 (by decide) tob1 rfl rfl (by decide) rfl nq3 ?_
                      refine c_st (st2 := [.null]) rfl ?_
                      refine c_astorer (r := none) (lv2 := [(6, .null), (4, (va_rf f9)), (5, .int (iI he)), (0, .ref a0), (1, .ref a1), (2, .int (iI i)), (3, .int (iI x))]) C dX6_find_141 (by decide) rfl ?_
                      refine c_goto (tgt := 9) C dX6_find_143 (by decide) ?_
                      refine c_lv (lv2 := [(4, (va_rf f9)), (5, .int (iI he)), (6, .null), (0, .ref a0), (1, .ref a1), (2, .int (iI i)), (3, .int (iI x))]) [1, 2, 0, 3, 4, 5, 6] rfl ?_
                      exact ih1  f9 none he (rk - 1) _ (by omega) W8 F5 rgf9 (fun _ q => by cases q) (by omega) (by omega) (fun _ q => by cases q) (hD.sho (FOX.ni hW hS W8 F5 t_a0 ty_bs rgf9 gf9) (by omega) (by unfold sml; split <;> omega) nq3 (by omega))
                    · have rknb3 := W8.rank tob1 (k := 2) (by decide) nq3
                      refine c_getr (k := 2) C ck_10 dX6_find_138 w2_182 (by decide) tob1 rfl rfl (by decide) rfl nq3 ?_
                      refine c_st (st2 := [.ref nb3]) rfl ?_
                      refine c_astore (lv2 := [(6, .ref nb3), (4, (va_rf f9)), (5, .int (iI he)), (0, .ref a0), (1, .ref a1), (2, .int (iI i)), (3, .int (iI x))]) C dX6_find_141 (by decide) rfl ?_
                      refine c_goto (tgt := 9) C dX6_find_143 (by decide) ?_
                      have trnb3 := bt_100 tnb3.2
                      refine c_lv (lv2 := [(4, (va_rf f9)), (5, .int (iI he)), (6, .ref nb3), (0, .ref a0), (1, .ref a1), (2, .int (iI i)), (3, .int (iI x))]) [1, 2, 0, 3, 4, 5, 6] rfl ?_
                      exact ih1  f9 (some nb3) he (rk - 1) _ (by omega) W8 F5 rgf9 (fun _ q => by cases q; exact tnb3) (by omega) (by omega) (fun _ q => by cases q; omega) (hD.sho (FOX.ni hW hS W8 F5 t_a0 ty_bs rgf9 gf9) (by omega) (by unfold sml; split <;> omega) nq3 (by omega))
                  · refine c_aloadr (j := 0) (r := f9) C dX6_find_133 rfl ?_
                    exact c_aret (x := f9) C dX6_find_135 rfl (Or.inl ⟨_, rfl⟩) (by decide) (rom0 hph hph (by decide)) ⟨f9, rfl, rfl, rfl, rfl, rfl, F5, W8, rgf9, (by exfalso; omega)⟩
            · refine c_iload (j := 1) C dX6_find_61 rfl ?_
              refine c_callSN0 (As := [.int (iI he)]) (rest := []) C (fun L E => s11_isDigit (iI he)) dX6_find_63 kSN_X6_115 rfl rfl (Nat.le_of_ble_eq_true rfl) ⟨(Nat.le_of_ble_eq_true rfl), (Nat.le_of_ble_eq_true rfl)⟩ (rom0 hph hph (by decide)) ?_
              rcases inn_c (x := he) (lo := 48) (hi := 57) (r32_c (lo := (-2147483648)) (hi := 2147483647) hhe.1 hhe.2 (by decide) (by decide)) ⟨by decide, by decide⟩ ⟨by decide, by decide⟩ with ⟨hs2a, hs2b, hs2e⟩ | ⟨hs2a, hs2e⟩
              · refine c_st (st2 := [.int (iI 1)]) (by rw [show inn (iI he) 48 57 = iI 1 from hs2e]) ?_
                refine c_if_ne (tgt := 72) C ⟨by decide, by decide⟩ dX6_find_66 (by decide) (fun _ => ?_) (fun z => absurd z (by omega))
                refine c_aload (j := 2) (x := ob1) C dX6_find_72 rfl ?_
                refine c_get (k := 0) C ck_10 dX6_find_74 w2_177 (by decide) tob1 rfl rfl (by decide) rfl ?_
                refine c_iconst C dX6_find_77 ?_
                refine c_icmp_ne (tgt := 106) C (r32_c (lo := (-2147483648)) (hi := 2147483647) ri2.1 ri2.2 (by decide) (by decide)) ⟨by decide, by decide⟩ dX6_find_78 (by decide) (fun c8 => ?_) (fun c8 => ?_)
                · refine c_aload_n (j := 3) (x := a0) C dX6_find_106 rfl ?_
                  refine c_iconst C dX6_find_107 ?_
                  refine d_callV (As := [.int (iI 0)]) (rest := []) C hM (C_countFind (a0 := a0) (i := 0) W1 hS t_a0 ⟨by decide, by decide⟩ ) dX6_find_108 kV_X6_119 rfl t_a0 rfl rfl (by decide) ck_7 rfl (Nat.le_of_ble_eq_true rfl) ⟨(Nat.le_of_ble_eq_true rfl), (Nat.le_of_ble_eq_true rfl)⟩ hph hph (show 0 + 0 = 0 from rfl) (by decide) (fun rh10 Lh10 clh10 lnh10 ivh10 rvh10 h10 => ?_)
                  obtain ⟨rfl, rfl, rfl, rfl, rfl, fl10, W10, exf10⟩ := h10
                  have F6 := F1.call hX0 fl10 rfl
                  refine c_st (st2 := []) rfl ?_
                  refine c_aload_n (j := 3) (x := a0) C dX6_find_111 rfl ?_
                  refine c_aload (j := 2) (x := ob1) C dX6_find_112 rfl ?_
                  refine c_iload_n (j := 5) C dX6_find_114 rfl ?_
                  refine c_iload (j := 1) C dX6_find_115 rfl ?_
                  refine c_aloadr (j := 0) (r := bs) C dX6_find_117 rfl ?_
                  refine d_callV (As := [.ref ob1, .int (iI i), .int (iI he), (va_rf bs)]) (rest := []) C hM (G_findOwn (a0 := a0) (a1 := ob1) (i := i) (x := he) (r := bs) W10 hS t_a0 tob1 ty_bs (by omega) (by omega) (by show 0 ≤ i ∧ i ≤ 500; omega)) dX6_find_119 kV_X6_122 rfl t_a0 rfl rfl (by decide) ck_7 rfl (Nat.le_of_ble_eq_true rfl) ⟨(Nat.le_of_ble_eq_true rfl), (Nat.le_of_ble_eq_true rfl)⟩ hph hph (show 0 + 0 = 0 from rfl) (by decide) (fun rh11 Lh11 clh11 lnh11 ivh11 rvh11 h11 => ?_)
                  obtain ⟨f11, rfl, rfl, rfl, rfl, rfl, rfl, rgf11, exf11⟩ := h11
                  refine c_st (st2 := [(va_rf f11)]) rfl ?_
                  have gf11 : FOX sk ln ivh10 rv a0 ob1 i he bs f11 := exf11
                  refine c_astorer (r := f11) (lv2 := [(4, (va_rf f11)), (5, .int (iI he)), (6, .ref ob1), (0, .ref a0), (1, .ref a1), (2, .int (iI i)), (3, .int (iI x))]) C dX6_find_122 (by decide) rfl ?_
                  refine c_aload (j := 2) (x := ob1) C dX6_find_124 rfl ?_
                  refine hv2 (show (-2147483648) ≤ ivh10 ob1 0 ∧ ivh10 ob1 0 ≤ 2147483647 from W10.int tob1 0) (show ivh10 ob1 0 = ivh1 ob1 0 from fl10.i tob1 rfl 0) (fun ri6 ie8 => ?_)
                  refine c_get (k := 0) C ck_10 dX6_find_126 w2_177 (by decide) tob1 rfl rfl (by decide) rfl ?_
                  refine c_iconst C dX6_find_129 ?_
                  refine c_icmp_ne (tgt := 136) C (r32_c (lo := (-2147483648)) (hi := 2147483647) ri6.1 ri6.2 (by decide) (by decide)) ⟨by decide, by decide⟩ dX6_find_130 (by decide) (fun c9 => ?_) (fun c9 => ?_)
                  · refine c_aload (j := 2) (x := ob1) C dX6_find_136 rfl ?_
                    rcases W10.opt tob1 2 rfl rfl with ⟨nq4, _⟩ | ⟨nb4, nq4, tnb4⟩
                    · refine c_getr (k := 2) C ck_10 dX6_find_138 w2_182 (by decide) tob1 rfl rfl (by decide) rfl nq4 ?_
                      refine c_st (st2 := [.null]) rfl ?_
                      refine c_astorer (r := none) (lv2 := [(6, .null), (4, (va_rf f11)), (5, .int (iI he)), (0, .ref a0), (1, .ref a1), (2, .int (iI i)), (3, .int (iI x))]) C dX6_find_141 (by decide) rfl ?_
                      refine c_goto (tgt := 9) C dX6_find_143 (by decide) ?_
                      refine c_lv (lv2 := [(4, (va_rf f11)), (5, .int (iI he)), (6, .null), (0, .ref a0), (1, .ref a1), (2, .int (iI i)), (3, .int (iI x))]) [1, 2, 0, 3, 4, 5, 6] rfl ?_
                      exact ih1  f11 none he (rk - 1) _ (by omega) W10 F6 rgf11 (fun _ q => by cases q) (by omega) (by omega) (fun _ q => by cases q) (by exfalso; omega)
                    · have rknb4 := W10.rank tob1 (k := 2) (by decide) nq4
                      refine c_getr (k := 2) C ck_10 dX6_find_138 w2_182 (by decide) tob1 rfl rfl (by decide) rfl nq4 ?_
                      refine c_st (st2 := [.ref nb4]) rfl ?_
                      refine c_astore (lv2 := [(6, .ref nb4), (4, (va_rf f11)), (5, .int (iI he)), (0, .ref a0), (1, .ref a1), (2, .int (iI i)), (3, .int (iI x))]) C dX6_find_141 (by decide) rfl ?_
                      refine c_goto (tgt := 9) C dX6_find_143 (by decide) ?_
                      have trnb4 := bt_100 tnb4.2
                      refine c_lv (lv2 := [(4, (va_rf f11)), (5, .int (iI he)), (6, .ref nb4), (0, .ref a0), (1, .ref a1), (2, .int (iI i)), (3, .int (iI x))]) [1, 2, 0, 3, 4, 5, 6] rfl ?_
                      exact ih1  f11 (some nb4) he (rk - 1) _ (by omega) W10 F6 rgf11 (fun _ q => by cases q; exact tnb4) (by omega) (by omega) (fun _ q => by cases q; omega) (by exfalso; omega)
                  · refine c_aloadr (j := 0) (r := f11) C dX6_find_133 rfl ?_
                    exact c_aret (x := f11) C dX6_find_135 rfl (Or.inl ⟨_, rfl⟩) (by decide) (rom0 hph hph (by decide)) ⟨f11, rfl, rfl, rfl, rfl, rfl, F6, W10, rgf11, (hD.num (FOX.ni hW hS W10 F6 t_a0 ty_bs rgf11 gf11) (by omega) (by unfold isD; omega) (by omega))⟩
                · refine c_aload_n (j := 3) (x := a0) C dX6_find_81 rfl ?_
                  refine c_iconst C dX6_find_82 ?_
                  refine d_callV (As := [.int (iI 1)]) (rest := []) C hM (C_countFind (a0 := a0) (i := 1) W1 hS t_a0 ⟨by decide, by decide⟩ ) dX6_find_83 kV_X6_119 rfl t_a0 rfl rfl (by decide) ck_7 rfl (Nat.le_of_ble_eq_true rfl) ⟨(Nat.le_of_ble_eq_true rfl), (Nat.le_of_ble_eq_true rfl)⟩ hph hph (show 0 + 0 = 0 from rfl) (by decide) (fun rh12 Lh12 clh12 lnh12 ivh12 rvh12 h12 => ?_)
                  obtain ⟨rfl, rfl, rfl, rfl, rfl, fl12, W12, exf12⟩ := h12
                  have F7 := F1.call hX0 fl12 rfl
                  refine c_st (st2 := []) rfl ?_
                  refine c_iload (j := 1) C dX6_find_86 rfl ?_
                  refine c_callSN0 (As := [.int (iI he)]) (rest := []) C (fun L E => s11_isGreat (iI he)) dX6_find_88 kSN_X6_98 rfl rfl (Nat.le_of_ble_eq_true rfl) ⟨(Nat.le_of_ble_eq_true rfl), (Nat.le_of_ble_eq_true rfl)⟩ (rom0 hph hph (by decide)) ?_
                  rcases inn_c (x := he) (lo := 65) (hi := 90) (r32_c (lo := (-2147483648)) (hi := 2147483647) hhe.1 hhe.2 (by decide) (by decide)) ⟨by decide, by decide⟩ ⟨by decide, by decide⟩ with ⟨hs3a, hs3b, hs3e⟩ | ⟨hs3a, hs3e⟩
                  · refine c_st (st2 := [.int (iI 1)]) (by rw [show inn (iI he) 65 90 = iI 1 from hs3e]) ?_
                    refine c_if_eq (tgt := 102) C ⟨by decide, by decide⟩ dX6_find_91 (by decide) (fun z => absurd z (by omega)) (fun _ => ?_)
                    refine c_iload (j := 1) C dX6_find_94 rfl ?_
                    refine c_bipush (z := 32) C dX6_find_96 (by decide) ?_
                    refine c_iadd C dX6_find_98 ?_
                    refine c_goto (tgt := 104) C dX6_find_99 (by decide) ?_
                    refine c_istore (lv2 := [(5, .int (iI (he + 32))), (4, (va_rf bs)), (6, .ref ob1), (0, .ref a0), (1, .ref a1), (2, .int (iI i)), (3, .int (iI x))]) C dX6_find_104 (by decide) (by cases bs <;> rfl) ?_
                    refine c_aload_n (j := 3) (x := a0) C dX6_find_106 rfl ?_
                    refine c_iconst C dX6_find_107 ?_
                    refine d_callV (As := [.int (iI 0)]) (rest := []) C hM (C_countFind (a0 := a0) (i := 0) W12 hS t_a0 ⟨by decide, by decide⟩ ) dX6_find_108 kV_X6_119 rfl t_a0 rfl rfl (by decide) ck_7 rfl (Nat.le_of_ble_eq_true rfl) ⟨(Nat.le_of_ble_eq_true rfl), (Nat.le_of_ble_eq_true rfl)⟩ hph hph (show 0 + 0 = 0 from rfl) (by decide) (fun rh13 Lh13 clh13 lnh13 ivh13 rvh13 h13 => ?_)
                    obtain ⟨rfl, rfl, rfl, rfl, rfl, fl13, W13, exf13⟩ := h13
                    have F8 := F7.call hX0 fl13 rfl
                    refine c_st (st2 := []) rfl ?_
                    refine c_aload_n (j := 3) (x := a0) C dX6_find_111 rfl ?_
                    refine c_aload (j := 2) (x := ob1) C dX6_find_112 rfl ?_
                    refine c_iload_n (j := 5) C dX6_find_114 rfl ?_
                    refine c_iload (j := 0) C dX6_find_115 rfl ?_
                    refine c_aloadr (j := 1) (r := bs) C dX6_find_117 rfl ?_
                    refine d_callV (As := [.ref ob1, .int (iI i), .int (iI (he + 32)), (va_rf bs)]) (rest := []) C hM (G_findOwn (a0 := a0) (a1 := ob1) (i := i) (x := he + 32) (r := bs) W13 hS t_a0 tob1 ty_bs (by omega) (by omega) (by show 0 ≤ i ∧ i ≤ 500; omega)) dX6_find_119 kV_X6_122 rfl t_a0 rfl rfl (by decide) ck_7 rfl (Nat.le_of_ble_eq_true rfl) ⟨(Nat.le_of_ble_eq_true rfl), (Nat.le_of_ble_eq_true rfl)⟩ hph hph (show 0 + 0 = 0 from rfl) (by decide) (fun rh14 Lh14 clh14 lnh14 ivh14 rvh14 h14 => ?_)
                    obtain ⟨f14, rfl, rfl, rfl, rfl, rfl, rfl, rgf14, exf14⟩ := h14
                    refine c_st (st2 := [(va_rf f14)]) rfl ?_
                    have gf14 : FOX sk ln ivh13 rv a0 ob1 i (he + 32) bs f14 := exf14
                    refine c_astorer (r := f14) (lv2 := [(4, (va_rf f14)), (5, .int (iI (he + 32))), (6, .ref ob1), (0, .ref a0), (1, .ref a1), (2, .int (iI i)), (3, .int (iI x))]) C dX6_find_122 (by decide) rfl ?_
                    refine c_aload (j := 2) (x := ob1) C dX6_find_124 rfl ?_
                    refine hv3 (show (-2147483648) ≤ ivh13 ob1 0 ∧ ivh13 ob1 0 ≤ 2147483647 from W13.int tob1 0) (show ivh13 ob1 0 = ivh12 ob1 0 from fl13.i tob1 rfl 0) (show ivh12 ob1 0 = ivh1 ob1 0 from fl12.i tob1 rfl 0) (fun ri7 ie9 ie10 => ?_)
                    refine c_get (k := 0) C ck_10 dX6_find_126 w2_177 (by decide) tob1 rfl rfl (by decide) rfl ?_
                    refine c_iconst C dX6_find_129 ?_
                    refine c_icmp_ne (tgt := 136) C (r32_c (lo := (-2147483648)) (hi := 2147483647) ri7.1 ri7.2 (by decide) (by decide)) ⟨by decide, by decide⟩ dX6_find_130 (by decide) (fun c10 => ?_) (fun c10 => ?_)
                    · refine c_aload (j := 2) (x := ob1) C dX6_find_136 rfl ?_
                      rcases W13.opt tob1 2 rfl rfl with ⟨nq5, _⟩ | ⟨nb5, nq5, tnb5⟩
                      · refine c_getr (k := 2) C ck_10 dX6_find_138 w2_182 (by decide) tob1 rfl rfl (by decide) rfl nq5 ?_
                        refine c_st (st2 := [.null]) rfl ?_
                        refine c_astorer (r := none) (lv2 := [(6, .null), (4, (va_rf f14)), (5, .int (iI (he + 32))), (0, .ref a0), (1, .ref a1), (2, .int (iI i)), (3, .int (iI x))]) C dX6_find_141 (by decide) rfl ?_
                        refine c_goto (tgt := 9) C dX6_find_143 (by decide) ?_
                        refine c_lv (lv2 := [(4, (va_rf f14)), (5, .int (iI (he + 32))), (6, .null), (0, .ref a0), (1, .ref a1), (2, .int (iI i)), (3, .int (iI x))]) [1, 2, 0, 3, 4, 5, 6] rfl ?_
                        exact ih1  f14 none (he + 32) (rk - 1) _ (by omega) W13 F8 rgf14 (fun _ q => by cases q) (by omega) (by omega) (fun _ q => by cases q) (by exfalso; omega)
                      · have rknb5 := W13.rank tob1 (k := 2) (by decide) nq5
                        refine c_getr (k := 2) C ck_10 dX6_find_138 w2_182 (by decide) tob1 rfl rfl (by decide) rfl nq5 ?_
                        refine c_st (st2 := [.ref nb5]) rfl ?_
                        refine c_astore (lv2 := [(6, .ref nb5), (4, (va_rf f14)), (5, .int (iI (he + 32))), (0, .ref a0), (1, .ref a1), (2, .int (iI i)), (3, .int (iI x))]) C dX6_find_141 (by decide) rfl ?_
                        refine c_goto (tgt := 9) C dX6_find_143 (by decide) ?_
                        have trnb5 := bt_100 tnb5.2
                        refine c_lv (lv2 := [(4, (va_rf f14)), (5, .int (iI (he + 32))), (6, .ref nb5), (0, .ref a0), (1, .ref a1), (2, .int (iI i)), (3, .int (iI x))]) [1, 2, 0, 3, 4, 5, 6] rfl ?_
                        exact ih1  f14 (some nb5) (he + 32) (rk - 1) _ (by omega) W13 F8 rgf14 (fun _ q => by cases q; exact tnb5) (by omega) (by omega) (fun _ q => by cases q; omega) (by exfalso; omega)
                    · refine c_aloadr (j := 0) (r := f14) C dX6_find_133 rfl ?_
                      exact c_aret (x := f14) C dX6_find_135 rfl (Or.inl ⟨_, rfl⟩) (by decide) (rom0 hph hph (by decide)) ⟨f14, rfl, rfl, rfl, rfl, rfl, F8, W13, rgf14, (by exfalso; omega)⟩
                  · refine c_st (st2 := [.int (iI 0)]) (by rw [show inn (iI he) 65 90 = iI 0 from hs3e]) ?_
                    refine c_if_eq (tgt := 102) C ⟨by decide, by decide⟩ dX6_find_91 (by decide) (fun _ => ?_) (fun z => absurd z (by omega))
                    refine c_iload (j := 1) C dX6_find_102 rfl ?_
                    refine c_istore (lv2 := [(5, .int (iI he)), (4, (va_rf bs)), (6, .ref ob1), (0, .ref a0), (1, .ref a1), (2, .int (iI i)), (3, .int (iI x))]) C dX6_find_104 (by decide) (by cases bs <;> rfl) ?_
                    refine c_aload_n (j := 3) (x := a0) C dX6_find_106 rfl ?_
                    refine c_iconst C dX6_find_107 ?_
                    refine d_callV (As := [.int (iI 0)]) (rest := []) C hM (C_countFind (a0 := a0) (i := 0) W12 hS t_a0 ⟨by decide, by decide⟩ ) dX6_find_108 kV_X6_119 rfl t_a0 rfl rfl (by decide) ck_7 rfl (Nat.le_of_ble_eq_true rfl) ⟨(Nat.le_of_ble_eq_true rfl), (Nat.le_of_ble_eq_true rfl)⟩ hph hph (show 0 + 0 = 0 from rfl) (by decide) (fun rh15 Lh15 clh15 lnh15 ivh15 rvh15 h15 => ?_)
                    obtain ⟨rfl, rfl, rfl, rfl, rfl, fl15, W15, exf15⟩ := h15
                    have F9 := F7.call hX0 fl15 rfl
                    refine c_st (st2 := []) rfl ?_
                    refine c_aload_n (j := 3) (x := a0) C dX6_find_111 rfl ?_
                    refine c_aload (j := 2) (x := ob1) C dX6_find_112 rfl ?_
                    refine c_iload_n (j := 5) C dX6_find_114 rfl ?_
                    refine c_iload (j := 0) C dX6_find_115 rfl ?_
                    refine c_aloadr (j := 1) (r := bs) C dX6_find_117 rfl ?_
                    refine d_callV (As := [.ref ob1, .int (iI i), .int (iI he), (va_rf bs)]) (rest := []) C hM (G_findOwn (a0 := a0) (a1 := ob1) (i := i) (x := he) (r := bs) W15 hS t_a0 tob1 ty_bs (by omega) (by omega) (by show 0 ≤ i ∧ i ≤ 500; omega)) dX6_find_119 kV_X6_122 rfl t_a0 rfl rfl (by decide) ck_7 rfl (Nat.le_of_ble_eq_true rfl) ⟨(Nat.le_of_ble_eq_true rfl), (Nat.le_of_ble_eq_true rfl)⟩ hph hph (show 0 + 0 = 0 from rfl) (by decide) (fun rh16 Lh16 clh16 lnh16 ivh16 rvh16 h16 => ?_)
                    obtain ⟨f16, rfl, rfl, rfl, rfl, rfl, rfl, rgf16, exf16⟩ := h16
                    refine c_st (st2 := [(va_rf f16)]) rfl ?_
                    have gf16 : FOX sk ln ivh15 rv a0 ob1 i he bs f16 := exf16
                    refine c_astorer (r := f16) (lv2 := [(4, (va_rf f16)), (5, .int (iI he)), (6, .ref ob1), (0, .ref a0), (1, .ref a1), (2, .int (iI i)), (3, .int (iI x))]) C dX6_find_122 (by decide) rfl ?_
                    refine c_aload (j := 2) (x := ob1) C dX6_find_124 rfl ?_
                    refine hv3 (show (-2147483648) ≤ ivh15 ob1 0 ∧ ivh15 ob1 0 ≤ 2147483647 from W15.int tob1 0) (show ivh15 ob1 0 = ivh12 ob1 0 from fl15.i tob1 rfl 0) (show ivh12 ob1 0 = ivh1 ob1 0 from fl12.i tob1 rfl 0) (fun ri8 ie11 ie12 => ?_)
                    refine c_get (k := 0) C ck_10 dX6_find_126 w2_177 (by decide) tob1 rfl rfl (by decide) rfl ?_
                    refine c_iconst C dX6_find_129 ?_
                    refine c_icmp_ne (tgt := 136) C (r32_c (lo := (-2147483648)) (hi := 2147483647) ri8.1 ri8.2 (by decide) (by decide)) ⟨by decide, by decide⟩ dX6_find_130 (by decide) (fun c11 => ?_) (fun c11 => ?_)
                    · refine c_aload (j := 2) (x := ob1) C dX6_find_136 rfl ?_
                      rcases W15.opt tob1 2 rfl rfl with ⟨nq6, _⟩ | ⟨nb6, nq6, tnb6⟩
                      · refine c_getr (k := 2) C ck_10 dX6_find_138 w2_182 (by decide) tob1 rfl rfl (by decide) rfl nq6 ?_
                        refine c_st (st2 := [.null]) rfl ?_
                        refine c_astorer (r := none) (lv2 := [(6, .null), (4, (va_rf f16)), (5, .int (iI he)), (0, .ref a0), (1, .ref a1), (2, .int (iI i)), (3, .int (iI x))]) C dX6_find_141 (by decide) rfl ?_
                        refine c_goto (tgt := 9) C dX6_find_143 (by decide) ?_
                        refine c_lv (lv2 := [(4, (va_rf f16)), (5, .int (iI he)), (6, .null), (0, .ref a0), (1, .ref a1), (2, .int (iI i)), (3, .int (iI x))]) [1, 2, 0, 3, 4, 5, 6] rfl ?_
                        exact ih1  f16 none he (rk - 1) _ (by omega) W15 F9 rgf16 (fun _ q => by cases q) (by omega) (by omega) (fun _ q => by cases q) (by exfalso; omega)
                      · have rknb6 := W15.rank tob1 (k := 2) (by decide) nq6
                        refine c_getr (k := 2) C ck_10 dX6_find_138 w2_182 (by decide) tob1 rfl rfl (by decide) rfl nq6 ?_
                        refine c_st (st2 := [.ref nb6]) rfl ?_
                        refine c_astore (lv2 := [(6, .ref nb6), (4, (va_rf f16)), (5, .int (iI he)), (0, .ref a0), (1, .ref a1), (2, .int (iI i)), (3, .int (iI x))]) C dX6_find_141 (by decide) rfl ?_
                        refine c_goto (tgt := 9) C dX6_find_143 (by decide) ?_
                        have trnb6 := bt_100 tnb6.2
                        refine c_lv (lv2 := [(4, (va_rf f16)), (5, .int (iI he)), (6, .ref nb6), (0, .ref a0), (1, .ref a1), (2, .int (iI i)), (3, .int (iI x))]) [1, 2, 0, 3, 4, 5, 6] rfl ?_
                        exact ih1  f16 (some nb6) he (rk - 1) _ (by omega) W15 F9 rgf16 (fun _ q => by cases q; exact tnb6) (by omega) (by omega) (fun _ q => by cases q; omega) (by exfalso; omega)
                    · refine c_aloadr (j := 0) (r := f16) C dX6_find_133 rfl ?_
                      exact c_aret (x := f16) C dX6_find_135 rfl (Or.inl ⟨_, rfl⟩) (by decide) (rom0 hph hph (by decide)) ⟨f16, rfl, rfl, rfl, rfl, rfl, F9, W15, rgf16, (by exfalso; omega)⟩
              · refine c_st (st2 := [.int (iI 0)]) (by rw [show inn (iI he) 48 57 = iI 0 from hs2e]) ?_
                refine c_if_ne (tgt := 72) C ⟨by decide, by decide⟩ dX6_find_66 (by decide) (fun z => absurd z (by omega)) (fun _ => ?_)
                refine c_goto (tgt := 136) C dX6_find_69 (by decide) ?_
                refine c_aload (j := 2) (x := ob1) C dX6_find_136 rfl ?_
                rcases W1.opt tob1 2 rfl rfl with ⟨nq7, _⟩ | ⟨nb7, nq7, tnb7⟩
                · refine c_getr (k := 2) C ck_10 dX6_find_138 w2_182 (by decide) tob1 rfl rfl (by decide) rfl nq7 ?_
                  refine c_st (st2 := [.null]) rfl ?_
                  refine c_astorer (r := none) (lv2 := [(6, .null), (4, (va_rf bs)), (5, .int (iI he)), (0, .ref a0), (1, .ref a1), (2, .int (iI i)), (3, .int (iI x))]) C dX6_find_141 (by decide) rfl ?_
                  refine c_goto (tgt := 9) C dX6_find_143 (by decide) ?_
                  refine c_lv (lv2 := [(4, (va_rf bs)), (5, .int (iI he)), (6, .null), (0, .ref a0), (1, .ref a1), (2, .int (iI i)), (3, .int (iI x))]) [1, 2, 0, 3, 4, 5, 6] rfl ?_
                  exact ih1  bs none he (rk - 1) _ (by omega) W1 F1 ty_bs (fun _ q => by cases q) (by omega) (by omega) (fun _ q => by cases q) (hD.numn (by omega) (by unfold isD; omega) nq7)
                · have rknb7 := W1.rank tob1 (k := 2) (by decide) nq7
                  refine c_getr (k := 2) C ck_10 dX6_find_138 w2_182 (by decide) tob1 rfl rfl (by decide) rfl nq7 ?_
                  refine c_st (st2 := [.ref nb7]) rfl ?_
                  refine c_astore (lv2 := [(6, .ref nb7), (4, (va_rf bs)), (5, .int (iI he)), (0, .ref a0), (1, .ref a1), (2, .int (iI i)), (3, .int (iI x))]) C dX6_find_141 (by decide) rfl ?_
                  refine c_goto (tgt := 9) C dX6_find_143 (by decide) ?_
                  have trnb7 := bt_100 tnb7.2
                  refine c_lv (lv2 := [(4, (va_rf bs)), (5, .int (iI he)), (6, .ref nb7), (0, .ref a0), (1, .ref a1), (2, .int (iI i)), (3, .int (iI x))]) [1, 2, 0, 3, 4, 5, 6] rfl ?_
                  exact ih1  bs (some nb7) he (rk - 1) _ (by omega) W1 F1 ty_bs (fun _ q => by cases q; exact tnb7) (by omega) (by omega) (fun _ q => by cases q; omega) (hD.numn (by omega) (by unfold isD; omega) nq7)
          · refine c_aload_n (j := 3) (x := a0) C dX6_find_40 rfl ?_
            refine c_aload (j := 2) (x := ob1) C dX6_find_41 rfl ?_
            refine c_iload_n (j := 5) C dX6_find_43 rfl ?_
            refine c_iload (j := 1) C dX6_find_44 rfl ?_
            refine c_aloadr (j := 0) (r := bs) C dX6_find_46 rfl ?_
            refine d_callV (As := [.ref ob1, .int (iI i), .int (iI he), (va_rf bs)]) (rest := []) C hM (G_findOwn (a0 := a0) (a1 := ob1) (i := i) (x := he) (r := bs) W1 hS t_a0 tob1 ty_bs (by omega) (by omega) (by show 0 ≤ i ∧ i ≤ 500; omega)) dX6_find_48 kV_X6_122 rfl t_a0 rfl rfl (by decide) ck_7 rfl (Nat.le_of_ble_eq_true rfl) ⟨(Nat.le_of_ble_eq_true rfl), (Nat.le_of_ble_eq_true rfl)⟩ hph hph (show 0 + 0 = 0 from rfl) (by decide) (fun rh17 Lh17 clh17 lnh17 ivh17 rvh17 h17 => ?_)
            obtain ⟨f17, rfl, rfl, rfl, rfl, rfl, rfl, rgf17, exf17⟩ := h17
            refine c_st (st2 := [(va_rf f17)]) rfl ?_
            have gf17 : FOX sk ln ivh1 rv a0 ob1 i he bs f17 := exf17
            exact c_aret (x := f17) C dX6_find_51 rfl (Or.inl ⟨_, rfl⟩) (by decide) (rom0 hph hph (by decide)) ⟨f17, rfl, rfl, rfl, rfl, rfl, F1, W1, rgf17, (hD.plain (FOX.ni hW hS W1 F1 t_a0 ty_bs rgf17 gf17) (by omega) (by omega))⟩
  have tra1 := bt_100 t_a1.2
  refine c_lv (lv2 := [(4, .null), (5, .int (iI x)), (6, .ref a1), (0, .ref a0), (1, .ref a1), (2, .int (iI i)), (3, .int (iI x))]) [2, 1, 0, 3, 4, 5, 6] rfl ?_
  exact Lp1 31 none (some a1) x 129 _ (by omega) hW hF0 (fun _ q => by cases q) (fun _ q => by cases q; exact t_a1) (by omega) (by omega) (fun _ q => by cases q; omega) FDI.init
end
section
def PDH (iv : Nat → Nat → Int) (rv : Nat → Nat → Option Nat) (s : Nat) (l : List Int) : Prop := iv s 7 = ((l.length : Nat) : Int) ∧ ∀ cb, rv s 6 = some cb → ∀ (j : Nat) (d : Int), j < 200 → l[j]? = some d → iv cb j = d
def RCX (ln : Nat → Nat) (iv : Nat → Nat → Int) (rv : Nat → Nat → Option Nat) (r : Option Nat) (cs : List Int) : Prop := (r = none ∧ cs = []) ∨ ∃ w c, r = some w ∧ rv w 2 = some c ∧ cs = (List.range (ln c)).map (fun k => iv c k)
def PUX (ln : Nat → Nat) (iv : Nat → Nat → Int) (rv : Nat → Nat → Option Nat) (iv2 : Nat → Nat → Int) (s : Nat) (r : Option Nat) : Prop := ∀ l, PDH iv rv s l → ∀ cs, RCX ln iv rv r cs → PDH iv2 rv s (l ++ cs)
def PUK (ln : Nat → Nat) (iv : Nat → Nat → Int) (rv : Nat → Nat → Option Nat) (iv1 : Nat → Nat → Int) (s : Nat) (r : Option Nat) (k : Int) : Prop := ∀ w c, r = some w → rv w 2 = some c → k ≤ ((ln c : Nat) : Int) ∧ ∀ l, PDH iv rv s l → PDH iv1 rv s (l ++ (List.range k.toNat).map (fun j => iv c j))
def CTX (sk ln : Nat → Nat) (iv : Nat → Nat → Int) (rv : Nat → Nat → Option Nat) (s tb : Nat) (q u : Int) (v : Nat → Int) (a : Nat → Nat → Int) (W : Nat → Int) (t : Nat) : Prop := TRL sk ln iv rv v a ∧ (t : Int) < v 4 ∧ a 6 t ≠ 5 ∧ el rv (sk 22) t = some tb ∧ LTW iv rv s W q u
def NAX (sk ln : Nat → Nat) (iv : Nat → Nat → Int) (rv : Nat → Nat → Option Nat) (s tb : Nat) (i : Int) (f : Option Nat) : Prop := ∀ v a W t, CTX sk ln iv rv s tb (iv s 10) (iv s 11) v a W t → iv s 10 ≤ i → i < iv s 11 → RCX ln iv rv f (nbl a W t (iv s 10) i)
def NA0 (sk ln : Nat → Nat) (iv : Nat → Nat → Int) (rv : Nat → Nat → Option Nat) (s tb : Nat) (q u x : Int) (f : Option Nat) : Prop := ∀ v a W t, CTX sk ln iv rv s tb q u v a W t → RCX ln iv rv f (nbl a W t q x)
def FD0 (sk ln : Nat → Nat) (iv : Nat → Nat → Int) (rv : Nat → Nat → Option Nat) (s tb : Nat) (q u x b : Int) (f : Option Nat) : Prop := ∀ v a W t, CTX sk ln iv rv s tb q u v a W t → ∃ y, fnd a q u x 30 (va_up W x.toNat b) t y ∧ BST ln iv rv a f y
def PCX (sk ln : Nat → Nat) (iv : Nat → Nat → Int) (rv : Nat → Nat → Option Nat) (s tb : Nat) (q u x : Int) (ah : Option Nat) (w : Nat) : Prop := ∀ v a W t, CTX sk ln iv rv s tb q u v a W t → ∃ as ds lb, RCX ln iv rv ah as ∧ RCX ln iv rv (some w) ds ∧ rv w 1 = some lb ∧ 1 ≤ ln lb ∧ PC1 a W t q u x ((ln lb : Nat) : Int) (as ++ ds)
def NPX (sk ln : Nat → Nat) (iv : Nat → Nat → Int) (rv : Nat → Nat → Option Nat) (s tb : Nat) (q u x : Int) : Prop := ∀ v a W t, CTX sk ln iv rv s tb q u v a W t → ∀ l ds, ¬ PC1 a W t q u x l ds
def NCP (iv : Nat → Nat → Int) (rv : Nat → Nat → Option Nat) (tb : Nat) (b : Int) : Prop := ¬ isG b ∨ 2 < iv tb 0 ∨ ∃ n, rv tb 6 = some n ∧ rv n 0 = none
def PTS (a : Nat → Nat → Int) (W : Nat → Int) (t q u : Int) (ps : List (Int × List Int)) : Prop := ∃ y, ptp a W t q u q ps y ∧ u ≤ y
def STI (iv : Nat → Nat → Int) (rv : Nat → Nat → Option Nat) (s : Nat) (m : Int) (ps : List (Int × List Int)) (q x : Int) : Prop := (∀ j : Nat, x ≤ ((j : Nat) : Int) → bgn ps m j (-1) = -1) ∧ ∀ sb, rv s 3 = some sb → ∀ j : Nat, q ≤ ((j : Nat) : Int) → ((j : Nat) : Int) < x → j < 500 → iv sb j = bgn ps m j (-1)
def ST2 (iv : Nat → Nat → Int) (rv : Nat → Nat → Option Nat) (s : Nat) (m : Int) (ps : List (Int × List Int)) (q x n : Int) : Prop := (∀ j : Nat, x ≤ ((j : Nat) : Int) → bgn ps m j (-1) = -1) ∧ ∀ sb, rv s 3 = some sb → ∀ j : Nat, q ≤ ((j : Nat) : Int) → ((j : Nat) : Int) < x + n → j < 500 → iv sb j = if j = x.toNat then m + (((cls ps).length : Nat) : Int) else bgn ps m j (-1)
def STE (iv : Nat → Nat → Int) (rv : Nat → Nat → Option Nat) (s : Nat) (m : Int) (ps : List (Int × List Int)) (q u : Int) : Prop := ∀ sb, rv s 3 = some sb → ∀ j : Nat, q ≤ ((j : Nat) : Int) → ((j : Nat) : Int) < u → j < 500 → iv sb j = bgn ps m j (-1)
def MSK (iv : Nat → Nat → Int) (rv : Nat → Nat → Option Nat) (iv1 : Nat → Nat → Int) (s : Nat) (i k : Int) : Prop := ∀ sb, rv s 3 = some sb → ∀ j : Nat, j < 500 → iv1 sb j = if i ≤ ((j : Nat) : Int) ∧ ((j : Nat) : Int) < k then (if ((j : Nat) : Int) = i then iv s 7 else -1) else iv sb j
def MSX (iv : Nat → Nat → Int) (rv : Nat → Nat → Option Nat) (iv2 : Nat → Nat → Int) (s : Nat) (i n : Int) : Prop := MSK iv rv iv2 s i (i + n)
def SPX (sk ln : Nat → Nat) (iv : Nat → Nat → Int) (rv : Nat → Nat → Option Nat) (iv2 : Nat → Nat → Int) (s : Nat) (r : Option Nat) (q u f : Int) : Prop := ∀ tb, r = some tb → ∀ v a W t, CTX sk ln iv rv s tb q u v a W t → ∀ l0, PDH iv rv s l0 → (f = 0 → ∃ ps, PTS a W t q u ps ∧ (PDH iv2 rv s (l0 ++ cls ps) ∧ STE iv2 rv s ((l0.length : Nat) : Int) ps q u)) ∧ (f ≠ 0 → ¬ ∃ ps, PTS a W t q u ps ∧ (l0 ++ cls ps).length ≤ 200)
def SPI (sk ln : Nat → Nat) (iv : Nat → Nat → Int) (rv : Nat → Nat → Option Nat) (iv1 : Nat → Nat → Int) (s tb : Nat) (q u x : Int) : Prop := ∀ v a W t, CTX sk ln iv rv s tb q u v a W t → ∀ l0, PDH iv rv s l0 → ∃ pre, ptp a W t q u q pre x ∧ (PDH iv1 rv s (l0 ++ cls pre) ∧ STI iv1 rv s ((l0.length : Nat) : Int) pre q x)
def SPM (sk ln : Nat → Nat) (iv : Nat → Nat → Int) (rv : Nat → Nat → Option Nat) (iv1 : Nat → Nat → Int) (s tb : Nat) (q u x n : Int) : Prop := ∀ v a W t, CTX sk ln iv rv s tb q u v a W t → ∀ l0, PDH iv rv s l0 → ∃ pre, ptp a W t q u q pre x ∧ (PDH iv1 rv s (l0 ++ cls pre) ∧ ST2 iv1 rv s ((l0.length : Nat) : Int) pre q x n)
def SP2 (sk ln : Nat → Nat) (iv : Nat → Nat → Int) (rv : Nat → Nat → Option Nat) (iv1 : Nat → Nat → Int) (s tb : Nat) (q u x : Int) (w : Nat) : Prop := ∀ v a W t, CTX sk ln iv rv s tb q u v a W t → ∀ l0, PDH iv rv s l0 → ∃ pre cs lb, ptp a W t q u q pre x ∧ (rv w 1 = some lb ∧ 1 ≤ ln lb ∧ PC1 a W t q u x ((ln lb : Nat) : Int) cs) ∧ (PDH iv1 rv s ((l0 ++ cls pre) ++ cs) ∧ ST2 iv1 rv s ((l0.length : Nat) : Int) pre q x ((ln lb : Nat) : Int))
def STX (ln : Nat → Nat) (iv : Nat → Nat → Int) (rv : Nat → Nat → Option Nat) (iv2 : Nat → Nat → Int) (s : Nat) (r : Option Nat) (f : Int) : Prop := (r = none ∧ f = 7) ∨ (f = 0 ∧ (∃ w, r = some w) ∧ PUX ln iv rv iv2 s r)
section SROW
variable {g : Nat} {sk : Nat → Nat} {L : List Nat} {cl ln : Nat → Nat} {iv iv1 iv2 iv3 : Nat → Nat → Int} {rv : Nat → Nat → Option Nat} {v : Nat → Int} {a : Nat → Nat → Int} {W : Nat → Int} {s w tb c cb n lb : Nat} {t : Nat} {i k x y z q u m p b b2 f : Int} {r ah fo : Option Nat} {ls : List Nat} {l l0 cs ds : List Int}
theorem rgs {h : Nat → Int} (hk : 0 ≤ k) : (List.range (k + 1).toNat).map h = (List.range k.toNat).map h ++ [h k.toNat] := by
  rw [show (k + 1).toNat = k.toNat + 1 by omega, List.range_succ, List.map_append]; rfl
theorem PDH.app1 (h : PDH iv1 rv s l) (hl : iv2 s 7 = iv1 s 7 + 1) (ho : ∀ cb, rv s 6 = some cb → (∀ j : Nat, (j : Int) < iv1 s 7 → iv2 cb j = iv1 cb j) ∧ (iv1 s 7 < 200 → iv2 cb (iv1 s 7).toNat = z)) : PDH iv2 rv s (l ++ [z]) := by
  obtain ⟨h1, h2⟩ := h
  have e0 : (l ++ [z]).length = l.length + 1 := by rw [List.length_append]; rfl
  refine ⟨by omega, fun cb hb j d hj e => ?_⟩
  obtain ⟨o1, o2⟩ := ho cb hb
  by_cases c : j < l.length
  · rw [List.getElem?_append_left c] at e
    rw [o1 j (by omega)]; exact h2 cb hb j d hj e
  · rw [List.getElem?_append_right (by omega)] at e
    have e2 : j - l.length < 1 := gl_lt e
    rw [show j - l.length = 0 by omega] at e
    cases e
    rw [show j = (iv1 s 7).toNat by omega]; exact o2 (by omega)
theorem PDH.put1 {k : Nat} (h : PDH iv1 rv s l) (e : iv2 = up2 iv1 s k z) (hk : k ≠ 7) (hne : ∀ cb, rv s 6 = some cb → cb ≠ s) : PDH iv2 rv s l := by
  obtain ⟨h1, h2⟩ := h
  refine ⟨by rw [e, up2_j (fun q => hk q.symm)]; exact h1, fun cb hb j d hj e2 => ?_⟩
  rw [e, up2_k (hne cb hb)]; exact h2 cb hb j d hj e2
theorem s6ne (hW : WT g sk L cl ln iv rv) (ts : ty L cl s 15) : ∀ cb, rv s 6 = some cb → cb ≠ s := fun cb hb => by
  obtain ⟨b', q1, t6⟩ := hW.ref ts 6 rfl rfl rfl
  rw [hb] at q1; cases q1
  exact ne_ty t6 ts (by decide)
theorem PDH.ni (hW : WT g sk L cl ln iv1 rv) (hF : fT ls L cl iv1 rv iv2 rv) (ts : ty L cl s 15) (h15 : ls.contains 15 = false) (h54 : ls.contains 54 = false) (h : PDH iv1 rv s l) : PDH iv2 rv s l := by
  obtain ⟨h1, h2⟩ := h
  refine ⟨(hF.i ts h15 7).trans h1, fun cb hb j d hj e2 => ?_⟩
  obtain ⟨b', q1, t6⟩ := hW.ref ts 6 rfl rfl rfl
  rw [hb] at q1; cases q1
  have t54 : ty L cl cb 54 := t6
  rw [hF.i t54 h54 j]; exact h2 cb hb j d hj e2
theorem PUX.no : PUX ln iv rv iv s none := fun l h cs hc => by
  rcases hc with ⟨_, e⟩ | ⟨w, c, e, _⟩
  · rw [e, List.append_nil]; exact h
  · cases e
theorem PUK.zero : PUK ln iv rv iv s r 0 := fun w c _ _ => ⟨by omega, fun l h => by
  show PDH iv rv s (l ++ [])
  rw [List.append_nil]; exact h⟩
theorem PUK.put (h : PUK ln iv rv iv1 s (some w) k) (hk : 0 ≤ k) (h2 : rv w 2 = some c) (hlt : k < ((ln c : Nat) : Int)) (h6 : rv s 6 = some cb) (e1 : iv2 = up2 iv1 cb p.toNat z) (hp : p = iv1 s 7) (hz : z = iv c k.toNat) (e2 : iv3 = up2 iv2 s 7 y) (hy : y = iv1 s 7 + 1) (h7 : 0 ≤ iv1 s 7) (hne : ∀ cb, rv s 6 = some cb → cb ≠ s) : PUK ln iv rv iv3 s (some w) (k + 1) := fun w' c' q1 q2 => by
  cases q1
  rw [h2] at q2; cases q2
  refine ⟨by omega, fun l hl => ?_⟩
  have g := (h w c rfl h2).2 l hl
  rw [rgs hk, ← List.append_assoc]
  refine g.app1 (by rw [e2, up2_s]; exact hy) (fun cb' hb => ?_)
  rw [h6] at hb; cases hb
  have n1 := hne cb h6
  subst hp
  refine ⟨fun j hj => ?_, fun _ => ?_⟩
  · rw [e2, up2_k n1, e1, up2_j (by omega)]
  · rw [e2, up2_k n1, e1, up2_s]; exact hz
theorem PUK.inc (h : PUK ln iv rv iv1 s (some w) k) (hk : 0 ≤ k) (h2 : rv w 2 = some c) (hlt : k < ((ln c : Nat) : Int)) (e2 : iv3 = up2 iv1 s 7 y) (hy : y = iv1 s 7 + 1) (h200 : 200 ≤ iv1 s 7) (hne : ∀ cb, rv s 6 = some cb → cb ≠ s) : PUK ln iv rv iv3 s (some w) (k + 1) := fun w' c' q1 q2 => by
  cases q1
  rw [h2] at q2; cases q2
  refine ⟨by omega, fun l hl => ?_⟩
  have g := (h w c rfl h2).2 l hl
  rw [rgs hk, ← List.append_assoc]
  exact g.app1 (by rw [e2, up2_s]; exact hy) (fun cb hb => ⟨fun j hj => by rw [e2, up2_k (hne cb hb)], fun e => absurd e (by omega)⟩)
theorem PUX.fin (h : PUK ln iv rv iv1 s (some w) k) (h2 : rv w 2 = some c) (hk : ((ln c : Nat) : Int) ≤ k) : PUX ln iv rv iv1 s (some w) := fun l hl cs hc => by
  rcases hc with ⟨e, _⟩ | ⟨w', c', e, e2, e3⟩
  · cases e
  · cases e
    rw [h2] at e2; cases e2
    obtain ⟨g1, g2⟩ := h w c rfl h2
    have g := g2 l hl
    rw [show k.toNat = ln c by omega] at g
    rw [e3]; exact g
theorem RCX.ni (hW : WT g sk L cl ln iv rv) (hF : fT ls L cl iv rv iv1 rv) (h1 : kpl ls = true) (tr : ∀ b, r = some b → ty L cl b 20) (h : RCX ln iv rv r cs) : RCX ln iv1 rv r cs := by
  rcases h with h | ⟨w, c, e1, e2, e3⟩
  · exact Or.inl h
  · obtain ⟨c', q1, tc⟩ := hW.ref (tr w e1) 2 rfl rfl rfl
    rw [e2] at q1; cases q1
    have t66 : ty L cl c 66 := tc
    refine Or.inr ⟨w, c, e1, e2, ?_⟩
    rw [e3, show iv1 c = iv c from funext fun j => hF.i t66 (kpl_no h1).2.2.2.2.1 j]
theorem CTX.ni (hW : WT g sk L cl ln iv rv) (hS : SKL sk L cl) (hF : fT ls L cl iv rv iv1 rv) (h1 : kpl ls = true) (a1 : ls.contains 22 = false) (a2 : ls.contains 1000 = false) (a3 : ls.contains 23 = false) (a4 : ls.contains 1001 = false) (a5 : ls.contains 50 = false) (ts : ty L cl s 15) (h : CTX sk ln iv rv s tb q u v a W t) : CTX sk ln iv1 rv s tb q u v a W t := ⟨h.1.ni hW hS hF h1 a1 a2 a3 a4, h.2.1, h.2.2.1, h.2.2.2.1, h.2.2.2.2.ni hW hF a5 ts⟩
theorem NAX.mv (h : NAX sk ln iv1 rv s tb x fo) (hW : WT g sk L cl ln iv rv) (hS : SKL sk L cl) (hW1 : WT g sk L cl ln iv1 rv) (hF : fT [15, 53, 54, 55] L cl iv rv iv1 rv) (ts : ty L cl s 15) (tf : ∀ b, fo = some b → ty L cl b 20) (h10 : iv1 s 10 = q) (h11 : iv1 s 11 = u) (hx : q ≤ x ∧ x < u) : NA0 sk ln iv rv s tb q u x fo := fun v a W t hC => by
  subst h10
  subst h11
  exact (h v a W t (hC.ni hW hS hF rfl rfl rfl rfl rfl rfl ts) hx.1 hx.2).ni hW1 hF.sym rfl tf
theorem FDX.mv (h : FDX sk ln iv1 rv s tb x b fo) (hW : WT g sk L cl ln iv rv) (hS : SKL sk L cl) (hW1 : WT g sk L cl ln iv1 rv) (hF : fT [15, 53, 54, 55] L cl iv rv iv1 rv) (ts : ty L cl s 15) (tf : ∀ b, fo = some b → ty L cl b 20) (h10 : iv1 s 10 = q) (h11 : iv1 s 11 = u) (hx : q ≤ x ∧ x < u) : FD0 sk ln iv rv s tb q u x b fo := fun v a W t hC => by
  subst h10
  subst h11
  obtain ⟨p1, p2, p3, p4, p5⟩ := hC.ni hW hS hF rfl rfl rfl rfl rfl rfl ts
  obtain ⟨y, y1, y2⟩ := h v a W t p1 p2 p3 p4 (fun lb hb j h1 h2 => p5 lb hb j (by omega) h2)
  exact ⟨y, y1, y2.ni hW1 hF.sym rfl tf⟩
theorem BST.no (h : BST ln iv rv a none z) : z = -1 := by
  rcases h with ⟨_, e⟩ | ⟨w, e, _⟩
  · exact e
  · cases e
theorem BST.rc (h : BST ln iv rv a (some w) y) : RCX ln iv rv (some w) (RCL a y) ∧ (∃ lb, rv w 1 = some lb ∧ ((ln lb : Nat) : Int) = a 12 y.toNat) ∧ 0 ≤ y := by
  rcases h with ⟨e, _⟩ | ⟨w', e, e2, e3⟩
  · cases e
  · cases e
    obtain ⟨_, _, lb, c, q1, q2, q3, q4, _, q6⟩ := e3
    refine ⟨Or.inr ⟨w, c, rfl, q2, ?_⟩, ⟨lb, q1, q3⟩, e2⟩
    unfold RCL
    rw [show (a 13 y.toNat).toNat = ln c by omega]
    exact List.map_congr_left (fun k hk => (q6 k (List.mem_range.mp hk)).1.symm)
theorem CTX.wd (h : CTX sk ln iv rv s tb q u v a W t) (h0 : rv s 0 = some lb) (hx : q ≤ x ∧ x < u) : iv lb x.toNat = W x.toNat := h.2.2.2.2 lb h0 x hx.1 hx.2
theorem vus (h : b = W x.toNat) : va_up W x.toNat b = W := by
  funext j
  unfold va_up
  split
  · rename_i e; rw [e]; exact h
  · rfl
theorem CTX.t10 (hR : TRL sk ln iv rv v a) (h0 : 0 ≤ z) (h4 : z < v 4) : a 10 z.toNat ≤ 200 := by
  obtain ⟨tt, htt⟩ := hR.smt (i := z.toNat) (by omega)
  exact (hR.tab (i := z.toNat) (by omega) htt).1.2.2.2.2
theorem fnd_rg (hR : TRL sk ln iv rv v a) : ∀ (m : Nat) (W : Nat → Int) (z r : Int), z < v 4 → 0 ≤ z → fnd a q u i m W z r → FNP a u i r := by
  intro m
  induction m with
  | zero => intro W z r _ _ h; exact False.elim h
  | succ m ih =>
    intro W z r h4 h0 h
    have ht := hR.2.2.1.1 z h0 h4
    have t8 : 1 ≤ a 6 z.toNat → a 6 z.toNat ≤ 3 → 0 ≤ a 8 z.toNat ∧ a 8 z.toNat < v 4 := by omega
    have t6 : a 6 z.toNat ≠ 1 → a 6 z.toNat ≠ 2 → a 6 z.toNat ≠ 3 → a 6 z.toNat < 1 ∨ 3 < a 6 z.toNat := by omega
    clear ht
    have ow : ∀ (W : Nat → Int) (y : Int), OWR a W q u i z y → FNP a u i y := fun W y ho => own_rg hR.2.2.1 hR.v30 h0 h4 (CTX.t10 hR h0 h4) ho
    rw [fnd_s] at h
    obtain ⟨p1, p2, p3, p4⟩ := h
    by_cases k1 : a 6 z.toNat = 1
    · obtain ⟨y, z2, e1, e2, e3⟩ := p1 k1
      rw [e3]
      exact cmb_rg (P := fun r => FNP a u i r) (ow _ _ e1) (ih _ _ _ (t8 (by omega) (by omega)).2 (t8 (by omega) (by omega)).1 e2)
    · by_cases k2 : a 6 z.toNat = 2
      · by_cases c : isD (W i.toNat)
        · exact ow _ _ ((p2 k2).1 c)
        · exact ih _ _ _ (t8 (by omega) (by omega)).2 (t8 (by omega) (by omega)).1 ((p2 k2).2 c)
      · by_cases k3 : a 6 z.toNat = 3
        · obtain ⟨y, z2, e1, e2, e3⟩ := p3 k3
          rw [e3]
          exact cmb_rg (P := fun r => FNP a u i r) (ow _ _ e1) (ih _ _ _ (t8 (by omega) (by omega)).2 (t8 (by omega) (by omega)).1 e2)
        · exact ow _ _ (p4 (t6 k1 k2 k3))
theorem CTX.ind (h : CTX sk ln iv rv s tb q u v a W t) (h6 : rv tb 6 = some n) {j : Nat} (hj : j < 4) : INDR ln iv rv (rv n j) (j : Int) (a 16 (4 * t + j)) (fun k => a 17 (4 * (4 * t + j) + k)) := by
  obtain ⟨_, _, q1, n1, ⟨_, c2, _⟩, _, c5⟩ := h.1.tab h.2.1 h.2.2.2.1
  rw [h6] at c2; cases c2
  exact c5 j hj
theorem CTX.kind (h : CTX sk ln iv rv s tb q u v a W t) : iv tb 0 = a 6 t := (h.1.tab h.2.1 h.2.2.2.1).1.1
theorem INDR.rc {h : Nat → Int} (hi : INDR ln iv rv r z m h) : RCX ln iv rv r ((List.range m.toNat).map h) := by
  rcases hi with ⟨e1, e2⟩ | ⟨b, c, e1, _, e3, e4, _, e6⟩
  · exact Or.inl ⟨e1, by rw [e2]; rfl⟩
  · refine Or.inr ⟨b, c, e1, e3, ?_⟩
    rw [show m.toNat = ln c by omega]
    exact List.map_congr_left (fun k hk => (e6 k (List.mem_range.mp hk)).1.symm)
theorem ICL.nat {j : Nat} : ICL a (4 * (t : Int) + (j : Int)) = (List.range (a 16 (4 * t + j)).toNat).map (fun k => a 17 (4 * (4 * t + j) + k)) := by
  unfold ICL
  rw [show (4 * (t : Int) + (j : Int)).toNat = 4 * t + j by omega]
theorem NAX.no (h0 : rv s 0 = some lb) (hn : ¬ (iv tb 0 = 2 ∧ isD (iv lb i.toNat) ∧ (i ≤ iv s 10 ∨ ¬ isD (iv lb (i - 1).toNat)))) : NAX sk ln iv rv s tb i none := fun v a W t hC h1 h2 => Or.inl ⟨rfl, by
  unfold nbl
  rw [if_neg]
  intro w
  rw [Int.toNat_natCast, ← hC.kind, ← hC.wd h0 ⟨h1, h2⟩] at w
  refine hn ⟨w.1, w.2.1, ?_⟩
  rcases w.2.2 with e | e
  · exact Or.inl (by omega)
  · by_cases c : i ≤ iv s 10
    · exact Or.inl c
    · rw [← hC.wd (x := i - 1) h0 ⟨by omega, by omega⟩] at e
      exact Or.inr e⟩
theorem NAX.yes (h0 : rv s 0 = some lb) (hn : iv tb 0 = 2 ∧ isD (iv lb i.toNat) ∧ (i ≤ iv s 10 ∨ ¬ isD (iv lb (i - 1).toNat))) (h6 : rv tb 6 = some n) (hr : rv n 1 = r) : NAX sk ln iv rv s tb i r := fun v a W t hC h1 h2 => by
  have hi := (hC.ind h6 (j := 1) (by decide)).rc
  rw [hr] at hi
  have e : nbl a W t (iv s 10) i = ICL a (4 * (t : Int) + ((1 : Nat) : Int)) := by
    unfold nbl
    rw [if_pos]
    · rfl
    · rw [Int.toNat_natCast, ← hC.kind, ← hC.wd h0 ⟨h1, h2⟩]
      refine ⟨hn.1, hn.2.1, ?_⟩
      by_cases c : i ≤ iv s 10
      · exact Or.inl (by omega)
      · rcases hn.2.2 with e | e
        · exact absurd e c
        · rw [← hC.wd (x := i - 1) h0 ⟨by omega, by omega⟩]
          exact Or.inr e
  rw [e, ICL.nat]
  exact hi
theorem PCX.plain (na : NA0 sk ln iv rv s tb q u x ah) (fd : FD0 sk ln iv rv s tb q u x b (some w)) (h0 : rv s 0 = some lb) (hb : b = iv lb x.toNat) (hx : q ≤ x ∧ x < u) : PCX sk ln iv rv s tb q u x ah w := fun v a W t hC => by
  obtain ⟨y, f1, f2⟩ := fd v a W t hC
  rw [vus (hb.trans (hC.wd h0 hx))] at f1
  obtain ⟨r1, ⟨lb2, r2, r3⟩, r4⟩ := f2.rc
  have r5 := fnd_rg hC.1 30 W t y hC.2.1 (by omega) f1
  refine ⟨_, _, lb2, na v a W t hC, r1, r2, ?_, y, ⟨r4, r3⟩, Or.inl ⟨f1, rfl⟩⟩
  rcases r5 with e | ⟨_, _, e, _⟩ <;> omega
theorem PCX.cap (fd : FD0 sk ln iv rv s tb q u x b none) (fd2 : FD0 sk ln iv rv s tb q u x b2 (some w)) (h0 : rv s 0 = some lb) (hb : b = iv lb x.toNat) (hb2 : b2 = b + 32) (hg : isG b) (hk : iv tb 0 ≤ 2) (h6 : rv tb 6 = some n) (hr : rv n 0 = some cb) (hx : q ≤ x ∧ x < u) : PCX sk ln iv rv s tb q u x (some cb) w := fun v a W t hC => by
  obtain ⟨y, f1, f2⟩ := fd v a W t hC
  obtain ⟨y2, g1, g2⟩ := fd2 v a W t hC
  have ew := hb.trans (hC.wd h0 hx)
  rw [vus ew] at f1
  have e1 := f2.no
  subst e1
  obtain ⟨r1, ⟨lb2, r2, r3⟩, r4⟩ := g2.rc
  refine hv2 (fnd_rg hC.1 30 _ t y2 hC.2.1 (by omega) g1) (hC.ind h6 (j := 0) (by decide)) (fun r5 hi => ?_)
  rw [hr] at hi
  have hp : 0 < a 16 (4 * t + 0) := by
    rcases hi with ⟨e, _⟩ | ⟨_, _, _, _, _, _, e, _⟩
    · cases e
    · exact e
  have hI := hi.rc
  rw [← ICL.nat] at hI
  have nb : nbl a W t q x = [] := by
    unfold nbl
    rw [if_neg]
    intro e
    rw [← ew] at e
    have e2 := e.2.1
    unfold isD at e2
    unfold isG at hg
    omega
  refine ⟨_, _, lb2, hI, r1, r2, ?_, y2, ⟨r4, r3⟩, Or.inr ⟨f1, ⟨by rw [Int.toNat_natCast, ← hC.kind]; exact hk, by rw [← ew]; exact hg, ?_⟩, ?_, ?_⟩⟩
  · rcases r5 with e | ⟨_, _, e, _⟩ <;> omega
  · rw [show (4 * (t : Int) + 0).toNat = 4 * t + 0 by omega]; exact hp
  · rw [hb2, ew] at g1; exact g1
  · rw [nb, List.nil_append]; rfl
def CPX (iv : Nat → Nat → Int) (rv : Nat → Nat → Option Nat) (tb : Nat) (cp : Option Nat) : Prop := (2 < iv tb 0 ∧ cp = none) ∨ (iv tb 0 ≤ 2 ∧ ∃ n, rv tb 6 = some n ∧ rv n 0 = cp)
theorem CPX.no (h : CPX iv rv tb none) : NCP iv rv tb b := by
  rcases h with ⟨h1, _⟩ | ⟨_, n, h1, h2⟩
  · exact Or.inr (Or.inl h1)
  · exact Or.inr (Or.inr ⟨n, h1, h2⟩)
theorem PCX.cap2 (fd : FD0 sk ln iv rv s tb q u x b none) (fd2 : FD0 sk ln iv rv s tb q u x b2 (some w)) (h0 : rv s 0 = some lb) (hb : b = iv lb x.toNat) (hb2 : b2 = b + 32) (hg : isG b) (h : CPX iv rv tb (some cb)) (hx : q ≤ x ∧ x < u) : PCX sk ln iv rv s tb q u x (some cb) w := by
  rcases h with ⟨_, h1⟩ | ⟨hk, n, h1, h2⟩
  · cases h1
  · exact PCX.cap fd fd2 h0 hb hb2 hg hk h1 h2 hx
theorem NPX.no (fd : FD0 sk ln iv rv s tb q u x b none) (h0 : rv s 0 = some lb) (hb : b = iv lb x.toNat) (hx : q ≤ x ∧ x < u) (hn : NCP iv rv tb b) : NPX sk ln iv rv s tb q u x := fun v a W t hC l ds hp => by
  obtain ⟨y, f1, f2⟩ := fd v a W t hC
  have ew := hb.trans (hC.wd h0 hx)
  rw [vus ew] at f1
  have e1 := f2.no
  subst e1
  obtain ⟨r, ⟨p1, _⟩, p3⟩ := hp
  rcases p3 with ⟨p4, _⟩ | ⟨_, p5, _⟩
  · have e := fnd_uni hC.1.2.2.1 _ _ _ _ _ _ (by omega) hC.2.1 f1 p4
    omega
  · obtain ⟨c1, c2, c3⟩ := p5
    rw [Int.toNat_natCast, ← hC.kind] at c1
    rw [← ew] at c2
    rcases hn with e | e | ⟨n, n1, n2⟩
    · exact e c2
    · omega
    · have hi := hC.ind n1 (j := 0) (by decide)
      rw [n2] at hi
      rcases hi with ⟨_, e⟩ | ⟨_, _, e, _⟩
      · rw [show (4 * (t : Int) + 0).toNat = 4 * t + 0 by omega] at c3
        omega
      · cases e
theorem NPX.cap (fd : FD0 sk ln iv rv s tb q u x b none) (fd2 : FD0 sk ln iv rv s tb q u x b2 none) (h0 : rv s 0 = some lb) (hb : b = iv lb x.toNat) (hb2 : b2 = b + 32) (hx : q ≤ x ∧ x < u) : NPX sk ln iv rv s tb q u x := fun v a W t hC l ds hp => by
  obtain ⟨y, f1, f2⟩ := fd v a W t hC
  obtain ⟨y2, g1, g2⟩ := fd2 v a W t hC
  have ew := hb.trans (hC.wd h0 hx)
  rw [vus ew] at f1
  rw [hb2, ew] at g1
  refine hv2 (f2.no) (g2.no) (fun e1 e2 => ?_)
  subst e1
  subst e2
  obtain ⟨r, ⟨p1, _⟩, p3⟩ := hp
  rcases p3 with ⟨p4, _⟩ | ⟨_, _, p6, _⟩
  · have e := fnd_uni hC.1.2.2.1 _ _ _ _ _ _ (by omega) hC.2.1 f1 p4
    omega
  · have e := fnd_uni hC.1.2.2.1 _ _ _ _ _ _ (by omega) hC.2.1 g1 p6
    omega
theorem SPX.no : SPX sk ln iv rv iv2 s none q u f := fun tb e => by cases e
theorem SPI.init (e1 : iv1 = up2 iv s 10 y) (e2 : iv2 = up2 iv1 s 11 z) (hne : ∀ cb, rv s 6 = some cb → cb ≠ s) : SPI sk ln iv rv iv2 s tb q u q := fun v a W t hC l0 hl => ⟨[], rfl, by
  rw [show cls [] = [] from rfl, List.append_nil]
  exact (hl.put1 e1 (by decide) hne).put1 e2 (by decide) hne, fun _ _ => rfl, fun sb _ j h1 h2 _ => absurd h1 (by omega)⟩
theorem sb53 (hW : WT g sk L cl ln iv rv) (ts : ty L cl s 15) (hb : rv s 3 = some cb) : ty L cl cb 53 := by
  obtain ⟨b', q1, t3⟩ := hW.ref ts 3 rfl rfl rfl
  rw [hb] at q1; cases q1
  exact t3
theorem STI.ni {ps : List (Int × List Int)} (hW : WT g sk L cl ln iv1 rv) (hF : fT ls L cl iv1 rv iv2 rv) (ts : ty L cl s 15) (h53 : ls.contains 53 = false) (h : STI iv1 rv s m ps q x) : STI iv2 rv s m ps q x := ⟨h.1, fun sb hb j j1 j2 j3 => by
  rw [hF.i (sb53 hW ts hb) h53 j]
  exact h.2 sb hb j j1 j2 j3⟩
theorem ST2.ni {ps : List (Int × List Int)} (hW : WT g sk L cl ln iv1 rv) (hF : fT ls L cl iv1 rv iv2 rv) (ts : ty L cl s 15) (h53 : ls.contains 53 = false) (h : ST2 iv1 rv s m ps q x y) : ST2 iv2 rv s m ps q x y := ⟨h.1, fun sb hb j j1 j2 j3 => by
  rw [hF.i (sb53 hW ts hb) h53 j]
  exact h.2 sb hb j j1 j2 j3⟩
theorem MSK.zero : MSK iv rv iv s i i := fun sb hb j hj => by rw [if_neg (by omega)]
theorem MSK.step (h : MSK iv rv iv1 s i k) (h3 : rv s 3 = some cb) (e : iv2 = up2 iv1 cb k.toNat z) (hk : 0 ≤ i ∧ i ≤ k) (hz : (k = i ∧ z = iv s 7) ∨ (k ≠ i ∧ z = -1)) : MSK iv rv iv2 s i (k + 1) := fun sb hb j hj => by
  have g := h sb hb j hj
  rw [h3] at hb; cases hb
  by_cases c : ((j : Nat) : Int) = k
  · rw [e, show j = k.toNat by omega, up2_s, if_pos (by omega)]
    rcases hz with ⟨e1, e2⟩ | ⟨e1, e2⟩
    · rw [if_pos (by omega)]; exact e2
    · rw [if_neg (by omega)]; exact e2
  · rw [e, up2_j (by omega), g]
    by_cases c2 : i ≤ ((j : Nat) : Int) ∧ ((j : Nat) : Int) < k
    · rw [if_pos c2, if_pos (show i ≤ ((j : Nat) : Int) ∧ ((j : Nat) : Int) < k + 1 by omega)]
    · rw [if_neg c2, if_neg (by omega)]
theorem MSK.fin {y2 : Int} (h : MSK iv rv iv1 s i k) (hk : k ≤ i + y2 ∧ (i + y2 ≤ k ∨ 500 ≤ k)) : MSX iv rv iv1 s i y2 := fun sb hb j hj => by
  rw [h sb hb j hj]
  by_cases c2 : i ≤ ((j : Nat) : Int) ∧ ((j : Nat) : Int) < k
  · rw [if_pos c2, if_pos (show i ≤ ((j : Nat) : Int) ∧ ((j : Nat) : Int) < i + y2 by omega)]
  · rw [if_neg c2, if_neg (by omega)]
theorem SPI.ni (h : SPI sk ln iv rv iv1 s tb q u x) (hW : WT g sk L cl ln iv1 rv) (hF : fT ls L cl iv1 rv iv2 rv) (ts : ty L cl s 15) (h15 : ls.contains 15 = false) (h54 : ls.contains 54 = false) (h53 : ls.contains 53 = false) : SPI sk ln iv rv iv2 s tb q u x := fun v a W t hC l0 hl => by
  obtain ⟨pre, p1, p2⟩ := h v a W t hC l0 hl
  exact ⟨pre, p1, p2.1.ni hW hF ts h15 h54, p2.2.ni hW hF ts h53⟩
theorem SPI.mark (h : SPI sk ln iv rv iv1 s tb q u x) (hW : WT g sk L cl ln iv1 rv) (hF : fT ls L cl iv1 rv iv2 rv) (ts : ty L cl s 15) (h15 : ls.contains 15 = false) (h54 : ls.contains 54 = false) (hx : 0 ≤ x ∧ x < 500) (ms : MSX iv1 rv iv2 s x y) : SPM sk ln iv rv iv2 s tb q u x y := fun v a W t hC l0 hl => by
  obtain ⟨pre, p1, p2, p3, p4⟩ := h v a W t hC l0 hl
  refine ⟨pre, p1, p2.ni hW hF ts h15 h54, p3, fun sb hb j j1 j2 j3 => ?_⟩
  have e := p2.1
  rw [List.length_append] at e
  rw [ms sb hb j j3]
  by_cases c : x ≤ ((j : Nat) : Int)
  · rw [if_pos ⟨c, j2⟩]
    by_cases c2 : ((j : Nat) : Int) = x
    · rw [if_pos c2, if_pos (by omega), e]
      push_cast
      rfl
    · rw [if_neg c2, if_neg (by omega), p3 j c]
  · rw [if_neg (by omega), if_neg (by omega)]
    exact p4 sb hb j j1 (by omega) j3
theorem SPI.unk (h : SPI sk ln iv rv iv1 s tb q u x) (hn : NPX sk ln iv rv s tb q u x) (hx : x < u) (hf : f ≠ 0) : SPX sk ln iv rv iv2 s (some tb) q u f := fun tb' e v a W t hC l0 hl => by
  cases e
  refine ⟨fun e => absurd e hf, fun _ w => ?_⟩
  obtain ⟨pre, p1, _⟩ := h v a W t hC l0 hl
  obtain ⟨ps, ⟨y, w1, w2⟩, _⟩ := w
  obtain ⟨qs, k1, k2⟩ := ptp.ext hC.1.2.2.1 (by omega) hC.2.1 pre ps q y p1 w1 w2
  cases qs with
  | nil => cases k2; omega
  | cons p qs =>
    obtain ⟨_, _, l3, k5, _⟩ := k2
    exact hn v a W t hC _ _ k5
theorem SPM.two {ls2 : List Nat} {n1 : Int} (h : SPM sk ln iv rv iv1 s tb q u x n1) (hlb : rv w 1 = some lb) (hn : n1 = ((ln lb : Nat) : Int)) (hW1 : WT g sk L cl ln iv1 rv) (hW2 : WT g sk L cl ln iv2 rv) (ts : ty L cl s 15) (hP1 : fT ls L cl iv1 rv iv2 rv) (hP2 : fT ls2 L cl iv2 rv iv3 rv) (l53 : ls.contains 53 = false) (m53 : ls2.contains 53 = false) (hW : WT g sk L cl ln iv rv) (hF1 : fT [15, 53, 54, 55] L cl iv rv iv1 rv) (hF2 : fT [15, 53, 54, 55] L cl iv rv iv2 rv) (ta : ∀ b, ah = some b → ty L cl b 20) (tw : ty L cl w 20) (pc : PCX sk ln iv rv s tb q u x ah w) (p1 : PUX ln iv1 rv iv2 s ah) (p2 : PUX ln iv2 rv iv3 s (some w)) : SP2 sk ln iv rv iv3 s tb q u x w := fun v a W t hC l0 hl => by
  obtain ⟨pre, g1, g2⟩ := h v a W t hC l0 hl
  obtain ⟨as, ds, lb2, c1, c2, c3, c4, c5⟩ := pc v a W t hC
  have d1 := p1 _ g2.1 as (c1.ni hW hF1 rfl ta)
  have d2 := p2 _ d1 ds (c2.ni hW hF2 rfl (fun b e => by cases e; exact tw))
  rw [List.append_assoc] at d2
  refine ⟨pre, as ++ ds, lb2, g1, ⟨c3, c4, c5⟩, d2, ?_⟩
  rw [hlb] at c3; cases c3
  rw [← hn]
  exact (g2.2.ni hW1 hP1 ts l53).ni hW2 hP2 ts m53
theorem SP2.many (h : SP2 sk ln iv rv iv1 s tb q u x w) (hx : x < u) (hm : 200 < iv1 s 7) (hf : f ≠ 0) : SPX sk ln iv rv iv1 s (some tb) q u f := fun tb' e v a W t hC l0 hl => by
  cases e
  refine ⟨fun e => absurd e hf, fun _ w => ?_⟩
  obtain ⟨pre, cs, lb, p1, ⟨_, _, p2⟩, p3⟩ := h v a W t hC l0 hl
  obtain ⟨ps, ⟨y, w1, w2⟩, w3⟩ := w
  obtain ⟨qs, k1, k2⟩ := ptp.ext hC.1.2.2.1 (by omega) hC.2.1 pre ps q y p1 w1 w2
  cases qs with
  | nil => cases k2; omega
  | cons p qs =>
    obtain ⟨_, _, l3, k5, _⟩ := k2
    refine hv2 ((PC1.uni hC.1.2.2.1 (by omega) hC.2.1 p2 k5).2) (p3.1.1) (fun e w4 => ?_)
    rw [k1, cls_app, cls_cons, ← e] at w3
    simp only [List.length_append] at w3 w4
    omega
theorem SP2.next (h : SP2 sk ln iv rv iv1 s tb q u x w) (hx : x < u) (hx0 : 0 ≤ x) (h1 : rv w 1 = some lb) (hm : ((ln lb : Nat) : Int) < 1 ∨ y = x + ((ln lb : Nat) : Int)) : SPI sk ln iv rv iv1 s tb q u y := fun v a W t hC l0 hl => by
  obtain ⟨pre, cs, lb2, p1, ⟨c1, c2, p2⟩, p3⟩ := h v a W t hC l0 hl
  rw [h1] at c1; cases c1
  rw [show y = x + ((ln lb : Nat) : Int) by omega]
  obtain ⟨p3, p4, p5⟩ := p3
  refine ⟨pre ++ [(x, cs)], ptp.snoc pre q p1 hx p2, ?_, fun j hj => ?_, fun sb hb j j1 j2 j3 => ?_⟩
  · rw [cls_app, cls_one, ← List.append_assoc]
    exact p3
  · rw [bgn_snoc, if_neg (by omega)]
    exact p4 j (by omega)
  · rw [bgn_snoc]
    exact p5 sb hb j j1 j2 j3
theorem SPI.done (h : SPI sk ln iv rv iv1 s tb q u x) (hx : u ≤ x) : SPX sk ln iv rv iv1 s (some tb) q u 0 := fun tb' e v a W t hC l0 hl => by
  cases e
  obtain ⟨pre, p1, p2⟩ := h v a W t hC l0 hl
  exact ⟨fun _ => ⟨pre, ⟨x, p1, hx⟩, p2.1, fun sb hb j j1 j2 j3 => p2.2.2 sb hb j j1 (by omega) j3⟩, fun e => absurd rfl e⟩
end SROW
def CTB (sk ln : Nat → Nat) (iv : Nat → Nat → Int) (rv : Nat → Nat → Option Nat) (s tb : Nat) (v : Nat → Int) (a : Nat → Nat → Int) (W : Nat → Int) (t : Nat) : Prop := TRL sk ln iv rv v a ∧ (t : Int) < v 4 ∧ el rv (sk 22) t = some tb ∧ LTW iv rv s W 0 (iv s 4)
def SW0 (a : Nat → Nat → Int) (W : Nat → Int) (n t : Int) (cs : List Int) : Prop := (a 6 t.toNat ≠ 5 ∧ ∃ ps, PTS a W t 0 n ps ∧ cs = cls ps) ∨ (a 6 t.toNat = 5 ∧ ∃ js ps g x, jtp a W n t 0 0 js g x ∧ SEG a W n t g x n ps ∧ cs = jcl a t 0 js ++ cls ps)
def STF (iv : Nat → Nat → Int) (rv : Nat → Nat → Option Nat) (s : Nat) (a : Nat → Nat → Int) (W : Nat → Int) (n t : Int) (cs : List Int) : Prop := a 6 t.toNat ≠ 5 → ∃ ps, PTS a W t 0 n ps ∧ cs = cls ps ∧ STE iv rv s 0 ps 0 n
def SBF (sk ln : Nat → Nat) (iv : Nat → Nat → Int) (rv : Nat → Nat → Option Nat) (s tb : Nat) : Prop := ∀ v a W t, CTB sk ln iv rv s tb v a W t → ¬ ∃ cs, SW0 a W (iv s 4) t cs ∧ cs.length ≤ 200
def SBX (sk ln : Nat → Nat) (iv : Nat → Nat → Int) (rv : Nat → Nat → Option Nat) (iv2 : Nat → Nat → Int) (s tb : Nat) (f : Int) : Prop := ∀ v a W t, CTB sk ln iv rv s tb v a W t → (f = 0 → ∃ cs, SW0 a W (iv s 4) t cs ∧ cs.length ≤ 200 ∧ (PDH iv2 rv s cs ∧ STF iv2 rv s a W (iv s 4) t cs)) ∧ (f ≠ 0 → ¬ ∃ cs, SW0 a W (iv s 4) t cs ∧ cs.length ≤ 200)
def SBI (sk ln : Nat → Nat) (iv : Nat → Nat → Int) (rv : Nat → Nat → Option Nat) (iv1 : Nat → Nat → Int) (s tb : Nat) (g x y : Int) : Prop := ∀ v a W t, CTB sk ln iv rv s tb v a W t → (y ≤ iv s 4 → (a 6 t ≠ 5 → (x = 0 ∧ g = 0) ∧ PDH iv1 rv s []) ∧ (a 6 t = 5 → (0 ≤ x ∧ x ≤ y) ∧ NSG W (sgj g) x y ∧ ∃ js, jtp a W (iv s 4) t 0 0 js g x ∧ PDH iv1 rv s (jcl a t 0 js))) ∧ (iv s 4 < y → ∃ cs, SW0 a W (iv s 4) t cs ∧ (PDH iv1 rv s cs ∧ STF iv1 rv s a W (iv s 4) t cs))
def SBN (sk ln : Nat → Nat) (iv : Nat → Nat → Int) (rv : Nat → Nat → Option Nat) (iv1 : Nat → Nat → Int) (s tb : Nat) (g y f : Int) : Prop := (f = 0 → SBI sk ln iv rv iv1 s tb (1 - g) (y + 1) (y + 1)) ∧ (f ≠ 0 → SBF sk ln iv rv s tb)
def NTN (iv : Nat → Nat → Int) (rv : Nat → Nat → Option Nat) (s tb : Nat) (g y : Int) : Prop := iv tb 0 ≠ 5 ∨ ∃ lb, rv s 0 = some lb ∧ iv lb y.toNat ≠ sgj g
def TRN (iv : Nat → Nat → Int) (rv : Nat → Nat → Option Nat) (s tb : Nat) (g k tn : Int) (fs : Option Nat) : Prop := (tn = 1 → iv tb 0 = 5 ∧ k < iv s 4 ∧ ∃ lb, rv s 0 = some lb ∧ iv lb k.toNat = sgj g) ∧ (tn ≠ 1 → k = iv s 4) ∧ (iv tb 0 = 5 → fs = rv tb 2) ∧ (iv tb 0 ≠ 5 → fs = some tb)
section SBYS
variable {h : Nat} {sk : Nat → Nat} {L : List Nat} {cl ln : Nat → Nat} {iv iv1 iv2 iv3 : Nat → Nat → Int} {rv : Nat → Nat → Option Nat} {v : Nat → Int} {a : Nat → Nat → Int} {W : Nat → Int} {s tb n lb : Nat} {t : Nat} {g x y z m f f2 e0 g2 : Int} {r r2 : Option Nat} {cs ds : List Int} {js : List (Int × List (Int × List Int))}
theorem SWC.iff0 {t : Int} : SWC a W m t cs ↔ SW0 a W m t cs ∧ cs.length ≤ 200 := by
  constructor
  · intro hs
    rcases hs with ⟨h1, ps, ⟨⟨y, h2, h3⟩, h4⟩, h5⟩ | ⟨h1, h2, js, ps, g, x, h3, h4, h5⟩
    · exact ⟨Or.inl ⟨h1, ps, ⟨y, h2, h3⟩, h5⟩, by rw [h5]; omega⟩
    · exact ⟨Or.inr ⟨h1, js, ps, g, x, h3, h4, h5⟩, h2⟩
  · intro ⟨hs, hl⟩
    rcases hs with ⟨h1, ps, ⟨y, h2, h3⟩, h5⟩ | ⟨h1, js, ps, g, x, h3, h4, h5⟩
    · exact Or.inl ⟨h1, ps, ⟨⟨y, h2, h3⟩, by rw [h5] at hl; omega⟩, h5⟩
    · exact Or.inr ⟨h1, hl, js, ps, g, x, h3, h4, h5⟩
theorem SW0.uni {t : Int} (hT : TBL v a) (ht : 0 ≤ t ∧ t < v 4) (hs : SW0 a W m t cs) (h2 : SW0 a W m t ds) : cs = ds := by
  rcases hs with ⟨p1, ps, ⟨y, p2, p3⟩, p5⟩ | ⟨p1, js, ps, g, x, p3, p4, p5⟩
  · rcases h2 with ⟨_, qs, ⟨z, q2, q3⟩, q5⟩ | ⟨q1, _⟩
    · rw [p5, q5, ptp.uni hT ht.1 ht.2 p2 p3 q2 q3]
    · exact absurd q1 p1
  · rcases h2 with ⟨q1, _⟩ | ⟨_, ks, qs, g2, x2, q3, q4, q5⟩
    · exact absurd p1 q1
    · obtain ⟨ls, k1, k2⟩ := jtp.ext hT ht p1 js ks 0 0 g2 x2 qs p3 q3 q4
      have pk := prt.ok (g := g) hT ht p1
      cases ls with
      | nil =>
        obtain ⟨rfl, rfl⟩ := k2
        have e := SEG.uni hT pk.1.1 pk.1.2 p4 q4
        rw [List.append_nil] at k1
        rw [p5, q5, k1, e.2]
      | cons p ls =>
        obtain ⟨m1, m2, _, _⟩ := k2
        have e := SEG.uni hT pk.1.1 pk.1.2 p4 m1
        omega
theorem CTB.kind (hC : CTB sk ln iv rv s tb v a W t) : iv tb 0 = a 6 t := (hC.1.tab hC.2.1 hC.2.2.1).1.1
theorem CTB.ind (hC : CTB sk ln iv rv s tb v a W t) (h6 : rv tb 6 = some n) {j : Nat} (hj : j < 4) : INDR ln iv rv (rv n j) (j : Int) (a 16 (4 * t + j)) (fun k => a 17 (4 * (4 * t + j) + k)) := by
  obtain ⟨_, _, q1, n1, ⟨_, c2, _⟩, _, c5⟩ := hC.1.tab hC.2.1 hC.2.2.1
  rw [h6] at c2; cases c2
  exact c5 j hj
theorem CTB.tbt (hC : CTB sk ln iv rv s tb v a W t) : TBL v a ∧ (0 ≤ (t : Int) ∧ (t : Int) < v 4) := ⟨hC.1.2.2.1, by omega, hC.2.1⟩
theorem CTB.j5 (hC : CTB sk ln iv rv s tb v a W t) (hj : iv tb 0 = 5) : a 6 t = 5 ∧ a 6 (t : Int).toNat = 5 := by
  have e := hC.kind.symm.trans hj
  exact ⟨e, by rw [Int.toNat_natCast]; exact e⟩
theorem SBI.init (e : iv1 = up2 iv s 7 0) (h4 : 0 ≤ iv s 4) : SBI sk ln iv rv iv1 s tb 0 0 0 := fun v a W t hC => by
  have pd : PDH iv1 rv s [] := ⟨by rw [e, up2_s]; rfl, fun cb hb j d hj e => by simp at e⟩
  exact ⟨fun _ => ⟨fun _ => ⟨⟨rfl, rfl⟩, pd⟩, fun h5 => ⟨⟨Int.le_refl _, Int.le_refl _⟩, NSG.zero, [], ⟨rfl, rfl⟩, pd⟩⟩, fun e => absurd e (by omega)⟩
theorem SBI.re (hs : SBI sk ln iv rv iv1 s tb g x y) (hg : g = g2) : SBI sk ln iv rv iv1 s tb g2 x y := by
  subst hg
  exact hs
theorem SBI.skip (hs : SBI sk ln iv rv iv1 s tb g x y) (hy : y < iv s 4) (hy0 : 0 ≤ y) (hn : NTN iv rv s tb g y) : SBI sk ln iv rv iv1 s tb g x (y + 1) := fun v a W t hC => by
  obtain ⟨h1, h2⟩ := hs v a W t hC
  obtain ⟨h3, h4⟩ := h1 (by omega)
  refine ⟨fun _ => ⟨h3, fun h5 => ?_⟩, fun e => absurd e (by omega)⟩
  obtain ⟨p1, p2, p3⟩ := h4 h5
  refine ⟨⟨p1.1, by omega⟩, p2.step ?_, p3⟩
  rcases hn with e | ⟨lb, e1, e2⟩
  · exact absurd (hC.kind.trans h5) e
  · rw [← hC.2.2.2 lb e1 y hy0 hy]; exact e2
theorem SBI.fin (hs : SBI sk ln iv rv iv1 s tb g x y) (hk : iv s 4 < y) (hf : (200 < iv1 s 7 ∧ f ≠ 0) ∨ (iv1 s 7 ≤ 200 ∧ f = 0)) : SBX sk ln iv rv iv1 s tb f := fun v a W t hC => by
  obtain ⟨cs, c1, c2⟩ := (hs v a W t hC).2 hk
  have c3 := c2.1.1
  refine ⟨fun e => ⟨cs, c1, by omega, c2⟩, fun e w => ?_⟩
  obtain ⟨ds, d1, d2⟩ := w
  have q := SW0.uni hC.tbt.1 hC.tbt.2 c1 d1
  subst q
  omega
theorem SBX.fail (hs : SBF sk ln iv rv s tb) (hf : f ≠ 0) : SBX sk ln iv rv iv1 s tb f := fun v a W t hC => ⟨fun e => absurd e hf, fun _ => hs v a W t hC⟩
theorem SBN.bad (hs : SBI sk ln iv rv iv1 s tb g x y) (hn : iv tb 0 ≠ 5) (hg : g ≠ 0) (hk : y ≤ iv s 4) : SBN sk ln iv rv iv2 s tb g y f := by
  have no : ∀ v a W t, CTB sk ln iv rv s tb v a W t → False := fun v a W t hC => hg ((((hs v a W t hC).1 hk).1 (fun e => hn (hC.kind.trans e))).1.2)
  exact ⟨fun _ v a W t hC => (no v a W t hC).elim, fun _ v a W t hC => (no v a W t hC).elim⟩
theorem SBI.pl (hs : SBI sk ln iv rv iv1 s tb g x (iv s 4)) (hW : WT h sk L cl ln iv rv) (hS : SKL sk L cl) (hF : fT [15, 53, 54, 55] L cl iv rv iv1 rv) (ts : ty L cl s 15) (hn : iv tb 0 ≠ 5) (sp : SPX sk ln iv1 rv iv2 s (some tb) x (iv s 4) f) (hC : CTB sk ln iv rv s tb v a W t) : a 6 t ≠ 5 ∧ (f = 0 → ∃ ps, PTS a W t 0 (iv s 4) ps ∧ (PDH iv2 rv s (cls ps) ∧ STE iv2 rv s 0 ps 0 (iv s 4))) ∧ (f ≠ 0 → ¬ ∃ ps, PTS a W t 0 (iv s 4) ps ∧ (cls ps).length ≤ 200) := by
  have h5 : a 6 t ≠ 5 := fun e => hn (hC.kind.trans e)
  obtain ⟨⟨e1, _⟩, pd⟩ := ((hs v a W t hC).1 (Int.le_refl _)).1 h5
  subst e1
  have cx : CTX sk ln iv rv s tb 0 (iv s 4) v a W t := ⟨hC.1, hC.2.1, h5, hC.2.2.1, hC.2.2.2⟩
  have q := sp tb rfl v a W t (cx.ni hW hS hF rfl rfl rfl rfl rfl rfl ts) [] pd
  exact ⟨h5, q⟩
theorem SBN.plain (hs : SBI sk ln iv rv iv1 s tb g x y) (hW : WT h sk L cl ln iv rv) (hS : SKL sk L cl) (hF : fT [15, 53, 54, 55] L cl iv rv iv1 rv) (ts : ty L cl s 15) (hn : iv tb 0 ≠ 5) (hk : y = iv s 4) (hr : r = some tb) (sp : SPX sk ln iv1 rv iv2 s r x y f) : SBN sk ln iv rv iv2 s tb g y f := by
  subst hk
  subst hr
  refine ⟨fun e v a W t hC => ⟨fun e2 => absurd e2 (by omega), fun _ => ?_⟩, fun e v a W t hC w => ?_⟩
  · obtain ⟨h5, p1, _⟩ := hs.pl hW hS hF ts hn sp hC
    obtain ⟨ps, q1, q2⟩ := p1 e
    exact ⟨cls ps, Or.inl ⟨by rw [Int.toNat_natCast]; exact h5, ps, q1, rfl⟩, q2.1, fun _ => ⟨ps, q1, rfl, q2.2⟩⟩
  · obtain ⟨h5, _, p2⟩ := hs.pl hW hS hF ts hn sp hC
    obtain ⟨cs, w1, w2⟩ := w
    rcases w1 with ⟨_, ps, w3, w4⟩ | ⟨w1, _⟩
    · rw [w4] at w2
      exact p2 e ⟨ps, w3, w2⟩
    · rw [Int.toNat_natCast] at w1
      exact h5 w1
theorem prt_el (hC : CTB sk ln iv rv s tb v a W t) (h5 : a 6 t = 5) (hr : (g = 0 ∧ r = rv tb 2) ∨ (g = 1 ∧ r = rv tb 3)) : ∃ b, r = some b ∧ el rv (sk 22) (prt a t g).toNat = some b := by
  have T := hC.1.2.2.1.1 t (by omega) hC.2.1
  rw [Int.toNat_natCast] at T
  have t4 := hC.2.1
  obtain ⟨_, ⟨c2, c3⟩, _⟩ := hC.1.tab hC.2.1 hC.2.2.1
  rcases hr with ⟨g0, hr⟩ | ⟨g1, hr⟩
  · have e : prt a t g = a 8 t := by
      unfold prt
      rw [if_neg (by omega), Int.toNat_natCast]
    rw [e]
    obtain ⟨b, hb⟩ := hC.1.smt (i := (a 8 t).toNat) (by omega)
    refine ⟨b, ?_, hb⟩
    rcases c2 with ⟨c, _⟩ | ⟨_, _, c⟩
    · omega
    · rw [hr, c]; exact hb
  · have e : prt a t g = a 9 t := by
      unfold prt
      rw [if_pos g1, Int.toNat_natCast]
    rw [e]
    obtain ⟨b, hb⟩ := hC.1.smt (i := (a 9 t).toNat) (by omega)
    refine ⟨b, ?_, hb⟩
    rcases c3 with ⟨c, _⟩ | ⟨_, _, c⟩
    · omega
    · rw [hr, c]; exact hb
theorem SBI.jn (hs : SBI sk ln iv rv iv1 s tb g x y) (hW : WT h sk L cl ln iv rv) (hS : SKL sk L cl) (hF : fT [15, 53, 54, 55] L cl iv rv iv1 rv) (ts : ty L cl s 15) (hj : iv tb 0 = 5) (hr : (g = 0 ∧ r = rv tb 2) ∨ (g = 1 ∧ r = rv tb 3)) (hk : y ≤ iv s 4) (sp : SPX sk ln iv1 rv iv2 s r x y f) (hC : CTB sk ln iv rv s tb v a W t) : ∃ js, (0 ≤ x ∧ x ≤ y) ∧ NSG W (sgj g) x y ∧ jtp a W (iv s 4) t 0 0 js g x ∧ (f = 0 → ∃ ps, PTS a W (prt a t g) x y ps ∧ PDH iv2 rv s (jcl a t 0 js ++ cls ps)) ∧ (f ≠ 0 → ¬ ∃ ps, PTS a W (prt a t g) x y ps ∧ (jcl a t 0 js ++ cls ps).length ≤ 200) := by
  have h5 := hC.j5 hj
  obtain ⟨p1, p2, js, p3, p4⟩ := ((hs v a W t hC).1 hk).2 h5.1
  have pk := prt.ok (g := g) hC.tbt.1 hC.tbt.2 h5.2
  obtain ⟨b, b1, b2⟩ := prt_el hC h5.1 hr
  have e : (((prt a t g).toNat : Nat) : Int) = prt a t g := Int.toNat_of_nonneg pk.1.1
  have cx : CTX sk ln iv rv s b x y v a W (prt a t g).toNat := ⟨hC.1, by omega, by omega, b2, fun lb hb j h1 h2 => hC.2.2.2 lb hb j (by omega) (by omega)⟩
  have q := sp b b1 v a W _ (cx.ni hW hS hF rfl rfl rfl rfl rfl rfl ts) _ p4
  rw [e] at q
  refine ⟨js, p1, p2, p3, fun e2 => ?_, q.2⟩
  obtain ⟨ps, k1, k2⟩ := q.1 e2
  exact ⟨ps, k1, k2.1⟩
theorem SBJ.no {t : Int} (hT : TBL v a) (ht : 0 ≤ t ∧ t < v 4) (h5 : a 6 t.toNat = 5) (p3 : jtp a W m t 0 0 js g x) (hy : x ≤ y ∧ y ≤ m) (hN : NSG W (sgj g) x y) (he : y = m ∨ W y.toNat = sgj g) (no : (¬ ∃ ps, PTS a W (prt a t g) x y ps ∧ (jcl a t 0 js ++ cls ps).length ≤ 200) ∨ (y < m ∧ ¬ 0 < a 16 (ind4 t g).toNat)) : ¬ ∃ cs, SW0 a W m t cs ∧ cs.length ≤ 200 := fun w => by
  obtain ⟨cs, w1, len⟩ := w
  rcases w1 with ⟨w1, _⟩ | ⟨_, ks, qs, g3, x3, w2, w3, w4⟩
  · exact w1 h5
  · obtain ⟨ls, k1, k2⟩ := jtp.ext hT ht h5 js ks 0 0 g3 x3 qs p3 w2 w3
    obtain ⟨ps, zz, ⟨m1, m2⟩, m3, m4⟩ := seg_len hT ht h5 k2 w3 hy hN he
    rcases no with no | ⟨n1, n2⟩
    · refine no ⟨ps, ⟨zz, m1, m2⟩, ?_⟩
      rw [k1, jcl.app js ls 0 0 p3, List.append_assoc] at w4
      rw [w4, List.length_append] at len
      rw [List.length_append]; omega
    · rcases m4 with m4 | ⟨_, m5, _⟩
      · omega
      · exact n2 m5
theorem SBN.jfail (hs : SBI sk ln iv rv iv1 s tb g x y) (hW : WT h sk L cl ln iv rv) (hS : SKL sk L cl) (hF : fT [15, 53, 54, 55] L cl iv rv iv1 rv) (ts : ty L cl s 15) (hj : iv tb 0 = 5) (hr : (g = 0 ∧ r = rv tb 2) ∨ (g = 1 ∧ r = rv tb 3)) (hk : 0 ≤ y ∧ y ≤ iv s 4) (sp : SPX sk ln iv1 rv iv2 s r x y f) (he : y = iv s 4 ∨ ∃ lb, rv s 0 = some lb ∧ iv lb y.toNat = sgj g) (hf : f ≠ 0) : SBN sk ln iv rv iv3 s tb g y f := by
  refine ⟨fun e => absurd e hf, fun _ v a W t hC => ?_⟩
  obtain ⟨js, p1, p2, p3, _, p5⟩ := hs.jn hW hS hF ts hj hr hk.2 sp hC
  refine SBJ.no hC.tbt.1 hC.tbt.2 (hC.j5 hj).2 p3 ⟨p1.2, hk.2⟩ p2 ?_ (Or.inl (p5 hf))
  by_cases c : y = iv s 4
  · exact Or.inl c
  · rcases he with e | ⟨lb, e1, e2⟩
    · exact Or.inl e
    · exact Or.inr (by rw [← hC.2.2.2 lb e1 y hk.1 (by omega)]; exact e2)
theorem SBN.jlast (hs : SBI sk ln iv rv iv1 s tb g x y) (hW : WT h sk L cl ln iv rv) (hS : SKL sk L cl) (hF : fT [15, 53, 54, 55] L cl iv rv iv1 rv) (ts : ty L cl s 15) (hj : iv tb 0 = 5) (hr : (g = 0 ∧ r = rv tb 2) ∨ (g = 1 ∧ r = rv tb 3)) (hk : y = iv s 4) (sp : SPX sk ln iv1 rv iv2 s r x y f) (hf : f = 0) : SBN sk ln iv rv iv2 s tb g y f := by
  refine ⟨fun _ v a W t hC => ⟨fun e2 => absurd e2 (by omega), fun _ => ?_⟩, fun e => absurd hf e⟩
  obtain ⟨js, p1, p2, p3, p4, _⟩ := hs.jn hW hS hF ts hj hr (by omega) sp hC
  obtain ⟨ps, ⟨zz, q1, q2⟩, q3⟩ := p4 hf
  subst hk
  exact ⟨_, Or.inr ⟨(hC.j5 hj).2, js, ps, g, x, p3, ⟨⟨p1.2, Int.le_refl _⟩, p2, Or.inl rfl, zz, q1, q2⟩, rfl⟩, q3, fun c => absurd (hC.j5 hj).2 c⟩
theorem CTB.sign (hC : CTB sk ln iv rv s tb v a W t) (h6 : rv tb 6 = some n) (hr2 : (g = 0 ∧ rv n 2 = r2) ∨ (g = 1 ∧ rv n 3 = r2)) : RCX ln iv rv r2 (ICL a (ind4 t g)) ∧ (r2 = none → ¬ 0 < a 16 (ind4 (t : Int) g).toNat) ∧ ((∃ w, r2 = some w) → 0 < a 16 (ind4 (t : Int) g).toNat) := by
  have key : ∀ j : Nat, j < 4 → rv n j = r2 → ind4 (t : Int) g = 4 * (t : Int) + (j : Int) → RCX ln iv rv r2 (ICL a (ind4 t g)) ∧ (r2 = none → ¬ 0 < a 16 (ind4 (t : Int) g).toNat) ∧ ((∃ w, r2 = some w) → 0 < a 16 (ind4 (t : Int) g).toNat) := fun j hj e1 e2 => by
    have hi := hC.ind h6 hj
    rw [e1] at hi
    rw [e2, ICL.nat, show (4 * (t : Int) + (j : Int)).toNat = 4 * t + j by omega]
    refine ⟨hi.rc, fun e => ?_, fun e => ?_⟩
    · rcases hi with ⟨_, q⟩ | ⟨_, _, q, _⟩
      · omega
      · rw [e] at q; cases q
    · obtain ⟨w, e⟩ := e
      rcases hi with ⟨q, _⟩ | ⟨_, _, _, _, _, _, q, _⟩
      · rw [e] at q; cases q
      · exact q
  rcases hr2 with ⟨e1, e2⟩ | ⟨e1, e2⟩
  · exact key 2 (by decide) e2 (by unfold ind4; rw [if_neg (by omega)]; rfl)
  · exact key 3 (by decide) e2 (by unfold ind4; rw [if_pos e1]; rfl)
theorem SBN.jturn (hs : SBI sk ln iv rv iv1 s tb g x y) (hW : WT h sk L cl ln iv rv) (hS : SKL sk L cl) (hF : fT [15, 53, 54, 55] L cl iv rv iv1 rv) (ts : ty L cl s 15) (hj : iv tb 0 = 5) (hr : (g = 0 ∧ r = rv tb 2) ∨ (g = 1 ∧ r = rv tb 3)) (hk : 0 ≤ y ∧ y < iv s 4) (sp : SPX sk ln iv1 rv iv2 s r x y f) (he : ∃ lb, rv s 0 = some lb ∧ iv lb y.toNat = sgj g) (hf : f = 0) (hF2 : fT [15, 53, 54, 55] L cl iv rv iv2 rv) (h6 : rv tb 6 = some n) (hr2 : (g = 0 ∧ rv n 2 = r2) ∨ (g = 1 ∧ rv n 3 = r2)) (t2 : ∀ b, r2 = some b → ty L cl b 20) (st : STX ln iv2 rv iv3 s r2 f2) : SBN sk ln iv rv iv3 s tb g y f2 := by
  obtain ⟨lb, e1, e2⟩ := he
  have hg : g = 0 ∨ g = 1 := by
    rcases hr with ⟨e, _⟩ | ⟨e, _⟩
    · exact Or.inl e
    · exact Or.inr e
  refine ⟨fun e v a W t hC => ⟨fun _ => ⟨fun n5 => absurd (hC.j5 hj).1 n5, fun _ => ?_⟩, fun e3 => absurd e3 (by omega)⟩, fun e v a W t hC => ?_⟩
  · rcases st with ⟨_, q⟩ | ⟨_, w, pu⟩
    · omega
    · obtain ⟨js, p1, p2, p3, p4, _⟩ := hs.jn hW hS hF ts hj hr (by omega) sp hC
      obtain ⟨ps, ⟨zz, q1, q2⟩, q3⟩ := p4 hf
      obtain ⟨s1, _, s3⟩ := hC.sign h6 hr2
      refine hv2 (show W y.toNat = sgj g from by rw [← hC.2.2.2 lb e1 y hk.1 hk.2]; exact e2) (pu _ q3 _ (s1.ni hW hF2 rfl t2)) (fun ew pd => ?_)
      refine ⟨⟨by omega, Int.le_refl _⟩, NSG.zero, js ++ [(y, ps)], jtp.snoc js 0 0 p3 ⟨⟨p1.2, by omega⟩, p2, Or.inr ew, zz, q1, q2⟩ hk.2 (s3 w), ?_⟩
      rw [jcl.snoc hg js 0 0 p3, ← List.append_assoc]
      exact pd
  · rcases st with ⟨q, _⟩ | ⟨q, _⟩
    · obtain ⟨js, p1, p2, p3, p4, _⟩ := hs.jn hW hS hF ts hj hr (by omega) sp hC
      obtain ⟨_, s2, _⟩ := hC.sign h6 hr2
      have ew : W y.toNat = sgj g := by rw [← hC.2.2.2 lb e1 y hk.1 hk.2]; exact e2
      exact SBJ.no hC.tbt.1 hC.tbt.2 (hC.j5 hj).2 p3 ⟨p1.2, by omega⟩ p2 (Or.inr ew) (Or.inr ⟨hk.2, s2 q⟩)
    · exact absurd q e
end SBYS
end
