def ROWR (ln : Nat → Nat) (iv : Nat → Nat → Int) (rv : Nat → Nat → Option Nat) (a : Nat → Nat → Int) (w R : Nat) : Prop := iv w 3 = a 11 R ∧ iv w 0 = 4 ∧ ∃ l c, rv w 1 = some l ∧ rv w 2 = some c ∧ ((ln l : Nat) : Int) = a 12 R ∧ ((ln c : Nat) : Int) = a 13 R ∧ (∀ k : Nat, k < ln l → iv l k = a 14 (8 * R + k) ∧ 33 ≤ iv l k ∧ iv l k ≤ 125) ∧ (∀ k : Nat, k < ln c → iv c k = a 15 (4 * R + k) ∧ 1 ≤ iv c k ∧ iv c k ≤ 255)
def INDR (ln : Nat → Nat) (iv : Nat → Nat → Int) (rv : Nat → Nat → Option Nat) (r : Option Nat) (w m : Int) (y : Nat → Int) : Prop := (r = none ∧ m = 0) ∨ ∃ b c, r = some b ∧ (iv b 0 = w ∧ ∃ lb, rv b 1 = some lb ∧ ln lb = 0) ∧ rv b 2 = some c ∧ ((ln c : Nat) : Int) = m ∧ 0 < m ∧ ∀ k : Nat, k < ln c → iv c k = y k ∧ 1 ≤ iv c k ∧ iv c k ≤ 255
def BASR (sk : Nat → Nat) (rv : Nat → Nat → Option Nat) (i : Nat) (r : Option Nat) (x : Int) : Prop := (x = -1 ∧ r = none) ∨ (0 ≤ x ∧ x < (i : Int) ∧ r = el rv (sk 22) x.toNat)
def TB2 (o : Nat → Nat) (sk : Nat → Nat) (ln : Nat → Nat) (iv : Nat → Nat → Int) (rv : Nat → Nat → Option Nat) (a : Nat → Nat → Int) (i t : Nat) : Prop := ∃ q s x n, (rv t 4 = some q ∧ rv t 5 = some s ∧ rv s 1 = some x ∧ rv t 6 = some n) ∧ (o t = i ∧ o q = i ∧ o s = i ∧ o x = i ∧ o n = i) ∧ (BASR sk rv i (rv t 2) (a 8 i) ∧ BASR sk rv i (rv t 3) (a 9 i)) ∧ (iv s 2 = a 10 i ∧ iv q 2 = a 10 i) ∧ (∀ r : Nat, (r : Int) < a 10 i → ∃ w, el rv q r = some w ∧ o w = 200 * i + r ∧ ROWR ln iv rv a w (200 * i + r)) ∧ CT iv rv s (fun r => a 14 (8 * (200 * i + r))) ∧ (∀ w : Nat, w < 4 → INDR ln iv rv (rv n w) (w : Int) (a 16 (4 * i + w)) (fun k => a 17 (4 * (4 * i + w) + k)))
def CH2 (sk : Nat → Nat) (ln : Nat → Nat) (iv : Nat → Nat → Int) (rv : Nat → Nat → Option Nat) (v : Nat → Int) (a : Nat → Nat → Int) (k ch : Nat) : Prop := (a 18 (4 * k) = 3 → ((0 ≤ a 18 (4 * k + 1) ∧ a 18 (4 * k + 1) < v 4) ∧ 0 ≤ a 18 (4 * k + 2) ∧ a 18 (4 * k + 2) < a 10 (a 18 (4 * k + 1)).toNat) ∧ (∃ t q, el rv (sk 22) (a 18 (4 * k + 1)).toNat = some t ∧ rv t 4 = some q ∧ rv ch 2 = el rv q (a 18 (4 * k + 2)).toNat) ∧ iv ch 3 = a 18 (4 * k + 3)) ∧ (a 18 (4 * k) = 4 → (0 ≤ a 18 (4 * k + 1) ∧ a 18 (4 * k + 1) < 4 * v 4) ∧ rv ch 1 = el rv (sk 22) (a 18 (4 * k + 1) / 4).toNat ∧ iv ch 3 = a 18 (4 * k + 1) % 4 ∧ INDR ln iv rv (rv ch 2) (a 18 (4 * k + 1) % 4) (a 18 (4 * k + 2)) (fun j => UPK (a 18 (4 * k + 3)) (a 18 (4 * k + 2)) (j : Int)))
def RP2 (o : Nat → Nat) (sk : Nat → Nat) (ln : Nat → Nat) (iv : Nat → Nat → Int) (rv : Nat → Nat → Option Nat) (v : Nat → Int) (a : Nat → Nat → Int) : Prop := (∀ i : Nat, (i : Int) < v 4 → ∃ t, el rv (sk 22) i = some t ∧ TB2 o sk ln iv rv a i t) ∧ (∀ k : Nat, (k : Int) < iv (sk 23) 2 → ∃ ch, el rv (sk 23) k = some ch ∧ CH2 sk ln iv rv v a k ch)
def IDD (sk : Nat → Nat) (L2 : List Nat) (cl2 ln2 : Nat → Nat) (iv : Nat → Nat → Int) (rv : Nat → Nat → Option Nat) (iv2 : Nat → Nat → Int) (rv2 : Nat → Nat → Option Nat) (n : Nat) (j : Int) : Prop := (iv (sk 2) 2 = 0 ∧ rv2 n j.toNat = none) ∨ ∃ w c, rv2 n j.toNat = some w ∧ (ty L2 cl2 w 20 ∧ (iv2 w 0 = j ∧ ∃ lb, rv2 w 1 = some lb ∧ ln2 lb = 0) ∧ rv2 w 2 = some c) ∧ ty L2 cl2 c 66 ∧ ln2 c = (iv (sk 2) 2).toNat ∧ 0 < iv (sk 2) 2 ∧ ∀ ss, CT iv rv (sk 2) ss → ∀ k : Nat, k < ln2 c → iv2 c k = ss k
def ARW (a a2 : Nat → Nat → Int) (R : Nat) : Prop := a2 12 R = a 12 R ∧ a2 13 R = a 13 R ∧ (∀ k : Nat, k < 8 → a2 14 (8 * R + k) = a 14 (8 * R + k)) ∧ (∀ k : Nat, k < 4 → a2 15 (4 * R + k) = a 15 (4 * R + k))
def AIN (a a2 : Nat → Nat → Int) (I : Nat) : Prop := a2 16 I = a 16 I ∧ ∀ k : Nat, k < 4 → a2 17 (4 * I + k) = a 17 (4 * I + k)
section REPS
variable {g : Nat} {sk o o2 : Nat → Nat} {L L2 : List Nat} {cl ln cl2 ln2 : Nat → Nat} {iv iv2 : Nat → Nat → Int} {rv rv2 : Nat → Nat → Option Nat} {v v2 : Nat → Int} {a a2 : Nat → Nat → Int} {C Q S X : Nat → Prop} {N : Nat → Nat → Prop} {w R i t q s x n k ch : Nat}
theorem el26 (h : WT g sk L cl ln iv rv) (tq : ty L cl q 26) {r : Nat} (hi : (r : Int) < iv q 2) (he : el rv q r = some w) : ty L cl w 20 := by
  obtain ⟨b, q1, q2, q3, q4⟩ := h.ed2 tq rfl rfl (by omega)
  rw [el_of q1] at he
  obtain ⟨c, w1, w2⟩ := h.elem tq rfl q1 q2 rfl rfl hi
  rw [he] at w1; cases w1
  exact w2
theorem ty4 (hW : WT g sk L cl ln iv rv) (tt : ty L cl t 100) (h4 : rv t 4 = some q) : ty L cl q 26 := by
  obtain ⟨b, w1, w2⟩ := hW.ref tt 4 rfl rfl rfl
  rw [w1] at h4; cases h4
  exact w2
theorem ROWR.keep (h : ROWR ln iv rv a w R) (tw : ty L cl w 20) (hW : WT g sk L cl ln iv rv) (hX : XT L cl ln L2 cl2 ln2) (hk : KP L cl C Q S X N iv rv iv2 rv2) (hc : iv2 w 3 = a2 11 R) (ha : ARW a a2 R) : ROWR ln2 iv2 rv2 a2 w R := by
  obtain ⟨_, e2, l, c, e3, e4, e5, e6, e7, e8⟩ := h
  obtain ⟨l', w1, tl⟩ := hW.ref tw 1 rfl rfl rfl
  rw [e3] at w1; cases w1
  obtain ⟨c', w2, tc⟩ := hW.ref tw 2 rfl rfl rfl
  rw [e4] at w2; cases w2
  refine hv5 (hk.rw0 w tw) ((hX l tl.1).2.2) ((hX c tc.1).2.2) (show ln l ≤ 8 from (hW.len tl rfl).2) (show ln c ≤ 4 from (hW.len tc rfl).2) (fun q n1 n2 b1 b2 => ?_)
  refine ⟨hc, q.1.trans e2, l, c, q.2.1.trans e3, q.2.2.trans e4, by rw [n1, ha.1]; exact e5, by rw [n2, ha.2.1]; exact e6, fun k hk2 => ?_, fun k hk2 => ?_⟩
  · rw [n1] at hk2
    rw [hk.le l tl k, ha.2.2.1 k (by omega)]; exact e7 k hk2
  · rw [n2] at hk2
    rw [hk.ce c tc k, ha.2.2.2 k (by omega)]; exact e8 k hk2
theorem INDR.keep {r : Option Nat} {z m : Int} {y y2 : Nat → Int} (h : INDR ln iv rv r z m y) (hr : ∀ b, r = some b → ty L cl b 20) (hW : WT g sk L cl ln iv rv) (hX : XT L cl ln L2 cl2 ln2) (hk : KP L cl C Q S X N iv rv iv2 rv2) (hy : ∀ k : Nat, (k : Int) < m → k < 4 → y2 k = y k) : INDR ln2 iv2 rv2 r z m y2 := by
  rcases h with h | ⟨b, c, e1, e2, e3, e4, e5, e6⟩
  · exact Or.inl h
  · have tb := hr b e1
    obtain ⟨c', w2, tc⟩ := hW.ref tb 2 rfl rfl rfl
    rw [e3] at w2; cases w2
    refine hv3 (hk.rw0 b tb) ((hX c tc.1).2.2) (show ln c ≤ 4 from (hW.len tc rfl).2) (fun q n2 b2 => ?_)
    obtain ⟨e2, lb, e7, e8⟩ := e2
    obtain ⟨l', w3, tl⟩ := hW.ref tb 1 rfl rfl rfl
    rw [e7] at w3; cases w3
    refine Or.inr ⟨b, c, e1, ⟨q.1.trans e2, lb, q.2.1.trans e7, by rw [(hX lb tl.1).2.2]; exact e8⟩, q.2.2.trans e3, by rw [n2]; exact e4, e5, fun k hk2 => ?_⟩
    rw [n2] at hk2
    rw [hk.ce c tc k, hy k (by omega) (by omega)]; exact e6 k hk2
theorem BASR.keep {r : Option Nat} {z : Int} (h : BASR sk rv i r z) (he : ∀ j : Nat, j < i → el rv2 (sk 22) j = el rv (sk 22) j) : BASR sk rv2 i r z := by
  rcases h with h | ⟨h1, h2, h3⟩
  · exact Or.inl h
  · exact Or.inr ⟨h1, h2, h3.trans (he _ (by omega)).symm⟩
theorem rows_keep {z : Int} (hr : ∀ r : Nat, (r : Int) < z → ∃ w, el rv q r = some w ∧ o w = 200 * i + r ∧ ROWR ln iv rv a w (200 * i + r)) (tq : ty L cl q 26) (hn : z ≤ iv q 2) (hel : ∀ r : Nat, (r : Int) < z → el rv2 q r = el rv q r) (hW : WT g sk L cl ln iv rv) (hX : XT L cl ln L2 cl2 ln2) (hk : KP L cl C Q S X N iv rv iv2 rv2) (ho : ∀ b ∈ L, o2 b = o b) (hc : ∀ r w : Nat, (r : Int) < z → el rv q r = some w → ty L cl w 20 → o w = 200 * i + r → iv w 3 = a 11 (200 * i + r) → iv2 w 3 = a2 11 (200 * i + r)) (ha : ∀ r : Nat, (r : Int) < z → ARW a a2 (200 * i + r)) : ∀ r : Nat, (r : Int) < z → ∃ w, el rv2 q r = some w ∧ o2 w = 200 * i + r ∧ ROWR ln2 iv2 rv2 a2 w (200 * i + r) := by
  intro r hz
  obtain ⟨w, e1, e2, e3⟩ := hr r hz
  have tw := el26 hW tq (by omega) e1
  exact ⟨w, (hel r hz).trans e1, (ho w tw.1).trans e2, e3.keep tw hW hX hk (hc r w hz e1 tw e2 e3.1) (ha r hz)⟩
theorem CT.kp {ss ss2 : Nat → Int} (h : CT iv rv s ss) (ts : ty L cl s 12) (hW : WT g sk L cl ln iv rv) (hk : KP L cl C Q S X N iv rv iv2 rv2) (h1 : rv2 s 1 = rv s 1) (h2 : iv2 s 2 ≤ iv s 2) (hx : ∀ b, rv s 1 = some b → ¬ X b) (hs : ∀ j : Nat, (j : Int) < iv2 s 2 → ss2 j = ss j) : CT iv2 rv2 s ss2 := by
  intro b hb j hj
  rw [h1] at hb
  obtain ⟨b', w1, w2⟩ := hW.ref ts 1 rfl rfl rfl
  have e := w1
  rw [hb] at e; cases e
  rw [hk.ia b w2 (hx b hb) j, hs j hj]
  exact h b hb j (by omega)
theorem inds_keep {w : Nat} (hn : INDR ln iv rv (rv n w) (w : Int) (a 16 (4 * i + w)) (fun k => a 17 (4 * (4 * i + w) + k))) (tn : ty L cl n 68) (hW : WT g sk L cl ln iv rv) (hX : XT L cl ln L2 cl2 ln2) (hk : KP L cl C Q S X N iv rv iv2 rv2) (hN : ¬ N n w) (ha : AIN a a2 (4 * i + w)) : INDR ln2 iv2 rv2 (rv2 n w) (w : Int) (a2 16 (4 * i + w)) (fun k => a2 17 (4 * (4 * i + w) + k)) := by
  rw [hk.nd n tn w hN, ha.1]
  refine hn.keep (fun b hb => ?_) hW hX hk (fun k _ hk4 => ha.2 k hk4)
  rcases hW.opt tn w rfl rfl with e | ⟨c, e1, e2⟩
  · rw [e.1] at hb; cases hb
  · rw [e1] at hb; cases hb; exact e2
theorem TB2.types (h : TB2 o sk ln iv rv a i t) (tt : ty L cl t 100) (hW : WT g sk L cl ln iv rv) : ∃ q s x n, (rv t 4 = some q ∧ rv t 5 = some s ∧ rv s 1 = some x ∧ rv t 6 = some n) ∧ (ty L cl q 26 ∧ ty L cl s 12 ∧ ty L cl x 42 ∧ ty L cl n 68) := by
  obtain ⟨q, s, x, n, ⟨e1, e2, e3, e4⟩, _⟩ := h
  obtain ⟨q', w1, w2⟩ := hW.ref tt 4 rfl rfl rfl
  rw [e1] at w1; cases w1
  obtain ⟨s', w3, w4⟩ := hW.ref tt 5 rfl rfl rfl
  rw [e2] at w3; cases w3
  obtain ⟨x', w5, w6⟩ := hW.ref w4 1 rfl rfl rfl
  rw [e3] at w5; cases w5
  obtain ⟨n', w7, w8⟩ := hW.ref tt 6 rfl rfl rfl
  rw [e4] at w7; cases w7
  exact ⟨q, s, x, n, ⟨e1, e2, e3, e4⟩, w2, w4, w6, w8⟩
theorem TB2.keep (h : TB2 o sk ln iv rv a i t) (tt : ty L cl t 100) (hW : WT g sk L cl ln iv rv) (hX : XT L cl ln L2 cl2 ln2) (hk : KP L cl C Q S X N iv rv iv2 rv2) (he : ∀ j : Nat, j < i → el rv2 (sk 22) j = el rv (sk 22) j) (ho : ∀ b ∈ L, o2 b = o b) (hQ : ∀ b, Q b → o b ≠ i) (hS : ∀ b, S b → o b ≠ i) (hXx : ∀ b, X b → o b ≠ i) (a8 : a2 8 i = a 8 i) (a9 : a2 9 i = a 9 i) (a10 : a2 10 i = a 10 i) (h200 : a 10 i ≤ 200) (hc : ∀ q r w : Nat, rv t 4 = some q → (r : Int) < a 10 i → el rv q r = some w → ty L cl w 20 → o w = 200 * i + r → iv w 3 = a 11 (200 * i + r) → iv2 w 3 = a2 11 (200 * i + r)) (hA : ∀ r : Nat, r < 200 → ARW a a2 (200 * i + r)) (hI : ∀ n w : Nat, rv t 6 = some n → ty L cl n 68 → o n = i → w < 4 → INDR ln iv rv (rv n w) (w : Int) (a 16 (4 * i + w)) (fun k => a 17 (4 * (4 * i + w) + k)) → INDR ln2 iv2 rv2 (rv2 n w) (w : Int) (a2 16 (4 * i + w)) (fun k => a2 17 (4 * (4 * i + w) + k))) : TB2 o2 sk ln2 iv2 rv2 a2 i t := by
  have hty := h.types tt hW
  obtain ⟨q, s, x, n, ⟨e1, e2, e3, e4⟩, ⟨o1, o2', o3, o4, o5⟩, ⟨b1, b2⟩, ⟨z1, z2⟩, hr, hct, hi⟩ := h
  obtain ⟨q', s', x', n', ⟨f1, f2, f3, f4⟩, tq, ts, tx, tn⟩ := hty
  rw [e1] at f1; cases f1
  rw [e2] at f2; cases f2
  rw [e3] at f3; cases f3
  rw [e4] at f4; cases f4
  refine hv3 (hk.tb t tt) (hk.it s ts (fun e => hS s e o3)) (hk.li q tq (fun e => hQ q e o2')) (fun kt ks kq => ?_)
  refine ⟨q, s, x, n, ⟨kt.2.2.1.trans e1, kt.2.2.2.1.trans e2, ks.2.trans e3, kt.2.2.2.2.trans e4⟩, ⟨(ho t tt.1).trans o1, (ho q tq.1).trans o2', (ho s ts.1).trans o3, (ho x tx.1).trans o4, (ho n tn.1).trans o5⟩, ⟨by rw [kt.1, a8]; exact b1.keep he, by rw [kt.2.1, a9]; exact b2.keep he⟩, ⟨by rw [ks.1, a10]; exact z1, by rw [kq.1, a10]; exact z2⟩, ?_, ?_, fun w hw => hI n w e4 tn o5 hw (hi w hw)⟩
  · rw [a10]
    exact rows_keep hr tq (by omega) (fun r hz => kq.2 r (by omega)) hW hX hk ho (fun r w hz he2 tw ow e => hc q r w e1 hz he2 tw ow e) (fun r hz => hA r (by omega))
  · exact hct.kp ts hW hk ks.2 (by rw [ks.1]; omega) (fun b hb eb => by rw [e3] at hb; cases hb; exact hXx _ eb o4) (fun j hj => (hA j (by rw [ks.1] at hj; omega)).2.2.1 0 (by omega))
theorem CH2.keep {T : Int} (h : CH2 sk ln iv rv v a k ch) (tch : ty L cl ch 21) (hW : WT g sk L cl ln iv rv) (hX : XT L cl ln L2 cl2 ln2) (hk : KP L cl C Q S X N iv rv iv2 rv2) (h1 : rv2 ch 1 = rv ch 1) (hs : ∀ j : Nat, j < 4 → a2 18 (4 * k + j) = a 18 (4 * k + j)) (hT2 : T ≤ v2 4) (hle : T ≤ v 4) (b3 : a 18 (4 * k) = 3 → a 18 (4 * k + 1) < T ∧ a 18 (4 * k + 2) < a2 10 (a 18 (4 * k + 1)).toNat) (b4 : a 18 (4 * k) = 4 → a 18 (4 * k + 1) < 4 * T) (he : ∀ j : Nat, (j : Int) < T → el rv2 (sk 22) j = el rv (sk 22) j) (ht4 : ∀ j t : Nat, (j : Int) < T → el rv (sk 22) j = some t → rv2 t 4 = rv t 4) (hel : ∀ j t q : Nat, (j : Int) < T → el rv (sk 22) j = some t → rv t 4 = some q → ∀ y : Nat, (y : Int) < a 10 j → (y : Int) < a2 10 j → el rv2 q y = el rv q y) : CH2 sk ln2 iv2 rv2 v2 a2 k ch := by
  have s0 := hs 0 (by omega); have s1 := hs 1 (by omega); have s2 := hs 2 (by omega); have s3 := hs 3 (by omega)
  rw [Nat.add_zero] at s0
  have kc := hk.ch ch tch
  refine ⟨fun e => ?_, fun e => ?_⟩
  · rw [s0] at e
    obtain ⟨⟨c1, c2, c3⟩, ⟨t, q, d1, d2, d3⟩, d4⟩ := h.1 e
    obtain ⟨g1, g2⟩ := b3 e
    rw [s1, s2, s3]
    refine ⟨⟨⟨c1.1, by omega⟩, c2, g2⟩, ⟨t, q, (he _ (by omega)).trans d1, (ht4 _ t (by omega) d1).trans d2, ?_⟩, kc.1.trans d4⟩
    rw [kc.2, d3]
    exact (hel _ t q (by omega) d1 d2 _ (by omega) (by omega)).symm
  · rw [s0] at e
    obtain ⟨c1, d1, d2, d3⟩ := h.2 e
    have g1 := b4 e
    rw [s1, s2, s3, kc.2]
    refine ⟨⟨c1.1, by omega⟩, (h1.trans d1).trans (he _ (by omega)).symm, kc.1.trans d2, d3.keep (fun b hb => ?_) hW hX hk (fun _ _ _ => rfl)⟩
    rcases hW.opt tch 2 rfl rfl with e2 | ⟨c, e1, e2⟩
    · rw [e2.1] at hb; cases hb
    · rw [e1] at hb; cases hb; exact e2
theorem ARW.of (h12 : a2 12 = a 12) (h13 : a2 13 = a 13) (h14 : a2 14 = a 14) (h15 : a2 15 = a 15) : ARW a a2 R := ⟨by rw [h12], by rw [h13], fun k _ => by rw [h14], fun k _ => by rw [h15]⟩
theorem AIN.of (h16 : a2 16 = a 16) (h17 : a2 17 = a 17) : AIN a a2 R := ⟨by rw [h16], fun k _ => by rw [h17]⟩
theorem TABR.r200 (h : TABR sk iv rv v a) (hi : (i : Int) < v 4) : 0 ≤ a 10 i ∧ a 10 i ≤ 200 := by
  obtain ⟨_, _, _, _, _, _, _, _, _, _, b⟩ := h.2.1 i hi
  exact b
theorem TABR.sz (h : TABR sk iv rv v a) (hi : (i : Int) < v 4) (ht : el rv (sk 22) i = some t) (hq : rv t 4 = some q) : iv q 2 = a 10 i := by
  obtain ⟨t', q', b1, b2, _, _, _, b6, _⟩ := h.2.1 i hi
  rw [ht] at b1; cases b1
  rw [hq] at b2; cases b2
  exact b6
theorem TB2.keep0 (h : TB2 o sk ln iv rv a i t) (tt : ty L cl t 100) (hW : WT g sk L cl ln iv rv) (hX : XT L cl ln L2 cl2 ln2) (hk : KP L cl (fun _ => False) (fun _ => False) (fun _ => False) (fun _ => False) (fun _ _ => False) iv rv iv2 rv2) (he : ∀ j : Nat, j < i → el rv2 (sk 22) j = el rv (sk 22) j) (ho : ∀ b ∈ L, o2 b = o b) (h200 : a 10 i ≤ 200) (a8 : a2 8 i = a 8 i) (a9 : a2 9 i = a 9 i) (a10 : a2 10 i = a 10 i) (hA : ∀ r : Nat, r < 200 → a2 11 (200 * i + r) = a 11 (200 * i + r) ∧ ARW a a2 (200 * i + r)) (hI : ∀ w : Nat, w < 4 → AIN a a2 (4 * i + w)) : TB2 o2 sk ln2 iv2 rv2 a2 i t := h.keep tt hW hX hk he ho (fun _ e => e.elim) (fun _ e => e.elim) (fun _ e => e.elim) a8 a9 a10 h200 (fun q r w _ hr _ tw _ e => by rw [hk.rwc w tw (fun e => e), (hA r (by omega)).1]; exact e) (fun r hr => (hA r hr).2) (fun n w _ tn _ hw hi => inds_keep hi tn hW hX hk (fun e => e) (hI w hw))
theorem CH2.keepU (h : CH2 sk ln iv rv v a k ch) (tch : ty L cl ch 21) (hW : WT g sk L cl ln iv rv) (hX : XT L cl ln L2 cl2 ln2) (hk : KP L cl C Q S X N iv rv iv2 rv2) (h1 : rv2 ch 1 = rv ch 1) (hs : ∀ j : Nat, j < 4 → a2 18 (4 * k + j) = a 18 (4 * k + j)) (hv : v 4 ≤ v2 4) (ha : ∀ j : Nat, (j : Int) < v 4 → a 10 j ≤ a2 10 j) (he : ∀ j : Nat, (j : Int) < v 4 → el rv2 (sk 22) j = el rv (sk 22) j) (ht4 : ∀ j t : Nat, (j : Int) < v 4 → el rv (sk 22) j = some t → rv2 t 4 = rv t 4) (hel : ∀ j t q : Nat, (j : Int) < v 4 → el rv (sk 22) j = some t → rv t 4 = some q → ∀ y : Nat, (y : Int) < a 10 j → (y : Int) < a2 10 j → el rv2 q y = el rv q y) : CH2 sk ln2 iv2 rv2 v2 a2 k ch :=
  h.keep (T := v 4) tch hW hX hk h1 hs hv (Int.le_refl _) (fun e => by
    obtain ⟨⟨c1, c2, c3⟩, _⟩ := h.1 e
    have q := ha (a 18 (4 * k + 1)).toNat (by omega)
    exact ⟨c1.2, by omega⟩) (fun e => (h.2 e).1.2) he ht4 hel
theorem rp_same (h : RP2 o sk ln iv rv v a) (hT : TABR sk iv rv v a) (hW : WT g sk L cl ln iv rv) (hS : SKL sk L cl) (hX : XT L cl ln L2 cl2 ln2) (hk : KP L cl (fun _ => False) (fun _ => False) (fun _ => False) (fun _ => False) (fun _ _ => False) iv rv iv2 rv2) (hp : PSAME sk iv rv iv2 rv2) (hq : TSAME v a v2 a2) : RP2 o sk ln2 iv2 rv2 v2 a2 := by
  obtain ⟨p1, p2, ⟨p3, p4, p5⟩, p6⟩ := hp
  obtain ⟨q4, q5, q6, q7, q10, q19, q18, q11, q8, q9, q12, q13, q14, q15, q16, q17⟩ := hq
  have n22 := hT.1
  refine ⟨fun i hi => ?_, fun k hk2 => ?_⟩
  · obtain ⟨t, e1, e2⟩ := h.1 i (by omega)
    exact ⟨t, (p3 i (by omega)).trans e1, e2.keep0 (el22 hW hS (by omega) e1) hW hX hk (fun j hj => p3 j (by omega)) (fun _ _ => rfl) (hT.r200 (by omega)).2 (by rw [q8]) (by rw [q9]) (by rw [q10]) (fun r _ => ⟨by rw [q11], ARW.of q12 q13 q14 q15⟩) (fun w _ => AIN.of q16 q17)⟩
  · obtain ⟨ch, c1, c2⟩ := h.2 k (by omega)
    have c := p6 k (by omega)
    exact ⟨ch, c.1.trans c1, c2.keepU (el23 hW hS (by omega) c1) hW hX hk (c.2 ch c1).2 (fun j _ => by rw [q18]) (by omega) (fun j _ => by rw [q10]; exact Int.le_refl _) (fun j hj => p3 j (by omega)) (fun j t hj ht => (hk.tb t (el22 hW hS (by omega) ht)).2.2.1) (fun j t q hj ht hq y hy _ => (hk.li q (ty4 hW (el22 hW hS (by omega) ht) hq) (fun e => e)).2 y (by rw [hT.sz hj ht hq]; exact hy))⟩
theorem stk_old {w t c d : Int} (hq : PSH v a v2 a2 w t c d) (h19 : 4 * iv (sk 23) 2 = v 19) (hk : (k : Int) < iv (sk 23) 2) : ∀ j : Nat, j < 4 → a2 18 (4 * k + j) = a 18 (4 * k + j) := fun j hj => hq.2.1 _ (by omega)
theorem stk_new {w t c d : Int} (hq : PSH v a v2 a2 w t c d) (h19 : 4 * iv (sk 23) 2 = v 19) (h0 : 0 ≤ v 19) (hk : ¬ (k : Int) < iv (sk 23) 2) (hk2 : (k : Int) < iv (sk 23) 2 + 1) : a2 18 (4 * k) = w ∧ a2 18 (4 * k + 1) = t ∧ a2 18 (4 * k + 2) = c ∧ a2 18 (4 * k + 3) = d := by
  obtain ⟨_, _, s3, s4, s5, s6⟩ := hq
  refine ⟨?_, ?_, ?_, ?_⟩
  · rw [show 4 * k = (v 19).toNat by omega]; exact s3
  · rw [show 4 * k + 1 = (v 19 + 1).toNat by omega]; exact s4
  · rw [show 4 * k + 2 = (v 19 + 2).toNat by omega]; exact s5
  · rw [show 4 * k + 3 = (v 19 + 3).toNat by omega]; exact s6
theorem rp_new {kd d bb ss : Int} {b s : Option Nat} (h : RP2 o sk ln iv rv v a) (hT : TABR sk iv rv v a) (hW : WT g sk L cl ln iv rv) (hS : SKL sk L cl) (hX : XT L cl ln L2 cl2 ln2) (hk : KP L cl (fun _ => False) (fun _ => False) (fun _ => False) (fun _ => False) (fun _ _ => False) iv rv iv2 rv2) (hp : PNEW kd d sk iv rv iv2 rv2) (hn : KNW L sk b s iv iv2 rv2) (hq : TNEW kd d bb ss v a v2 a2) (hb : BASR sk rv (v 4).toNat b bb) (hs : BASR sk rv (v 4).toNat s ss) : ∃ o2, RP2 o2 sk ln2 iv2 rv2 v2 a2 := by
  obtain ⟨q, r, p1, p2, p3, p4, p5, p6, p7, p8, ⟨p9, p10, p11⟩, p12⟩ := hp
  obtain ⟨q', r', s5, x, n, m1, ⟨m2, m3, m4, m5, m6⟩, ⟨m7, m8, m9, m10, m11, m12⟩, m13, m14⟩ := hn
  rw [p1] at m1; cases m1
  rw [p5] at m9; cases m9
  obtain ⟨q1, q2, q3, q4, q5, q6, q7, q8, q9, q12, q13, q14, q15, q17, q16⟩ := hq
  refine hv4 (hT.1) (hT.2.2.2.1) (hT.2.2.2.2.2.1) (hT.2.2.2.2.2.2) (fun n22 n23 v0 v19 => ?_)
  refine ⟨fun z => if z ∈ L then o z else (v 4).toNat, fun i hi => ?_, fun k hk2 => ?_⟩
  · by_cases e : (i : Int) < v 4
    · obtain ⟨t, e1, e2⟩ := h.1 i e
      have ne : i ≠ (v 4).toNat := by omega
      exact ⟨t, (p9 i (by omega)).trans e1, e2.keep0 (el22 hW hS (by omega) e1) hW hX hk (fun j hj => p9 j (by omega)) (fun z hz => if_pos hz) (hT.r200 e).2 (by rw [q8, va_up_ne _ _ ne]) (by rw [q9, va_up_ne _ _ ne]) (by rw [q5, va_up_ne _ _ ne]) (fun r _ => ⟨by rw [q7], ARW.of q12 q13 q14 q15⟩) (fun w hw => ⟨q16.2 _ (Or.inl (by omega)), fun k _ => by rw [q17]⟩)⟩
    · have ei : i = (v 4).toNat := by omega
      subst ei
      have e10 : a2 10 (v 4).toNat = 0 := by rw [q5, va_up_self]
      refine ⟨_, by rw [← n22]; exact p1, _, s5, x, n, ⟨p5, m10, m12, m11⟩, ⟨if_neg m2, if_neg m3, if_neg m4, if_neg m5, if_neg m6⟩, ⟨?_, ?_⟩, ⟨by rw [e10]; exact m13, by rw [e10]; exact p6⟩, fun r hr => absurd hr (by rw [e10]; omega), CT.zero m13, fun w hw => Or.inl ⟨m14 w, ?_⟩⟩
      · rw [m7, q8, va_up_self]; exact hb.keep (fun j hj => p9 j (by omega))
      · rw [m8, q9, va_up_self]; exact hs.keep (fun j hj => p9 j (by omega))
      · rw [show 4 * (v 4).toNat + w = (4 * v 4).toNat + w by omega]; exact q16.1 w hw
  · obtain ⟨r1, r2, ch', r3, r4, r5⟩ := p12
    by_cases e : (k : Int) < iv (sk 23) 2
    · obtain ⟨ch, c1, c2⟩ := h.2 k e
      exact ⟨ch, (r2 k e).1.trans c1, c2.keepU (el23 hW hS (by omega) c1) hW hX hk ((r2 k e).2 ch c1).2 (fun j hj => stk_old q6 n23 e j hj) (by omega) (fun j hj => by rw [q5, va_up_ne _ _ (by omega)]; exact Int.le_refl _) (fun j hj => p9 j (by omega)) (fun j t hj ht => (hk.tb t (el22 hW hS (by omega) ht)).2.2.1) (fun j t q hj ht hq y hy _ => (hk.li q (ty4 hW (el22 hW hS (by omega) ht) hq) (fun e => e)).2 y (by rw [hT.sz hj ht hq]; exact hy))⟩
    · obtain ⟨z0, _, _, _⟩ := stk_new q6 n23 v19 e (by omega)
      exact ⟨ch', by rw [show k = (iv (sk 23) 2).toNat by omega]; exact r3, fun e3 => absurd (z0.symm.trans e3) (by decide), fun e3 => absurd (z0.symm.trans e3) (by decide)⟩
theorem rp_drop {i0 : Int} {P : Nat → Prop} {y : Option Nat} (h : RP2 o sk ln iv rv v a) (hT : TABR sk iv rv v a) (hW : WT g sk L cl ln iv rv) (hS : SKL sk L cl) (hX : XT L cl ln L2 cl2 ln2) (hk : KP L cl (fun _ => False) (fun _ => False) (fun _ => False) (fun _ => False) (fun _ _ => False) iv rv iv2 rv2) (hp : PTAB P (fun _ => True) sk iv rv iv2 rv2) (hps : PPSH 1 y sk iv rv iv2 rv2) (hq : TDRP i0 v a v2 a2) : RP2 o sk ln2 iv2 rv2 v2 a2 := by
  obtain ⟨p9, p10, p11⟩ := hp
  obtain ⟨q4, q5, q6, q7, q10, qs, q11, q8, q9, q12, q13, q14, q15, q16, q17⟩ := hq
  refine hv3 (hT.1) (hT.2.2.2.1) (hT.2.2.2.2.2.2) (fun n22 n23 v19 => ?_)
  refine ⟨fun i hi => ?_, fun k hk2 => ?_⟩
  · obtain ⟨t, e1, e2⟩ := h.1 i (by omega)
    exact ⟨t, (p9 i (by omega)).trans e1, e2.keep0 (el22 hW hS (by omega) e1) hW hX hk (fun j hj => p9 j (by omega)) (fun _ _ => rfl) (hT.r200 (by omega)).2 (by rw [q8]) (by rw [q9]) (by rw [q10]) (fun r _ => ⟨by rw [q11], ARW.of q12 q13 q14 q15⟩) (fun w _ => AIN.of q16 q17)⟩
  · obtain ⟨r1, r2, ch', r3, r4, r5⟩ := hps
    by_cases e : (k : Int) < iv (sk 23) 2
    · obtain ⟨ch, c1, c2⟩ := h.2 k e
      exact ⟨ch, (r2 k e).1.trans c1, c2.keepU (el23 hW hS (by omega) c1) hW hX hk ((r2 k e).2 ch c1).2 (fun j hj => stk_old qs n23 e j hj) (by omega) (fun j hj => by rw [q10]; exact Int.le_refl _) (fun j hj => p9 j (by omega)) (fun j t hj ht => (hk.tb t (el22 hW hS (by omega) ht)).2.2.1) (fun j t q hj ht hq y hy _ => (hk.li q (ty4 hW (el22 hW hS (by omega) ht) hq) (fun e => e)).2 y (by rw [hT.sz hj ht hq]; exact hy))⟩
    · obtain ⟨z0, _, _, _⟩ := stk_new qs n23 v19 e (by omega)
      exact ⟨ch', by rw [show k = (iv (sk 23) 2).toNat by omega]; exact r3, fun e3 => absurd (z0.symm.trans e3) (by decide), fun e3 => absurd (z0.symm.trans e3) (by decide)⟩
theorem lo8 {z : Int} {i : Nat} (h1 : 0 ≤ z) (h2 : z ≤ 255) (h8 : 8 ≤ i) : (iI z).toBitVec.getLsbD i = false := by
  obtain ⟨n, hn⟩ := Int.eq_ofNat_of_zero_le h1
  subst hn
  show (BitVec.ofInt 32 ((n : Nat) : Int)).getLsbD i = false
  rw [BitVec.ofInt_natCast, BitVec.getLsbD_ofNat]
  have lt : n < 2 ^ i := Nat.lt_of_lt_of_le (show n < 2 ^ 8 by omega) (Nat.pow_le_pow_right (by decide) h8)
  rw [Nat.testBit_lt_two_pow lt, Bool.and_false]
theorem pkb_bit (ss : Nat → Int) (b : Nat) : ∀ m : Nat, m ≤ 4 → (∀ k : Nat, k < m → 0 ≤ ss (b + k) ∧ ss (b + k) ≤ 255) → ∀ k : Nat, k < m → ∀ i : Nat, i < 8 → (iI (PKB ss b m)).toBitVec.getLsbD (8 * (m - 1 - k) + i) = (iI (ss (b + k))).toBitVec.getLsbD i := by
  intro m
  induction m with
  | zero => intro _ _ k hk; exact absurd hk (by omega)
  | succ n ih =>
    intro hm hs k hk i h8
    have e : (iI (PKB ss b (n + 1))).toBitVec = ((iI (PKB ss b n)).toBitVec <<< 8) ||| (iI (ss (b + n))).toBitVec := by
      show (iI ((iI (PKB ss b n) <<< (iI 8 &&& 31)) ||| iI (ss (b + n))).toInt).toBitVec = _
      rw [show iI ((iI (PKB ss b n) <<< (iI 8 &&& 31)) ||| iI (ss (b + n))).toInt = (iI (PKB ss b n) <<< (iI 8 &&& 31)) ||| iI (ss (b + n)) from Int32.ofInt_toInt _]
      rw [Int32.toBitVec_or]
      rfl
    rw [e, BitVec.getLsbD_or, BitVec.getLsbD_shiftLeft]
    by_cases ek : k = n
    · subst ek
      rw [show 8 * (k + 1 - 1 - k) + i = i by omega]
      simp [h8]
    · rw [lo8 (hs n (by omega)).1 (hs n (by omega)).2 (by omega), Bool.or_false]
      have := ih (by omega) (fun k hk => hs k (by omega)) k (by omega) i h8
      rw [show 8 * (n + 1 - 1 - k) + i - 8 = 8 * (n - 1 - k) + i by omega, this]
      have h1 : ¬ (8 * (n + 1 - 1 - k) + i < 8) := by omega
      have h2 : 8 * (n + 1 - 1 - k) + i < 32 := by omega
      simp [h1, h2]
      intro _
      omega
theorem upk_pkb (ss : Nat → Int) (b m k : Nat) (hm : m ≤ 4) (hs : ∀ k : Nat, k < m → 0 ≤ ss (b + k) ∧ ss (b + k) ≤ 255) (hk : k < m) : UPK (PKB ss b m) (m : Int) (k : Int) = ss (b + k) := by
  refine hv2 (pkb_bit ss b m hm hs k hk) (hs k hk) (fun pb hk4 => ?_)
  have e : ((iI (PKB ss b m) >>> (iI (8 * (((m : Int) - 1) - (k : Int))) &&& 31)) &&& iI 255) = iI (ss (b + k)) := by
    have es : (8 * (((m : Int) - 1) - (k : Int))) = ((8 * (m - 1 - k) : Nat) : Int) := by omega
    rw [es]
    have h24 : 8 * (m - 1 - k) ≤ 24 := by omega
    apply Int32.toBitVec_inj.mp
    have b2 : (iI (PKB ss b m) >>> (iI ((8 * (m - 1 - k) : Nat) : Int) &&& 31)).toBitVec = (iI (PKB ss b m)).toBitVec.sshiftRight (8 * (m - 1 - k)) := by
      have q : 8 * (m - 1 - k) = 0 ∨ 8 * (m - 1 - k) = 8 ∨ 8 * (m - 1 - k) = 16 ∨ 8 * (m - 1 - k) = 24 := by omega
      rcases q with q | q | q | q <;> rw [q] <;> rfl
    rw [Int32.toBitVec_and, b2]
    apply BitVec.eq_of_getLsbD_eq
    intro i hi
    rw [BitVec.getLsbD_and]
    by_cases h8 : i < 8
    · rw [BitVec.getLsbD_sshiftRight, ← pb i h8]
      have h1 : ¬ (32 ≤ i) := by omega
      have h2 : 8 * (m - 1 - k) + i < 32 := by omega
      have h3 : (iI 255).toBitVec.getLsbD i = true := by
        have : ∀ i : Nat, i < 8 → (iI 255).toBitVec.getLsbD i = true := by decide
        exact this i h8
      have h4 : (255#32 : BitVec 32).getLsbD i = true := by
        have : ∀ i : Nat, i < 8 → (255#32 : BitVec 32).getLsbD i = true := by decide
        exact this i h8
      simp [h1, h2, h3]
      intro _
      exact h4
    · rw [lo8 (z := 255) (by decide) (by decide) (by omega), Bool.and_false, lo8 hk4.1 hk4.2 (by omega)]
  unfold UPK
  rw [e, iI_int ⟨by omega, by omega⟩]
theorem rp_cond {i0 j x f : Int} (h : RP2 o sk ln iv rv v a) (hT : TABR sk iv rv v a) (hW : WT g sk L cl ln iv rv) (hS : SKL sk L cl) (hX : XT L cl ln L2 cl2 ln2) (ha : ALV sk iv rv i0 t) (h4 : rv t 4 = some q) (hw : el rv q j.toNat = some w) (hj : 0 ≤ j ∧ j < a 10 i0.toNat) (hf : f = iv w 3) (hk : KP L cl (fun b => b = w) (fun _ => False) (fun _ => False) (fun _ => False) (fun _ _ => False) iv rv iv2 rv2) (hx : iv2 w 3 = x) (hp : PTAB (fun _ => True) (fun _ => True) sk iv rv iv2 rv2) (hps : CS0 (iv (sk 23) 2) sk iv rv iv2 rv2) (h2 : PPS2 sk (some t) (some w) f iv iv2 rv2) (hq : TCND i0 j x v a v2 a2) : RP2 o sk ln2 iv2 rv2 v2 a2 := by
  obtain ⟨p9, p10, p11⟩ := hp
  obtain ⟨⟨q4, q5, q6, q7, q10, qs⟩, q11, q8, q9, q12, q13, q14, q15, q16, q17⟩ := hq
  refine hv6 ((hT.al ha).1) (hT.1) (hT.2.2.2.1) (hT.2.2.2.2.2.2) (ha.tt hW hS) ((ha.t4 hW hS h4).1) (fun hi0 n22 n23 v19 tt tq => ?_)
  obtain ⟨t', e1', e2'⟩ := h.1 i0.toNat (by omega)
  rw [ha.2.2.1] at e1'; cases e1'
  have ow : o w = 200 * i0.toNat + j.toNat ∧ iv w 3 = a 11 (200 * i0.toNat + j.toNat) := by
    obtain ⟨qq, _, _, _, ⟨f1, _⟩, _, _, _, rr, _⟩ := e2'
    rw [h4] at f1; cases f1
    obtain ⟨w', g1, g2, g3⟩ := rr j.toNat (by omega)
    rw [hw] at g1; cases g1
    exact ⟨g2, g3.1⟩
  have b0 := hT.r200 (i := i0.toNat) (by omega)
  have ix : (200 * i0 + j).toNat = 200 * i0.toNat + j.toNat := by omega
  refine ⟨fun i hi => ?_, fun k hk2 => ?_⟩
  · obtain ⟨u, e1, e2⟩ := h.1 i (by omega)
    have r2 := hT.r200 (i := i) (by omega)
    refine ⟨u, (p9 i (by omega)).trans e1, e2.keep (el22 hW hS (by omega) e1) hW hX hk (fun j hj => p9 j (by omega)) (fun _ _ => rfl) (fun _ e => e.elim) (fun _ e => e.elim) (fun _ e => e.elim) (by rw [q8]) (by rw [q9]) (by rw [q10]) r2.2 (fun qb r wb hqb hr hel tw o1 e3 => ?_) (fun r _ => ARW.of q12 q13 q14 q15) (fun n w _ tn _ hw hi => inds_keep hi tn hW hX hk (fun e => e) (AIN.of q16 q17))⟩
    rw [q11, ix]
    by_cases e : 200 * i + r = 200 * i0.toNat + j.toNat
    · have ei : i = i0.toNat := by omega
      have er : r = j.toNat := by omega
      rw [ei, ha.2.2.1] at e1; cases e1
      rw [h4] at hqb; cases hqb
      rw [er, hw] at hel; cases hel
      rw [e, va_up_self]; exact hx
    · rw [va_up_ne _ _ e, hk.rwc wb tw (fun ec => e (by rw [← o1, ec]; exact ow.1))]
      exact e3
  · obtain ⟨s1, ch', s2, s3, s4, s5⟩ := h2
    by_cases e : (k : Int) < iv (sk 23) 2
    · obtain ⟨ch, c1, c2⟩ := h.2 k e
      exact ⟨ch, (hps k e).1.trans c1, c2.keepU (el23 hW hS (by omega) c1) hW hX hk ((hps k e).2 ch c1).2 (fun j hj => stk_old qs n23 e j hj) (by omega) (fun j hj => by rw [q10]; exact Int.le_refl _) (fun j hj => p9 j (by omega)) (fun j t hj ht => (hk.tb t (el22 hW hS (by omega) ht)).2.2.1) (fun j t q hj ht hq y hy _ => (hk.li q (ty4 hW (el22 hW hS (by omega) ht) hq) (fun e => e)).2 y (by rw [hT.sz hj ht hq]; exact hy))⟩
    · obtain ⟨z0, z1, z2, z3⟩ := stk_new qs n23 v19 e (by omega)
      refine ⟨ch', by rw [show k = (iv (sk 23) 2).toNat by omega]; exact s2, fun _ => ?_, fun e4 => absurd (z0.symm.trans e4) (by decide)⟩
      rw [z1, z2, z3, q10, q4]
      refine ⟨⟨⟨by omega, by omega⟩, hj⟩, ⟨t, q, (p9 _ (by omega)).trans ha.2.2.1, (hk.tb t tt).2.2.1.trans h4, s4.trans ?_⟩, ?_⟩
      · rw [(hk.li q tq (fun e => e)).2 j.toNat (by rw [hT.sz (i := i0.toNat) (by omega) ha.2.2.1 h4]; omega)]; exact hw.symm
      · rw [s5, hf, ow.2, ix]
theorem rp_ind {i0 j : Int} (h : RP2 o sk ln iv rv v a) (hT : TABR sk iv rv v a) (hW : WT g sk L cl ln iv rv) (hS : SKL sk L cl) (hX : XT L cl ln L2 cl2 ln2) (hs2 : iv (sk 2) 2 = v 3) (hct : CT iv rv (sk 2) (a 2)) (hacl : ∀ k : Nat, (k : Int) < v 3 → 1 ≤ a 2 k ∧ a 2 k ≤ 255) (h34 : 0 ≤ v 3 ∧ v 3 ≤ 4) (ha : ALV sk iv rv i0 t) (h6 : rv t 6 = some n) (hj : 0 ≤ j ∧ j ≤ 3) (hk : KP L cl (fun _ => False) (fun _ => False) (fun _ => False) (fun _ => False) (fun b k => b = n ∧ k = j.toNat) iv rv iv2 rv2) (hd : IDD sk L2 cl2 ln2 iv rv iv2 rv2 n j) (hp : PTAB (fun _ => True) (fun _ => True) sk iv rv iv2 rv2) (hps : CS0 (iv (sk 23) 2) sk iv rv iv2 rv2) (h2 : PPS2 sk (some t) (rv n j.toNat) j iv iv2 rv2) (hq : TIND i0 j v a v2 a2) : RP2 o sk ln2 iv2 rv2 v2 a2 := by
  obtain ⟨p9, p10, p11⟩ := hp
  obtain ⟨⟨q4, q5, q6, q7, q10, qs⟩, q11, q8, q9, q12, q13, q14, q15, q16, q17⟩ := hq
  refine hv6 ((hT.al ha).1) (hT.1) (hT.2.2.2.1) (hT.2.2.2.2.2.2) (ha.tt hW hS) (ha.t6 hW hS h6) (fun hi0 n22 n23 v19 tt tn => ?_)
  obtain ⟨t', e1', e2'⟩ := h.1 i0.toNat (by omega)
  rw [ha.2.2.1] at e1'; cases e1'
  have on : o n = i0.toNat ∧ INDR ln iv rv (rv n j.toNat) (j.toNat : Int) (a 16 (4 * i0.toNat + j.toNat)) (fun k => a 17 (4 * (4 * i0.toNat + j.toNat) + k)) := by
    obtain ⟨_, _, _, nn, ⟨_, _, _, f1⟩, ⟨_, _, _, _, g⟩, _, _, _, _, hi⟩ := e2'
    rw [h6] at f1; cases f1
    exact ⟨g, hi j.toNat (by omega)⟩
  have ix : (4 * i0 + j).toNat = 4 * i0.toNat + j.toNat := by omega
  have ix4 : (4 * (4 * i0 + j)).toNat = 4 * (4 * i0.toNat + j.toNat) := by omega
  rw [ix] at q16
  rw [ix4] at q17
  have ain : ∀ i w : Nat, w < 4 → (i ≠ i0.toNat ∨ w ≠ j.toNat) → AIN a a2 (4 * i + w) := fun i w hw he => ⟨by rw [q16, va_up_ne _ _ (by omega)], fun k hk4 => q17.2 _ (by omega)⟩
  refine ⟨fun i hi => ?_, fun k hk2 => ?_⟩
  · obtain ⟨u, e1, e2⟩ := h.1 i (by omega)
    have r2 := hT.r200 (i := i) (by omega)
    refine ⟨u, (p9 i (by omega)).trans e1, e2.keep (el22 hW hS (by omega) e1) hW hX hk (fun j hj => p9 j (by omega)) (fun _ _ => rfl) (fun _ e => e.elim) (fun _ e => e.elim) (fun _ e => e.elim) (by rw [q8]) (by rw [q9]) (by rw [q10]) r2.2 (fun qb r wb hqb hr hel tw o1 e3 => by rw [hk.rwc wb tw (fun e => e), q11]; exact e3) (fun r _ => ARW.of q12 q13 q14 q15) (fun nb w hnb tnb onb hw hi => ?_)⟩
    by_cases e : i = i0.toNat ∧ w = j.toNat
    · obtain ⟨ei, ew⟩ := e
      rw [ei, ha.2.2.1] at e1; cases e1
      rw [h6] at hnb; cases hnb
      rw [ei, ew, q16, va_up_self]
      rcases hd with ⟨d1, d2⟩ | ⟨w', c, d1, ⟨d2, d3, d4⟩, d5, d6, d7, d8⟩
      · exact Or.inl ⟨d2, by omega⟩
      · refine Or.inr ⟨w', c, d1, ⟨by rw [d3.1]; omega, d3.2⟩, d4, by rw [d6]; omega, by omega, fun k hk3 => ?_⟩
        have g := q17.1 k (by omega)
        show _ = a2 17 (4 * (4 * i0.toNat + j.toNat) + k) ∧ _ ∧ _
        rw [d8 _ hct k hk3, g]
        exact ⟨rfl, (hacl k (by omega)).1, (hacl k (by omega)).2⟩
    · exact inds_keep hi tnb hW hX hk (fun eN => e ⟨by rw [← onb, eN.1]; exact on.1, eN.2⟩) (ain i w hw (by omega))
  · obtain ⟨s1, ch', s2, s3, s4, s5⟩ := h2
    by_cases e : (k : Int) < iv (sk 23) 2
    · obtain ⟨ch, c1, c2⟩ := h.2 k e
      exact ⟨ch, (hps k e).1.trans c1, c2.keepU (el23 hW hS (by omega) c1) hW hX hk ((hps k e).2 ch c1).2 (fun j hj => stk_old qs n23 e j hj) (by omega) (fun j hj => by rw [q10]; exact Int.le_refl _) (fun j hj => p9 j (by omega)) (fun j t hj ht => (hk.tb t (el22 hW hS (by omega) ht)).2.2.1) (fun j t q hj ht hq y hy _ => (hk.li q (ty4 hW (el22 hW hS (by omega) ht) hq) (fun e => e)).2 y (by rw [hT.sz hj ht hq]; exact hy))⟩
    · obtain ⟨z0, z1, z2, z3⟩ := stk_new qs n23 v19 e (by omega)
      refine ⟨ch', by rw [show k = (iv (sk 23) 2).toNat by omega]; exact s2, fun e4 => absurd (z0.symm.trans e4) (by decide), fun _ => ?_⟩
      rw [z1, z2, z3, q4]
      have m4 : (4 * i0 + j) / 4 = i0 := by omega
      have m5 : (4 * i0 + j) % 4 = j := by omega
      rw [m4, m5, s4]
      refine ⟨⟨by omega, by omega⟩, s3.trans ((p9 _ (by omega)).trans ha.2.2.1).symm, s5, ?_⟩
      have old := on.2
      rw [Int.toNat_of_nonneg hj.1] at old
      rw [ix, ix4]
      refine old.keep (fun b hb => ?_) hW hX hk (fun k hk3 hk4 => ?_)
      · rcases hW.opt tn j.toNat rfl rfl with e3 | ⟨c, e3, e5⟩
        · rw [e3.1] at hb; cases hb
        · rw [e3] at hb; cases hb; exact e5
      · rcases old with ⟨_, o1⟩ | ⟨b, c, o1, o2, o3, o4, o5, o6⟩
        · omega
        · have tb : ty L cl b 20 := by
            rcases hW.opt tn j.toNat rfl rfl with e3 | ⟨c, e3, e5⟩
            · rw [e3.1] at o1; cases o1
            · rw [e3] at o1; cases o1; exact e5
          obtain ⟨c', w2, tc⟩ := hW.ref tb 2 rfl rfl rfl
          rw [o3] at w2; cases w2
          have b2 : ln c ≤ 4 := (hW.len tc rfl).2
          have g := upk_pkb (a 17) (4 * (4 * i0.toNat + j.toNat)) (a 16 (4 * i0.toNat + j.toNat)).toNat k (by omega) (fun y hy => by
            have g1 := o6 y (by omega)
            refine hv2 (show iv c y = a 17 (4 * (4 * i0.toNat + j.toNat) + y) from g1.1) (g1.2) (fun g2 g3 => ?_)
            rw [← g2]; omega) (by omega)
          rw [Int.toNat_of_nonneg (by omega)] at g
          exact g
theorem CT.cgs {ss ss2 : Nat → Int} (h : CT iv rv q ss) (hs : ∀ j : Nat, (j : Int) < iv q 2 → ss2 j = ss j) : CT iv rv q ss2 := fun b hb j hj => (h b hb j hj).trans (hs j hj).symm
theorem rp_rule {i0 cnd m : Int} {l c : Nat} (h : RP2 o sk ln iv rv v a) (hT : TABR sk iv rv v a) (hW : WT g sk L cl ln iv rv) (hS : SKL sk L cl) (hX : XT L cl ln L2 cl2 ln2) (hW2 : WT g sk L2 cl2 ln2 iv2 rv2) (hs2 : iv (sk 2) 2 = v 3) (hct : CT iv rv (sk 2) (a 2)) (hm : 1 ≤ m ∧ m ≤ 8) (h3m : 1 ≤ v 3 - m ∧ v 3 - m ≤ 4) (hlt : ∀ k : Nat, (k : Int) < m → 33 ≤ a 2 k ∧ a 2 k ≤ 125) (hce : ∀ k : Nat, m ≤ (k : Int) → (k : Int) < v 3 → 1 ≤ a 2 k ∧ a 2 k ≤ 255) (h200 : a 10 i0.toNat < 200) (ha : ALV sk iv rv i0 t) (h4 : rv t 4 = some q) (h5 : rv t 5 = some s) (hx : rv s 1 = some x) (hk : KP L cl (fun _ => False) (fun b => b = q) (fun b => b = s) (fun b => b = x) (fun _ _ => False) iv rv iv2 rv2) (d1 : el rv2 q (iv q 2).toNat = some w) (d2 : iv2 q 2 = iv q 2 + 1) (d3 : ∀ r : Nat, (r : Int) < iv q 2 → el rv2 q r = el rv q r) (e1 : w ∉ L) (e2 : ty L2 cl2 w 20) (e3 : iv2 w 0 = 4) (e4 : iv2 w 3 = cnd) (e5 : rv2 w 1 = some l) (e6 : rv2 w 2 = some c) (f2 : ln2 l = m.toNat) (f3 : ∀ ss, CT iv rv (sk 2) ss → ∀ k : Nat, k < ln2 l → iv2 l k = ss k) (g2 : ln2 c = (iv (sk 2) 2 - m).toNat) (g3 : ∀ ss, CT iv rv (sk 2) ss → ∀ k : Nat, k < ln2 c → iv2 c k = ss (m.toNat + k)) (i1 : iv s 2 < 200 → iv2 s 2 = iv s 2 + 1) (i2 : ∀ x2, rv2 s 1 = some x2 → x2 = x ∨ x2 ∉ L) (i3 : ∀ ss, CT iv rv s ss → iv s 2 < 200 → ∀ tt, CT iv rv (sk 2) tt → CT iv2 rv2 s (va_up ss (iv s 2).toNat (tt 0))) (hp : PTAB (fun _ => True) (fun b => b ≠ q) sk iv rv iv2 rv2) {y : Option Nat} (hps : PPSH 2 y sk iv rv iv2 rv2) (hq : TRUL i0 cnd m v a v2 a2) : ∃ o2, RP2 o2 sk ln2 iv2 rv2 v2 a2 := by
  obtain ⟨p9, p10, p11⟩ := hp
  obtain ⟨q4, q5, q6, q7, q10, qs, q11, q8, q9, q16, q17, q12, q13, q14, q15⟩ := hq
  refine hv7 ((hT.al ha).1) (hT.1) (hT.2.2.2.1) (hT.2.2.2.2.2.2) (ha.tt hW hS) ((ha.t4 hW hS h4).1) (ha.t5 hW hS h5) (fun hi0 n22 n23 v19 tt tq ts => ?_)
  have b0 := hT.r200 (i := i0.toNat) (by omega)
  have zq := hT.sz (i := i0.toNat) (by omega) ha.2.2.1 h4
  obtain ⟨t', w1', w2'⟩ := h.1 i0.toNat (by omega)
  rw [ha.2.2.1] at w1'; cases w1'
  obtain ⟨qq, s9, x9, n6, ⟨g4, g5, gx, g6⟩, ⟨o1, o2', o3, o4, o5⟩, ⟨bs1, bs2⟩, ⟨z1, z2⟩, rr, ctt, ii⟩ := w2'
  rw [h4] at g4; cases g4
  rw [h5] at g5; cases g5
  rw [hx] at gx; cases gx
  have tn := ha.t6 hW hS g6
  have ix : (200 * i0 + a 10 i0.toNat).toNat = 200 * i0.toNat + (a 10 i0.toNat).toNat := by omega
  have ix8 : (8 * (200 * i0 + a 10 i0.toNat)).toNat = 8 * (200 * i0.toNat + (a 10 i0.toNat).toNat) := by omega
  have ix4 : (4 * (200 * i0 + a 10 i0.toNat)).toNat = 4 * (200 * i0.toNat + (a 10 i0.toNat).toNat) := by omega
  rw [ix] at q11 q12 q13
  rw [ix8] at q14
  rw [ix4] at q15
  refine hv3 (show ∀ i r : Nat, r < 200 → (i ≠ i0.toNat ∨ r ≠ (a 10 i0.toNat).toNat) → a2 11 (200 * i + r) = a 11 (200 * i + r) ∧ ARW a a2 (200 * i + r) from fun i r hr he => ⟨by rw [q11, va_up_ne _ _ (by omega)], by rw [q12, va_up_ne _ _ (by omega)], by rw [q13, va_up_ne _ _ (by omega)], fun k hk4 => q14.2 _ (by omega), fun k hk4 => q15.2 _ (by omega)⟩) (show ∀ i : Nat, i ≠ i0.toNat → a2 10 i = a 10 i from fun i hi => by rw [q10, va_up_ne _ _ hi]) (show a2 10 i0.toNat = a 10 i0.toNat + 1 from by rw [q10, va_up_self]) (fun arw a10 a10s => ?_)
  refine ⟨fun z => if z ∈ L then o z else if z = w then 200 * i0.toNat + (a 10 i0.toNat).toNat else i0.toNat, fun i hi => ?_, fun k hk2 => ?_⟩
  · by_cases ei : i = i0.toNat
    · subst ei
      obtain ⟨x2, wx1, wx2⟩ := hW2.ref (hX.ty ts) 1 rfl rfl rfl
      have ks := hk.tb t tt
      refine ⟨t, (p9 _ (by omega)).trans ha.2.2.1, q, s, x2, n6, ⟨ks.2.2.1.trans h4, ks.2.2.2.1.trans h5, wx1, ks.2.2.2.2.trans g6⟩, ⟨(if_pos tt.1).trans o1, (if_pos tq.1).trans o2', (if_pos ts.1).trans o3, ?_, (if_pos tn.1).trans o5⟩, ⟨by rw [ks.1, q8]; exact bs1.keep (fun j hj => p9 j (by omega)), by rw [ks.2.1, q9]; exact bs2.keep (fun j hj => p9 j (by omega))⟩, ⟨by rw [a10s, i1 (by omega)]; omega, by rw [a10s, d2]; omega⟩, fun r hr => ?_, ?_, fun w' hw' => inds_keep (ii w' hw') tn hW hX hk (fun e => e) (AIN.of q16 q17)⟩
      · show (if x2 ∈ L then o x2 else if x2 = w then 200 * i0.toNat + (a 10 i0.toNat).toNat else i0.toNat) = i0.toNat
        rcases i2 x2 wx1 with e | e
        · subst e
          rw [if_pos ((WT.ref hW ts 1 rfl rfl rfl).elim (fun b hb => by have := hb.1; rw [hx] at this; cases this; exact hb.2.1))]
          exact o4
        · rw [if_neg e, if_neg (ne_ty wx2 e2 (by decide))]
      · rw [a10s] at hr
        by_cases er : (r : Int) < a 10 i0.toNat
        · obtain ⟨w', k1, k2, k3⟩ := rr r er
          have tw := el26 hW tq (by omega) k1
          have ar := arw i0.toNat r (by omega) (Or.inr (by omega))
          exact ⟨w', (d3 r (by omega)).trans k1, (if_pos tw.1).trans k2, k3.keep tw hW hX hk (by rw [hk.rwc w' tw (fun e => e), ar.1]; exact k3.1) ar.2⟩
        · have er2 : r = (a 10 i0.toNat).toNat := by omega
          subst er2
          refine ⟨w, by rw [show (a 10 i0.toNat).toNat = (iv q 2).toNat by omega]; exact d1, (by show (if w ∈ L then o w else if w = w then 200 * i0.toNat + (a 10 i0.toNat).toNat else i0.toNat) = _; rw [if_neg e1, if_pos rfl]), by rw [e4, q11, va_up_self], e3, l, c, e5, e6, by rw [f2, q12, va_up_self]; omega, by rw [g2, q13, va_up_self]; omega, fun k hk3 => ?_, fun k hk3 => ?_⟩
          · have y1 := f3 _ hct k hk3
            have y2 := q14.1 k (by omega)
            rw [y1, y2]
            exact ⟨rfl, (hlt k (by omega)).1, (hlt k (by omega)).2⟩
          · have y1 := g3 _ hct k hk3
            have y2 := q15.1 k (by omega)
            rw [y1, y2]
            exact ⟨rfl, (hce (m.toNat + k) (by omega) (by omega)).1, (hce (m.toNat + k) (by omega) (by omega)).2⟩
      · refine (i3 _ ctt (by omega) _ hct).cgs (fun j hj => ?_)
        rw [i1 (by omega)] at hj
        by_cases er : j = (iv s 2).toNat
        · rw [er, va_up_self]
          have y2 := q14.1 0 (by omega)
          rw [show 8 * (200 * i0.toNat + (iv s 2).toNat) = 8 * (200 * i0.toNat + (a 10 i0.toNat).toNat) + 0 by omega, y2]
        · rw [va_up_ne _ _ er]
          exact (arw i0.toNat j (by omega) (Or.inr (by omega))).2.2.2.1 0 (by omega)
    · obtain ⟨u, k1, k2⟩ := h.1 i (by omega)
      have r2 := hT.r200 (i := i) (by omega)
      exact ⟨u, (p9 i (by omega)).trans k1, k2.keep (el22 hW hS (by omega) k1) hW hX hk (fun j hj => p9 j (by omega)) (fun z hz => if_pos hz) (fun b e => by rw [e, o2']; exact Ne.symm ei) (fun b e => by rw [e, o3]; exact Ne.symm ei) (fun b e => by rw [e, o4]; exact Ne.symm ei) (by rw [q8]) (by rw [q9]) (a10 i ei) r2.2 (fun qb r wb hqb hr hel tw ow e => by rw [hk.rwc wb tw (fun e => e), (arw i r (by omega) (Or.inl ei)).1]; exact e) (fun r hr => (arw i r hr (Or.inl ei)).2) (fun n w _ tn _ hw hi => inds_keep hi tn hW hX hk (fun e => e) (AIN.of q16 q17))⟩
  · obtain ⟨r1, r2, ch', r3, r4, r5⟩ := hps
    by_cases e : (k : Int) < iv (sk 23) 2
    · obtain ⟨ch, c1, c2⟩ := h.2 k e
      exact ⟨ch, (r2 k e).1.trans c1, c2.keepU (el23 hW hS (by omega) c1) hW hX hk ((r2 k e).2 ch c1).2 (fun j hj => stk_old qs n23 e j hj) (by omega) (fun j hj => by
        by_cases ej : j = i0.toNat
        · rw [ej, a10s]; omega
        · rw [a10 j ej]; exact Int.le_refl _) (fun j hj => p9 j (by omega)) (fun j t hj ht => (hk.tb t (el22 hW hS (by omega) ht)).2.2.1) (fun j t9 q9 hj ht hq y hy _ => by
        by_cases eq : q9 = q
        · subst eq; exact d3 y (by rw [hT.sz hj ht hq]; exact hy)
        · exact (hk.li q9 (ty4 hW (el22 hW hS (by omega) ht) hq) eq).2 y (by rw [hT.sz hj ht hq]; exact hy))⟩
    · obtain ⟨z0, _, _, _⟩ := stk_new qs n23 v19 e (by omega)
      exact ⟨ch', by rw [show k = (iv (sk 23) 2).toNat by omega]; exact r3, fun e3 => absurd (z0.symm.trans e3) (by decide), fun e3 => absurd (z0.symm.trans e3) (by decide)⟩
theorem stk_lt2 {s : Nat → Int} : ∀ (n : Nat) (T : Int) (R : Nat → Int), stk s n T R → ∀ k : Nat, k < n → (s (4 * k) = 3 → (0 ≤ s (4 * k + 1) ∧ s (4 * k + 1) < T) ∧ (0 ≤ s (4 * k + 2) ∧ s (4 * k + 2) < R (s (4 * k + 1)).toNat)) ∧ (s (4 * k) = 4 → 0 ≤ s (4 * k + 1) ∧ s (4 * k + 1) < 4 * T) := by
  intro n
  induction n with
  | zero => intro T R _ k hk; exact absurd hk (by omega)
  | succ n ih =>
    intro T R h k hk
    obtain ⟨T0, R0, he, hs⟩ := h
    by_cases e : k = n
    · subst e
      exact ⟨fun e3 => ⟨(he.e3 e3).1, (he.e3 e3).2.1⟩, fun e4 => (he.e4 (by omega)).2.1⟩
    · have q := ih T0 R0 hs k (by omega)
      have lt : T0 ≤ T ∧ ∀ j, R0 j ≤ R j := by
        rcases he with ⟨_, _, q3, q4⟩ | ⟨_, _, q3, q4⟩ | ⟨_, _, _, q3, q4⟩ | ⟨_, _, _, q3, q4⟩ | ⟨_, _, _, q3, q4⟩
        · exact ⟨by omega, fun j => by rw [q4]; exact Int.le_refl _⟩
        · exact ⟨by omega, fun j => by rw [q4]; exact Int.le_refl _⟩
        · refine ⟨by omega, fun j => ?_⟩
          have e9 : R0 j = if j = (s (4 * n + 1)).toNat then R j - 1 else R j := by rw [q4]
          rw [e9]
          split <;> omega
        · exact ⟨by omega, fun j => by rw [q4]; exact Int.le_refl _⟩
        · exact ⟨by omega, fun j => by rw [q4]; exact Int.le_refl _⟩
      refine ⟨fun e3 => ?_, fun e4 => ?_⟩
      · have g := q.1 e3
        have g2 := lt.2 (s (4 * k + 1)).toNat
        exact ⟨⟨g.1.1, by omega⟩, ⟨g.2.1, by omega⟩⟩
      · have g := q.2 e4
        exact ⟨g.1, by omega⟩
theorem STK.lt2 {ln : Nat → Nat} {v : Nat → Int} {a : Nat → Nat → Int} (h : STK ln v a) (k : Nat) (hk : 4 * (k : Int) < v 19) : (a 18 (4 * k) = 3 → (0 ≤ a 18 (4 * k + 1) ∧ a 18 (4 * k + 1) < v 4) ∧ (0 ≤ a 18 (4 * k + 2) ∧ a 18 (4 * k + 2) < a 10 (a 18 (4 * k + 1)).toNat)) ∧ (a 18 (4 * k) = 4 → 0 ≤ a 18 (4 * k + 1) ∧ a 18 (4 * k + 1) < 4 * v 4) := by
  obtain ⟨_, _, n, hn, hs⟩ := h
  exact stk_lt2 n _ _ hs k (by omega)
theorem CH2.e3 {K KA KB KC : Nat} (h : CH2 sk ln iv rv v a k ch) (k0 : 4 * k = K) (k1 : K + 1 = KA) (k2 : K + 2 = KB) (k3 : K + 3 = KC) (e : a 18 K = 3) : ((0 ≤ a 18 KA ∧ a 18 KA < v 4) ∧ 0 ≤ a 18 KB ∧ a 18 KB < a 10 (a 18 KA).toNat) ∧ (∃ t q, el rv (sk 22) (a 18 KA).toNat = some t ∧ rv t 4 = some q ∧ rv ch 2 = el rv q (a 18 KB).toNat) ∧ iv ch 3 = a 18 KC := by
  subst k0
  subst k1
  subst k2
  subst k3
  exact h.1 e
theorem CH2.e4 {K KA KB KC : Nat} (h : CH2 sk ln iv rv v a k ch) (k0 : 4 * k = K) (k1 : K + 1 = KA) (k2 : K + 2 = KB) (k3 : K + 3 = KC) (e : a 18 K = 4) : (0 ≤ a 18 KA ∧ a 18 KA < 4 * v 4) ∧ rv ch 1 = el rv (sk 22) (a 18 KA / 4).toNat ∧ iv ch 3 = a 18 KA % 4 ∧ INDR ln iv rv (rv ch 2) (a 18 KA % 4) (a 18 KB) (fun j => UPK (a 18 KC) (a 18 KB) (j : Int)) := by
  subst k0
  subst k1
  subst k2
  subst k3
  exact h.2 e
theorem rp_undo {lm lm2 : Nat → Nat} (h : RP2 o sk ln iv rv v a) (hT : TABR sk iv rv v a) (hW : WT g sk L cl ln iv rv) (hS : SKL sk L cl) (hX : XT L cl ln L2 cl2 ln2) (hSt : STK lm v a) (hSt2 : STK lm2 v2 a2) (h0 : v 19 ≠ 0) (hc : el rv (sk 23) (iv (sk 23) 2 - 1).toNat = some ch) (hp : PUND ch sk iv rv iv2 rv2) (hu : UKP L cl ch iv rv iv2 rv2) (hq : TUND v a v2 a2) : RP2 o sk ln2 iv2 rv2 v2 a2 := by
  obtain ⟨h4s, T0, R0, hent, _⟩ := STK.pop hSt h0
  obtain ⟨p1, p2, p3⟩ := hp
  obtain ⟨q19, q18, q6, q7, ⟨q8, q9, q12, q13, q14, q15⟩, q5⟩ := hq
  refine hv2 (hT.1) (hT.2.2.2.1) (fun n22 n23 => ?_)
  have tch := el23 hW hS (by omega) hc
  have k0 : 4 * (iv (sk 23) 2 - 1).toNat = (v 19 - 4).toNat := by omega
  have k1 : (v 19 - 4).toNat + 1 = (v 19 - 4 + 1).toNat := by omega
  have k2 : (v 19 - 4).toNat + 2 = (v 19 - 4 + 2).toNat := by omega
  have k3 : (v 19 - 4).toNat + 3 = (v 19 - 4 + 3).toNat := by omega
  obtain ⟨c', c1', c2', c3'⟩ := hT.2.2.2.2.1 (iv (sk 23) 2 - 1).toNat (by omega)
  rw [hc] at c1'; cases c1'
  rw [k0] at c2' c3'
  rw [k1] at c3'
  obtain ⟨c', d1', top⟩ := h.2 (iv (sk 23) 2 - 1).toNat (by omega)
  rw [hc] at d1'; cases d1'
  have hle : v2 4 ≤ v 4 := by rcases q5 with q | q | q | q | q <;> omega
  have stk2 : ∀ {C Q S X : Nat → Prop} {N : Nat → Nat → Prop}, KP L cl C Q S X N iv rv iv2 rv2 → (∀ j : Nat, (j : Int) < v2 4 → el rv2 (sk 22) j = el rv (sk 22) j) → (∀ j t q : Nat, (j : Int) < v2 4 → el rv (sk 22) j = some t → rv t 4 = some q → ∀ y : Nat, (y : Int) < a 10 j → (y : Int) < a2 10 j → el rv2 q y = el rv q y) → ∀ k : Nat, (k : Int) < iv2 (sk 23) 2 → ∃ ch, el rv2 (sk 23) k = some ch ∧ CH2 sk ln2 iv2 rv2 v2 a2 k ch := by
    intro C Q S X N hk he hel k hk2
    obtain ⟨c, c1, c2⟩ := h.2 k (by omega)
    have g := p2 k (by omega)
    have lt := hSt2.lt2 k (by omega)
    rw [q18] at lt
    exact ⟨c, g.1.trans c1, c2.keep (T := v2 4) (el23 hW hS (by omega) c1) hW hX hk (g.2 c c1).2 (fun j _ => by rw [q18]) (Int.le_refl _) hle (fun e => ⟨(lt.1 e).1.2, (lt.1 e).2.2⟩) (fun e => (lt.2 e).2) he (fun j t hj ht => (hk.tb t (el22 hW hS (by omega) ht)).2.2.1) hel⟩
  rcases q5 with ⟨w1, w2, w5, w10, w11, w16, w17⟩ | ⟨w1, w2, w5, w10, w11, w16, w17⟩ | ⟨w1, w2, w5, w10, w11, w16, w17⟩ | ⟨w1, w2, w5, w10, w11, w16, w17⟩ | ⟨w1, w2, w5, w10, w11, w16, w17⟩
  · have hk := hu.1 (by omega)
    obtain ⟨e1, _, _⟩ := hent.e0 w1
    have he : ∀ j : Nat, (j : Int) < v2 4 → el rv2 (sk 22) j = el rv (sk 22) j := by
      rcases p3 with ⟨d1, d2, d3, d4, d5⟩ | ⟨d1, _⟩ | ⟨d1, _⟩ | ⟨d1, _⟩
      · exact fun j hj => d3 j (by omega)
      · omega
      · omega
      · omega
    refine ⟨fun i hi => ?_, stk2 hk he (fun j t q hj ht hq y hy _ => (hk.li q (ty4 hW (el22 hW hS (by omega) ht) hq) (fun e => e)).2 y (by rw [hT.sz (by omega) ht hq]; exact hy))⟩
    obtain ⟨t, e1, e2⟩ := h.1 i (by omega)
    exact ⟨t, (he i hi).trans e1, e2.keep0 (el22 hW hS (by omega) e1) hW hX hk (fun j hj => he j (by omega)) (fun _ _ => rfl) (hT.r200 (by omega)).2 (by rw [q8]) (by rw [q9]) (by rw [w10]) (fun r _ => ⟨by rw [w11], ARW.of q12 q13 q14 q15⟩) (fun w _ => AIN.of w16 w17)⟩
  · have hk := hu.2.1 (by omega)
    have he : ∀ j : Nat, (j : Int) < v2 4 → el rv2 (sk 22) j = el rv (sk 22) j := by
      rcases p3 with ⟨d1, _⟩ | ⟨d1, t, d2, d3, ⟨d4, d5, d6⟩, d7⟩ | ⟨d1, _⟩ | ⟨d1, _⟩
      · omega
      · exact fun j hj => d4 j (by omega)
      · omega
      · omega
    refine ⟨fun i hi => ?_, stk2 hk he (fun j t q hj ht hq y hy _ => (hk.li q (ty4 hW (el22 hW hS (by omega) ht) hq) (fun e => e)).2 y (by rw [hT.sz (by omega) ht hq]; exact hy))⟩
    obtain ⟨t, e1, e2⟩ := h.1 i (by omega)
    exact ⟨t, (he i hi).trans e1, e2.keep0 (el22 hW hS (by omega) e1) hW hX hk (fun j hj => he j (by omega)) (fun _ _ => rfl) (hT.r200 (by omega)).2 (by rw [q8]) (by rw [q9]) (by rw [w10]) (fun r _ => ⟨by rw [w11], ARW.of q12 q13 q14 q15⟩) (fun w _ => AIN.of w16 w17)⟩
  · obtain ⟨x1, x2, _, _⟩ := hent.e2 w1
    rcases p3 with ⟨d1, _⟩ | ⟨d1, _⟩ | ⟨d1, t, q, d2, d8, d3, ⟨d4, d5, d6⟩, d7⟩ | ⟨d1, _⟩
    · omega
    · omega
    · have y3 : el rv (sk 22) (a 18 (v 19 - 4 + 1).toNat).toNat = some t := ((c3' (Or.inr w1)).2).symm.trans d2
      have tt := el22 hW hS (by omega) y3
      have tq := ty4 hW tt d8
      have zq := hT.sz (i := (a 18 (v 19 - 4 + 1).toNat).toNat) (by omega) y3 d8
      obtain ⟨t', e1', e2'⟩ := h.1 (a 18 (v 19 - 4 + 1).toNat).toNat (by omega)
      rw [y3] at e1'; cases e1'
      obtain ⟨qq, s, x, n6, ⟨g4, g5, gx, g6⟩, ⟨o1, o2', o3, o4, o5⟩, ⟨bs1, bs2⟩, ⟨z1, z2⟩, rr, ctt, ii⟩ := e2'
      rw [d8] at g4; cases g4
      obtain ⟨s', ws1, ts⟩ := hW.ref tt 5 rfl rfl rfl
      rw [g5] at ws1; cases ws1
      obtain ⟨n', wn1, tn⟩ := hW.ref tt 6 rfl rfl rfl
      rw [g6] at wn1; cases wn1
      obtain ⟨x', wx1, tx⟩ := hW.ref ts 1 rfl rfl rfl
      rw [gx] at wx1; cases wx1
      obtain ⟨hk, hel, hsz, hrv⟩ := hu.2.2.1 (by omega) t q s d2 d8 g5
      refine hv2 (show ∀ j : Nat, (j : Int) < v2 4 → el rv2 (sk 22) j = el rv (sk 22) j from fun j hj => d4 j (by omega)) (show a2 10 (a 18 (v 19 - 4 + 1).toNat).toNat = a 10 (a 18 (v 19 - 4 + 1).toNat).toNat - 1 from by rw [w10, va_up_self]) (fun he a10s => ?_)
      have b0 := hT.r200 (i := (a 18 (v 19 - 4 + 1).toNat).toNat) (by omega)
      have s2 := hsz (by omega)
      refine ⟨fun i hi => ?_, stk2 hk he (fun j t9 q9 hj ht hq y hy hy2 => ?_)⟩
      · by_cases ei : i = (a 18 (v 19 - 4 + 1).toNat).toNat
        · subst ei
          have ks := hk.tb t tt
          refine ⟨t, (he _ (by omega)).trans y3, q, s, x, n6, ⟨ks.2.2.1.trans d8, ks.2.2.2.1.trans g5, hrv.trans gx, ks.2.2.2.2.trans g6⟩, ⟨o1, o2', o3, o4, o5⟩, ⟨by rw [ks.1, q8]; exact bs1.keep (fun j hj => he j (by omega)), by rw [ks.2.1, q9]; exact bs2.keep (fun j hj => he j (by omega))⟩, ⟨by rw [a10s]; omega, by rw [a10s]; omega⟩, ?_, ?_, fun w' hw' => inds_keep (ii w' hw') tn hW hX hk (fun e => e) (AIN.of w16 w17)⟩
          · rw [a10s]
            exact rows_keep (z := a 10 (a 18 (v 19 - 4 + 1).toNat).toNat - 1) (fun r hr => rr r (by omega)) tq (by omega) (fun r hr => hel r (by omega)) hW hX hk (fun _ _ => rfl) (fun r w hz _ tw _ e => by rw [hk.rwc w tw (fun e => e), w11]; exact e) (fun r _ => ARW.of q12 q13 q14 q15)
          · exact ctt.kp ts hW hk hrv (by omega) (fun _ _ e => e) (fun j hj => by rw [q14])
        · obtain ⟨u, e1, e2⟩ := h.1 i (by omega)
          have r2 := hT.r200 (i := i) (by omega)
          exact ⟨u, (he i hi).trans e1, e2.keep (el22 hW hS (by omega) e1) hW hX hk (fun j hj => he j (by omega)) (fun _ _ => rfl) (fun b e => by rw [e, o2']; exact Ne.symm ei) (fun b e => by rw [e, o3]; exact Ne.symm ei) (fun _ e => e.elim) (by rw [q8]) (by rw [q9]) (by rw [w10, va_up_ne _ _ ei]) r2.2 (fun qb r wb _ _ _ tw _ e => by rw [hk.rwc wb tw (fun e => e), w11]; exact e) (fun r _ => ARW.of q12 q13 q14 q15) (fun n w _ tn _ hw hi => inds_keep hi tn hW hX hk (fun e => e) (AIN.of w16 w17))⟩
      · by_cases eq : q9 = q
        · subst eq
          have ej : j = (a 18 (v 19 - 4 + 1).toNat).toNat := hT.2.2.1 j (a 18 (v 19 - 4 + 1).toNat).toNat t9 t q9 (by omega) (by omega) ht y3 hq d8
          subst ej
          exact hel y (by omega)
        · exact (hk.li q9 (ty4 hW (el22 hW hS (by omega) ht) hq) eq).2 y (by rw [hT.sz (by omega) ht hq]; exact hy)
    · omega
  · obtain ⟨⟨y1, y2, y3⟩, ⟨t, q, e1t, e4q, e2w⟩, e3z⟩ := top.e3 k0 k1 k2 k3 w1
    have he : ∀ j : Nat, (j : Int) < v2 4 → el rv2 (sk 22) j = el rv (sk 22) j := by
      rcases p3 with ⟨d1, _⟩ | ⟨d1, _⟩ | ⟨d1, _⟩ | ⟨d1, d3, ⟨d4, d5, d6⟩⟩
      · omega
      · omega
      · omega
      · exact fun j hj => d4 j (by omega)
    obtain ⟨t', e1', e2'⟩ := h.1 (a 18 (v 19 - 4 + 1).toNat).toNat (by omega)
    rw [e1t] at e1'; cases e1'
    obtain ⟨qq, s, x, n6, ⟨g4, g5, gx, g6⟩, _, _, _, rr, _, _⟩ := e2'
    rw [e4q] at g4; cases g4
    obtain ⟨w, k1', k2', k3'⟩ := rr (a 18 (v 19 - 4 + 2).toNat).toNat (by omega)
    obtain ⟨hk, hx⟩ := hu.2.2.2.1 (by omega) w (e2w.trans k1')
    have b0 := hT.r200 (i := (a 18 (v 19 - 4 + 1).toNat).toNat) (by omega)
    have ix : (200 * a 18 (v 19 - 4 + 1).toNat + a 18 (v 19 - 4 + 2).toNat).toNat = 200 * (a 18 (v 19 - 4 + 1).toNat).toNat + (a 18 (v 19 - 4 + 2).toNat).toNat := by omega
    rw [ix] at w11
    refine ⟨fun i hi => ?_, stk2 hk he (fun j t q hj ht hq y hy _ => (hk.li q (ty4 hW (el22 hW hS (by omega) ht) hq) (fun e => e)).2 y (by rw [hT.sz (by omega) ht hq]; exact hy))⟩
    obtain ⟨u, e1, e2⟩ := h.1 i (by omega)
    have r2 := hT.r200 (i := i) (by omega)
    refine ⟨u, (he i hi).trans e1, e2.keep (el22 hW hS (by omega) e1) hW hX hk (fun j hj => he j (by omega)) (fun _ _ => rfl) (fun _ e => e.elim) (fun _ e => e.elim) (fun _ e => e.elim) (by rw [q8]) (by rw [q9]) (by rw [w10]) r2.2 (fun qb r wb hqb hr hel tw ow e3 => ?_) (fun r _ => ARW.of q12 q13 q14 q15) (fun n w _ tn _ hw hi => inds_keep hi tn hW hX hk (fun e => e) (AIN.of w16 w17))⟩
    rw [w11]
    by_cases e : 200 * i + r = 200 * (a 18 (v 19 - 4 + 1).toNat).toNat + (a 18 (v 19 - 4 + 2).toNat).toNat
    · have ei : i = (a 18 (v 19 - 4 + 1).toNat).toNat := by omega
      have er : r = (a 18 (v 19 - 4 + 2).toNat).toNat := by omega
      rw [ei, e1t] at e1; cases e1
      rw [e4q] at hqb; cases hqb
      rw [er, k1'] at hel; cases hel
      rw [e, va_up_self, hx]; exact e3z
    · rw [va_up_ne _ _ e, hk.rwc wb tw (fun ec => e (by rw [← ow, ec]; exact k2'))]
      exact e3
  · obtain ⟨y1, e1t, e3z, ind⟩ := top.e4 k0 k1 k2 k3 w1
    have he : ∀ j : Nat, (j : Int) < v2 4 → el rv2 (sk 22) j = el rv (sk 22) j := by
      rcases p3 with ⟨d1, _⟩ | ⟨d1, _⟩ | ⟨d1, _⟩ | ⟨d1, d3, ⟨d4, d5, d6⟩⟩
      · omega
      · omega
      · omega
      · exact fun j hj => d4 j (by omega)
    obtain ⟨t, e1', e2'⟩ := h.1 (a 18 (v 19 - 4 + 1).toNat / 4).toNat (by omega)
    have tt := el22 hW hS (by omega) e1'
    obtain ⟨qq, s, x, n6, ⟨g4, g5, gx, g6⟩, ⟨o1, o2', o3, o4, o5⟩, _, _, _, _, _⟩ := e2'
    obtain ⟨n', wn1, tn⟩ := hW.ref tt 6 rfl rfl rfl
    rw [g6] at wn1; cases wn1
    obtain ⟨hk, hx⟩ := hu.2.2.2.2 (by omega) (by omega) t n6 (e1t.trans e1') g6
    have m5 : (iv ch 3).toNat = (a 18 (v 19 - 4 + 1).toNat).toNat % 4 := by omega
    rw [m5] at hk hx
    have ix : (a 18 (v 19 - 4 + 1).toNat).toNat = 4 * (a 18 (v 19 - 4 + 1).toNat / 4).toNat + (a 18 (v 19 - 4 + 1).toNat).toNat % 4 := by omega
    have ix4 : (4 * a 18 (v 19 - 4 + 1).toNat).toNat = 4 * (a 18 (v 19 - 4 + 1).toNat).toNat := by omega
    rw [ix4] at w17
    have ain : ∀ i w : Nat, w < 4 → 4 * i + w ≠ (a 18 (v 19 - 4 + 1).toNat).toNat → AIN a a2 (4 * i + w) := fun i w hw hne => ⟨by rw [w16, va_up_ne _ _ hne], fun k hk4 => w17.2 _ (by omega)⟩
    refine ⟨fun i hi => ?_, stk2 hk he (fun j t q hj ht hq y hy _ => (hk.li q (ty4 hW (el22 hW hS (by omega) ht) hq) (fun e => e)).2 y (by rw [hT.sz (by omega) ht hq]; exact hy))⟩
    obtain ⟨u, e1, e2⟩ := h.1 i (by omega)
    have r2 := hT.r200 (i := i) (by omega)
    refine ⟨u, (he i hi).trans e1, e2.keep (el22 hW hS (by omega) e1) hW hX hk (fun j hj => he j (by omega)) (fun _ _ => rfl) (fun _ e => e.elim) (fun _ e => e.elim) (fun _ e => e.elim) (by rw [q8]) (by rw [q9]) (by rw [w10]) r2.2 (fun qb r wb _ _ _ tw _ e => by rw [hk.rwc wb tw (fun e => e), w11]; exact e) (fun r _ => ARW.of q12 q13 q14 q15) (fun nb w hnb tnb onb hw hi => ?_)⟩
    by_cases e : 4 * i + w = (a 18 (v 19 - 4 + 1).toNat).toNat
    · have ei : i = (a 18 (v 19 - 4 + 1).toNat / 4).toNat := by omega
      have ew : w = (a 18 (v 19 - 4 + 1).toNat).toNat % 4 := by omega
      rw [ei, e1'] at e1; cases e1
      rw [g6] at hnb; cases hnb
      rw [e, w16, va_up_self, ew, hx]
      have ind2 := ind
      rw [show a 18 (v 19 - 4 + 1).toNat % 4 = (((a 18 (v 19 - 4 + 1).toNat).toNat % 4 : Nat) : Int) by omega] at ind2
      refine ind2.keep (fun b hb => ?_) hW hX hk (fun k hk3 hk4 => w17.1 k (by omega))
      rcases hW.opt tch 2 rfl rfl with f1 | ⟨c, f1, f2⟩
      · rw [f1.1] at hb; cases hb
      · rw [f1] at hb; cases hb; exact f2
    · exact inds_keep hi tnb hW hX hk (fun eN => e (by have f1 : i = (a 18 (v 19 - 4 + 1).toNat / 4).toNat := by rw [← onb, eN.1]; exact o5
                                                       have f2 := eN.2
                                                       omega)) (ain i w hw e)
end REPS
section RPB
variable {sk : Nat → Nat} {L L2 : List Nat} {cl ln cl2 ln2 : Nat → Nat} {iv iv2 : Nat → Nat → Int} {rv rv2 : Nat → Nat → Option Nat} {v v2 : Nat → Int} {a a2 : Nat → Nat → Int} {i j x y n r f1 f2 : Int}
theorem rps_same (hr : TABR sk iv rv v a ∧ ∃ o, RP2 o sk ln iv rv v a) (hp : PSAME sk iv rv iv2 rv2 ∧ (∃ g, WT g sk L cl ln iv rv ∧ WT g sk L2 cl2 ln2 iv2 rv2) ∧ SKL sk L cl ∧ XT L cl ln L2 cl2 ln2 ∧ (KP L cl (fun _ => False) (fun _ => False) (fun _ => False) (fun _ => False) (fun _ _ => False) iv rv iv2 rv2)) (hq : TSAME v a v2 a2) : ∃ o, RP2 o sk ln2 iv2 rv2 v2 a2 := by
  obtain ⟨hT, o, h⟩ := hr
  obtain ⟨p, ⟨g, hW, _⟩, hS, hX, hk⟩ := hp
  exact ⟨o, rp_same h hT hW hS hX hk p hq⟩
theorem tbl_rp (hT : TABR sk iv rv v a) (hr : ∃ o, RP2 o sk ln iv rv v a) (hp : PTBL x y i f1 sk iv rv iv2 rv2) (hk : (∃ g, WT g sk L cl ln iv rv ∧ WT g sk L2 cl2 ln2 iv2 rv2) ∧ SKL sk L cl ∧ XT L cl ln L2 cl2 ln2 ∧ ((f1 = -1 ∧ KP L cl (fun _ => False) (fun _ => False) (fun _ => False) (fun _ => False) (fun _ _ => False) iv rv iv2 rv2) ∨ (f1 ≠ -1 ∧ KP L cl (fun _ => False) (fun _ => False) (fun _ => False) (fun _ => False) (fun _ _ => False) iv rv iv2 rv2 ∧ ∃ b, (((x < 1 ∨ 3 < x) ∧ b = none) ∨ ((1 ≤ x ∧ x ≤ 3) ∧ ∃ t, ALV sk iv rv i t ∧ b = some t)) ∧ KNW L sk b none iv iv2 rv2))) (hq : ((f2 = -1 ∧ TSAME v a v2 a2 ∧ ¬ (0 ≤ x ∧ x ≤ 4 ∧ (y = 6 ∨ y = 8) ∧ v 4 ≠ 30 ∧ (x < 1 ∨ 3 < x ∨ (0 ≤ i ∧ i < v 4 ∧ a 5 i.toNat = 1 ∧ a 6 i.toNat ≤ 3)))) ∨ (f2 = v 4 ∧ (0 ≤ x ∧ x ≤ 4 ∧ (y = 6 ∨ y = 8) ∧ v 4 ≠ 30 ∧ (x < 1 ∨ 3 < x ∨ (0 ≤ i ∧ i < v 4 ∧ a 5 i.toNat = 1 ∧ a 6 i.toNat ≤ 3))) ∧ TNEW x y (if x < 1 ∨ 3 < x then -1 else i) (-1) v a v2 a2))) : ∃ o, RP2 o sk ln2 iv2 rv2 v2 a2 := by
  have fe := (tbl_both hT hp hq).1
  obtain ⟨o, h⟩ := hr
  obtain ⟨⟨g, hW, hW2⟩, hS, hX, kb⟩ := hk
  refine hv2 (hT.2.2.2.2.2.1) (hT.1) (fun v0 n22 => ?_)
  rcases hp with ⟨p1, p2, -⟩ | ⟨p1, -, p3⟩
  · rcases kb with ⟨_, k2⟩ | ⟨k1, -⟩
    · rcases hq with ⟨q1, q2, -⟩ | ⟨q1, -⟩
      · exact ⟨o, rp_same h hT hW hS hX k2 p2 q2⟩
      · omega
    · clear hq; omega
  · rcases kb with ⟨k1, -⟩ | ⟨_, k2, b, k3, k4⟩
    · clear hq; omega
    · rcases hq with ⟨q1, -⟩ | ⟨q1, -, q3⟩
      · omega
      · refine rp_new h hT hW hS hX k2 p3 k4 q3 ?_ (Or.inl ⟨rfl, rfl⟩)
        rcases k3 with ⟨k5, k6⟩ | ⟨k5, t, k6, k7⟩
        · rw [k6, if_pos k5]; exact Or.inl ⟨rfl, rfl⟩
        · have w := (hT.al k6).1
          rw [k7, if_neg (by omega)]; exact Or.inr ⟨w.1, by omega, k6.2.2.1.symm⟩
theorem joi_rp (hT : TABR sk iv rv v a) (hr : ∃ o, RP2 o sk ln iv rv v a) (hp : PJOI i j f1 sk iv rv iv2 rv2) (hk : (∃ g, WT g sk L cl ln iv rv ∧ WT g sk L2 cl2 ln2 iv2 rv2) ∧ SKL sk L cl ∧ XT L cl ln L2 cl2 ln2 ∧ ((f1 = -1 ∧ KP L cl (fun _ => False) (fun _ => False) (fun _ => False) (fun _ => False) (fun _ _ => False) iv rv iv2 rv2) ∨ (f1 ≠ -1 ∧ KP L cl (fun _ => False) (fun _ => False) (fun _ => False) (fun _ => False) (fun _ _ => False) iv rv iv2 rv2 ∧ ∃ t u, ALV sk iv rv i t ∧ ALV sk iv rv j u ∧ KNW L sk (some t) (some u) iv iv2 rv2))) (hq : ((f2 = -1 ∧ TSAME v a v2 a2 ∧ ¬ (0 ≤ i ∧ i < v 4 ∧ a 5 i.toNat = 1 ∧ a 6 i.toNat ≤ 3 ∧ 0 ≤ j ∧ j < v 4 ∧ a 5 j.toNat = 1 ∧ a 6 j.toNat ≤ 3 ∧ v 4 ≠ 30)) ∨ (f2 = v 4 ∧ (0 ≤ i ∧ i < v 4 ∧ a 5 i.toNat = 1 ∧ a 6 i.toNat ≤ 3 ∧ 0 ≤ j ∧ j < v 4 ∧ a 5 j.toNat = 1 ∧ a 6 j.toNat ≤ 3 ∧ v 4 ≠ 30) ∧ TNEW 5 (max (a 7 i.toNat) (a 7 j.toNat)) i j v a v2 a2))) : ∃ o, RP2 o sk ln2 iv2 rv2 v2 a2 := by
  have fe := (joi_both hT hp hq).1
  obtain ⟨o, h⟩ := hr
  obtain ⟨⟨g, hW, hW2⟩, hS, hX, kb⟩ := hk
  refine hv2 (hT.2.2.2.2.2.1) (hT.1) (fun v0 n22 => ?_)
  rcases hp with ⟨p1, p2, -⟩ | ⟨p1, p2, t, u, ⟨ht, -⟩, ⟨hu, -⟩, p3⟩
  · rcases kb with ⟨_, k2⟩ | ⟨k1, -⟩
    · rcases hq with ⟨q1, q2, -⟩ | ⟨q1, -⟩
      · exact ⟨o, rp_same h hT hW hS hX k2 p2 q2⟩
      · omega
    · clear hq; omega
  · rcases kb with ⟨k1, -⟩ | ⟨_, k2, t', u', k3, k4, k5⟩
    · clear hq; omega
    · rcases hq with ⟨q1, -⟩ | ⟨q1, -, q3⟩
      · omega
      · have e1 := k3.uni ht
        have e2 := k4.uni hu
        subst e1
        subst e2
        refine hv2 ((hT.al ht).1) ((hT.al hu).1) (fun w w2 => ?_)
        rw [(hT.al ht).2.2.1, (hT.al hu).2.2.1] at p3
        exact rp_new h hT hW hS hX k2 p3 k5 q3 (Or.inr ⟨w.1, by omega, ht.2.2.1.symm⟩) (Or.inr ⟨w2.1, by omega, hu.2.2.1.symm⟩)
theorem drp_rp (hT : TABR sk iv rv v a) (hr : ∃ o, RP2 o sk ln iv rv v a) (hp : PDRP i f1 sk iv rv iv2 rv2) (hk : (∃ g, WT g sk L cl ln iv rv ∧ WT g sk L2 cl2 ln2 iv2 rv2) ∧ SKL sk L cl ∧ XT L cl ln L2 cl2 ln2 ∧ (KP L cl (fun _ => False) (fun _ => False) (fun _ => False) (fun _ => False) (fun _ _ => False) iv rv iv2 rv2)) (hq : ((f2 = -1 ∧ TSAME v a v2 a2 ∧ ¬ (0 ≤ i ∧ i < v 4 ∧ a 5 i.toNat = 1)) ∨ (f2 = 1 ∧ (0 ≤ i ∧ i < v 4 ∧ a 5 i.toNat = 1) ∧ TDRP i v a v2 a2))) : ∃ o, RP2 o sk ln2 iv2 rv2 v2 a2 := by
  have fe := (drp_both hT hp hq).1
  obtain ⟨o, h⟩ := hr
  obtain ⟨⟨g, hW, hW2⟩, hS, hX, kb⟩ := hk
  rcases hp with ⟨p1, p2, -⟩ | ⟨p1, t, -, -, p3, -, p5⟩
  · rcases hq with ⟨q1, q2, -⟩ | ⟨q1, -⟩
    · exact ⟨o, rp_same h hT hW hS hX kb p2 q2⟩
    · omega
  · rcases hq with ⟨q1, -⟩ | ⟨q1, -, q3⟩
    · omega
    · exact ⟨o, rp_drop h hT hW hS hX kb p3 p5 q3⟩
theorem rul_rp (hT : TABR sk iv rv v a) (hr : ∃ o, RP2 o sk ln iv rv v a) (hs : iv (sk 2) 2 = v 3) (hc : CT iv rv (sk 2) (a 2)) (hp : PRUL i x n f1 sk iv rv iv2 rv2) (hk : (∃ g, WT g sk L cl ln iv rv ∧ WT g sk L2 cl2 ln2 iv2 rv2) ∧ SKL sk L cl ∧ XT L cl ln L2 cl2 ln2 ∧ (KRU L cl sk iv rv L2 cl2 ln2 iv2 rv2 i x n f1)) (hq : ((f2 = -1 ∧ TSAME v a v2 a2 ∧ ¬ ((0 ≤ i ∧ i < v 4 ∧ a 5 i.toNat = 1 ∧ a 6 i.toNat ≠ 5 ∧ 0 ≤ x ∧ x ≤ 5 ∧ 1 ≤ n ∧ n ≤ 8 ∧ 1 ≤ v 3 - n ∧ v 3 - n ≤ 4 ∧ a 10 i.toNat ≠ 200) ∧ ACL (a 2) n (v 3 - n) (DC (a 7 i.toNat)) ∧ LTK (a 2) n)) ∨ (f2 = a 10 i.toNat ∧ ((0 ≤ i ∧ i < v 4 ∧ a 5 i.toNat = 1 ∧ a 6 i.toNat ≠ 5 ∧ 0 ≤ x ∧ x ≤ 5 ∧ 1 ≤ n ∧ n ≤ 8 ∧ 1 ≤ v 3 - n ∧ v 3 - n ≤ 4 ∧ a 10 i.toNat ≠ 200) ∧ ACL (a 2) n (v 3 - n) (DC (a 7 i.toNat)) ∧ LTK (a 2) n) ∧ TRUL i x n v a v2 a2))) : ∃ o, RP2 o sk ln2 iv2 rv2 v2 a2 := by
  have fe := (rul_both hT hs hc hp hq).1
  obtain ⟨o, h⟩ := hr
  obtain ⟨⟨g, hW, hW2⟩, hS, hX, kb⟩ := hk
  rcases hp with ⟨p1, p2, -⟩ | ⟨t, q, ht, h4, p1, p2, p3, p4, p5, p6⟩
  · rcases kb with ⟨_, k2⟩ | ⟨t, q, s, x5, w, l, c, ⟨c1, c2, c3, c4, c5⟩, -⟩
    · rcases hq with ⟨q1, q2, -⟩ | ⟨q1, ⟨q2, -⟩, -⟩
      · exact ⟨o, rp_same h hT hW hS hX k2 p2 q2⟩
      · have b := hT.r200 (i := i.toNat) (by omega)
        omega
    · have b := (c1.t4 hW hS c2).2
      clear hq; omega
  · have b := (ht.t4 hW hS h4).2
    obtain ⟨w1, w2, w3, w4, q', w5, w6⟩ := hT.al ht
    rw [h4] at w5; cases w5
    obtain ⟨⟨r1, r2, r3, r4, r5, r6, r7, r8⟩, r9, r10⟩ := p2 (a 2) hc w4
    rcases kb with ⟨k1, -⟩ | ⟨t', q', s, x5, w, l, c, ⟨c1, c2, c3, c4, c5⟩, k, ⟨d1, d2, d3⟩, ⟨e1, e2, e3, e4, e5, e6⟩, ⟨f1', f2', f3'⟩, ⟨g1, g2, g3⟩, ⟨i1, i2, i3⟩⟩
    · clear hq; omega
    · have e := c1.uni ht
      subst e
      rw [h4] at c2; cases c2
      rcases hq with ⟨q1, -⟩ | ⟨q1, -, q3⟩
      · omega
      · exact rp_rule h hT hW hS hX hW2 hs hc ⟨r4, r5⟩ (by omega) (fun k hk => r10 k hk) (fun k h1 h2 => by
          refine hv2 (r9 k h1 (by omega)) (dcf (iv t' 1)) (fun b1 b2 => ?_)
          exact ⟨b1.1, by omega⟩) (by omega) ht h4 c3 c4 k d1 d2 d3 e1 e2 e3 e4 e5 e6 f2' f3' g2 g3 i1 i2 i3 p4 p6 q3
theorem cnd_rp (hT : TABR sk iv rv v a) (hr : ∃ o, RP2 o sk ln iv rv v a) (hp : PCND i r x f1 sk iv rv iv2 rv2) (hk : (∃ g, WT g sk L cl ln iv rv ∧ WT g sk L2 cl2 ln2 iv2 rv2) ∧ SKL sk L cl ∧ XT L cl ln L2 cl2 ln2 ∧ (KCN L cl sk iv rv iv2 rv2 i r x f1)) (hq : ((f2 = -1 ∧ TSAME v a v2 a2 ∧ ¬ (0 ≤ i ∧ i < v 4 ∧ a 5 i.toNat = 1 ∧ a 6 i.toNat ≠ 5 ∧ 0 ≤ r ∧ r < a 10 i.toNat ∧ 0 ≤ x ∧ x ≤ 5)) ∨ (f2 = a 11 (200 * i + r).toNat ∧ (0 ≤ i ∧ i < v 4 ∧ a 5 i.toNat = 1 ∧ a 6 i.toNat ≠ 5 ∧ 0 ≤ r ∧ r < a 10 i.toNat ∧ 0 ≤ x ∧ x ≤ 5) ∧ TCND i r x v a v2 a2))) : f1 = f2 ∧ ∃ o, RP2 o sk ln2 iv2 rv2 v2 a2 := by
  obtain ⟨o, h⟩ := hr
  obtain ⟨⟨g, hW, hW2⟩, hS, hX, kb⟩ := hk
  rcases hp with ⟨p1, p2, p3⟩ | ⟨t, q, ht, h4, p1, p3, p4, p6⟩
  · rcases hq with ⟨q1, q2, -⟩ | ⟨q1, q2, -⟩
    · rcases kb with ⟨_, k2, _⟩ | ⟨t, q, w, ⟨c1, c2, c3, c4⟩, k, k2, k3⟩
      · exact ⟨by omega, o, rp_same h hT hW hS hX k2 p2 q2⟩
      · exfalso
        obtain ⟨s1, -⟩ := k3
        have e1 := p2.2.1
        omega
    · exfalso
      obtain ⟨t, ht⟩ := hT.la (i := i) (by omega) (by omega) (by omega)
      obtain ⟨w1, w2, w3, w4, q, w5, w6⟩ := hT.al ht
      exact p3 t q ht w5 ⟨by omega, by omega, by omega, by omega, by omega⟩
  · obtain ⟨w1, w2, w3, w4, q', w5, w6⟩ := hT.al ht
    rw [h4] at w5; cases w5
    rcases hq with ⟨q1, q2, q3⟩ | ⟨q1, q2, q3⟩
    · exact absurd ⟨w1.1, w1.2.1, w1.2.2, by omega, by omega, by omega, by omega, by omega⟩ q3
    · rcases kb with ⟨k1, k2, k4⟩ | ⟨t', q', w, ⟨c1, c2, c3, c4⟩, k, k2, k3⟩
      · exfalso
        have e1 := p6.1
        omega
      · have e := c1.uni ht
        subst e
        rw [h4] at c2; cases c2
        refine ⟨?_, o, rp_cond h hT hW hS hX ht h4 c3 ⟨by omega, by omega⟩ c4 k k2 p4 p6.2.1 k3 q3⟩
        obtain ⟨t2, e1', e2'⟩ := h.1 i.toNat (by omega)
        rw [ht.2.2.1] at e1'; cases e1'
        obtain ⟨qq, _, _, _, ⟨g1, _⟩, _, _, _, rr, _⟩ := e2'
        rw [h4] at g1; cases g1
        obtain ⟨w', k1', k2', k3'⟩ := rr r.toNat (by omega)
        rw [c3] at k1'; cases k1'
        rw [c4, q1, k3'.1]
        exact congrArg (a 11) (by omega)
theorem ind_rp (hT : TABR sk iv rv v a) (hr : ∃ o, RP2 o sk ln iv rv v a) (hs : iv (sk 2) 2 = v 3) (hc : CT iv rv (sk 2) (a 2)) (hp : PIND i x f1 sk iv rv iv2 rv2) (hk : (∃ g, WT g sk L cl ln iv rv ∧ WT g sk L2 cl2 ln2 iv2 rv2) ∧ SKL sk L cl ∧ XT L cl ln L2 cl2 ln2 ∧ (KIN L cl sk iv rv L2 cl2 ln2 iv2 rv2 i x f1)) (hq : ((f2 = -1 ∧ TSAME v a v2 a2 ∧ ¬ ((0 ≤ x ∧ x ≤ 3 ∧ 0 ≤ i ∧ i < v 4 ∧ a 5 i.toNat = 1 ∧ ((x = 0 ∧ a 6 i.toNat ≤ 2) ∨ (x = 1 ∧ a 6 i.toNat = 2) ∨ (x ≠ 0 ∧ x ≠ 1 ∧ a 6 i.toNat = 5)) ∧ v 3 ≤ 4) ∧ ACL (a 2) 0 (v 3) (DC (a 7 i.toNat)) ∧ True)) ∨ (f2 = v 3 ∧ ((0 ≤ x ∧ x ≤ 3 ∧ 0 ≤ i ∧ i < v 4 ∧ a 5 i.toNat = 1 ∧ ((x = 0 ∧ a 6 i.toNat ≤ 2) ∨ (x = 1 ∧ a 6 i.toNat = 2) ∨ (x ≠ 0 ∧ x ≠ 1 ∧ a 6 i.toNat = 5)) ∧ v 3 ≤ 4) ∧ ACL (a 2) 0 (v 3) (DC (a 7 i.toNat)) ∧ True) ∧ TIND i x v a v2 a2))) : ∃ o, RP2 o sk ln2 iv2 rv2 v2 a2 := by
  have fe := (ind_both hT hs hc hp hq).1
  obtain ⟨o, h⟩ := hr
  obtain ⟨⟨g, hW, hW2⟩, hS, hX, kb⟩ := hk
  have z2 : 0 ≤ iv (sk 2) 2 := (hW.int (show ty L cl (sk 2) 2 from ⟨(hS 2 rfl).1, by rw [(hS 2 rfl).2]; rfl⟩) 2).1
  rcases hp with ⟨p1, p2, -⟩ | ⟨p1, t, ht, p2, p3, p4, p6⟩
  · rcases kb with ⟨_, k2⟩ | ⟨t, n6, ⟨c1, c2, c3⟩, -⟩
    · rcases hq with ⟨q1, q2, -⟩ | ⟨q1, -⟩
      · exact ⟨o, rp_same h hT hW hS hX k2 p2 q2⟩
      · omega
    · clear hq; omega
  · obtain ⟨w1, w2, w3, w4, q', w5, w6⟩ := hT.al ht
    obtain ⟨⟨r1, r2, r3, r4⟩, r9⟩ := p2 (a 2) hc w4
    rcases kb with ⟨k1, -⟩ | ⟨t', n6, ⟨c1, c2, c3⟩, k, k2, k3⟩
    · clear hq; omega
    · have e := c1.uni ht
      subst e
      have k2i : IDD sk L2 cl2 ln2 iv rv iv2 rv2 n6 x := k2
      clear k2
      rcases hq with ⟨q1, -⟩ | ⟨q1, -, q3⟩
      · omega
      · exact ⟨o, rp_ind h hT hW hS hX hs hc (fun k hk => by
          refine hv2 (r9 k (by omega) (by omega)) (dcf (iv t' 1)) (fun b1 b2 => ?_)
          exact ⟨b1.1, by omega⟩) (by omega) ht c2 ⟨r1, r2⟩ k k2i p4 p6.2.1 k3 q3⟩
theorem und_rp (hT : TABR sk iv rv v a) (hr : ∃ o, RP2 o sk ln iv rv v a) (hp : PUNX f1 sk iv rv iv2 rv2) (hk : (∃ g, WT g sk L cl ln iv rv ∧ WT g sk L2 cl2 ln2 iv2 rv2) ∧ SKL sk L cl ∧ XT L cl ln L2 cl2 ln2 ∧ ((f1 = 0 ∧ KP L cl (fun _ => False) (fun _ => False) (fun _ => False) (fun _ => False) (fun _ _ => False) iv rv iv2 rv2) ∨ (f1 = 1 ∧ ∃ ch, el rv (sk 23) (iv (sk 23) 2 - 1).toNat = some ch ∧ UKP L cl ch iv rv iv2 rv2))) (hq : (∃ ln, STK ln v a) ∧ (∃ ln, STK ln v2 a2) ∧ ((v 19 = 0 ∧ f2 = 0 ∧ TSAME v a v2 a2) ∨ (v 19 ≠ 0 ∧ f2 = 1 ∧ TUND v a v2 a2))) : ∃ o, RP2 o sk ln2 iv2 rv2 v2 a2 := by
  obtain ⟨o, h⟩ := hr
  obtain ⟨⟨g, hW, hW2⟩, hS, hX, kb⟩ := hk
  obtain ⟨⟨lm, s1⟩, ⟨lm2, s2⟩, hq⟩ := hq
  have n23 := hT.2.2.2.1
  rcases hp with ⟨p1, p2, p3⟩ | ⟨p1, p2, ch, p3, p4⟩
  · rcases kb with ⟨_, k2⟩ | ⟨k1, -⟩
    · rcases hq with ⟨q1, q2, q3⟩ | ⟨q1, -⟩
      · exact ⟨o, rp_same h hT hW hS hX k2 p3 q3⟩
      · omega
    · clear hq; omega
  · rcases kb with ⟨k1, -⟩ | ⟨_, ch', k2, k3⟩
    · clear hq; omega
    · rw [p3] at k2; cases k2
      rcases hq with ⟨q1, -⟩ | ⟨q1, -, q3⟩
      · omega
      · exact ⟨o, rp_undo h hT hW hS hX s1 s2 q1 p3 p4 k3 q3⟩
theorem rp_zero (h2 : iv (sk 23) 2 = 0) (h3 : v 4 = 0) : ∃ o, RP2 o sk ln iv rv v a := ⟨fun _ => 0, fun i hi => absurd hi (by omega), fun k hk => absurd hk (by omega)⟩
end RPB
