def LNE (iv : Nat → Nat → Int) (rv : Nat → Nat → Option Nat) (r : Nat) (xs : List Int) : Prop := iv r 1 = ((xs.length : Nat) : Int) ∧ ∀ cb, rv r 0 = some cb → ∀ (j : Nat) (x : Int), xs[j]? = some x → iv cb j = x
def LFR (L : List Nat) (cl : Nat → Nat) (iv : Nat → Nat → Int) (rv : Nat → Nat → Option Nat) (iv2 : Nat → Nat → Int) (r : Nat) : Prop := (∀ b, ty L cl b 19 → b ≠ r → iv2 b = iv b) ∧ ∀ b, ty L cl b 64 → rv r 0 ≠ some b → iv2 b = iv b
def LAX (iv : Nat → Nat → Int) (rv : Nat → Nat → Option Nat) (iv2 : Nat → Nat → Int) (r : Nat) (x : Int) : Prop := ∀ xs, LNE iv rv r xs → xs.length < 200 → LNE iv2 rv r (xs ++ [x])
def APK (iv : Nat → Nat → Int) (rv : Nat → Nat → Option Nat) (iv1 : Nat → Nat → Int) (r s : Nat) (i k : Int) : Prop := ∀ xs cs, LNE iv rv r xs → PDH iv rv s cs → cs.length ≤ 200 → k ≤ ((cs.length : Nat) : Int) → (((pql xs).length : Nat) : Int) + (k - i) ≤ 200 → LNE iv1 rv r (pql xs ++ sgm cs i.toNat (k - i).toNat)
def APX (iv : Nat → Nat → Int) (rv : Nat → Nat → Option Nat) (iv2 : Nat → Nat → Int) (r s : Nat) (i j : Int) : Prop := ∀ xs cs, LNE iv rv r xs → PDH iv rv s cs → cs.length ≤ 200 → i ≤ j → j ≤ ((cs.length : Nat) : Int) → (((pql xs).length : Nat) : Int) + (j - i) ≤ 200 → LNE iv2 rv r (pql xs ++ sgm cs i.toNat (j - i).toNat)
def ind (n : Int) (xs : List Int) : List Int := if n ≤ 0 ∨ xs.length = 0 ∨ 200 - ((xs.length : Nat) : Int) < n then xs else List.replicate n.toNat 0 ++ xs
def INX (iv : Nat → Nat → Int) (rv : Nat → Nat → Option Nat) (iv2 : Nat → Nat → Int) (r : Nat) (n : Int) : Prop := ∀ xs, LNE iv rv r xs → LNE iv2 rv r (ind n xs)
def INK (iv : Nat → Nat → Int) (rv : Nat → Nat → Option Nat) (iv1 : Nat → Nat → Int) (r : Nat) (n k : Int) : Prop := ∀ cb, rv r 0 = some cb → ∀ j : Nat, (((j : Nat) : Int) < k → iv1 cb j = 0) ∧ (n ≤ ((j : Nat) : Int) → ((j : Nat) : Int) < n + iv r 1 → iv1 cb j = iv cb (j - n.toNat))
def SBG (iv : Nat → Nat → Int) (rv : Nat → Nat → Option Nat) (s : Nat) (n : Nat) (st : Nat → Int) : Prop := ∀ sb, rv s 3 = some sb → ∀ j : Nat, j < n → iv sb j = st j
def MNO (st : Nat → Int) : Prop := ∀ i j : Nat, i < j → 0 ≤ st i → 0 ≤ st j → st i ≤ st j
def LBV (w : List (Int × Nat × Int)) (k : Int) (st : Nat → Int) (d r : Int) (n : Nat) : Int := if 0 ≤ lbk w k st d r n then lbk w k st d r n else d
def LBX (iv : Nat → Nat → Int) (rv : Nat → Nat → Option Nat) (s : Nat) (x i n f : Int) : Prop := ∀ w st, PWH iv rv s w → (x ≤ 3 → SBG iv rv s w.length st ∧ MNO st) → f = LBV w x st i (n + 1) w.length
def LBI (iv : Nat → Nat → Int) (rv : Nat → Nat → Option Nat) (s : Nat) (x i n k f : Int) : Prop := ∀ w st, PWH iv rv s w → (x ≤ 3 → SBG iv rv s w.length st ∧ MNO st) → f = LBV w x st i (n + 1) k.toNat
def LBO (iv : Nat → Nat → Int) (rv : Nat → Nat → Option Nat) (s : Nat) (i la n k o : Int) : Prop := ∀ w st, PWH iv rv s w → SBG iv rv s w.length st → (o = 1 ↔ (bks w k.toNat ≠ 0 ∧ la < st k.toNat ∧ st k.toNat - i ≤ n))
section LROW
variable {h : Nat} {sk : Nat → Nat} {L : List Nat} {cl ln : Nat → Nat} {iv iv1 iv2 iv3 : Nat → Nat → Int} {rv : Nat → Nat → Option Nat} {r s cb lb bb sb : Nat} {x y z p i k j n d f la o : Int} {xs ys cs : List Int} {w : List (Int × Nat × Int)} {st : Nat → Int} {ls : List Nat}
theorem LFR.refl : LFR L cl iv rv iv r := ⟨fun _ _ _ => rfl, fun _ _ _ => rfl⟩
theorem LFR.self {m : Nat} (h : LFR L cl iv rv iv1 r) (tr : ty L cl r 19) (e : iv2 = up2 iv1 r m z) : LFR L cl iv rv iv2 r := ⟨fun b tb hb => by
  funext q
  rw [e, up2_k hb, h.1 b tb hb], fun b tb hb => by
  funext q
  rw [e, up2_k (ne_ty tb tr (by decide)), h.2 b tb hb]⟩
theorem LFR.cell {m : Nat} (h : LFR L cl iv rv iv1 r) (h0 : rv r 0 = some cb) (tc : ty L cl cb 64) (e : iv2 = up2 iv1 cb m z) : LFR L cl iv rv iv2 r := ⟨fun b tb hb => by
  funext q
  rw [e, up2_k (ne_ty tb tc (by decide)), h.1 b tb hb], fun b tb hb => by
  funext q
  rw [e, up2_k (fun g => hb (by rw [g]; exact h0)), h.2 b tb hb]⟩
theorem LFR.copy {X : Nat → Int} (h : LFR L cl iv rv iv1 r) (h0 : rv r 0 = some cb) (tc : ty L cl cb 64) (e : iv2 = fun u m => if u = cb then X m else iv1 u m) : LFR L cl iv rv iv2 r := ⟨fun b tb hb => by
  funext q
  rw [e]
  show (if b = cb then X q else iv1 b q) = iv b q
  rw [if_neg (ne_ty tb tc (by decide)), h.1 b tb hb], fun b tb hb => by
  funext q
  rw [e]
  show (if b = cb then X q else iv1 b q) = iv b q
  rw [if_neg (fun g => hb (by rw [g]; exact h0)), h.2 b tb hb]⟩
theorem LFR.trans (h : LFR L cl iv rv iv1 r) (h2 : LFR L cl iv1 rv iv2 r) : LFR L cl iv rv iv2 r := ⟨fun b tb hb => (h2.1 b tb hb).trans (h.1 b tb hb), fun b tb hb => (h2.2 b tb hb).trans (h.2 b tb hb)⟩
theorem LNE.nil (h1 : iv r 1 = 0) : LNE iv rv r [] := ⟨h1, fun cb hb j x e => by simp at e⟩
theorem LAX.full (h1 : 200 ≤ iv r 1) : LAX iv rv iv1 r x := fun xs hl hx => by
  have e := hl.1
  omega
theorem LAX.mk (h0 : rv r 0 = some cb) (e1 : iv1 = up2 iv cb p.toNat x) (e2 : iv2 = up2 iv1 r 1 y) (hp : p = iv r 1) (hy : y = iv r 1 + 1) (hne : cb ≠ r) : LAX iv rv iv2 r x := fun xs hl hx => by
  obtain ⟨h1, h2⟩ := hl
  refine ⟨by rw [e2, up2_s, len1]; omega, fun cb' hb j z e => ?_⟩
  rw [h0] at hb; cases hb
  rcases ap1 e with ⟨c, e3⟩ | ⟨c, e3⟩
  · rw [e2, up2_k hne, e1, up2_j (by omega)]
    exact h2 cb h0 j z e3
  · rw [e2, up2_k hne, e1, show j = p.toNat by omega, up2_s]
    exact e3
theorem sgm_len {d : Nat} : ∀ m : Nat, (sgm cs d m).length = m := by
  intro m
  induction m with
  | zero => rfl
  | succ m ih => rw [sgm_s, len1, ih]
theorem pql_len : (pql xs).length = if xs.length = 0 then 0 else xs.length + 1 := by
  unfold pql
  split
  · rfl
  · exact len1
theorem APK.init0 (h1 : iv r 1 ≤ 0) : APK iv rv iv r s i i := fun xs cs hl hp h2 h3 h4 => by
  have e := hl.1
  have e0 : xs = [] := List.length_eq_zero_iff.mp (by omega)
  rw [e0] at hl ⊢
  rw [show (i - i).toNat = 0 by omega]
  exact hl
theorem APK.init1 (hx : LAX iv rv iv1 r 0) (h1 : 0 < iv r 1) : APK iv rv iv1 r s i i := fun xs cs hl hp h2 h3 h4 => by
  have e := hl.1
  have ep : pql xs = xs ++ [0] := by
    unfold pql
    rw [if_neg (by omega)]
  rw [show (i - i).toNat = 0 by omega]
  rw [ep, len1] at h4
  rw [ep]
  show LNE iv1 rv r ((xs ++ [0]) ++ [])
  rw [List.append_nil]
  exact hx xs hl (by omega)
theorem APK.step (h : APK iv rv iv1 r s i k) (hx : LAX iv1 rv iv2 r z) (h6 : rv s 6 = some cb) (hz : z = iv1 cb k.toNat) (he : iv1 cb k.toNat = iv cb k.toNat) (hk : 0 ≤ i ∧ i ≤ k ∧ k < 200) : APK iv rv iv2 r s i (k + 1) := fun xs cs hl hp h2 h3 h4 => by
  refine hv2 (h xs cs hl hp h2 (by omega) (by omega)) (show (pql xs ++ sgm cs i.toNat (k - i).toNat).length = (pql xs).length + (k - i).toNat from by rw [List.length_append, sgm_len]) (fun g ll => ?_)
  have g2 := hx _ g (by omega)
  rw [show (k + 1 - i).toNat = (k - i).toNat + 1 by omega, sgm_s, show i.toNat + (k - i).toNat = k.toNat by omega, ← List.append_assoc]
  have lt : k.toNat < cs.length := by omega
  have ec : (cs[k.toNat]?).getD 0 = z := by
    have e1 : cs[k.toNat]? = some (cs[k.toNat]'lt) := List.getElem?_eq_getElem lt
    have e2 := hp.2 cb h6 k.toNat _ (by omega) e1
    rw [e1, hz, he, e2]
    rfl
  rw [ec]
  exact g2
theorem APX.fin (h : APK iv rv iv1 r s i k) (hk : k = i ∨ k ≤ j) (hx : j ≤ k ∨ 200 ≤ k) : APX iv rv iv1 r s i j := fun xs cs hl hp h2 h3 h4 h5 => by
  have e : k = j := by omega
  subst e
  exact h xs cs hl hp h2 h4 h5
theorem INX.no (h1 : n ≤ 0 ∨ iv r 1 = 0 ∨ 200 - iv r 1 < n) : INX iv rv iv r n := fun xs hl => by
  have e := hl.1
  unfold ind
  rw [if_pos (by omega)]
  exact hl
theorem INK.init {q : Int} (h0 : rv r 0 = some cb) (e : iv1 = fun u m => if u = cb then (if n.toNat ≤ m ∧ m < n.toNat + q.toNat then iv cb ((0 : Int).toNat + (m - n.toNat)) else iv cb m) else iv u m) (hq : q = iv r 1) (h1 : 0 ≤ iv r 1) (hn : 0 ≤ n) : INK iv rv iv1 r n 0 := fun cb' hb j => by
  rw [h0] at hb; cases hb
  refine ⟨fun c => absurd c (by omega), fun c1 c2 => ?_⟩
  rw [e]
  show (if cb = cb then (if n.toNat ≤ j ∧ j < n.toNat + q.toNat then iv cb ((0 : Int).toNat + (j - n.toNat)) else iv cb j) else iv cb j) = _
  rw [if_pos rfl, if_pos (by omega), show (0 : Int).toNat + (j - n.toNat) = j - n.toNat by omega]
theorem INK.step (h : INK iv rv iv1 r n k) (h0 : rv r 0 = some cb) (e : iv2 = up2 iv1 cb k.toNat 0) (hk : 0 ≤ k ∧ k < n) : INK iv rv iv2 r n (k + 1) := fun cb' hb j => by
  have g := h cb' hb j
  rw [h0] at hb; cases hb
  refine ⟨fun c => ?_, fun c1 c2 => ?_⟩
  · by_cases c3 : ((j : Nat) : Int) = k
    · rw [e, show j = k.toNat by omega, up2_s]
    · rw [e, up2_j (by omega)]
      exact g.1 (by omega)
  · rw [e, up2_j (by omega)]
    exact g.2 c1 c2
theorem rep_get (m : Nat) : ∀ (j : Nat) (x : Int), (List.replicate m (0 : Int) ++ xs)[j]? = some x → (j < m ∧ x = 0) ∨ (m ≤ j ∧ xs[j - m]? = some x) := fun j x e => by
  by_cases c : j < m
  · rw [List.getElem?_append_left (by rw [List.length_replicate]; exact c)] at e
    have e2 : (List.replicate m (0 : Int))[j]? = some 0 := by
      rw [List.getElem?_replicate, if_pos c]
    rw [e2] at e
    cases e
    exact Or.inl ⟨c, rfl⟩
  · rw [List.getElem?_append_right (by rw [List.length_replicate]; omega), List.length_replicate] at e
    exact Or.inr ⟨by omega, e⟩
theorem INX.mk (h : INK iv rv iv1 r n n) (h0 : rv r 0 = some cb) (e : iv2 = up2 iv1 r 1 y) (hy : y = iv r 1 + n) (hne : cb ≠ r) (hn : 0 < n) (h1 : iv r 1 ≠ 0 ∧ n ≤ 200 - iv r 1) : INX iv rv iv2 r n := fun xs hl => by
  obtain ⟨l1, l2⟩ := hl
  unfold ind
  rw [if_neg (by omega)]
  refine ⟨by rw [e, up2_s, List.length_append, List.length_replicate]; omega, fun cb' hb j x ej => ?_⟩
  rw [h0] at hb; cases hb
  have g := h cb h0 j
  rw [e, up2_k hne]
  rcases rep_get n.toNat j x ej with ⟨c, e3⟩ | ⟨c, e3⟩
  · rw [g.1 (by omega), e3]
  · have lt := gl3 e3
    rw [g.2 (by omega) (by omega)]
    exact l2 cb h0 _ x e3
theorem ind_cen {wd : Int} (hl : (0 ≤ wd - ((xs.length : Nat) : Int) → n = (wd - ((xs.length : Nat) : Int)) / 2) ∧ (wd - ((xs.length : Nat) : Int) < 0 → n ≤ 0)) (hx : wd ≤ 100) : ind n xs = cen wd xs := by
  unfold ind cen
  by_cases c : xs.length = 0 ∨ wd ≤ ((xs.length : Nat) : Int)
  · rw [if_pos c, if_pos (by omega)]
  · rw [if_neg c]
    have e := hl.1 (by omega)
    by_cases c2 : n ≤ 0
    · rw [if_pos (Or.inl c2)]
      rw [show ((wd - ((xs.length : Nat) : Int)) / 2).toNat = 0 by omega]
      rfl
    · rw [if_neg (by omega), ← e]
theorem tdv_r : (0 ≤ x → x.tdiv 2 = x / 2) ∧ (x < 0 → x.tdiv 2 = -((-x) / 2)) := ⟨fun q => Int.tdiv_eq_ediv_of_nonneg q, fun q => by
  have e : x.tdiv 2 = -((-x).tdiv 2) := by rw [Int.neg_tdiv, Int.neg_neg]
  rw [e, Int.tdiv_eq_ediv_of_nonneg (by omega)]⟩
theorem dv2 (hx : -100000 ≤ x ∧ x ≤ 100000) : ∃ q : Int, (-100000 ≤ q ∧ q ≤ 100000) ∧ ((0 ≤ x → q = x / 2) ∧ (x < 0 → q ≤ 0)) ∧ iI x / iI 2 = iI q := by
  obtain ⟨t1, t2⟩ := tdv_r (x := x)
  have rg : -100000 ≤ x.tdiv 2 ∧ x.tdiv 2 ≤ 100000 := by
    by_cases c : 0 ≤ x
    · rw [t1 c]; omega
    · rw [t2 (by omega)]; omega
  refine ⟨x.tdiv 2, rg, ⟨t1, fun c => by rw [t2 c]; omega⟩, ?_⟩
  apply Int32.toInt_inj.mp
  rw [Int32.toInt_div, iI_int ⟨by omega, by omega⟩, iI_int ⟨by omega, by omega⟩, iI_int ⟨by omega, by omega⟩]
  exact Int.bmod_eq_of_le (by omega) (by omega)
theorem bks_at {m : Nat} {q : Int × Nat × Int} (e : w[m]? = some q) : bks w m = q.2.2 := by
  unfold bks
  rw [e]
  rfl
theorem PWH.at1 (hw : PWH iv rv s w) (h0 : rv s 0 = some lb) (hW : WT h sk L cl ln iv rv) (ts : ty L cl s 15) (hk : 0 ≤ k ∧ k < iv s 4) : iv lb k.toNat = lts w k.toNat := hw.ltw hW ts lb h0 k hk.1 hk.2
theorem PWH.bk (hw : PWH iv rv s w) (h2 : rv s 2 = some bb) (hW : WT h sk L cl ln iv rv) (ts : ty L cl s 15) (hk : 1 ≤ k ∧ k < iv s 4) : iv bb k.toNat = bks w k.toNat := by
  obtain ⟨b0, q0, _⟩ := hW.ref ts 0 rfl rfl rfl
  obtain ⟨b1, q1, _⟩ := hW.ref ts 1 rfl rfl rfl
  have e4 := hw.1
  have lt : k.toNat < w.length := by omega
  have e := List.getElem?_eq_getElem lt
  rw [bks_at e]
  exact (hw.2 b0 b1 bb q0 q1 h2 k.toNat _ e).2.2 (by omega)
theorem lbk_at {k : Int} {st : Nat → Int} {d r : Int} : ∀ m : Nat, 0 ≤ lbk w k st d r m → ∃ q, q < m ∧ (d < st q ∧ st q - d + 1 ≤ r) ∧ lbk w k st d r m = st q := by
  intro m
  induction m with
  | zero => intro c; exact absurd (show (0 : Int) ≤ -1 from c) (by decide)
  | succ m ih =>
    rw [lbk_s]
    split
    · rename_i c
      intro _
      exact ⟨m, by omega, ⟨c.2.2.1, c.2.2.2.1⟩, rfl⟩
    · intro c
      obtain ⟨q, q1, q2, q3⟩ := ih c
      exact ⟨q, by omega, q2, q3⟩
theorem lbk_no {k : Int} {st : Nat → Int} {d r : Int} (hk : ¬ (k ≤ 3 ∧ (k = 3 → 6 ≤ ((w.length : Nat) : Int)))) : ∀ m : Nat, lbk w k st d r m = -1 := by
  intro m
  induction m with
  | zero => rfl
  | succ m ih =>
    rw [lbk_s, if_neg, ih]
    intro c
    exact hk ⟨c.2.2.2.2.1, c.2.2.2.2.2.2⟩
theorem LBX.no (h1 : 3 < x ∨ (x = 3 ∧ iv s 4 < 6)) : LBX iv rv s x i n i := fun w st hw _ => by
  have e4 := hw.1
  unfold LBV
  rw [lbk_no (by omega), if_neg (by decide)]
theorem LBI.init : LBI iv rv s x i n 1 i := fun w st hw _ => by
  unfold LBV
  have e : lbk w x st i (n + 1) (1 : Int).toNat = -1 := by
    show lbk w x st i (n + 1) (0 + 1) = -1
    rw [lbk_s, if_neg (by omega)]
    rfl
  rw [e, if_neg (by decide)]
theorem LBI.fin (h : LBI iv rv s x i n k f) (hk : k = iv s 4 ∨ (k = 1 ∧ iv s 4 ≤ 1)) : LBX iv rv s x i n f := fun w st hw hs => by
  refine hv2 (hw.1) (h w st hw hs) (fun e4 g => ?_)
  by_cases c : k = iv s 4
  · rw [show k.toNat = w.length by omega] at g
    exact g
  · rw [g]
    have e1 : lbk w x st i (n + 1) k.toNat = -1 := by
      rw [show k.toNat = 0 + 1 by omega, lbk_s, if_neg (by omega)]
      rfl
    have e2 : lbk w x st i (n + 1) w.length = -1 := by
      rw [show w.length = 0 by omega]
      rfl
    unfold LBV
    rw [e1, e2]
theorem LBI.pass (h : LBI iv rv s x i n k la) (hk : 1 ≤ k ∧ k < iv s 4) (hno : ∀ w st, PWH iv rv s w → (x ≤ 3 → SBG iv rv s w.length st ∧ MNO st) → la = LBV w x st i (n + 1) k.toNat → ¬ (bks w k.toNat ≠ 0 ∧ i < st k.toNat ∧ st k.toNat - i + 1 ≤ n + 1 ∧ kok x ((w.length : Nat) : Int) (lts w (k.toNat - 1)) (lts w k.toNat)) ∨ la = st k.toNat) (hx : x ≤ 3) : LBI iv rv s x i n (k + 1) la := fun w st hw hs => by
  have g := h w st hw hs
  rcases hno w st hw hs g with c | c
  · have c9 : ¬ (1 ≤ k.toNat ∧ bks w k.toNat ≠ 0 ∧ i < st k.toNat ∧ st k.toNat - i + 1 ≤ n + 1 ∧ kok x ((w.length : Nat) : Int) (lts w (k.toNat - 1)) (lts w k.toNat)) := fun q => c q.2
    rw [g]
    unfold LBV
    rw [show (k + 1).toNat = k.toNat + 1 by omega, lbk_s, if_neg c9]
  · by_cases c2 : 1 ≤ k.toNat ∧ bks w k.toNat ≠ 0 ∧ i < st k.toNat ∧ st k.toNat - i + 1 ≤ n + 1 ∧ kok x ((w.length : Nat) : Int) (lts w (k.toNat - 1)) (lts w k.toNat)
    · unfold LBV
      rw [show (k + 1).toNat = k.toNat + 1 by omega, lbk_s, if_pos c2]
      by_cases c3 : 0 ≤ st k.toNat
      · rw [if_pos c3]
        exact c
      · rw [if_neg c3]
        unfold LBV at g
        split at g
        · omega
        · exact g
    · rw [g]
      unfold LBV
      rw [show (k + 1).toNat = k.toNat + 1 by omega, lbk_s, if_neg c2]
theorem LBI.nof (h : LBI iv rv s x i n k la) (hk : 1 ≤ k ∧ k < iv s 4) (hx : x ≤ 3) (ho : LBO iv rv s i la n k o) (hf : o ≠ 1) (hi : 0 ≤ i ∧ i ≤ la) : LBI iv rv s x i n (k + 1) la := by
  refine h.pass hk (fun w st hw hs g => ?_) hx
  have q := ho w st hw (hs hx).1
  by_cases c : bks w k.toNat ≠ 0 ∧ i < st k.toNat ∧ st k.toNat - i + 1 ≤ n + 1
  · refine Or.inr ?_
    have c2 : ¬ la < st k.toNat := fun c2 => hf (q.mpr ⟨c.1, c2, by omega⟩)
    have c3 : la ≤ st k.toNat := by
      rw [g]
      unfold LBV
      split
      · rename_i c4
        obtain ⟨q0, q1, q2, q3⟩ := lbk_at _ c4
        rw [q3]
        exact (hs hx).2 q0 k.toNat q1 (by omega) (by omega)
      · omega
    omega
  · exact Or.inl (fun q2 => c ⟨q2.1, q2.2.1, q2.2.2.1⟩)
theorem LBI.dig (hl : LBI iv rv s x i n k la) (hk : 1 ≤ k ∧ k < iv s 4) (hx : x = 2) (hW : WT h sk L cl ln iv rv) (ts : ty L cl s 15) (h0 : rv s 0 = some lb) (hd : isD (iv lb (k - 1).toNat) ∨ isD (iv lb k.toNat)) : LBI iv rv s x i n (k + 1) la := by
  refine hl.pass hk (fun w st hw hs g => Or.inl (fun q => ?_)) (by omega)
  refine hv2 (hw.at1 h0 hW ts (k := k) ⟨by omega, hk.2⟩) (q.2.2.2.2.1 hx) (fun e1 q2 => ?_)
  have e2 := hw.at1 h0 hW ts (k := k - 1) ⟨by omega, by omega⟩
  rw [show k.toNat - 1 = (k - 1).toNat by omega, ← e1, ← e2] at q2
  rcases hd with c | c
  · exact q2.1 c
  · exact q2.2 c
theorem LBI.take (hl : LBI iv rv s x i n k la) (hk : 1 ≤ k ∧ k < iv s 4) (hx : x ≤ 3 ∧ (x = 3 → 6 ≤ iv s 4)) (ho : LBO iv rv s i la n k o) (hf : o = 1) (hW : WT h sk L cl ln iv rv) (ts : ty L cl s 15) (h3 : rv s 3 = some sb) (hd : x = 2 → ∃ lb, rv s 0 = some lb ∧ ¬ isD (iv lb (k - 1).toNat) ∧ ¬ isD (iv lb k.toNat)) (hi : 0 ≤ i ∧ i ≤ la) : LBI iv rv s x i n (k + 1) (iv sb k.toNat) := fun w st hw hs => by
  refine hv2 ((ho w st hw (hs hx.1).1).mp hf) (hw.1) (fun q e4 => ?_)
  have es : iv sb k.toNat = st k.toNat := (hs hx.1).1 sb h3 k.toNat (by omega)
  have e9 : lbk w x st i (n + 1) (k + 1).toNat = st k.toNat := by
    rw [show (k + 1).toNat = k.toNat + 1 by omega, lbk_s, if_pos]
    refine ⟨by omega, q.1, by omega, by omega, hx.1, fun c => ?_, fun c => ?_⟩
    · obtain ⟨lb, h0, d1⟩ := hd c
      have e1 := hw.at1 h0 hW ts (k := k) ⟨by omega, hk.2⟩
      have e2 := hw.at1 h0 hW ts (k := k - 1) ⟨by omega, by omega⟩
      rw [show k.toNat - 1 = (k - 1).toNat by omega, ← e1, ← e2]
      exact d1
    · have := hx.2 c
      omega
  unfold LBV
  rw [e9, if_pos (by omega)]
  exact es
theorem LBO.mk (hW : WT h sk L cl ln iv rv) (ts : ty L cl s 15) (h2 : rv s 2 = some bb) (h3 : rv s 3 = some sb) (hk : 1 ≤ k ∧ k < iv s 4) (ho : (o = 1 ∧ iv bb k.toNat ≠ 0 ∧ la < iv sb k.toNat ∧ iv sb k.toNat - i ≤ n) ∨ (o ≠ 1 ∧ (iv bb k.toNat = 0 ∨ iv sb k.toNat ≤ la ∨ n < iv sb k.toNat - i))) : LBO iv rv s i la n k o := fun w st hw hs => by
  refine hv2 (hw.1) (hw.bk h2 hW ts hk) (fun e4 e1 => ?_)
  have e2 := hs sb h3 k.toNat (by omega)
  rw [← e1, ← e2]
  omega
theorem LBO.b0 (hW : WT h sk L cl ln iv rv) (ts : ty L cl s 15) (h2 : rv s 2 = some bb) (hk : 1 ≤ k ∧ k < iv s 4) (ho : o ≠ 1) (hb : iv bb k.toNat = 0) : LBO iv rv s i la n k o := fun w st hw hs => by
  have e1 := hw.bk h2 hW ts hk
  rw [← e1]
  omega
end LROW
