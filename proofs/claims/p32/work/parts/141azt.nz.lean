section
def OKD (a : Nat → Nat → Int) (d : Int) : Prop := ((1 ≤ rlen a d ∧ rlen a d ≤ 4) ∧ ∀ k : Int, 0 ≤ k → k < rlen a d → dcl a d k ≠ 0) ∧ (0 ≤ d → 1 ≤ a 12 d.toNat)
section NZGS
variable {sk : Nat → Nat} {ln : Nat → Nat} {iv : Nat → Nat → Int} {rv : Nat → Nat → Option Nat} {v : Nat → Int} {a : Nat → Nat → Int} {t d : Int} {i r : Nat}
theorem rng_mem : ∀ (n : Nat) (x : Int) (j : Nat) (d : Int), (rng n x)[j]? = some d → x ≤ d ∧ d < x + ((n : Nat) : Int) := by
  intro n
  induction n with
  | zero => intro x j d e; simp [rng] at e
  | succ n ih =>
    intro x j d e
    cases j with
    | zero =>
      have e2 : some x = some d := e
      cases e2
      omega
    | succ j =>
      have g := ih (x + 1) j d e
      omega
theorem rwl_mem {R b : Nat → Int} {V : Int} (hb : ∀ t : Int, 0 ≤ t → t < V → b t.toNat < t) : ∀ (n : Nat) (t : Int) (j : Nat) (d : Int), t < V → (rwl R b n t)[j]? = some d → ∃ i : Nat, ((i : Nat) : Int) < V ∧ 200 * ((i : Nat) : Int) ≤ d ∧ d < 200 * ((i : Nat) : Int) + (((R i).toNat : Nat) : Int) := by
  intro n
  induction n with
  | zero => intro t j d _ e; simp [rwl] at e
  | succ n ih =>
    intro t j d ht e
    rw [rwl_s] at e
    by_cases c : 0 ≤ t
    · rw [if_pos c] at e
      rcases app_or e with ⟨m, e⟩ | ⟨m, e⟩
      · have g := rng_mem _ _ _ _ e
        exact ⟨t.toNat, by omega, by omega, by omega⟩
      · have h1 := hb t c ht
        exact ih _ _ _ (by omega) e
    · rw [if_neg c] at e
      simp at e
theorem TRL.okr (hR : TRL sk ln iv rv v a) (hi : (i : Int) < v 4) (hr : 200 * (i : Int) ≤ d ∧ d < 200 * (i : Int) + a 10 i) : OKD a d := by
  obtain ⟨t, ht⟩ := hR.smt hi
  obtain ⟨_, _, q, n, _, h1, _⟩ := hR.tab hi ht
  obtain ⟨w, _, w2⟩ := h1 (d - 200 * (i : Int)).toNat (by omega)
  have e : 200 * i + (d - 200 * (i : Int)).toNat = d.toNat := by omega
  rw [e] at w2
  obtain ⟨_, _, l, c, _, _, q3, q4, _, q6⟩ := w2
  have tb := hR.2.2.1.2 (i : Int) d (by omega) hi (by omega) (by rw [Int.toNat_natCast]; omega)
  have e1 : rlen a d = a 13 d.toNat := if_pos (by omega)
  refine ⟨⟨by rw [e1]; omega, fun k k1 k2 => ?_⟩, fun _ => by omega⟩
  rw [e1] at k2
  have g := q6 k.toNat (by omega)
  have e2 : dcl a d k = a 15 (4 * d + k).toNat := if_pos (by omega)
  rw [e2, show (4 * d + k).toNat = 4 * d.toNat + k.toNat by omega, ← g.1]
  omega
theorem TRL.oki (hR : TRL sk ln iv rv v a) (h16 : ∀ j, a 16 j ≤ 4) (hi : (i : Int) < v 4) (hr : r < 4) (hn : 0 < a 16 (4 * i + r)) (hd : d = -1 - (4 * (i : Int) + (r : Int))) : OKD a d := by
  obtain ⟨t, ht⟩ := hR.smt hi
  obtain ⟨_, _, q, n, _, _, h1⟩ := hR.tab hi ht
  have en : (-1 - d).toNat = 4 * i + r := by omega
  have e1 : rlen a d = a 16 (4 * i + r) := by
    unfold rlen
    rw [if_neg (by omega), en]
  have b := h16 (4 * i + r)
  rcases h1 r hr with ⟨_, z⟩ | ⟨b', c, _, _, _, q4, q5, q6⟩
  · omega
  · refine ⟨⟨by rw [e1]; omega, fun k k1 k2 => ?_⟩, fun e => absurd e (by omega)⟩
    rw [e1] at k2
    have g := q6 k.toNat (by omega)
    have e2 : dcl a d k = a 17 (4 * (4 * i + r) + k.toNat) := by
      unfold dcl
      rw [if_neg (by omega)]
      exact congrArg (a 17) (by omega)
    have g2 : iv c k.toNat = a 17 (4 * (4 * i + r) + k.toNat) := g.1
    rw [e2, ← g2]
    omega
theorem TRL.okl (hR : TRL sk ln iv rv v a) (h16 : ∀ j, a 16 j ≤ 4) {I : Int} {j : Nat} (hI : 0 ≤ I ∧ I < 4 * v 4) (e : (indl a I)[j]? = some d) : OKD a d := by
  unfold indl at e
  by_cases c : 0 < a 16 I.toNat
  · rw [if_pos c] at e
    cases j with
    | zero =>
      have e2 : some (-1 - I) = some d := e
      cases e2
      exact hR.oki h16 (i := (I / 4).toNat) (r := (I % 4).toNat) (by omega) (by omega) (by rw [show 4 * (I / 4).toNat + (I % 4).toNat = I.toNat by omega]; exact c) (by omega)
    | succ j => simp at e
  · rw [if_neg c] at e
    simp at e
theorem TRL.okw (hR : TRL sk ln iv rv v a) (h16 : ∀ j, a 16 j ≤ 4) {j : Nat} (ht : t < v 4) (h0 : 0 ≤ t) (e : (rws1 a t)[j]? = some d) : OKD a d := by
  unfold rws1 at e
  rcases app_or e with ⟨m, e⟩ | ⟨m, e⟩
  · rcases app_or e with ⟨m, e⟩ | ⟨m, e⟩
    · obtain ⟨i, i1, i2, i3⟩ := rwl_mem hR.2.2.1.b8 _ _ _ _ ht e
      have b := (hR.2.2.1.1 (i : Int) (by omega) i1)
      obtain ⟨tt, hh⟩ := hR.smt i1
      have b2 := (hR.tab i1 hh).1.2.2.2
      exact hR.okr i1 ⟨i2, by omega⟩
    · exact hR.okl h16 ⟨by omega, by omega⟩ e
  · exact hR.okl h16 ⟨by omega, by omega⟩ e
theorem TRL.okg (hR : TRL sk ln iv rv v a) (h16 : ∀ j, a 16 j ≤ 4) (h0 : 0 ≤ t) (ht : t < v 4) : (∀ (j : Nat) (d : Int), (gat0 a t)[j]? = some d → OKD a d) ∧ ∀ (j : Nat) (d : Int), (gat1 a t)[j]? = some d → OKD a d := by
  have tb := hR.2.2.1.1 t h0 ht
  refine ⟨fun j d e => ?_, fun j d e => ?_⟩
  · unfold gat0 at e
    by_cases c : a 6 t.toNat = 5
    · rw [if_pos c] at e
      rcases app_or e with ⟨m, e⟩ | ⟨m, e⟩
      · exact hR.okw h16 (by omega) (by omega) e
      · exact hR.okl h16 ⟨by omega, by omega⟩ e
    · rw [if_neg c] at e
      exact hR.okw h16 ht h0 e
  · unfold gat1 at e
    by_cases c : a 6 t.toNat = 5
    · rw [if_pos c] at e
      rcases app_or e with ⟨m, e⟩ | ⟨m, e⟩
      · exact hR.okw h16 (by omega) (by omega) e
      · exact hR.okl h16 ⟨by omega, by omega⟩ e
    · rw [if_neg c] at e
      simp at e
theorem TRL.nzl (hR : TRL sk ln iv rv v a) (h16 : ∀ j, a 16 j ≤ 4) (h0 : 0 ≤ t) (ht : t < v 4) : (NZL a (gat0 a t) ∧ NZL a (gat1 a t)) ∧ (LTP a (gat0 a t) ∧ LTP a (gat1 a t)) := by
  obtain ⟨g0, g1⟩ := hR.okg h16 h0 ht
  exact ⟨⟨fun j d e => (g0 j d e).1, fun j d e => (g1 j d e).1⟩, fun j d e => (g0 j d e).2, fun j d e => (g1 j d e).2⟩
end NZGS
end
section
section UALF
variable {L : List Nat} {cl ln : Nat → Nat} {iv iv1 iv2 : Nat → Nat → Int} {rv : Nat → Nat → Option Nat} {a : Nat → Nat → Int} {l : List Int} {q b w lb sb c : Nat} {i k x d : Int}
end UALF
section UAL2
variable {L : List Nat} {cl ln : Nat → Nat} {iv iv1 iv2 iv3 : Nat → Nat → Int} {rv : Nat → Nat → Option Nat} {a : Nat → Nat → Int} {l l0 l1 : List Int} {q b b0 b1 w lb sb ab c : Nat} {i k x y d g : Int}
theorem HL.ltr (hl : HL L cl ln iv rv a b l) (hd : d ∈ l) (h0 : 0 ≤ d) (hm : 0 ≤ k ∧ k < a 12 d.toNat) : 33 ≤ a 14 (8 * d + k).toNat ∧ a 14 (8 * d + k).toNat ≤ 125 := by
  obtain ⟨r, r1⟩ := List.getElem?_of_mem hd
  obtain ⟨w, _, _, w3⟩ := hl.2 r d r1
  obtain ⟨_, _, l', c', _, _, r3, _, r5, _⟩ := w3.1 h0
  have g := r5 k.toNat (by omega)
  rw [show (8 * d + k).toNat = 8 * d.toNat + k.toNat by omega, ← g.1]
  exact g.2
end UAL2
end
section
section UBAC
variable {h : Nat} {sk : Nat → Nat} {L L1 L3 : List Nat} {cl ln cl1 ln1 cl3 ln3 : Nat → Nat} {iv iv1 iv2 iv3 iv4 : Nat → Nat → Int} {rv rv1 rv2 rv3 rv4 : Nat → Nat → Option Nat} {a : Nat → Nat → Int} {s cb : Nat} {k x f f1 f2 q u : Int} {l0 l1 : List Int} {R W : Nat → Int} {ls : List Nat}
theorem LTW.fx (hl : LTW iv rv s W q u) (hW : WT h sk L cl ln iv rv) (ts : ty L cl s 15) (hF : fT ls L cl iv rv iv1 rv1) (c1 : ls.contains 15 = false) (c2 : ls.contains 50 = false) : LTW iv1 rv1 s W q u := fun lb hb j h1 h2 => by
  rw [hF.r ts c1 0] at hb
  obtain ⟨b', w1, tb⟩ := hW.ref ts 0 rfl rfl rfl
  rw [hb] at w1
  cases w1
  rw [hF.i tb c2]
  exact hl lb hb j h1 h2
end UBAC
end
section
def GPC (L : List Nat) (cl ln : Nat → Nat) (iv : Nat → Nat → Int) (rv : Nat → Nat → Option Nat) (sk : Nat → Nat) (q : Nat) (a : Nat → Nat → Int) (l0 l1 : List Int) (C : Nat → Int) (F : Int32) (n : Int) : Prop := ((HL L cl ln iv rv a (sk 24) l0 ∧ HL L cl ln iv rv a (sk 25) l1) ∧ (NZL a l0 ∧ NZL a l1) ∧ (LTP a l0 ∧ LTP a l1)) ∧ (iv q 9 = n ∧ 0 ≤ n ∧ n ≤ 100) ∧ (∀ b, rv q 8 = some b → ∀ j : Int, 0 ≤ j → j < n → iv b j.toNat = C j.toNat) ∧ iI (iv q 10) = F ∧ ∀ j, a 12 j ≤ 8
def CEQ (iv : Nat → Nat → Int) (rv : Nat → Nat → Option Nat) (q : Nat) (a : Nat → Nat → Int) (l0 l1 : List Int) (C : Nat → Int) (F : Int32) (n : Int) (k : Int) : Prop := ∀ cb, rv q 0 = some cb → ∀ p g h : Int, (g = 0 ∨ g = 1) → (h = 0 ∨ h = 1) → 0 ≤ p → p ≤ n → k < 4 * p + 2 * h + g → (iv cb (4 * p + 2 * h + g).toNat ≠ 0 ↔ RDC a l0 l1 C F n p g h ≠ [])
def NBS (L : List Nat) (cl ln : Nat → Nat) (iv : Nat → Nat → Int) (rv : Nat → Nat → Option Nat) (sk : Nat → Nat) (q : Nat) (i x f : Int) : Prop := ∀ a l0 l1 C F n, GPC L cl ln iv rv sk q a l0 l1 C F n → ∀ o, 0 ≤ x → (chs l0 l1 (i % 2))[x.toNat]? = some o → (f = -1 ∧ ¬ MYO a C F n (i / 4) (i / 2 % 2) o) ∨ (MYO a C F n (i / 4) (i / 2 % 2) o ∧ f = 4 * onp a (i / 4) o + 2 * onh o + ong (i % 2) o)
def NCI (L : List Nat) (cl ln : Nat → Nat) (iv : Nat → Nat → Int) (rv : Nat → Nat → Option Nat) (sk : Nat → Nat) (q : Nat) (i x k : Int) : Prop := ∀ a l0 l1 C F n, GPC L cl ln iv rv sk q a l0 l1 C F n → CEQ iv rv q a l0 l1 C F n (4 * (i / 4) + 3) → ∀ (c : Nat) (o : Option Int), x ≤ ((c : Nat) : Int) → ((c : Nat) : Int) < k → (chs l0 l1 (i % 2))[c]? = some o → RCO a l0 l1 C F n (i / 4) (i % 2) (i / 2 % 2) o = []
def NCS (L : List Nat) (cl ln : Nat → Nat) (iv : Nat → Nat → Int) (rv : Nat → Nat → Option Nat) (sk : Nat → Nat) (q : Nat) (i x f : Int) : Prop := ∀ a l0 l1 C F n, GPC L cl ln iv rv sk q a l0 l1 C F n → CEQ iv rv q a l0 l1 C F n (4 * (i / 4) + 3) → (f = -1 ∧ ∀ (c : Nat) (o : Option Int), x ≤ ((c : Nat) : Int) → (chs l0 l1 (i % 2))[c]? = some o → RCO a l0 l1 C F n (i / 4) (i % 2) (i / 2 % 2) o = []) ∨ (x ≤ f ∧ ∃ o, (chs l0 l1 (i % 2))[f.toNat]? = some o ∧ RCO a l0 l1 C F n (i / 4) (i % 2) (i / 2 % 2) o ≠ [] ∧ ∀ (c : Nat) (o2 : Option Int), x ≤ ((c : Nat) : Int) → ((c : Nat) : Int) < f → (chs l0 l1 (i % 2))[c]? = some o2 → RCO a l0 l1 C F n (i / 4) (i % 2) (i / 2 % 2) o2 = [])
section GPRW
variable {g0 : Nat} {sk : Nat → Nat} {L L1 : List Nat} {cl ln cl1 ln1 : Nat → Nat} {iv iv1 iv2 : Nat → Nat → Int} {rv rv1 : Nat → Nat → Option Nat} {a : Nat → Nat → Int} {l0 l1 l : List Int} {C : Nat → Int} {F : Int32} {q b w c cb row T : Nat} {i x t n d f k z fl p g h y : Int} {o : Option Int} {ls : List Nat}
theorem bit_k1 : ∀ m : Nat, m < 404 → iI ((m : Nat) : Int) &&& iI 1 = iI (((m % 2 : Nat) : Nat) : Int) := by decide +kernel
theorem bit_k2 : ∀ m : Nat, m < 404 → (iI ((m : Nat) : Int) &&& iI 2 = iI 0 ↔ m / 2 % 2 = 0) := by decide +kernel
theorem and1e (e : iI i &&& iI 1 = iI z) (hz : R32 z) (hi : 0 ≤ i ∧ i ≤ 403) : z = i % 2 := by
  have k := bit_k1 i.toNat (by omega)
  rw [show ((i.toNat : Nat) : Int) = i by omega, e] at k
  have k2 := (iI_eq hz ⟨by omega, by omega⟩).mp k
  omega
theorem bz_m (hi : 0 ≤ i ∧ i ≤ 403) : bz i ↔ i % 2 = 0 := by
  have k := bit_k1 i.toNat (by omega)
  rw [show ((i.toNat : Nat) : Int) = i by omega] at k
  unfold bz
  rw [k, iI_eq ⟨by omega, by omega⟩ ⟨by decide, by decide⟩]
  omega
theorem b2_m (hi : 0 ≤ i ∧ i ≤ 403) : b2 i ↔ i / 2 % 2 = 0 := by
  have k := bit_k2 i.toNat (by omega)
  rw [show ((i.toNat : Nat) : Int) = i by omega] at k
  unfold b2
  rw [k]
  omega
theorem or2e (h : z = 0 ∨ z = 1) (e : iI z ||| iI 2 = iI y) (hy : R32 y) : y = z + 2 := by
  rcases h with rfl | rfl
  · exact (iI_eq hy ⟨by decide, by decide⟩).mp (e.symm.trans (by decide))
  · exact (iI_eq hy ⟨by decide, by decide⟩).mp (e.symm.trans (by decide))
theorem GPC.ll (hc : GPC L cl ln iv rv sk q a l0 l1 C F n) (hb : rv q 8 = some b) (ht : 0 ≤ t) : LLw iv rv q x t ↔ t < n ∧ LKQ F x (C t.toNat) := by
  obtain ⟨_, ⟨c1, _⟩, c2, c3, _⟩ := hc
  unfold LLw LKQ
  constructor
  · intro e
    refine hv2 (show t < n from by omega) (e.2 b hb) (fun lt e2 => ?_)
    rw [c2 b hb t ht lt, c3] at e2
    exact ⟨lt, e2⟩
  · intro e
    refine ⟨by omega, fun b' hb' => ?_⟩
    rw [hb] at hb'
    cases hb'
    rw [c2 b hb t ht e.1, c3]
    exact e.2
theorem GPC.lr (hc : GPC L cl ln iv rv sk q a l0 l1 C F n) (hb : rv q 8 = some b) (ht : 0 ≤ t) (hw : RWD ln iv rv a w d) (hd : 1 ≤ rlen a d ∧ rlen a d ≤ 4) : LRw ln iv rv q w t ↔ t + rlen a d ≤ n ∧ ∀ k : Int, 0 ≤ k → k < rlen a d → LKQ F (dcl a d k) (C (t + k).toNat) := by
  obtain ⟨c, c1, c2, c3⟩ := hw.c
  constructor
  · intro e
    have e1 : ∀ k : Int, 0 ≤ k → k < rlen a d → t + k < n ∧ LKQ F (dcl a d k) (C (t + k).toNat) := fun k k1 k2 => by
      have u := e c c1 k.toNat (by omega)
      rw [c3 k.toNat (by omega), show ((k.toNat : Nat) : Int) = k by omega] at u
      exact (hc.ll hb (by omega)).mp u
    have e2 := (e1 (rlen a d - 1) (by omega) (by omega)).1
    exact ⟨by omega, fun k k1 k2 => (e1 k k1 k2).2⟩
  · intro e cb hcb k hk
    rw [c1] at hcb
    cases hcb
    rw [c3 k hk]
    exact (hc.ll hb (by omega)).mpr ⟨by omega, e.2 _ (by omega) (by omega)⟩
theorem RWD.sm2 (hw : RWD ln iv rv a w d) (h12 : 0 ≤ d → 1 ≤ a 12 d.toNat) (hl : ∃ b, rv w 1 = some b) : BSw ln iv rv w ↔ SMR a d := by
  obtain ⟨f, hf⟩ : ∃ f : Int, (f = 1 ↔ BSw ln iv rv w) := by
    by_cases c : BSw ln iv rv w
    · exact ⟨1, fun _ => c, fun _ => rfl⟩
    · exact ⟨0, fun e => by omega, fun e => absurd e c⟩
  exact hf.symm.trans (hw.sml hf h12 hl)
theorem GPC.part (hc : GPC L cl ln iv rv sk q a l0 l1 C F n) : HL L cl ln iv rv a (if i % 2 = 0 then sk 24 else sk 25) (if i % 2 = 0 then l0 else l1) ∧ NZL a (if i % 2 = 0 then l0 else l1) ∧ LTP a (if i % 2 = 0 then l0 else l1) := by
  obtain ⟨⟨⟨c1, c2⟩, ⟨c3, c4⟩, c5, c6⟩, _⟩ := hc
  by_cases e : i % 2 = 0
  · rw [if_pos e, if_pos e]
    exact ⟨c1, c3, c5⟩
  · rw [if_neg e, if_neg e]
    exact ⟨c2, c4, c6⟩
theorem chs_row (hx : 0 < x) (ho : (chs l0 l1 g)[x.toNat]? = some o) : ∃ d, o = some d ∧ (if g = 0 then l0 else l1)[(x - 1).toNat]? = some d := by
  rw [show x.toNat = (x - 1).toNat + 1 by omega] at ho
  have e : ((if g = 0 then l0 else l1).map some)[(x - 1).toNat]? = some o := ho
  rw [List.getElem?_map] at e
  cases hd : (if g = 0 then l0 else l1)[(x - 1).toNat]? with
  | none => rw [hd] at e; cases e
  | some d => rw [hd] at e; cases e; exact ⟨d, rfl, rfl⟩
theorem GPC.rw_ (hc : GPC L cl ln iv rv sk q a l0 l1 C F n) (hi : 0 ≤ i ∧ i ≤ 403) (hx : 0 < x) (hd : (if i % 2 = 0 then l0 else l1)[(x - 1).toNat]? = some d) : ∃ w, RWx sk rv i x w ∧ ty L cl w 20 ∧ RWD ln iv rv a w d ∧ (1 ≤ rlen a d ∧ rlen a d ≤ 4) ∧ (0 ≤ d → 1 ≤ a 12 d.toNat) := by
  obtain ⟨p1, p2, p3⟩ := hc.part (i := i)
  obtain ⟨w, w1, w2, w3⟩ := p1.2 _ _ hd
  refine ⟨w, ?_, w2, w3, (p2 _ _ hd).1, p3 _ _ hd⟩
  by_cases e : i % 2 = 0
  · rw [if_pos e] at w1
    exact Or.inl ⟨(bz_m hi).mpr e, w1⟩
  · rw [if_neg e] at w1
    exact Or.inr ⟨fun u => e ((bz_m hi).mp u), w1⟩
theorem GPC.gd0 (hc : GPC L cl ln iv rv sk q a l0 l1 C F n) (hb : rv q 8 = some b) (hi : 0 ≤ i ∧ i ≤ 403) : GD sk ln iv rv q i (i / 4) 0 ↔ MYO a C F n (i / 4) (i / 2 % 2) none := by
  show _ ↔ MYB C F n (i / 4) (i / 2 % 2)
  have e1 := b2_m hi
  have e2 := hc.ll (x := 0) hb (t := i / 4) (by omega)
  constructor
  · intro u
    obtain ⟨u1, u2⟩ := u.1 (by omega)
    have u3 := e1.mp u1
    obtain ⟨u4, u5⟩ := e2.mp u2
    exact ⟨⟨by omega, u4⟩, u5⟩
  · intro u
    obtain ⟨⟨u1, u2⟩, u3⟩ := u
    exact GD.mk0 (by omega) (e1.mpr (by omega)) (e2.mpr ⟨u2, u3⟩)
theorem GPC.gd1 (hc : GPC L cl ln iv rv sk q a l0 l1 C F n) (hW : WT g0 sk L cl ln iv rv) (hb : rv q 8 = some b) (hi : 0 ≤ i ∧ i ≤ 403) (hx : 0 < x) (hr : RWx sk rv i x w) (tw : ty L cl w 20) (hw : RWD ln iv rv a w d) (hd : 1 ≤ rlen a d ∧ rlen a d ≤ 4) (h12 : 0 ≤ d → 1 ≤ a 12 d.toNat) : GD sk ln iv rv q i (i / 4) x ↔ MYO a C F n (i / 4) (i / 2 % 2) (some d) := by
  show _ ↔ MYR a C F n d (i / 4) (i / 2 % 2)
  have e1 := b2_m hi
  have e2 := hc.lr hb (t := i / 4) (by omega) hw hd
  obtain ⟨lb, hl, _⟩ := hW.ref tw 1 rfl rfl rfl
  have e3 := hw.sm2 h12 ⟨lb, hl⟩
  constructor
  · intro u
    obtain ⟨u1, u2⟩ := u.2 hx w hr
    obtain ⟨u3, u4⟩ := e2.mp u1
    refine ⟨⟨⟨hd.1, u3⟩, fun e => ?_⟩, u4⟩
    rcases u2 with u2 | u2
    · have := e1.mp u2
      omega
    · exact e3.mp u2
  · intro u
    obtain ⟨⟨⟨_, u1⟩, u2⟩, u3⟩ := u
    refine GD.mk1 hx hr (e2.mpr ⟨u1, u3⟩) ?_
    by_cases c : i / 2 % 2 = 0
    · exact Or.inl (e1.mpr c)
    · exact Or.inr (e3.mpr (u2 (by omega)))
theorem NBS.no0 (hb : rv q 8 = some b) (hi : 0 ≤ i ∧ i ≤ 403) (hx : x ≤ 0) (hg : ¬ GD sk ln iv rv q i (i / 4) x) (hf : f = -1) : NBS L cl ln iv rv sk q i x f := fun a l0 l1 C F n hc o h0 ho => by
  have e : x = 0 := by omega
  subst e
  have e2 : some none = some o := ho
  cases e2
  exact Or.inl ⟨hf, fun u => hg ((hc.gd0 hb hi).mpr u)⟩
theorem NBS.yes0 (hb : rv q 8 = some b) (hi : 0 ≤ i ∧ i ≤ 403) (hx : x ≤ 0) (hg : GD sk ln iv rv q i (i / 4) x) (hf : f = 4 * (i / 4) + 4) : NBS L cl ln iv rv sk q i x f := fun a l0 l1 C F n hc o h0 ho => by
  have e : x = 0 := by omega
  subst e
  have e2 : some none = some o := ho
  cases e2
  refine Or.inr ⟨(hc.gd0 hb hi).mp hg, ?_⟩
  show f = 4 * (i / 4 + 1) + 2 * 0 + 0
  omega
theorem NBS.no1 (hW : WT g0 sk L cl ln iv rv) (hb : rv q 8 = some b) (hi : 0 ≤ i ∧ i ≤ 403) (hx : 0 < x) (hg : ¬ GD sk ln iv rv q i (i / 4) x) (hf : f = -1) : NBS L cl ln iv rv sk q i x f := fun a l0 l1 C F n hc o h0 ho => by
  obtain ⟨d, e1, e2⟩ := chs_row hx ho
  subst e1
  obtain ⟨w, w1, w2, w3, w4, w5⟩ := hc.rw_ hi hx e2
  exact Or.inl ⟨hf, fun u => hg ((hc.gd1 hW hb hi hx w1 w2 w3 w4 w5).mpr u)⟩
theorem NBS.yes1 (hW : WT g0 sk L cl ln iv rv) (hb : rv q 8 = some b) (hi : 0 ≤ i ∧ i ≤ 403) (hx : 0 < x) (hr : RWx sk rv i x row) (hg : GD sk ln iv rv q i (i / 4) x) (hcb : rv row 2 = some cb) (hf : f = 4 * (i / 4 + ((ln cb : Nat) : Int)) + fl) (hfl : (iv row 0 = 0 ∧ fl = 2 + i % 2) ∨ (iv row 0 = 2 ∧ fl = 1) ∨ (iv row 0 = 3 ∧ fl = 0) ∨ ((iv row 0 ≠ 0 ∧ iv row 0 ≠ 2 ∧ iv row 0 ≠ 3) ∧ fl = i % 2)) : NBS L cl ln iv rv sk q i x f := fun a l0 l1 C F n hc o h0 ho => by
  obtain ⟨d, e1, e2⟩ := chs_row hx ho
  subst e1
  obtain ⟨w, w1, w2, w3, w4, w5⟩ := hc.rw_ hi hx e2
  have ew := w1.uni hr
  subst ew
  refine Or.inr ⟨(hc.gd1 hW hb hi hx w1 w2 w3 w4 w5).mp hg, ?_⟩
  obtain ⟨c, c1, c2, _⟩ := w3.c
  rw [hcb] at c1
  cases c1
  have er := w3.rl0
  rw [er] at hfl
  show f = 4 * (i / 4 + rlen a d) + 2 * ngh d + ngp d (i % 2)
  unfold ngh ngp
  by_cases q0 : rol d = 0
  · rw [if_pos q0, if_neg (by omega), if_neg (by omega)]
    omega
  · rw [if_neg q0]
    by_cases q2 : rol d = 2
    · rw [if_pos q2]
      omega
    · rw [if_neg q2]
      by_cases q3 : rol d = 3
      · rw [if_pos q3]
        omega
      · rw [if_neg q3]
        omega
theorem NCI.init (hk : k ≤ x) : NCI L cl ln iv rv sk q i x k := fun a l0 l1 C F n _ _ c o h1 h2 => by omega
theorem CEQ.nx (hce : CEQ iv rv q a l0 l1 C F n (4 * (i / 4) + 3)) (hcb : rv q 0 = some cb) (hi : 0 ≤ i) (hm : MYO a C F n (i / 4) (i / 2 % 2) o) (hf : f = 4 * onp a (i / 4) o + 2 * onh o + ong (i % 2) o) : iv cb f.toNat ≠ 0 ↔ RDC a l0 l1 C F n (onp a (i / 4) o) (ong (i % 2) o) (onh o) ≠ [] := by
  have lt := hm.lt
  have h1 : ong (i % 2) o = 0 ∨ ong (i % 2) o = 1 := by
    cases o with
    | none => exact Or.inl rfl
    | some d => exact ngp_r (by omega)
  have h2 : onh o = 0 ∨ onh o = 1 := by
    cases o with
    | none => exact Or.inl rfl
    | some d => exact ngh_r
  rw [hf]
  exact hce cb hcb _ _ _ h1 h2 (by omega) lt.2 (by omega)
theorem NCI.no (hI : NCI L cl ln iv rv sk q i x k) (h0 : 0 ≤ k) (hn : NBS L cl ln iv rv sk q i k f) (hf : f < 0) (hi : 0 ≤ i) : NCI L cl ln iv rv sk q i x (k + 1) := fun a l0 l1 C F n hc he c o h1 h2 ho => by
  by_cases lt : ((c : Nat) : Int) < k
  · exact hI a l0 l1 C F n hc he c o h1 lt ho
  · have ec : c = k.toNat := by omega
    subst ec
    rcases hn a l0 l1 C F n hc o h0 ho with ⟨_, u⟩ | ⟨u, e⟩
    · exact RCO_e.mpr (fun v => u v.1)
    · have lt2 := u.lt
      have h2 : 0 ≤ onh o ∧ 0 ≤ ong (i % 2) o := by
        cases o with
        | none => exact ⟨Int.le_refl 0, Int.le_refl 0⟩
        | some d =>
          refine hv2 (ngp_r (d := d) (pt := i % 2) (by omega)) (ngh_r (d := d)) (fun r1 r2 => ?_)
          show 0 ≤ ngh d ∧ 0 ≤ ngp d (i % 2)
          omega
      omega
theorem NCI.shut (hI : NCI L cl ln iv rv sk q i x k) (h0 : 0 ≤ k) (hn : NBS L cl ln iv rv sk q i k f) (hf : 0 ≤ f) (hi : 0 ≤ i) (hcb : rv q 0 = some cb) (hz : iv cb f.toNat = 0) : NCI L cl ln iv rv sk q i x (k + 1) := fun a l0 l1 C F n hc he c o h1 h2 ho => by
  by_cases lt : ((c : Nat) : Int) < k
  · exact hI a l0 l1 C F n hc he c o h1 lt ho
  · have ec : c = k.toNat := by omega
    subst ec
    rcases hn a l0 l1 C F n hc o h0 ho with ⟨u, _⟩ | ⟨u, e⟩
    · omega
    · exact RCO_e.mpr (fun v => (he.nx hcb hi u e).mpr v.2 hz)
theorem NCS.some_ (hI : NCI L cl ln iv rv sk q i x k) (h0 : 0 ≤ k ∧ x ≤ k) (hn : NBS L cl ln iv rv sk q i k f) (hf : 0 ≤ f) (hi : 0 ≤ i) (hcb : rv q 0 = some cb) (hz : iv cb f.toNat ≠ 0) (hk : k ≤ iv (if i % 2 = 0 then sk 24 else sk 25) 2) : NCS L cl ln iv rv sk q i x k := fun a l0 l1 C F n hc he => by
  have e1 := (hc.part (i := i)).1.1
  have lt : k.toNat < (chs l0 l1 (i % 2)).length := by
    rw [chs_len]
    omega
  have e2 := List.getElem?_eq_getElem lt
  refine Or.inr ⟨h0.2, _, e2, ?_, fun c o2 g1 g2 g3 => hI a l0 l1 C F n hc he c o2 g1 g2 g3⟩
  rcases hn a l0 l1 C F n hc _ h0.1 e2 with ⟨u, _⟩ | ⟨u, e⟩
  · omega
  · exact fun v => RCO_e.mp v ⟨u, (he.nx hcb hi u e).mp hz⟩
theorem NCS.none_ (hI : NCI L cl ln iv rv sk q i x k) (hk : iv (if i % 2 = 0 then sk 24 else sk 25) 2 < k) (hf : f = -1) : NCS L cl ln iv rv sk q i x f := fun a l0 l1 C F n hc he => Or.inl ⟨hf, fun c o h1 ho => by
  refine hv2 ((hc.part (i := i)).1.1) (gl3 ho) (fun e1 lt => ?_)
  rw [chs_len] at lt
  exact hI a l0 l1 C F n hc he c o h1 (by omega) ho⟩
end GPRW
end
section
set_option maxHeartbeats 4000000 in
set_option maxRecDepth 100000 in
theorem G_nodeBehind {l : Launch} {G : GT} {mi : Nat} {sk : Nat → Nat} {L : List Nat} {cl ln : Nat → Nat} {iv : Nat → Nat → Int} {rv : Nat → Nat → Option Nat}  {a0 : Nat} {i : Int} {x : Int} (hW : WT (g0 G) sk L cl ln iv rv) (hS : SKL sk L cl) (t_a0 : ty L cl a0 17) (h_i : -2147483648 ≤ i ∧ i ≤ 2147483647) (h_x : -2147483648 ≤ x ∧ x ≤ 2147483647) (hi : 0 ≤ i ∧ i ≤ 403) (hx : VL sk iv i x) : Mc l G mi (Phi (g0 G) sk) PHM yX4_nodeBehind cX4_nodeBehind 7 (some .int) 3 [.ref a0, .int (iI i), .int (iI x)] L cl ln iv rv 0 (fun v L2 cl2 ln2 iv2 rv2 => ∃ f : Int, v = some (.int (iI f)) ∧ L = L2 ∧ cl = cl2 ∧ ln = ln2 ∧ iv = iv2 ∧ rv = rv2 ∧ (-2147483648 ≤ f ∧ f ≤ 2147483647) ∧ (((f = -1 ∧ ¬ GD sk ln iv rv a0 i (i / 4) x) ∨ (GD sk ln iv rv a0 i (i / 4) x ∧ 4 * (i / 4) + 4 ≤ f ∧ f ≤ 4 * iv a0 9 + 3)) ∧ NBS L cl ln iv rv sk a0 i x f)) := by
  refine Mc.mk (by decide) (Nat.le_of_ble_eq_true rfl) ?_
  intro p e s m args below meth c A C hM
  refine hv7 (Phi.le hW hS) (show ty L cl (sk 11) 11 from ⟨(hS 11 rfl).1, by rw [(hS 11 rfl).2]; rfl⟩) (show ty L cl (sk 16) 16 from ⟨(hS 16 rfl).1, by rw [(hS 16 rfl).2]; rfl⟩) (show ty L cl (sk 24) 24 from ⟨(hS 24 rfl).1, by rw [(hS 24 rfl).2]; rfl⟩) (show ty L cl (sk 25) 25 from ⟨(hS 25 rfl).1, by rw [(hS 25 rfl).2]; rfl⟩) (show XT L cl ln L cl ln from XT.refl) (show fT [] L cl iv rv iv rv from fT.refl) (fun hph tsk11 tsk16 tsk24 tsk25 hX0 hF0 => ?_)
  obtain ⟨b89, hb89, tb89⟩ := hW.ref t_a0 8 rfl rfl rfl
  refine c_iload_n (j := 1) C dX4_nodeBehind_0 rfl ?_
  refine c_iconst C dX4_nodeBehind_1 ?_
  obtain ⟨dq1, hdq1⟩ : ∃ q : Int, q = i / 4 := ⟨_, rfl⟩
  refine c_idiv (w := iI dq1) C dX4_nodeBehind_2 (iI_ne0 ⟨by omega, by omega⟩) (by rw [hdq1]; exact iI_div ⟨by omega, by omega⟩ ⟨by omega, by omega⟩) ?_
  refine c_istore_n (lv2 := [(3, .int (iI dq1)), (0, .ref a0), (1, .int (iI i)), (2, .int (iI x))]) C dX4_nodeBehind_3 (by decide) rfl ?_
  refine c_iload_n (j := 2) C dX4_nodeBehind_4 rfl ?_
  refine c_iconst C dX4_nodeBehind_5 ?_
  obtain ⟨zz1, hzz1, ezz1⟩ := iI_of (iI i &&& iI 2)
  refine c_iand (w := iI zz1) C dX4_nodeBehind_6 ezz1 ?_
  have hb2zz1 := bz_iff ezz1 hzz1
  refine c_if_eq (tgt := 14) C ⟨by omega, by omega⟩ dX4_nodeBehind_7 (by decide) (fun c1 => ?_) (fun c1 => ?_)
  · refine c_iconst C dX4_nodeBehind_14 ?_
    refine c_istore (lv2 := [(4, .int (iI 0)), (3, .int (iI dq1)), (0, .ref a0), (1, .int (iI i)), (2, .int (iI x))]) C dX4_nodeBehind_15 (by decide) rfl ?_
    refine c_iload_n (j := 4) C dX4_nodeBehind_17 rfl ?_
    refine c_if_gt (tgt := 45) C ⟨by omega, by omega⟩ dX4_nodeBehind_18 (by decide) (fun c2 => ?_) (fun c2 => ?_)
    · refine c_aload_n (j := 2) (x := a0) C dX4_nodeBehind_45 rfl ?_
      obtain ⟨rb1, rq1, trb1⟩ := hW.ref t_a0 7 rfl rfl rfl
      have erb1 := hW.sk trb1 (by decide) rfl
      subst erb1
      refine c_getr (k := 7) C ck_5 dX4_nodeBehind_46 w1_238 (by decide) t_a0 rfl rfl (by decide) rfl rq1 ?_
      refine c_st (st2 := [.ref (sk 16)]) rfl ?_
      refine c_iload_n (j := 3) C dX4_nodeBehind_49 rfl ?_
      refine c_iconst C dX4_nodeBehind_50 ?_
      obtain ⟨zz2, hzz2, ezz2⟩ := iI_of (iI i &&& iI 1)
      refine c_iand (w := iI zz2) C dX4_nodeBehind_51 ezz2 ?_
      refine hv2 (bz_iff ezz2 hzz2) (hx.zed ezz2 hzz2) (fun hb1zz2 vzzz2 => ?_)
      refine c_if_eq (tgt := 59) C ⟨by omega, by omega⟩ dX4_nodeBehind_52 (by decide) (fun c3 => ?_) (fun c3 => ?_)
      · refine c_iconst C dX4_nodeBehind_59 ?_
        refine d_callV (As := [.int (iI 0)]) (rest := []) C hM (C_rowsOf (a0 := (sk 16)) (g := 0) hW hS tsk16 ⟨by decide, by decide⟩ ) dX4_nodeBehind_60 kV_X4_95 rfl tsk16 rfl rfl (by decide) ck_4 rfl (Nat.le_of_ble_eq_true rfl) ⟨(Nat.le_of_ble_eq_true rfl), (Nat.le_of_ble_eq_true rfl)⟩ hph hph (show 0 + 0 = 0 from rfl) (by decide) (fun rh1 Lh1 clh1 lnh1 ivh1 rvh1 h1 => ?_)
        obtain ⟨f1, rfl, rfl, rfl, rfl, rfl, rfl, rgf1, exf1⟩ := h1
        refine c_st (st2 := [.ref f1]) rfl ?_
        rcases exf1 with exf1 | exf1
        · obtain ⟨hf1, rfl⟩ := exf1
          refine c_st (st2 := [.ref (sk 24)]) rfl ?_
          refine c_iload_n (j := 4) C dX4_nodeBehind_63 rfl ?_
          refine c_iconst C dX4_nodeBehind_64 ?_
          refine c_isub C dX4_nodeBehind_65 ?_
          have ri1 : 0 ≤ iv (sk 24) 2 ∧ iv (sk 24) 2 ≤ 6003 := hW.int tsk24 2
          refine d_callV (As := [.int (iI (x - 1))]) (rest := []) C hM (C_get_24 (a0 := (sk 24)) (i := x - 1) hW hS tsk24 (by omega) (by show 0 ≤ (x - 1) ∧ (x - 1) < iv (sk 24) 2; omega)) dX4_nodeBehind_66 kV_X4_110 rfl tsk24 rfl rfl (by decide) ck_0 rfl (Nat.le_of_ble_eq_true rfl) ⟨(Nat.le_of_ble_eq_true rfl), (Nat.le_of_ble_eq_true rfl)⟩ hph hph (show 0 + 0 = 0 from rfl) (by decide) (fun rh2 Lh2 clh2 lnh2 ivh2 rvh2 h2 => ?_)
          obtain ⟨f2, rfl, rfl, rfl, rfl, rfl, rfl, rgf2, exf2⟩ := h2
          refine c_st (st2 := [.ref f2]) rfl ?_
          have gf2 : el rv (sk 24) (x - 1).toNat = some f2 := exf2
          refine c_cast C ck_6 dX4_nodeBehind_69 w5_149 w8_169t rgf2 rfl rfl (by decide) ?_
          refine c_astore (lv2 := [(5, .ref f2), (4, .int (iI 0)), (3, .int (iI dq1)), (0, .ref a0), (1, .int (iI i)), (2, .int (iI x))]) C dX4_nodeBehind_72 (by decide) rfl ?_
          refine c_aload_n (j := 3) (x := a0) C dX4_nodeBehind_74 rfl ?_
          refine c_aload (j := 0) (x := f2) C dX4_nodeBehind_75 rfl ?_
          refine c_iload_n (j := 2) C dX4_nodeBehind_77 rfl ?_
          refine d_callV (As := [.ref f2, .int (iI dq1)]) (rest := []) C hM (C_looksLikeRow (a0 := a0) (a1 := f2) (i := dq1) hW hS t_a0 rgf2 (by omega) (by show 0 ≤ dq1 ∧ dq1 ≤ 1000; omega)) dX4_nodeBehind_78 kV_X4_116 rfl t_a0 rfl rfl (by decide) ck_5 rfl (Nat.le_of_ble_eq_true rfl) ⟨(Nat.le_of_ble_eq_true rfl), (Nat.le_of_ble_eq_true rfl)⟩ hph hph (show 0 + 0 = 0 from rfl) (by decide) (fun rh3 Lh3 clh3 lnh3 ivh3 rvh3 h3 => ?_)
          obtain ⟨f3, rfl, rfl, rfl, rfl, rfl, rfl, rgf3, exf3⟩ := h3
          refine c_st (st2 := [.int (iI f3)]) rfl ?_
          have gf3 : f3 = 1 ↔ LRw ln iv rv a0 f2 dq1 := exf3
          refine c_if_eq (tgt := 97) C ⟨by omega, by omega⟩ dX4_nodeBehind_81 (by decide) (fun c4 => ?_) (fun c4 => ?_)
          · refine c_iconst C dX4_nodeBehind_97 ?_
            exact c_iret C dX4_nodeBehind_98 rfl (by decide) (rom0 hph hph (by decide)) ⟨(-1), rfl, rfl, rfl, rfl, rfl, rfl, ⟨by decide, by decide⟩, ⟨(by rw [← hdq1]; exact Or.inl ⟨rfl, GD.no1 (by omega) (Or.inl ⟨hb1zz2.mpr (by omega), exf2⟩) (fun q _ => absurd (gf3.mpr q) (by omega))⟩), (NBS.no1 hW hb89 hi (by omega) (by rw [← hdq1]; exact (GD.no1 (by omega) (Or.inl ⟨hb1zz2.mpr (by omega), exf2⟩) (fun q _ => absurd (gf3.mpr q) (by omega)))) rfl)⟩⟩
          · refine c_iload (j := 1) C dX4_nodeBehind_84 rfl ?_
            refine c_if_eq (tgt := 99) C ⟨by decide, by decide⟩ dX4_nodeBehind_86 (by decide) (fun _ => ?_) (fun z => absurd z (by omega))
            refine c_iload_n (j := 4) C dX4_nodeBehind_99 rfl ?_
            refine c_iconst C dX4_nodeBehind_100 ?_
            obtain ⟨zz3, hzz3, ezz3⟩ := iI_of (iI i &&& iI 1)
            refine c_iand (w := iI zz3) C dX4_nodeBehind_101 ezz3 ?_
            have bazz3 := and1 ezz3 hzz3
            have bmzz3 := and1e ezz3 hzz3 ⟨by omega, by omega⟩
            refine c_istore (lv2 := [(6, .int (iI zz3)), (5, .ref f2), (4, .int (iI 0)), (3, .int (iI dq1)), (0, .ref a0), (1, .int (iI i)), (2, .int (iI x))]) C dX4_nodeBehind_102 (by decide) rfl ?_
            refine c_aload (j := 1) (x := f2) C dX4_nodeBehind_104 rfl ?_
            have ri2 : (-2147483648) ≤ iv f2 0 ∧ iv f2 0 ≤ 2147483647 := hW.int rgf2 0
            refine c_get (k := 0) C ck_6 dX4_nodeBehind_106 w3_136 (by decide) rgf2 rfl rfl (by decide) rfl ?_
            rcases (show (iv f2 0) = 0 ∨ (iv f2 0) = 1 ∨ (iv f2 0) = 2 ∨ (iv f2 0) = 3 ∨ ((iv f2 0) < 0 ∨ 3 < (iv f2 0)) by omega) with sw1 | sw1 | sw1 | sw1 | sw1
            · refine c_tabIn (tgt := 140) (off := 31) C (r32_c (lo := (-2147483648)) (hi := 2147483647) ri2.1 ri2.2 (by decide) (by decide)) dX4_nodeBehind_109 (by omega) (by omega) (by rw [sw1]; rfl) (by decide) ?_
              refine c_iload (j := 0) C dX4_nodeBehind_140 rfl ?_
              refine c_iconst C dX4_nodeBehind_142 ?_
              obtain ⟨zz4, hzz4, ezz4⟩ := iI_of (iI zz3 ||| iI 2)
              refine c_ior (w := iI zz4) C dX4_nodeBehind_143 ezz4 ?_
              refine hv2 (or2 bazz3 ezz4 hzz4) (or2e bazz3 ezz4 hzz4) (fun bozz4 bpzz4 => ?_)
              refine c_istore (lv2 := [(6, .int (iI zz4)), (5, .ref f2), (4, .int (iI 0)), (3, .int (iI dq1)), (0, .ref a0), (1, .int (iI i)), (2, .int (iI x))]) C dX4_nodeBehind_144 (by decide) rfl ?_
              refine c_goto (tgt := 161) C dX4_nodeBehind_146 (by decide) ?_
              refine c_iload_n (j := 3) C dX4_nodeBehind_161 rfl ?_
              refine c_aload (j := 1) (x := f2) C dX4_nodeBehind_162 rfl ?_
              obtain ⟨rb2, rq2, trb2⟩ := hW.ref rgf2 2 rfl rfl rfl
              have lnrb2 : 1 ≤ ln rb2 ∧ ln rb2 ≤ 4 := hW.len trb2 rfl
              refine c_getr (k := 2) C ck_6 dX4_nodeBehind_164 w3_144 (by decide) rgf2 rfl rfl (by decide) rfl rq2 ?_
              refine c_st (st2 := [.ref rb2, .int (iI dq1)]) rfl ?_
              have ll1 : 1 ≤ ln rb2 ∧ ln rb2 ≤ 4 := hW.len trb2 rfl
              refine c_alenI C dX4_nodeBehind_167 trb2 rfl ?_
              refine c_iadd C dX4_nodeBehind_168 ?_
              refine c_iconst C dX4_nodeBehind_169 ?_
              refine c_imul C dX4_nodeBehind_170 ?_
              refine c_iload (j := 0) C dX4_nodeBehind_171 rfl ?_
              refine c_iadd C dX4_nodeBehind_173 ?_
              have up9 := (gf3.mp (by omega) rb2 rq2 (ln rb2 - 1) (by omega)).1
              exact c_iret C dX4_nodeBehind_174 rfl (by decide) (rom0 hph hph (by decide)) ⟨(((dq1 + ((ln rb2 : Nat) : Int)) * 4) + zz4), rfl, rfl, rfl, rfl, rfl, rfl, ⟨by omega, by omega⟩, ⟨(by rw [← hdq1]; exact Or.inr ⟨GD.mk1 (by omega) (Or.inl ⟨hb1zz2.mpr (by omega), exf2⟩) (gf3.mp (by omega)) (Or.inl (hb2zz1.mpr (by omega))), by omega⟩), (NBS.yes1 (fl := zz4) hW hb89 hi (by omega) (Or.inl ⟨hb1zz2.mpr (by omega), exf2⟩) (by rw [← hdq1]; exact GD.mk1 (by omega) (Or.inl ⟨hb1zz2.mpr (by omega), exf2⟩) (gf3.mp (by omega)) (Or.inl (hb2zz1.mpr (by omega)))) rq2 (by omega) (by omega))⟩⟩
            · refine c_tabIn (tgt := 161) (off := 52) C (r32_c (lo := (-2147483648)) (hi := 2147483647) ri2.1 ri2.2 (by decide) (by decide)) dX4_nodeBehind_109 (by omega) (by omega) (by rw [sw1]; rfl) (by decide) ?_
              refine c_iload_n (j := 3) C dX4_nodeBehind_161 rfl ?_
              refine c_aload (j := 1) (x := f2) C dX4_nodeBehind_162 rfl ?_
              obtain ⟨rb3, rq3, trb3⟩ := hW.ref rgf2 2 rfl rfl rfl
              have lnrb3 : 1 ≤ ln rb3 ∧ ln rb3 ≤ 4 := hW.len trb3 rfl
              refine c_getr (k := 2) C ck_6 dX4_nodeBehind_164 w3_144 (by decide) rgf2 rfl rfl (by decide) rfl rq3 ?_
              refine c_st (st2 := [.ref rb3, .int (iI dq1)]) rfl ?_
              have ll2 : 1 ≤ ln rb3 ∧ ln rb3 ≤ 4 := hW.len trb3 rfl
              refine c_alenI C dX4_nodeBehind_167 trb3 rfl ?_
              refine c_iadd C dX4_nodeBehind_168 ?_
              refine c_iconst C dX4_nodeBehind_169 ?_
              refine c_imul C dX4_nodeBehind_170 ?_
              refine c_iload (j := 0) C dX4_nodeBehind_171 rfl ?_
              refine c_iadd C dX4_nodeBehind_173 ?_
              have up9 := (gf3.mp (by omega) rb3 rq3 (ln rb3 - 1) (by omega)).1
              exact c_iret C dX4_nodeBehind_174 rfl (by decide) (rom0 hph hph (by decide)) ⟨(((dq1 + ((ln rb3 : Nat) : Int)) * 4) + zz3), rfl, rfl, rfl, rfl, rfl, rfl, ⟨by omega, by omega⟩, ⟨(by rw [← hdq1]; exact Or.inr ⟨GD.mk1 (by omega) (Or.inl ⟨hb1zz2.mpr (by omega), exf2⟩) (gf3.mp (by omega)) (Or.inl (hb2zz1.mpr (by omega))), by omega⟩), (NBS.yes1 (fl := zz3) hW hb89 hi (by omega) (Or.inl ⟨hb1zz2.mpr (by omega), exf2⟩) (by rw [← hdq1]; exact GD.mk1 (by omega) (Or.inl ⟨hb1zz2.mpr (by omega), exf2⟩) (gf3.mp (by omega)) (Or.inl (hb2zz1.mpr (by omega)))) rq3 (by omega) (by omega))⟩⟩
            · refine c_tabIn (tgt := 149) (off := 40) C (r32_c (lo := (-2147483648)) (hi := 2147483647) ri2.1 ri2.2 (by decide) (by decide)) dX4_nodeBehind_109 (by omega) (by omega) (by rw [sw1]; rfl) (by decide) ?_
              refine c_iconst C dX4_nodeBehind_149 ?_
              refine c_istore (lv2 := [(6, .int (iI 1)), (5, .ref f2), (4, .int (iI 0)), (3, .int (iI dq1)), (0, .ref a0), (1, .int (iI i)), (2, .int (iI x))]) C dX4_nodeBehind_150 (by decide) rfl ?_
              refine c_goto (tgt := 161) C dX4_nodeBehind_152 (by decide) ?_
              refine c_iload_n (j := 3) C dX4_nodeBehind_161 rfl ?_
              refine c_aload (j := 1) (x := f2) C dX4_nodeBehind_162 rfl ?_
              obtain ⟨rb4, rq4, trb4⟩ := hW.ref rgf2 2 rfl rfl rfl
              have lnrb4 : 1 ≤ ln rb4 ∧ ln rb4 ≤ 4 := hW.len trb4 rfl
              refine c_getr (k := 2) C ck_6 dX4_nodeBehind_164 w3_144 (by decide) rgf2 rfl rfl (by decide) rfl rq4 ?_
              refine c_st (st2 := [.ref rb4, .int (iI dq1)]) rfl ?_
              have ll3 : 1 ≤ ln rb4 ∧ ln rb4 ≤ 4 := hW.len trb4 rfl
              refine c_alenI C dX4_nodeBehind_167 trb4 rfl ?_
              refine c_iadd C dX4_nodeBehind_168 ?_
              refine c_iconst C dX4_nodeBehind_169 ?_
              refine c_imul C dX4_nodeBehind_170 ?_
              refine c_iload (j := 0) C dX4_nodeBehind_171 rfl ?_
              refine c_iadd C dX4_nodeBehind_173 ?_
              have up9 := (gf3.mp (by omega) rb4 rq4 (ln rb4 - 1) (by omega)).1
              exact c_iret C dX4_nodeBehind_174 rfl (by decide) (rom0 hph hph (by decide)) ⟨(((dq1 + ((ln rb4 : Nat) : Int)) * 4) + 1), rfl, rfl, rfl, rfl, rfl, rfl, ⟨by omega, by omega⟩, ⟨(by rw [← hdq1]; exact Or.inr ⟨GD.mk1 (by omega) (Or.inl ⟨hb1zz2.mpr (by omega), exf2⟩) (gf3.mp (by omega)) (Or.inl (hb2zz1.mpr (by omega))), by omega⟩), (NBS.yes1 (fl := 1) hW hb89 hi (by omega) (Or.inl ⟨hb1zz2.mpr (by omega), exf2⟩) (by rw [← hdq1]; exact GD.mk1 (by omega) (Or.inl ⟨hb1zz2.mpr (by omega), exf2⟩) (gf3.mp (by omega)) (Or.inl (hb2zz1.mpr (by omega)))) rq4 (by omega) (by omega))⟩⟩
            · refine c_tabIn (tgt := 155) (off := 46) C (r32_c (lo := (-2147483648)) (hi := 2147483647) ri2.1 ri2.2 (by decide) (by decide)) dX4_nodeBehind_109 (by omega) (by omega) (by rw [sw1]; rfl) (by decide) ?_
              refine c_iconst C dX4_nodeBehind_155 ?_
              refine c_istore (lv2 := [(6, .int (iI 0)), (5, .ref f2), (4, .int (iI 0)), (3, .int (iI dq1)), (0, .ref a0), (1, .int (iI i)), (2, .int (iI x))]) C dX4_nodeBehind_156 (by decide) rfl ?_
              refine c_goto (tgt := 161) C dX4_nodeBehind_158 (by decide) ?_
              refine c_iload_n (j := 3) C dX4_nodeBehind_161 rfl ?_
              refine c_aload (j := 1) (x := f2) C dX4_nodeBehind_162 rfl ?_
              obtain ⟨rb5, rq5, trb5⟩ := hW.ref rgf2 2 rfl rfl rfl
              have lnrb5 : 1 ≤ ln rb5 ∧ ln rb5 ≤ 4 := hW.len trb5 rfl
              refine c_getr (k := 2) C ck_6 dX4_nodeBehind_164 w3_144 (by decide) rgf2 rfl rfl (by decide) rfl rq5 ?_
              refine c_st (st2 := [.ref rb5, .int (iI dq1)]) rfl ?_
              have ll4 : 1 ≤ ln rb5 ∧ ln rb5 ≤ 4 := hW.len trb5 rfl
              refine c_alenI C dX4_nodeBehind_167 trb5 rfl ?_
              refine c_iadd C dX4_nodeBehind_168 ?_
              refine c_iconst C dX4_nodeBehind_169 ?_
              refine c_imul C dX4_nodeBehind_170 ?_
              refine c_iload (j := 0) C dX4_nodeBehind_171 rfl ?_
              refine c_iadd C dX4_nodeBehind_173 ?_
              have up9 := (gf3.mp (by omega) rb5 rq5 (ln rb5 - 1) (by omega)).1
              exact c_iret C dX4_nodeBehind_174 rfl (by decide) (rom0 hph hph (by decide)) ⟨(((dq1 + ((ln rb5 : Nat) : Int)) * 4) + 0), rfl, rfl, rfl, rfl, rfl, rfl, ⟨by omega, by omega⟩, ⟨(by rw [← hdq1]; exact Or.inr ⟨GD.mk1 (by omega) (Or.inl ⟨hb1zz2.mpr (by omega), exf2⟩) (gf3.mp (by omega)) (Or.inl (hb2zz1.mpr (by omega))), by omega⟩), (NBS.yes1 (fl := 0) hW hb89 hi (by omega) (Or.inl ⟨hb1zz2.mpr (by omega), exf2⟩) (by rw [← hdq1]; exact GD.mk1 (by omega) (Or.inl ⟨hb1zz2.mpr (by omega), exf2⟩) (gf3.mp (by omega)) (Or.inl (hb2zz1.mpr (by omega)))) rq5 (by omega) (by omega))⟩⟩
            · refine c_tabOut (tgt := 161) C (r32_c (lo := (-2147483648)) (hi := 2147483647) ri2.1 ri2.2 (by decide) (by decide)) dX4_nodeBehind_109 sw1 (by decide) ?_
              refine c_iload_n (j := 3) C dX4_nodeBehind_161 rfl ?_
              refine c_aload (j := 1) (x := f2) C dX4_nodeBehind_162 rfl ?_
              obtain ⟨rb6, rq6, trb6⟩ := hW.ref rgf2 2 rfl rfl rfl
              have lnrb6 : 1 ≤ ln rb6 ∧ ln rb6 ≤ 4 := hW.len trb6 rfl
              refine c_getr (k := 2) C ck_6 dX4_nodeBehind_164 w3_144 (by decide) rgf2 rfl rfl (by decide) rfl rq6 ?_
              refine c_st (st2 := [.ref rb6, .int (iI dq1)]) rfl ?_
              have ll5 : 1 ≤ ln rb6 ∧ ln rb6 ≤ 4 := hW.len trb6 rfl
              refine c_alenI C dX4_nodeBehind_167 trb6 rfl ?_
              refine c_iadd C dX4_nodeBehind_168 ?_
              refine c_iconst C dX4_nodeBehind_169 ?_
              refine c_imul C dX4_nodeBehind_170 ?_
              refine c_iload (j := 0) C dX4_nodeBehind_171 rfl ?_
              refine c_iadd C dX4_nodeBehind_173 ?_
              have up9 := (gf3.mp (by omega) rb6 rq6 (ln rb6 - 1) (by omega)).1
              exact c_iret C dX4_nodeBehind_174 rfl (by decide) (rom0 hph hph (by decide)) ⟨(((dq1 + ((ln rb6 : Nat) : Int)) * 4) + zz3), rfl, rfl, rfl, rfl, rfl, rfl, ⟨by omega, by omega⟩, ⟨(by rw [← hdq1]; exact Or.inr ⟨GD.mk1 (by omega) (Or.inl ⟨hb1zz2.mpr (by omega), exf2⟩) (gf3.mp (by omega)) (Or.inl (hb2zz1.mpr (by omega))), by omega⟩), (NBS.yes1 (fl := zz3) hW hb89 hi (by omega) (Or.inl ⟨hb1zz2.mpr (by omega), exf2⟩) (by rw [← hdq1]; exact GD.mk1 (by omega) (Or.inl ⟨hb1zz2.mpr (by omega), exf2⟩) (gf3.mp (by omega)) (Or.inl (hb2zz1.mpr (by omega)))) rq6 (by omega) (by omega))⟩⟩
        · exact absurd exf1.1 (by decide)
      · refine c_iconst C dX4_nodeBehind_55 ?_
        refine c_goto (tgt := 60) C dX4_nodeBehind_56 (by decide) ?_
        refine d_callV (As := [.int (iI 1)]) (rest := []) C hM (C_rowsOf (a0 := (sk 16)) (g := 1) hW hS tsk16 ⟨by decide, by decide⟩ ) dX4_nodeBehind_60 kV_X4_95 rfl tsk16 rfl rfl (by decide) ck_4 rfl (Nat.le_of_ble_eq_true rfl) ⟨(Nat.le_of_ble_eq_true rfl), (Nat.le_of_ble_eq_true rfl)⟩ hph hph (show 0 + 0 = 0 from rfl) (by decide) (fun rh4 Lh4 clh4 lnh4 ivh4 rvh4 h4 => ?_)
        obtain ⟨f4, rfl, rfl, rfl, rfl, rfl, rfl, rgf4, exf4⟩ := h4
        refine c_st (st2 := [.ref f4]) rfl ?_
        rcases exf4 with exf4 | exf4
        · exact absurd exf4.1 (by decide)
        · obtain ⟨hf4, rfl⟩ := exf4
          refine c_st (st2 := [.ref (sk 25)]) rfl ?_
          refine c_iload_n (j := 4) C dX4_nodeBehind_63 rfl ?_
          refine c_iconst C dX4_nodeBehind_64 ?_
          refine c_isub C dX4_nodeBehind_65 ?_
          have ri3 : 0 ≤ iv (sk 25) 2 ∧ iv (sk 25) 2 ≤ 6003 := hW.int tsk25 2
          refine d_callV (As := [.int (iI (x - 1))]) (rest := []) C hM (C_get_25 (a0 := (sk 25)) (i := x - 1) hW hS tsk25 (by omega) (by show 0 ≤ (x - 1) ∧ (x - 1) < iv (sk 25) 2; omega)) dX4_nodeBehind_66 kV_X4_110 rfl tsk25 rfl rfl (by decide) ck_0 rfl (Nat.le_of_ble_eq_true rfl) ⟨(Nat.le_of_ble_eq_true rfl), (Nat.le_of_ble_eq_true rfl)⟩ hph hph (show 0 + 0 = 0 from rfl) (by decide) (fun rh5 Lh5 clh5 lnh5 ivh5 rvh5 h5 => ?_)
          obtain ⟨f5, rfl, rfl, rfl, rfl, rfl, rfl, rgf5, exf5⟩ := h5
          refine c_st (st2 := [.ref f5]) rfl ?_
          have gf5 : el rv (sk 25) (x - 1).toNat = some f5 := exf5
          refine c_cast C ck_6 dX4_nodeBehind_69 w5_149 w8_169t rgf5 rfl rfl (by decide) ?_
          refine c_astore (lv2 := [(5, .ref f5), (4, .int (iI 0)), (3, .int (iI dq1)), (0, .ref a0), (1, .int (iI i)), (2, .int (iI x))]) C dX4_nodeBehind_72 (by decide) rfl ?_
          refine c_aload_n (j := 3) (x := a0) C dX4_nodeBehind_74 rfl ?_
          refine c_aload (j := 0) (x := f5) C dX4_nodeBehind_75 rfl ?_
          refine c_iload_n (j := 2) C dX4_nodeBehind_77 rfl ?_
          refine d_callV (As := [.ref f5, .int (iI dq1)]) (rest := []) C hM (C_looksLikeRow (a0 := a0) (a1 := f5) (i := dq1) hW hS t_a0 rgf5 (by omega) (by show 0 ≤ dq1 ∧ dq1 ≤ 1000; omega)) dX4_nodeBehind_78 kV_X4_116 rfl t_a0 rfl rfl (by decide) ck_5 rfl (Nat.le_of_ble_eq_true rfl) ⟨(Nat.le_of_ble_eq_true rfl), (Nat.le_of_ble_eq_true rfl)⟩ hph hph (show 0 + 0 = 0 from rfl) (by decide) (fun rh6 Lh6 clh6 lnh6 ivh6 rvh6 h6 => ?_)
          obtain ⟨f6, rfl, rfl, rfl, rfl, rfl, rfl, rgf6, exf6⟩ := h6
          refine c_st (st2 := [.int (iI f6)]) rfl ?_
          have gf6 : f6 = 1 ↔ LRw ln iv rv a0 f5 dq1 := exf6
          refine c_if_eq (tgt := 97) C ⟨by omega, by omega⟩ dX4_nodeBehind_81 (by decide) (fun c5 => ?_) (fun c5 => ?_)
          · refine c_iconst C dX4_nodeBehind_97 ?_
            exact c_iret C dX4_nodeBehind_98 rfl (by decide) (rom0 hph hph (by decide)) ⟨(-1), rfl, rfl, rfl, rfl, rfl, rfl, ⟨by decide, by decide⟩, ⟨(by rw [← hdq1]; exact Or.inl ⟨rfl, GD.no1 (by omega) (Or.inr ⟨fun q => absurd (hb1zz2.mp q) (by omega), exf5⟩) (fun q _ => absurd (gf6.mpr q) (by omega))⟩), (NBS.no1 hW hb89 hi (by omega) (by rw [← hdq1]; exact (GD.no1 (by omega) (Or.inr ⟨fun q => absurd (hb1zz2.mp q) (by omega), exf5⟩) (fun q _ => absurd (gf6.mpr q) (by omega)))) rfl)⟩⟩
          · refine c_iload (j := 1) C dX4_nodeBehind_84 rfl ?_
            refine c_if_eq (tgt := 99) C ⟨by decide, by decide⟩ dX4_nodeBehind_86 (by decide) (fun _ => ?_) (fun z => absurd z (by omega))
            refine c_iload_n (j := 4) C dX4_nodeBehind_99 rfl ?_
            refine c_iconst C dX4_nodeBehind_100 ?_
            obtain ⟨zz5, hzz5, ezz5⟩ := iI_of (iI i &&& iI 1)
            refine c_iand (w := iI zz5) C dX4_nodeBehind_101 ezz5 ?_
            have bazz5 := and1 ezz5 hzz5
            have bmzz5 := and1e ezz5 hzz5 ⟨by omega, by omega⟩
            refine c_istore (lv2 := [(6, .int (iI zz5)), (5, .ref f5), (4, .int (iI 0)), (3, .int (iI dq1)), (0, .ref a0), (1, .int (iI i)), (2, .int (iI x))]) C dX4_nodeBehind_102 (by decide) rfl ?_
            refine c_aload (j := 1) (x := f5) C dX4_nodeBehind_104 rfl ?_
            have ri4 : (-2147483648) ≤ iv f5 0 ∧ iv f5 0 ≤ 2147483647 := hW.int rgf5 0
            refine c_get (k := 0) C ck_6 dX4_nodeBehind_106 w3_136 (by decide) rgf5 rfl rfl (by decide) rfl ?_
            rcases (show (iv f5 0) = 0 ∨ (iv f5 0) = 1 ∨ (iv f5 0) = 2 ∨ (iv f5 0) = 3 ∨ ((iv f5 0) < 0 ∨ 3 < (iv f5 0)) by omega) with sw2 | sw2 | sw2 | sw2 | sw2
            · refine c_tabIn (tgt := 140) (off := 31) C (r32_c (lo := (-2147483648)) (hi := 2147483647) ri4.1 ri4.2 (by decide) (by decide)) dX4_nodeBehind_109 (by omega) (by omega) (by rw [sw2]; rfl) (by decide) ?_
              refine c_iload (j := 0) C dX4_nodeBehind_140 rfl ?_
              refine c_iconst C dX4_nodeBehind_142 ?_
              obtain ⟨zz6, hzz6, ezz6⟩ := iI_of (iI zz5 ||| iI 2)
              refine c_ior (w := iI zz6) C dX4_nodeBehind_143 ezz6 ?_
              refine hv2 (or2 bazz5 ezz6 hzz6) (or2e bazz5 ezz6 hzz6) (fun bozz6 bpzz6 => ?_)
              refine c_istore (lv2 := [(6, .int (iI zz6)), (5, .ref f5), (4, .int (iI 0)), (3, .int (iI dq1)), (0, .ref a0), (1, .int (iI i)), (2, .int (iI x))]) C dX4_nodeBehind_144 (by decide) rfl ?_
              refine c_goto (tgt := 161) C dX4_nodeBehind_146 (by decide) ?_
              refine c_iload_n (j := 3) C dX4_nodeBehind_161 rfl ?_
              refine c_aload (j := 1) (x := f5) C dX4_nodeBehind_162 rfl ?_
              obtain ⟨rb7, rq7, trb7⟩ := hW.ref rgf5 2 rfl rfl rfl
              have lnrb7 : 1 ≤ ln rb7 ∧ ln rb7 ≤ 4 := hW.len trb7 rfl
              refine c_getr (k := 2) C ck_6 dX4_nodeBehind_164 w3_144 (by decide) rgf5 rfl rfl (by decide) rfl rq7 ?_
              refine c_st (st2 := [.ref rb7, .int (iI dq1)]) rfl ?_
              have ll6 : 1 ≤ ln rb7 ∧ ln rb7 ≤ 4 := hW.len trb7 rfl
              refine c_alenI C dX4_nodeBehind_167 trb7 rfl ?_
              refine c_iadd C dX4_nodeBehind_168 ?_
              refine c_iconst C dX4_nodeBehind_169 ?_
              refine c_imul C dX4_nodeBehind_170 ?_
              refine c_iload (j := 0) C dX4_nodeBehind_171 rfl ?_
              refine c_iadd C dX4_nodeBehind_173 ?_
              have up9 := (gf6.mp (by omega) rb7 rq7 (ln rb7 - 1) (by omega)).1
              exact c_iret C dX4_nodeBehind_174 rfl (by decide) (rom0 hph hph (by decide)) ⟨(((dq1 + ((ln rb7 : Nat) : Int)) * 4) + zz6), rfl, rfl, rfl, rfl, rfl, rfl, ⟨by omega, by omega⟩, ⟨(by rw [← hdq1]; exact Or.inr ⟨GD.mk1 (by omega) (Or.inr ⟨fun q => absurd (hb1zz2.mp q) (by omega), exf5⟩) (gf6.mp (by omega)) (Or.inl (hb2zz1.mpr (by omega))), by omega⟩), (NBS.yes1 (fl := zz6) hW hb89 hi (by omega) (Or.inr ⟨fun q => absurd (hb1zz2.mp q) (by omega), exf5⟩) (by rw [← hdq1]; exact GD.mk1 (by omega) (Or.inr ⟨fun q => absurd (hb1zz2.mp q) (by omega), exf5⟩) (gf6.mp (by omega)) (Or.inl (hb2zz1.mpr (by omega)))) rq7 (by omega) (by omega))⟩⟩
            · refine c_tabIn (tgt := 161) (off := 52) C (r32_c (lo := (-2147483648)) (hi := 2147483647) ri4.1 ri4.2 (by decide) (by decide)) dX4_nodeBehind_109 (by omega) (by omega) (by rw [sw2]; rfl) (by decide) ?_
              refine c_iload_n (j := 3) C dX4_nodeBehind_161 rfl ?_
              refine c_aload (j := 1) (x := f5) C dX4_nodeBehind_162 rfl ?_
              obtain ⟨rb8, rq8, trb8⟩ := hW.ref rgf5 2 rfl rfl rfl
              have lnrb8 : 1 ≤ ln rb8 ∧ ln rb8 ≤ 4 := hW.len trb8 rfl
              refine c_getr (k := 2) C ck_6 dX4_nodeBehind_164 w3_144 (by decide) rgf5 rfl rfl (by decide) rfl rq8 ?_
              refine c_st (st2 := [.ref rb8, .int (iI dq1)]) rfl ?_
              have ll7 : 1 ≤ ln rb8 ∧ ln rb8 ≤ 4 := hW.len trb8 rfl
              refine c_alenI C dX4_nodeBehind_167 trb8 rfl ?_
              refine c_iadd C dX4_nodeBehind_168 ?_
              refine c_iconst C dX4_nodeBehind_169 ?_
              refine c_imul C dX4_nodeBehind_170 ?_
              refine c_iload (j := 0) C dX4_nodeBehind_171 rfl ?_
              refine c_iadd C dX4_nodeBehind_173 ?_
              have up9 := (gf6.mp (by omega) rb8 rq8 (ln rb8 - 1) (by omega)).1
              exact c_iret C dX4_nodeBehind_174 rfl (by decide) (rom0 hph hph (by decide)) ⟨(((dq1 + ((ln rb8 : Nat) : Int)) * 4) + zz5), rfl, rfl, rfl, rfl, rfl, rfl, ⟨by omega, by omega⟩, ⟨(by rw [← hdq1]; exact Or.inr ⟨GD.mk1 (by omega) (Or.inr ⟨fun q => absurd (hb1zz2.mp q) (by omega), exf5⟩) (gf6.mp (by omega)) (Or.inl (hb2zz1.mpr (by omega))), by omega⟩), (NBS.yes1 (fl := zz5) hW hb89 hi (by omega) (Or.inr ⟨fun q => absurd (hb1zz2.mp q) (by omega), exf5⟩) (by rw [← hdq1]; exact GD.mk1 (by omega) (Or.inr ⟨fun q => absurd (hb1zz2.mp q) (by omega), exf5⟩) (gf6.mp (by omega)) (Or.inl (hb2zz1.mpr (by omega)))) rq8 (by omega) (by omega))⟩⟩
            · refine c_tabIn (tgt := 149) (off := 40) C (r32_c (lo := (-2147483648)) (hi := 2147483647) ri4.1 ri4.2 (by decide) (by decide)) dX4_nodeBehind_109 (by omega) (by omega) (by rw [sw2]; rfl) (by decide) ?_
              refine c_iconst C dX4_nodeBehind_149 ?_
              refine c_istore (lv2 := [(6, .int (iI 1)), (5, .ref f5), (4, .int (iI 0)), (3, .int (iI dq1)), (0, .ref a0), (1, .int (iI i)), (2, .int (iI x))]) C dX4_nodeBehind_150 (by decide) rfl ?_
              refine c_goto (tgt := 161) C dX4_nodeBehind_152 (by decide) ?_
              refine c_iload_n (j := 3) C dX4_nodeBehind_161 rfl ?_
              refine c_aload (j := 1) (x := f5) C dX4_nodeBehind_162 rfl ?_
              obtain ⟨rb9, rq9, trb9⟩ := hW.ref rgf5 2 rfl rfl rfl
              have lnrb9 : 1 ≤ ln rb9 ∧ ln rb9 ≤ 4 := hW.len trb9 rfl
              refine c_getr (k := 2) C ck_6 dX4_nodeBehind_164 w3_144 (by decide) rgf5 rfl rfl (by decide) rfl rq9 ?_
              refine c_st (st2 := [.ref rb9, .int (iI dq1)]) rfl ?_
              have ll8 : 1 ≤ ln rb9 ∧ ln rb9 ≤ 4 := hW.len trb9 rfl
              refine c_alenI C dX4_nodeBehind_167 trb9 rfl ?_
              refine c_iadd C dX4_nodeBehind_168 ?_
              refine c_iconst C dX4_nodeBehind_169 ?_
              refine c_imul C dX4_nodeBehind_170 ?_
              refine c_iload (j := 0) C dX4_nodeBehind_171 rfl ?_
              refine c_iadd C dX4_nodeBehind_173 ?_
              have up9 := (gf6.mp (by omega) rb9 rq9 (ln rb9 - 1) (by omega)).1
              exact c_iret C dX4_nodeBehind_174 rfl (by decide) (rom0 hph hph (by decide)) ⟨(((dq1 + ((ln rb9 : Nat) : Int)) * 4) + 1), rfl, rfl, rfl, rfl, rfl, rfl, ⟨by omega, by omega⟩, ⟨(by rw [← hdq1]; exact Or.inr ⟨GD.mk1 (by omega) (Or.inr ⟨fun q => absurd (hb1zz2.mp q) (by omega), exf5⟩) (gf6.mp (by omega)) (Or.inl (hb2zz1.mpr (by omega))), by omega⟩), (NBS.yes1 (fl := 1) hW hb89 hi (by omega) (Or.inr ⟨fun q => absurd (hb1zz2.mp q) (by omega), exf5⟩) (by rw [← hdq1]; exact GD.mk1 (by omega) (Or.inr ⟨fun q => absurd (hb1zz2.mp q) (by omega), exf5⟩) (gf6.mp (by omega)) (Or.inl (hb2zz1.mpr (by omega)))) rq9 (by omega) (by omega))⟩⟩
            · refine c_tabIn (tgt := 155) (off := 46) C (r32_c (lo := (-2147483648)) (hi := 2147483647) ri4.1 ri4.2 (by decide) (by decide)) dX4_nodeBehind_109 (by omega) (by omega) (by rw [sw2]; rfl) (by decide) ?_
              refine c_iconst C dX4_nodeBehind_155 ?_
              refine c_istore (lv2 := [(6, .int (iI 0)), (5, .ref f5), (4, .int (iI 0)), (3, .int (iI dq1)), (0, .ref a0), (1, .int (iI i)), (2, .int (iI x))]) C dX4_nodeBehind_156 (by decide) rfl ?_
              refine c_goto (tgt := 161) C dX4_nodeBehind_158 (by decide) ?_
              refine c_iload_n (j := 3) C dX4_nodeBehind_161 rfl ?_
              refine c_aload (j := 1) (x := f5) C dX4_nodeBehind_162 rfl ?_
              obtain ⟨rb10, rq10, trb10⟩ := hW.ref rgf5 2 rfl rfl rfl
              have lnrb10 : 1 ≤ ln rb10 ∧ ln rb10 ≤ 4 := hW.len trb10 rfl
              refine c_getr (k := 2) C ck_6 dX4_nodeBehind_164 w3_144 (by decide) rgf5 rfl rfl (by decide) rfl rq10 ?_
              refine c_st (st2 := [.ref rb10, .int (iI dq1)]) rfl ?_
              have ll9 : 1 ≤ ln rb10 ∧ ln rb10 ≤ 4 := hW.len trb10 rfl
              refine c_alenI C dX4_nodeBehind_167 trb10 rfl ?_
              refine c_iadd C dX4_nodeBehind_168 ?_
              refine c_iconst C dX4_nodeBehind_169 ?_
              refine c_imul C dX4_nodeBehind_170 ?_
              refine c_iload (j := 0) C dX4_nodeBehind_171 rfl ?_
              refine c_iadd C dX4_nodeBehind_173 ?_
              have up9 := (gf6.mp (by omega) rb10 rq10 (ln rb10 - 1) (by omega)).1
              exact c_iret C dX4_nodeBehind_174 rfl (by decide) (rom0 hph hph (by decide)) ⟨(((dq1 + ((ln rb10 : Nat) : Int)) * 4) + 0), rfl, rfl, rfl, rfl, rfl, rfl, ⟨by omega, by omega⟩, ⟨(by rw [← hdq1]; exact Or.inr ⟨GD.mk1 (by omega) (Or.inr ⟨fun q => absurd (hb1zz2.mp q) (by omega), exf5⟩) (gf6.mp (by omega)) (Or.inl (hb2zz1.mpr (by omega))), by omega⟩), (NBS.yes1 (fl := 0) hW hb89 hi (by omega) (Or.inr ⟨fun q => absurd (hb1zz2.mp q) (by omega), exf5⟩) (by rw [← hdq1]; exact GD.mk1 (by omega) (Or.inr ⟨fun q => absurd (hb1zz2.mp q) (by omega), exf5⟩) (gf6.mp (by omega)) (Or.inl (hb2zz1.mpr (by omega)))) rq10 (by omega) (by omega))⟩⟩
            · refine c_tabOut (tgt := 161) C (r32_c (lo := (-2147483648)) (hi := 2147483647) ri4.1 ri4.2 (by decide) (by decide)) dX4_nodeBehind_109 sw2 (by decide) ?_
              refine c_iload_n (j := 3) C dX4_nodeBehind_161 rfl ?_
              refine c_aload (j := 1) (x := f5) C dX4_nodeBehind_162 rfl ?_
              obtain ⟨rb11, rq11, trb11⟩ := hW.ref rgf5 2 rfl rfl rfl
              have lnrb11 : 1 ≤ ln rb11 ∧ ln rb11 ≤ 4 := hW.len trb11 rfl
              refine c_getr (k := 2) C ck_6 dX4_nodeBehind_164 w3_144 (by decide) rgf5 rfl rfl (by decide) rfl rq11 ?_
              refine c_st (st2 := [.ref rb11, .int (iI dq1)]) rfl ?_
              have ll10 : 1 ≤ ln rb11 ∧ ln rb11 ≤ 4 := hW.len trb11 rfl
              refine c_alenI C dX4_nodeBehind_167 trb11 rfl ?_
              refine c_iadd C dX4_nodeBehind_168 ?_
              refine c_iconst C dX4_nodeBehind_169 ?_
              refine c_imul C dX4_nodeBehind_170 ?_
              refine c_iload (j := 0) C dX4_nodeBehind_171 rfl ?_
              refine c_iadd C dX4_nodeBehind_173 ?_
              have up9 := (gf6.mp (by omega) rb11 rq11 (ln rb11 - 1) (by omega)).1
              exact c_iret C dX4_nodeBehind_174 rfl (by decide) (rom0 hph hph (by decide)) ⟨(((dq1 + ((ln rb11 : Nat) : Int)) * 4) + zz5), rfl, rfl, rfl, rfl, rfl, rfl, ⟨by omega, by omega⟩, ⟨(by rw [← hdq1]; exact Or.inr ⟨GD.mk1 (by omega) (Or.inr ⟨fun q => absurd (hb1zz2.mp q) (by omega), exf5⟩) (gf6.mp (by omega)) (Or.inl (hb2zz1.mpr (by omega))), by omega⟩), (NBS.yes1 (fl := zz5) hW hb89 hi (by omega) (Or.inr ⟨fun q => absurd (hb1zz2.mp q) (by omega), exf5⟩) (by rw [← hdq1]; exact GD.mk1 (by omega) (Or.inr ⟨fun q => absurd (hb1zz2.mp q) (by omega), exf5⟩) (gf6.mp (by omega)) (Or.inl (hb2zz1.mpr (by omega)))) rq11 (by omega) (by omega))⟩⟩
    · refine c_iload (j := 0) C dX4_nodeBehind_21 rfl ?_
      refine c_if_ne (tgt := 35) C ⟨by decide, by decide⟩ dX4_nodeBehind_23 (by decide) (fun z => absurd z (by omega)) (fun _ => ?_)
      refine c_aload_n (j := 2) (x := a0) C dX4_nodeBehind_26 rfl ?_
      refine c_iconst C dX4_nodeBehind_27 ?_
      refine c_iload_n (j := 1) C dX4_nodeBehind_28 rfl ?_
      refine d_callV (As := [.int (iI 0), .int (iI dq1)]) (rest := []) C hM (C_looksLike (a0 := a0) (x := 0) (i := dq1) hW hS t_a0 ⟨by decide, by decide⟩ (by omega) (by show 0 ≤ dq1; omega)) dX4_nodeBehind_29 kV_X4_106 rfl t_a0 rfl rfl (by decide) ck_5 rfl (Nat.le_of_ble_eq_true rfl) ⟨(Nat.le_of_ble_eq_true rfl), (Nat.le_of_ble_eq_true rfl)⟩ hph hph (show 0 + 0 = 0 from rfl) (by decide) (fun rh7 Lh7 clh7 lnh7 ivh7 rvh7 h7 => ?_)
      obtain ⟨f7, rfl, rfl, rfl, rfl, rfl, rfl, rgf7, exf7⟩ := h7
      refine c_st (st2 := [.int (iI f7)]) rfl ?_
      have gf7 : f7 = 1 ↔ LLw iv rv a0 (0 : Int) dq1 := exf7
      refine c_if_ne (tgt := 39) C ⟨by omega, by omega⟩ dX4_nodeBehind_32 (by decide) (fun c6 => ?_) (fun c6 => ?_)
      · refine c_iload_n (j := 1) C dX4_nodeBehind_39 rfl ?_
        refine c_iconst C dX4_nodeBehind_40 ?_
        refine c_iadd C dX4_nodeBehind_41 ?_
        refine c_iconst C dX4_nodeBehind_42 ?_
        refine c_imul C dX4_nodeBehind_43 ?_
        exact c_iret C dX4_nodeBehind_44 rfl (by decide) (rom0 hph hph (by decide)) ⟨((dq1 + 1) * 4), rfl, rfl, rfl, rfl, rfl, rfl, ⟨by omega, by omega⟩, ⟨(by rw [← hdq1]; exact Or.inr ⟨GD.mk0 (by omega) (hb2zz1.mpr (by omega)) (gf7.mp (by omega)), by have q := (gf7.mp (by omega)).1; omega⟩), (NBS.yes0 hb89 hi (by omega) (by rw [← hdq1]; exact GD.mk0 (by omega) (hb2zz1.mpr (by omega)) (gf7.mp (by omega))) (by omega))⟩⟩
      · refine c_iconst C dX4_nodeBehind_35 ?_
        refine c_goto (tgt := 44) C dX4_nodeBehind_36 (by decide) ?_
        exact c_iret C dX4_nodeBehind_44 rfl (by decide) (rom0 hph hph (by decide)) ⟨(-1), rfl, rfl, rfl, rfl, rfl, rfl, ⟨by decide, by decide⟩, ⟨(by rw [← hdq1]; exact Or.inl ⟨rfl, GD.no0 (by omega) (fun _ q => absurd (gf7.mpr q) (by omega))⟩), (NBS.no0 hb89 hi (by omega) (by rw [← hdq1]; exact (GD.no0 (by omega) (fun _ q => absurd (gf7.mpr q) (by omega)))) rfl)⟩⟩
  · refine c_iconst C dX4_nodeBehind_10 ?_
    refine c_goto (tgt := 15) C dX4_nodeBehind_11 (by decide) ?_
    refine c_istore (lv2 := [(4, .int (iI 1)), (3, .int (iI dq1)), (0, .ref a0), (1, .int (iI i)), (2, .int (iI x))]) C dX4_nodeBehind_15 (by decide) rfl ?_
    refine c_iload_n (j := 4) C dX4_nodeBehind_17 rfl ?_
    refine c_if_gt (tgt := 45) C ⟨by omega, by omega⟩ dX4_nodeBehind_18 (by decide) (fun c7 => ?_) (fun c7 => ?_)
    · refine c_aload_n (j := 2) (x := a0) C dX4_nodeBehind_45 rfl ?_
      obtain ⟨rb12, rq12, trb12⟩ := hW.ref t_a0 7 rfl rfl rfl
      have erb12 := hW.sk trb12 (by decide) rfl
      subst erb12
      refine c_getr (k := 7) C ck_5 dX4_nodeBehind_46 w1_238 (by decide) t_a0 rfl rfl (by decide) rfl rq12 ?_
      refine c_st (st2 := [.ref (sk 16)]) rfl ?_
      refine c_iload_n (j := 3) C dX4_nodeBehind_49 rfl ?_
      refine c_iconst C dX4_nodeBehind_50 ?_
      obtain ⟨zz7, hzz7, ezz7⟩ := iI_of (iI i &&& iI 1)
      refine c_iand (w := iI zz7) C dX4_nodeBehind_51 ezz7 ?_
      refine hv2 (bz_iff ezz7 hzz7) (hx.zed ezz7 hzz7) (fun hb1zz7 vzzz7 => ?_)
      refine c_if_eq (tgt := 59) C ⟨by omega, by omega⟩ dX4_nodeBehind_52 (by decide) (fun c8 => ?_) (fun c8 => ?_)
      · refine c_iconst C dX4_nodeBehind_59 ?_
        refine d_callV (As := [.int (iI 0)]) (rest := []) C hM (C_rowsOf (a0 := (sk 16)) (g := 0) hW hS tsk16 ⟨by decide, by decide⟩ ) dX4_nodeBehind_60 kV_X4_95 rfl tsk16 rfl rfl (by decide) ck_4 rfl (Nat.le_of_ble_eq_true rfl) ⟨(Nat.le_of_ble_eq_true rfl), (Nat.le_of_ble_eq_true rfl)⟩ hph hph (show 0 + 0 = 0 from rfl) (by decide) (fun rh8 Lh8 clh8 lnh8 ivh8 rvh8 h8 => ?_)
        obtain ⟨f8, rfl, rfl, rfl, rfl, rfl, rfl, rgf8, exf8⟩ := h8
        refine c_st (st2 := [.ref f8]) rfl ?_
        rcases exf8 with exf8 | exf8
        · obtain ⟨hf8, rfl⟩ := exf8
          refine c_st (st2 := [.ref (sk 24)]) rfl ?_
          refine c_iload_n (j := 4) C dX4_nodeBehind_63 rfl ?_
          refine c_iconst C dX4_nodeBehind_64 ?_
          refine c_isub C dX4_nodeBehind_65 ?_
          have ri5 : 0 ≤ iv (sk 24) 2 ∧ iv (sk 24) 2 ≤ 6003 := hW.int tsk24 2
          refine d_callV (As := [.int (iI (x - 1))]) (rest := []) C hM (C_get_24 (a0 := (sk 24)) (i := x - 1) hW hS tsk24 (by omega) (by show 0 ≤ (x - 1) ∧ (x - 1) < iv (sk 24) 2; omega)) dX4_nodeBehind_66 kV_X4_110 rfl tsk24 rfl rfl (by decide) ck_0 rfl (Nat.le_of_ble_eq_true rfl) ⟨(Nat.le_of_ble_eq_true rfl), (Nat.le_of_ble_eq_true rfl)⟩ hph hph (show 0 + 0 = 0 from rfl) (by decide) (fun rh9 Lh9 clh9 lnh9 ivh9 rvh9 h9 => ?_)
          obtain ⟨f9, rfl, rfl, rfl, rfl, rfl, rfl, rgf9, exf9⟩ := h9
          refine c_st (st2 := [.ref f9]) rfl ?_
          have gf9 : el rv (sk 24) (x - 1).toNat = some f9 := exf9
          refine c_cast C ck_6 dX4_nodeBehind_69 w5_149 w8_169t rgf9 rfl rfl (by decide) ?_
          refine c_astore (lv2 := [(5, .ref f9), (4, .int (iI 1)), (3, .int (iI dq1)), (0, .ref a0), (1, .int (iI i)), (2, .int (iI x))]) C dX4_nodeBehind_72 (by decide) rfl ?_
          refine c_aload_n (j := 3) (x := a0) C dX4_nodeBehind_74 rfl ?_
          refine c_aload (j := 0) (x := f9) C dX4_nodeBehind_75 rfl ?_
          refine c_iload_n (j := 2) C dX4_nodeBehind_77 rfl ?_
          refine d_callV (As := [.ref f9, .int (iI dq1)]) (rest := []) C hM (C_looksLikeRow (a0 := a0) (a1 := f9) (i := dq1) hW hS t_a0 rgf9 (by omega) (by show 0 ≤ dq1 ∧ dq1 ≤ 1000; omega)) dX4_nodeBehind_78 kV_X4_116 rfl t_a0 rfl rfl (by decide) ck_5 rfl (Nat.le_of_ble_eq_true rfl) ⟨(Nat.le_of_ble_eq_true rfl), (Nat.le_of_ble_eq_true rfl)⟩ hph hph (show 0 + 0 = 0 from rfl) (by decide) (fun rh10 Lh10 clh10 lnh10 ivh10 rvh10 h10 => ?_)
          obtain ⟨f10, rfl, rfl, rfl, rfl, rfl, rfl, rgf10, exf10⟩ := h10
          refine c_st (st2 := [.int (iI f10)]) rfl ?_
          have gf10 : f10 = 1 ↔ LRw ln iv rv a0 f9 dq1 := exf10
          refine c_if_eq (tgt := 97) C ⟨by omega, by omega⟩ dX4_nodeBehind_81 (by decide) (fun c9 => ?_) (fun c9 => ?_)
          · refine c_iconst C dX4_nodeBehind_97 ?_
            exact c_iret C dX4_nodeBehind_98 rfl (by decide) (rom0 hph hph (by decide)) ⟨(-1), rfl, rfl, rfl, rfl, rfl, rfl, ⟨by decide, by decide⟩, ⟨(by rw [← hdq1]; exact Or.inl ⟨rfl, GD.no1 (by omega) (Or.inl ⟨hb1zz7.mpr (by omega), exf9⟩) (fun q _ => absurd (gf10.mpr q) (by omega))⟩), (NBS.no1 hW hb89 hi (by omega) (by rw [← hdq1]; exact (GD.no1 (by omega) (Or.inl ⟨hb1zz7.mpr (by omega), exf9⟩) (fun q _ => absurd (gf10.mpr q) (by omega)))) rfl)⟩⟩
          · refine c_iload (j := 1) C dX4_nodeBehind_84 rfl ?_
            refine c_if_eq (tgt := 99) C ⟨by decide, by decide⟩ dX4_nodeBehind_86 (by decide) (fun z => absurd z (by omega)) (fun _ => ?_)
            refine c_aload (j := 0) (x := f9) C dX4_nodeBehind_89 rfl ?_
            refine d_callV (As := []) (rest := []) C hM (C_bsmall (a0 := f9) hW hS rgf9  ) dX4_nodeBehind_91 kV_X4_120 rfl rgf9 rfl rfl (by decide) ck_6 rfl (Nat.le_of_ble_eq_true rfl) ⟨(Nat.le_of_ble_eq_true rfl), (Nat.le_of_ble_eq_true rfl)⟩ hph hph (show 0 + 0 = 0 from rfl) (by decide) (fun rh11 Lh11 clh11 lnh11 ivh11 rvh11 h11 => ?_)
            obtain ⟨f11, rfl, rfl, rfl, rfl, rfl, rfl, rgf11, exf11⟩ := h11
            refine c_st (st2 := [.int (iI f11)]) rfl ?_
            have gf11 : f11 = 1 ↔ BSw ln iv rv f9 := exf11
            refine c_if_ne (tgt := 99) C ⟨by omega, by omega⟩ dX4_nodeBehind_94 (by decide) (fun c10 => ?_) (fun c10 => ?_)
            · refine c_iload_n (j := 4) C dX4_nodeBehind_99 rfl ?_
              refine c_iconst C dX4_nodeBehind_100 ?_
              obtain ⟨zz8, hzz8, ezz8⟩ := iI_of (iI i &&& iI 1)
              refine c_iand (w := iI zz8) C dX4_nodeBehind_101 ezz8 ?_
              have bazz8 := and1 ezz8 hzz8
              have bmzz8 := and1e ezz8 hzz8 ⟨by omega, by omega⟩
              refine c_istore (lv2 := [(6, .int (iI zz8)), (5, .ref f9), (4, .int (iI 1)), (3, .int (iI dq1)), (0, .ref a0), (1, .int (iI i)), (2, .int (iI x))]) C dX4_nodeBehind_102 (by decide) rfl ?_
              refine c_aload (j := 1) (x := f9) C dX4_nodeBehind_104 rfl ?_
              have ri6 : (-2147483648) ≤ iv f9 0 ∧ iv f9 0 ≤ 2147483647 := hW.int rgf9 0
              refine c_get (k := 0) C ck_6 dX4_nodeBehind_106 w3_136 (by decide) rgf9 rfl rfl (by decide) rfl ?_
              rcases (show (iv f9 0) = 0 ∨ (iv f9 0) = 1 ∨ (iv f9 0) = 2 ∨ (iv f9 0) = 3 ∨ ((iv f9 0) < 0 ∨ 3 < (iv f9 0)) by omega) with sw3 | sw3 | sw3 | sw3 | sw3
              · refine c_tabIn (tgt := 140) (off := 31) C (r32_c (lo := (-2147483648)) (hi := 2147483647) ri6.1 ri6.2 (by decide) (by decide)) dX4_nodeBehind_109 (by omega) (by omega) (by rw [sw3]; rfl) (by decide) ?_
                refine c_iload (j := 0) C dX4_nodeBehind_140 rfl ?_
                refine c_iconst C dX4_nodeBehind_142 ?_
                obtain ⟨zz9, hzz9, ezz9⟩ := iI_of (iI zz8 ||| iI 2)
                refine c_ior (w := iI zz9) C dX4_nodeBehind_143 ezz9 ?_
                refine hv2 (or2 bazz8 ezz9 hzz9) (or2e bazz8 ezz9 hzz9) (fun bozz9 bpzz9 => ?_)
                refine c_istore (lv2 := [(6, .int (iI zz9)), (5, .ref f9), (4, .int (iI 1)), (3, .int (iI dq1)), (0, .ref a0), (1, .int (iI i)), (2, .int (iI x))]) C dX4_nodeBehind_144 (by decide) rfl ?_
                refine c_goto (tgt := 161) C dX4_nodeBehind_146 (by decide) ?_
                refine c_iload_n (j := 3) C dX4_nodeBehind_161 rfl ?_
                refine c_aload (j := 1) (x := f9) C dX4_nodeBehind_162 rfl ?_
                obtain ⟨rb13, rq13, trb13⟩ := hW.ref rgf9 2 rfl rfl rfl
                have lnrb13 : 1 ≤ ln rb13 ∧ ln rb13 ≤ 4 := hW.len trb13 rfl
                refine c_getr (k := 2) C ck_6 dX4_nodeBehind_164 w3_144 (by decide) rgf9 rfl rfl (by decide) rfl rq13 ?_
                refine c_st (st2 := [.ref rb13, .int (iI dq1)]) rfl ?_
                have ll11 : 1 ≤ ln rb13 ∧ ln rb13 ≤ 4 := hW.len trb13 rfl
                refine c_alenI C dX4_nodeBehind_167 trb13 rfl ?_
                refine c_iadd C dX4_nodeBehind_168 ?_
                refine c_iconst C dX4_nodeBehind_169 ?_
                refine c_imul C dX4_nodeBehind_170 ?_
                refine c_iload (j := 0) C dX4_nodeBehind_171 rfl ?_
                refine c_iadd C dX4_nodeBehind_173 ?_
                have up9 := (gf10.mp (by omega) rb13 rq13 (ln rb13 - 1) (by omega)).1
                exact c_iret C dX4_nodeBehind_174 rfl (by decide) (rom0 hph hph (by decide)) ⟨(((dq1 + ((ln rb13 : Nat) : Int)) * 4) + zz9), rfl, rfl, rfl, rfl, rfl, rfl, ⟨by omega, by omega⟩, ⟨(by rw [← hdq1]; exact Or.inr ⟨GD.mk1 (by omega) (Or.inl ⟨hb1zz7.mpr (by omega), exf9⟩) (gf10.mp (by omega)) (Or.inr (gf11.mp (by omega))), by omega⟩), (NBS.yes1 (fl := zz9) hW hb89 hi (by omega) (Or.inl ⟨hb1zz7.mpr (by omega), exf9⟩) (by rw [← hdq1]; exact GD.mk1 (by omega) (Or.inl ⟨hb1zz7.mpr (by omega), exf9⟩) (gf10.mp (by omega)) (Or.inr (gf11.mp (by omega)))) rq13 (by omega) (by omega))⟩⟩
              · refine c_tabIn (tgt := 161) (off := 52) C (r32_c (lo := (-2147483648)) (hi := 2147483647) ri6.1 ri6.2 (by decide) (by decide)) dX4_nodeBehind_109 (by omega) (by omega) (by rw [sw3]; rfl) (by decide) ?_
                refine c_iload_n (j := 3) C dX4_nodeBehind_161 rfl ?_
                refine c_aload (j := 1) (x := f9) C dX4_nodeBehind_162 rfl ?_
                obtain ⟨rb14, rq14, trb14⟩ := hW.ref rgf9 2 rfl rfl rfl
                have lnrb14 : 1 ≤ ln rb14 ∧ ln rb14 ≤ 4 := hW.len trb14 rfl
                refine c_getr (k := 2) C ck_6 dX4_nodeBehind_164 w3_144 (by decide) rgf9 rfl rfl (by decide) rfl rq14 ?_
                refine c_st (st2 := [.ref rb14, .int (iI dq1)]) rfl ?_
                have ll12 : 1 ≤ ln rb14 ∧ ln rb14 ≤ 4 := hW.len trb14 rfl
                refine c_alenI C dX4_nodeBehind_167 trb14 rfl ?_
                refine c_iadd C dX4_nodeBehind_168 ?_
                refine c_iconst C dX4_nodeBehind_169 ?_
                refine c_imul C dX4_nodeBehind_170 ?_
                refine c_iload (j := 0) C dX4_nodeBehind_171 rfl ?_
                refine c_iadd C dX4_nodeBehind_173 ?_
                have up9 := (gf10.mp (by omega) rb14 rq14 (ln rb14 - 1) (by omega)).1
                exact c_iret C dX4_nodeBehind_174 rfl (by decide) (rom0 hph hph (by decide)) ⟨(((dq1 + ((ln rb14 : Nat) : Int)) * 4) + zz8), rfl, rfl, rfl, rfl, rfl, rfl, ⟨by omega, by omega⟩, ⟨(by rw [← hdq1]; exact Or.inr ⟨GD.mk1 (by omega) (Or.inl ⟨hb1zz7.mpr (by omega), exf9⟩) (gf10.mp (by omega)) (Or.inr (gf11.mp (by omega))), by omega⟩), (NBS.yes1 (fl := zz8) hW hb89 hi (by omega) (Or.inl ⟨hb1zz7.mpr (by omega), exf9⟩) (by rw [← hdq1]; exact GD.mk1 (by omega) (Or.inl ⟨hb1zz7.mpr (by omega), exf9⟩) (gf10.mp (by omega)) (Or.inr (gf11.mp (by omega)))) rq14 (by omega) (by omega))⟩⟩
              · refine c_tabIn (tgt := 149) (off := 40) C (r32_c (lo := (-2147483648)) (hi := 2147483647) ri6.1 ri6.2 (by decide) (by decide)) dX4_nodeBehind_109 (by omega) (by omega) (by rw [sw3]; rfl) (by decide) ?_
                refine c_iconst C dX4_nodeBehind_149 ?_
                refine c_istore (lv2 := [(6, .int (iI 1)), (5, .ref f9), (4, .int (iI 1)), (3, .int (iI dq1)), (0, .ref a0), (1, .int (iI i)), (2, .int (iI x))]) C dX4_nodeBehind_150 (by decide) rfl ?_
                refine c_goto (tgt := 161) C dX4_nodeBehind_152 (by decide) ?_
                refine c_iload_n (j := 3) C dX4_nodeBehind_161 rfl ?_
                refine c_aload (j := 1) (x := f9) C dX4_nodeBehind_162 rfl ?_
                obtain ⟨rb15, rq15, trb15⟩ := hW.ref rgf9 2 rfl rfl rfl
                have lnrb15 : 1 ≤ ln rb15 ∧ ln rb15 ≤ 4 := hW.len trb15 rfl
                refine c_getr (k := 2) C ck_6 dX4_nodeBehind_164 w3_144 (by decide) rgf9 rfl rfl (by decide) rfl rq15 ?_
                refine c_st (st2 := [.ref rb15, .int (iI dq1)]) rfl ?_
                have ll13 : 1 ≤ ln rb15 ∧ ln rb15 ≤ 4 := hW.len trb15 rfl
                refine c_alenI C dX4_nodeBehind_167 trb15 rfl ?_
                refine c_iadd C dX4_nodeBehind_168 ?_
                refine c_iconst C dX4_nodeBehind_169 ?_
                refine c_imul C dX4_nodeBehind_170 ?_
                refine c_iload (j := 0) C dX4_nodeBehind_171 rfl ?_
                refine c_iadd C dX4_nodeBehind_173 ?_
                have up9 := (gf10.mp (by omega) rb15 rq15 (ln rb15 - 1) (by omega)).1
                exact c_iret C dX4_nodeBehind_174 rfl (by decide) (rom0 hph hph (by decide)) ⟨(((dq1 + ((ln rb15 : Nat) : Int)) * 4) + 1), rfl, rfl, rfl, rfl, rfl, rfl, ⟨by omega, by omega⟩, ⟨(by rw [← hdq1]; exact Or.inr ⟨GD.mk1 (by omega) (Or.inl ⟨hb1zz7.mpr (by omega), exf9⟩) (gf10.mp (by omega)) (Or.inr (gf11.mp (by omega))), by omega⟩), (NBS.yes1 (fl := 1) hW hb89 hi (by omega) (Or.inl ⟨hb1zz7.mpr (by omega), exf9⟩) (by rw [← hdq1]; exact GD.mk1 (by omega) (Or.inl ⟨hb1zz7.mpr (by omega), exf9⟩) (gf10.mp (by omega)) (Or.inr (gf11.mp (by omega)))) rq15 (by omega) (by omega))⟩⟩
              · refine c_tabIn (tgt := 155) (off := 46) C (r32_c (lo := (-2147483648)) (hi := 2147483647) ri6.1 ri6.2 (by decide) (by decide)) dX4_nodeBehind_109 (by omega) (by omega) (by rw [sw3]; rfl) (by decide) ?_
                refine c_iconst C dX4_nodeBehind_155 ?_
                refine c_istore (lv2 := [(6, .int (iI 0)), (5, .ref f9), (4, .int (iI 1)), (3, .int (iI dq1)), (0, .ref a0), (1, .int (iI i)), (2, .int (iI x))]) C dX4_nodeBehind_156 (by decide) rfl ?_
                refine c_goto (tgt := 161) C dX4_nodeBehind_158 (by decide) ?_
                refine c_iload_n (j := 3) C dX4_nodeBehind_161 rfl ?_
                refine c_aload (j := 1) (x := f9) C dX4_nodeBehind_162 rfl ?_
                obtain ⟨rb16, rq16, trb16⟩ := hW.ref rgf9 2 rfl rfl rfl
                have lnrb16 : 1 ≤ ln rb16 ∧ ln rb16 ≤ 4 := hW.len trb16 rfl
                refine c_getr (k := 2) C ck_6 dX4_nodeBehind_164 w3_144 (by decide) rgf9 rfl rfl (by decide) rfl rq16 ?_
                refine c_st (st2 := [.ref rb16, .int (iI dq1)]) rfl ?_
                have ll14 : 1 ≤ ln rb16 ∧ ln rb16 ≤ 4 := hW.len trb16 rfl
                refine c_alenI C dX4_nodeBehind_167 trb16 rfl ?_
                refine c_iadd C dX4_nodeBehind_168 ?_
                refine c_iconst C dX4_nodeBehind_169 ?_
                refine c_imul C dX4_nodeBehind_170 ?_
                refine c_iload (j := 0) C dX4_nodeBehind_171 rfl ?_
                refine c_iadd C dX4_nodeBehind_173 ?_
                have up9 := (gf10.mp (by omega) rb16 rq16 (ln rb16 - 1) (by omega)).1
                exact c_iret C dX4_nodeBehind_174 rfl (by decide) (rom0 hph hph (by decide)) ⟨(((dq1 + ((ln rb16 : Nat) : Int)) * 4) + 0), rfl, rfl, rfl, rfl, rfl, rfl, ⟨by omega, by omega⟩, ⟨(by rw [← hdq1]; exact Or.inr ⟨GD.mk1 (by omega) (Or.inl ⟨hb1zz7.mpr (by omega), exf9⟩) (gf10.mp (by omega)) (Or.inr (gf11.mp (by omega))), by omega⟩), (NBS.yes1 (fl := 0) hW hb89 hi (by omega) (Or.inl ⟨hb1zz7.mpr (by omega), exf9⟩) (by rw [← hdq1]; exact GD.mk1 (by omega) (Or.inl ⟨hb1zz7.mpr (by omega), exf9⟩) (gf10.mp (by omega)) (Or.inr (gf11.mp (by omega)))) rq16 (by omega) (by omega))⟩⟩
              · refine c_tabOut (tgt := 161) C (r32_c (lo := (-2147483648)) (hi := 2147483647) ri6.1 ri6.2 (by decide) (by decide)) dX4_nodeBehind_109 sw3 (by decide) ?_
                refine c_iload_n (j := 3) C dX4_nodeBehind_161 rfl ?_
                refine c_aload (j := 1) (x := f9) C dX4_nodeBehind_162 rfl ?_
                obtain ⟨rb17, rq17, trb17⟩ := hW.ref rgf9 2 rfl rfl rfl
                have lnrb17 : 1 ≤ ln rb17 ∧ ln rb17 ≤ 4 := hW.len trb17 rfl
                refine c_getr (k := 2) C ck_6 dX4_nodeBehind_164 w3_144 (by decide) rgf9 rfl rfl (by decide) rfl rq17 ?_
                refine c_st (st2 := [.ref rb17, .int (iI dq1)]) rfl ?_
                have ll15 : 1 ≤ ln rb17 ∧ ln rb17 ≤ 4 := hW.len trb17 rfl
                refine c_alenI C dX4_nodeBehind_167 trb17 rfl ?_
                refine c_iadd C dX4_nodeBehind_168 ?_
                refine c_iconst C dX4_nodeBehind_169 ?_
                refine c_imul C dX4_nodeBehind_170 ?_
                refine c_iload (j := 0) C dX4_nodeBehind_171 rfl ?_
                refine c_iadd C dX4_nodeBehind_173 ?_
                have up9 := (gf10.mp (by omega) rb17 rq17 (ln rb17 - 1) (by omega)).1
                exact c_iret C dX4_nodeBehind_174 rfl (by decide) (rom0 hph hph (by decide)) ⟨(((dq1 + ((ln rb17 : Nat) : Int)) * 4) + zz8), rfl, rfl, rfl, rfl, rfl, rfl, ⟨by omega, by omega⟩, ⟨(by rw [← hdq1]; exact Or.inr ⟨GD.mk1 (by omega) (Or.inl ⟨hb1zz7.mpr (by omega), exf9⟩) (gf10.mp (by omega)) (Or.inr (gf11.mp (by omega))), by omega⟩), (NBS.yes1 (fl := zz8) hW hb89 hi (by omega) (Or.inl ⟨hb1zz7.mpr (by omega), exf9⟩) (by rw [← hdq1]; exact GD.mk1 (by omega) (Or.inl ⟨hb1zz7.mpr (by omega), exf9⟩) (gf10.mp (by omega)) (Or.inr (gf11.mp (by omega)))) rq17 (by omega) (by omega))⟩⟩
            · refine c_iconst C dX4_nodeBehind_97 ?_
              exact c_iret C dX4_nodeBehind_98 rfl (by decide) (rom0 hph hph (by decide)) ⟨(-1), rfl, rfl, rfl, rfl, rfl, rfl, ⟨by decide, by decide⟩, ⟨(by rw [← hdq1]; exact Or.inl ⟨rfl, GD.no1 (by omega) (Or.inl ⟨hb1zz7.mpr (by omega), exf9⟩) (fun _ q => q.elim (fun q => absurd (hb2zz1.mp q) (by omega)) (fun q2 => absurd (gf11.mpr q2) (by omega)))⟩), (NBS.no1 hW hb89 hi (by omega) (by rw [← hdq1]; exact (GD.no1 (by omega) (Or.inl ⟨hb1zz7.mpr (by omega), exf9⟩) (fun _ q => q.elim (fun q => absurd (hb2zz1.mp q) (by omega)) (fun q2 => absurd (gf11.mpr q2) (by omega))))) rfl)⟩⟩
        · exact absurd exf8.1 (by decide)
      · refine c_iconst C dX4_nodeBehind_55 ?_
        refine c_goto (tgt := 60) C dX4_nodeBehind_56 (by decide) ?_
        refine d_callV (As := [.int (iI 1)]) (rest := []) C hM (C_rowsOf (a0 := (sk 16)) (g := 1) hW hS tsk16 ⟨by decide, by decide⟩ ) dX4_nodeBehind_60 kV_X4_95 rfl tsk16 rfl rfl (by decide) ck_4 rfl (Nat.le_of_ble_eq_true rfl) ⟨(Nat.le_of_ble_eq_true rfl), (Nat.le_of_ble_eq_true rfl)⟩ hph hph (show 0 + 0 = 0 from rfl) (by decide) (fun rh12 Lh12 clh12 lnh12 ivh12 rvh12 h12 => ?_)
        obtain ⟨f12, rfl, rfl, rfl, rfl, rfl, rfl, rgf12, exf12⟩ := h12
        refine c_st (st2 := [.ref f12]) rfl ?_
        rcases exf12 with exf12 | exf12
        · exact absurd exf12.1 (by decide)
        · obtain ⟨hf12, rfl⟩ := exf12
          refine c_st (st2 := [.ref (sk 25)]) rfl ?_
          refine c_iload_n (j := 4) C dX4_nodeBehind_63 rfl ?_
          refine c_iconst C dX4_nodeBehind_64 ?_
          refine c_isub C dX4_nodeBehind_65 ?_
          have ri7 : 0 ≤ iv (sk 25) 2 ∧ iv (sk 25) 2 ≤ 6003 := hW.int tsk25 2
          refine d_callV (As := [.int (iI (x - 1))]) (rest := []) C hM (C_get_25 (a0 := (sk 25)) (i := x - 1) hW hS tsk25 (by omega) (by show 0 ≤ (x - 1) ∧ (x - 1) < iv (sk 25) 2; omega)) dX4_nodeBehind_66 kV_X4_110 rfl tsk25 rfl rfl (by decide) ck_0 rfl (Nat.le_of_ble_eq_true rfl) ⟨(Nat.le_of_ble_eq_true rfl), (Nat.le_of_ble_eq_true rfl)⟩ hph hph (show 0 + 0 = 0 from rfl) (by decide) (fun rh13 Lh13 clh13 lnh13 ivh13 rvh13 h13 => ?_)
          obtain ⟨f13, rfl, rfl, rfl, rfl, rfl, rfl, rgf13, exf13⟩ := h13
          refine c_st (st2 := [.ref f13]) rfl ?_
          have gf13 : el rv (sk 25) (x - 1).toNat = some f13 := exf13
          refine c_cast C ck_6 dX4_nodeBehind_69 w5_149 w8_169t rgf13 rfl rfl (by decide) ?_
          refine c_astore (lv2 := [(5, .ref f13), (4, .int (iI 1)), (3, .int (iI dq1)), (0, .ref a0), (1, .int (iI i)), (2, .int (iI x))]) C dX4_nodeBehind_72 (by decide) rfl ?_
          refine c_aload_n (j := 3) (x := a0) C dX4_nodeBehind_74 rfl ?_
          refine c_aload (j := 0) (x := f13) C dX4_nodeBehind_75 rfl ?_
          refine c_iload_n (j := 2) C dX4_nodeBehind_77 rfl ?_
          refine d_callV (As := [.ref f13, .int (iI dq1)]) (rest := []) C hM (C_looksLikeRow (a0 := a0) (a1 := f13) (i := dq1) hW hS t_a0 rgf13 (by omega) (by show 0 ≤ dq1 ∧ dq1 ≤ 1000; omega)) dX4_nodeBehind_78 kV_X4_116 rfl t_a0 rfl rfl (by decide) ck_5 rfl (Nat.le_of_ble_eq_true rfl) ⟨(Nat.le_of_ble_eq_true rfl), (Nat.le_of_ble_eq_true rfl)⟩ hph hph (show 0 + 0 = 0 from rfl) (by decide) (fun rh14 Lh14 clh14 lnh14 ivh14 rvh14 h14 => ?_)
          obtain ⟨f14, rfl, rfl, rfl, rfl, rfl, rfl, rgf14, exf14⟩ := h14
          refine c_st (st2 := [.int (iI f14)]) rfl ?_
          have gf14 : f14 = 1 ↔ LRw ln iv rv a0 f13 dq1 := exf14
          refine c_if_eq (tgt := 97) C ⟨by omega, by omega⟩ dX4_nodeBehind_81 (by decide) (fun c11 => ?_) (fun c11 => ?_)
          · refine c_iconst C dX4_nodeBehind_97 ?_
            exact c_iret C dX4_nodeBehind_98 rfl (by decide) (rom0 hph hph (by decide)) ⟨(-1), rfl, rfl, rfl, rfl, rfl, rfl, ⟨by decide, by decide⟩, ⟨(by rw [← hdq1]; exact Or.inl ⟨rfl, GD.no1 (by omega) (Or.inr ⟨fun q => absurd (hb1zz7.mp q) (by omega), exf13⟩) (fun q _ => absurd (gf14.mpr q) (by omega))⟩), (NBS.no1 hW hb89 hi (by omega) (by rw [← hdq1]; exact (GD.no1 (by omega) (Or.inr ⟨fun q => absurd (hb1zz7.mp q) (by omega), exf13⟩) (fun q _ => absurd (gf14.mpr q) (by omega)))) rfl)⟩⟩
          · refine c_iload (j := 1) C dX4_nodeBehind_84 rfl ?_
            refine c_if_eq (tgt := 99) C ⟨by decide, by decide⟩ dX4_nodeBehind_86 (by decide) (fun z => absurd z (by omega)) (fun _ => ?_)
            refine c_aload (j := 0) (x := f13) C dX4_nodeBehind_89 rfl ?_
            refine d_callV (As := []) (rest := []) C hM (C_bsmall (a0 := f13) hW hS rgf13  ) dX4_nodeBehind_91 kV_X4_120 rfl rgf13 rfl rfl (by decide) ck_6 rfl (Nat.le_of_ble_eq_true rfl) ⟨(Nat.le_of_ble_eq_true rfl), (Nat.le_of_ble_eq_true rfl)⟩ hph hph (show 0 + 0 = 0 from rfl) (by decide) (fun rh15 Lh15 clh15 lnh15 ivh15 rvh15 h15 => ?_)
            obtain ⟨f15, rfl, rfl, rfl, rfl, rfl, rfl, rgf15, exf15⟩ := h15
            refine c_st (st2 := [.int (iI f15)]) rfl ?_
            have gf15 : f15 = 1 ↔ BSw ln iv rv f13 := exf15
            refine c_if_ne (tgt := 99) C ⟨by omega, by omega⟩ dX4_nodeBehind_94 (by decide) (fun c12 => ?_) (fun c12 => ?_)
            · refine c_iload_n (j := 4) C dX4_nodeBehind_99 rfl ?_
              refine c_iconst C dX4_nodeBehind_100 ?_
              obtain ⟨zz10, hzz10, ezz10⟩ := iI_of (iI i &&& iI 1)
              refine c_iand (w := iI zz10) C dX4_nodeBehind_101 ezz10 ?_
              have bazz10 := and1 ezz10 hzz10
              have bmzz10 := and1e ezz10 hzz10 ⟨by omega, by omega⟩
              refine c_istore (lv2 := [(6, .int (iI zz10)), (5, .ref f13), (4, .int (iI 1)), (3, .int (iI dq1)), (0, .ref a0), (1, .int (iI i)), (2, .int (iI x))]) C dX4_nodeBehind_102 (by decide) rfl ?_
              refine c_aload (j := 1) (x := f13) C dX4_nodeBehind_104 rfl ?_
              have ri8 : (-2147483648) ≤ iv f13 0 ∧ iv f13 0 ≤ 2147483647 := hW.int rgf13 0
              refine c_get (k := 0) C ck_6 dX4_nodeBehind_106 w3_136 (by decide) rgf13 rfl rfl (by decide) rfl ?_
              rcases (show (iv f13 0) = 0 ∨ (iv f13 0) = 1 ∨ (iv f13 0) = 2 ∨ (iv f13 0) = 3 ∨ ((iv f13 0) < 0 ∨ 3 < (iv f13 0)) by omega) with sw4 | sw4 | sw4 | sw4 | sw4
              · refine c_tabIn (tgt := 140) (off := 31) C (r32_c (lo := (-2147483648)) (hi := 2147483647) ri8.1 ri8.2 (by decide) (by decide)) dX4_nodeBehind_109 (by omega) (by omega) (by rw [sw4]; rfl) (by decide) ?_
                refine c_iload (j := 0) C dX4_nodeBehind_140 rfl ?_
                refine c_iconst C dX4_nodeBehind_142 ?_
                obtain ⟨zz11, hzz11, ezz11⟩ := iI_of (iI zz10 ||| iI 2)
                refine c_ior (w := iI zz11) C dX4_nodeBehind_143 ezz11 ?_
                refine hv2 (or2 bazz10 ezz11 hzz11) (or2e bazz10 ezz11 hzz11) (fun bozz11 bpzz11 => ?_)
                refine c_istore (lv2 := [(6, .int (iI zz11)), (5, .ref f13), (4, .int (iI 1)), (3, .int (iI dq1)), (0, .ref a0), (1, .int (iI i)), (2, .int (iI x))]) C dX4_nodeBehind_144 (by decide) rfl ?_
                refine c_goto (tgt := 161) C dX4_nodeBehind_146 (by decide) ?_
                refine c_iload_n (j := 3) C dX4_nodeBehind_161 rfl ?_
                refine c_aload (j := 1) (x := f13) C dX4_nodeBehind_162 rfl ?_
                obtain ⟨rb18, rq18, trb18⟩ := hW.ref rgf13 2 rfl rfl rfl
                have lnrb18 : 1 ≤ ln rb18 ∧ ln rb18 ≤ 4 := hW.len trb18 rfl
                refine c_getr (k := 2) C ck_6 dX4_nodeBehind_164 w3_144 (by decide) rgf13 rfl rfl (by decide) rfl rq18 ?_
                refine c_st (st2 := [.ref rb18, .int (iI dq1)]) rfl ?_
                have ll16 : 1 ≤ ln rb18 ∧ ln rb18 ≤ 4 := hW.len trb18 rfl
                refine c_alenI C dX4_nodeBehind_167 trb18 rfl ?_
                refine c_iadd C dX4_nodeBehind_168 ?_
                refine c_iconst C dX4_nodeBehind_169 ?_
                refine c_imul C dX4_nodeBehind_170 ?_
                refine c_iload (j := 0) C dX4_nodeBehind_171 rfl ?_
                refine c_iadd C dX4_nodeBehind_173 ?_
                have up9 := (gf14.mp (by omega) rb18 rq18 (ln rb18 - 1) (by omega)).1
                exact c_iret C dX4_nodeBehind_174 rfl (by decide) (rom0 hph hph (by decide)) ⟨(((dq1 + ((ln rb18 : Nat) : Int)) * 4) + zz11), rfl, rfl, rfl, rfl, rfl, rfl, ⟨by omega, by omega⟩, ⟨(by rw [← hdq1]; exact Or.inr ⟨GD.mk1 (by omega) (Or.inr ⟨fun q => absurd (hb1zz7.mp q) (by omega), exf13⟩) (gf14.mp (by omega)) (Or.inr (gf15.mp (by omega))), by omega⟩), (NBS.yes1 (fl := zz11) hW hb89 hi (by omega) (Or.inr ⟨fun q => absurd (hb1zz7.mp q) (by omega), exf13⟩) (by rw [← hdq1]; exact GD.mk1 (by omega) (Or.inr ⟨fun q => absurd (hb1zz7.mp q) (by omega), exf13⟩) (gf14.mp (by omega)) (Or.inr (gf15.mp (by omega)))) rq18 (by omega) (by omega))⟩⟩
              · refine c_tabIn (tgt := 161) (off := 52) C (r32_c (lo := (-2147483648)) (hi := 2147483647) ri8.1 ri8.2 (by decide) (by decide)) dX4_nodeBehind_109 (by omega) (by omega) (by rw [sw4]; rfl) (by decide) ?_
                refine c_iload_n (j := 3) C dX4_nodeBehind_161 rfl ?_
                refine c_aload (j := 1) (x := f13) C dX4_nodeBehind_162 rfl ?_
                obtain ⟨rb19, rq19, trb19⟩ := hW.ref rgf13 2 rfl rfl rfl
                have lnrb19 : 1 ≤ ln rb19 ∧ ln rb19 ≤ 4 := hW.len trb19 rfl
                refine c_getr (k := 2) C ck_6 dX4_nodeBehind_164 w3_144 (by decide) rgf13 rfl rfl (by decide) rfl rq19 ?_
                refine c_st (st2 := [.ref rb19, .int (iI dq1)]) rfl ?_
                have ll17 : 1 ≤ ln rb19 ∧ ln rb19 ≤ 4 := hW.len trb19 rfl
                refine c_alenI C dX4_nodeBehind_167 trb19 rfl ?_
                refine c_iadd C dX4_nodeBehind_168 ?_
                refine c_iconst C dX4_nodeBehind_169 ?_
                refine c_imul C dX4_nodeBehind_170 ?_
                refine c_iload (j := 0) C dX4_nodeBehind_171 rfl ?_
                refine c_iadd C dX4_nodeBehind_173 ?_
                have up9 := (gf14.mp (by omega) rb19 rq19 (ln rb19 - 1) (by omega)).1
                exact c_iret C dX4_nodeBehind_174 rfl (by decide) (rom0 hph hph (by decide)) ⟨(((dq1 + ((ln rb19 : Nat) : Int)) * 4) + zz10), rfl, rfl, rfl, rfl, rfl, rfl, ⟨by omega, by omega⟩, ⟨(by rw [← hdq1]; exact Or.inr ⟨GD.mk1 (by omega) (Or.inr ⟨fun q => absurd (hb1zz7.mp q) (by omega), exf13⟩) (gf14.mp (by omega)) (Or.inr (gf15.mp (by omega))), by omega⟩), (NBS.yes1 (fl := zz10) hW hb89 hi (by omega) (Or.inr ⟨fun q => absurd (hb1zz7.mp q) (by omega), exf13⟩) (by rw [← hdq1]; exact GD.mk1 (by omega) (Or.inr ⟨fun q => absurd (hb1zz7.mp q) (by omega), exf13⟩) (gf14.mp (by omega)) (Or.inr (gf15.mp (by omega)))) rq19 (by omega) (by omega))⟩⟩
              · refine c_tabIn (tgt := 149) (off := 40) C (r32_c (lo := (-2147483648)) (hi := 2147483647) ri8.1 ri8.2 (by decide) (by decide)) dX4_nodeBehind_109 (by omega) (by omega) (by rw [sw4]; rfl) (by decide) ?_
                refine c_iconst C dX4_nodeBehind_149 ?_
                refine c_istore (lv2 := [(6, .int (iI 1)), (5, .ref f13), (4, .int (iI 1)), (3, .int (iI dq1)), (0, .ref a0), (1, .int (iI i)), (2, .int (iI x))]) C dX4_nodeBehind_150 (by decide) rfl ?_
                refine c_goto (tgt := 161) C dX4_nodeBehind_152 (by decide) ?_
                refine c_iload_n (j := 3) C dX4_nodeBehind_161 rfl ?_
                refine c_aload (j := 1) (x := f13) C dX4_nodeBehind_162 rfl ?_
                obtain ⟨rb20, rq20, trb20⟩ := hW.ref rgf13 2 rfl rfl rfl
                have lnrb20 : 1 ≤ ln rb20 ∧ ln rb20 ≤ 4 := hW.len trb20 rfl
                refine c_getr (k := 2) C ck_6 dX4_nodeBehind_164 w3_144 (by decide) rgf13 rfl rfl (by decide) rfl rq20 ?_
                refine c_st (st2 := [.ref rb20, .int (iI dq1)]) rfl ?_
                have ll18 : 1 ≤ ln rb20 ∧ ln rb20 ≤ 4 := hW.len trb20 rfl
                refine c_alenI C dX4_nodeBehind_167 trb20 rfl ?_
                refine c_iadd C dX4_nodeBehind_168 ?_
                refine c_iconst C dX4_nodeBehind_169 ?_
                refine c_imul C dX4_nodeBehind_170 ?_
                refine c_iload (j := 0) C dX4_nodeBehind_171 rfl ?_
                refine c_iadd C dX4_nodeBehind_173 ?_
                have up9 := (gf14.mp (by omega) rb20 rq20 (ln rb20 - 1) (by omega)).1
                exact c_iret C dX4_nodeBehind_174 rfl (by decide) (rom0 hph hph (by decide)) ⟨(((dq1 + ((ln rb20 : Nat) : Int)) * 4) + 1), rfl, rfl, rfl, rfl, rfl, rfl, ⟨by omega, by omega⟩, ⟨(by rw [← hdq1]; exact Or.inr ⟨GD.mk1 (by omega) (Or.inr ⟨fun q => absurd (hb1zz7.mp q) (by omega), exf13⟩) (gf14.mp (by omega)) (Or.inr (gf15.mp (by omega))), by omega⟩), (NBS.yes1 (fl := 1) hW hb89 hi (by omega) (Or.inr ⟨fun q => absurd (hb1zz7.mp q) (by omega), exf13⟩) (by rw [← hdq1]; exact GD.mk1 (by omega) (Or.inr ⟨fun q => absurd (hb1zz7.mp q) (by omega), exf13⟩) (gf14.mp (by omega)) (Or.inr (gf15.mp (by omega)))) rq20 (by omega) (by omega))⟩⟩
              · refine c_tabIn (tgt := 155) (off := 46) C (r32_c (lo := (-2147483648)) (hi := 2147483647) ri8.1 ri8.2 (by decide) (by decide)) dX4_nodeBehind_109 (by omega) (by omega) (by rw [sw4]; rfl) (by decide) ?_
                refine c_iconst C dX4_nodeBehind_155 ?_
                refine c_istore (lv2 := [(6, .int (iI 0)), (5, .ref f13), (4, .int (iI 1)), (3, .int (iI dq1)), (0, .ref a0), (1, .int (iI i)), (2, .int (iI x))]) C dX4_nodeBehind_156 (by decide) rfl ?_
                refine c_goto (tgt := 161) C dX4_nodeBehind_158 (by decide) ?_
                refine c_iload_n (j := 3) C dX4_nodeBehind_161 rfl ?_
                refine c_aload (j := 1) (x := f13) C dX4_nodeBehind_162 rfl ?_
                obtain ⟨rb21, rq21, trb21⟩ := hW.ref rgf13 2 rfl rfl rfl
                have lnrb21 : 1 ≤ ln rb21 ∧ ln rb21 ≤ 4 := hW.len trb21 rfl
                refine c_getr (k := 2) C ck_6 dX4_nodeBehind_164 w3_144 (by decide) rgf13 rfl rfl (by decide) rfl rq21 ?_
                refine c_st (st2 := [.ref rb21, .int (iI dq1)]) rfl ?_
                have ll19 : 1 ≤ ln rb21 ∧ ln rb21 ≤ 4 := hW.len trb21 rfl
                refine c_alenI C dX4_nodeBehind_167 trb21 rfl ?_
                refine c_iadd C dX4_nodeBehind_168 ?_
                refine c_iconst C dX4_nodeBehind_169 ?_
                refine c_imul C dX4_nodeBehind_170 ?_
                refine c_iload (j := 0) C dX4_nodeBehind_171 rfl ?_
                refine c_iadd C dX4_nodeBehind_173 ?_
                have up9 := (gf14.mp (by omega) rb21 rq21 (ln rb21 - 1) (by omega)).1
                exact c_iret C dX4_nodeBehind_174 rfl (by decide) (rom0 hph hph (by decide)) ⟨(((dq1 + ((ln rb21 : Nat) : Int)) * 4) + 0), rfl, rfl, rfl, rfl, rfl, rfl, ⟨by omega, by omega⟩, ⟨(by rw [← hdq1]; exact Or.inr ⟨GD.mk1 (by omega) (Or.inr ⟨fun q => absurd (hb1zz7.mp q) (by omega), exf13⟩) (gf14.mp (by omega)) (Or.inr (gf15.mp (by omega))), by omega⟩), (NBS.yes1 (fl := 0) hW hb89 hi (by omega) (Or.inr ⟨fun q => absurd (hb1zz7.mp q) (by omega), exf13⟩) (by rw [← hdq1]; exact GD.mk1 (by omega) (Or.inr ⟨fun q => absurd (hb1zz7.mp q) (by omega), exf13⟩) (gf14.mp (by omega)) (Or.inr (gf15.mp (by omega)))) rq21 (by omega) (by omega))⟩⟩
              · refine c_tabOut (tgt := 161) C (r32_c (lo := (-2147483648)) (hi := 2147483647) ri8.1 ri8.2 (by decide) (by decide)) dX4_nodeBehind_109 sw4 (by decide) ?_
                refine c_iload_n (j := 3) C dX4_nodeBehind_161 rfl ?_
                refine c_aload (j := 1) (x := f13) C dX4_nodeBehind_162 rfl ?_
                obtain ⟨rb22, rq22, trb22⟩ := hW.ref rgf13 2 rfl rfl rfl
                have lnrb22 : 1 ≤ ln rb22 ∧ ln rb22 ≤ 4 := hW.len trb22 rfl
                refine c_getr (k := 2) C ck_6 dX4_nodeBehind_164 w3_144 (by decide) rgf13 rfl rfl (by decide) rfl rq22 ?_
                refine c_st (st2 := [.ref rb22, .int (iI dq1)]) rfl ?_
                have ll20 : 1 ≤ ln rb22 ∧ ln rb22 ≤ 4 := hW.len trb22 rfl
                refine c_alenI C dX4_nodeBehind_167 trb22 rfl ?_
                refine c_iadd C dX4_nodeBehind_168 ?_
                refine c_iconst C dX4_nodeBehind_169 ?_
                refine c_imul C dX4_nodeBehind_170 ?_
                refine c_iload (j := 0) C dX4_nodeBehind_171 rfl ?_
                refine c_iadd C dX4_nodeBehind_173 ?_
                have up9 := (gf14.mp (by omega) rb22 rq22 (ln rb22 - 1) (by omega)).1
                exact c_iret C dX4_nodeBehind_174 rfl (by decide) (rom0 hph hph (by decide)) ⟨(((dq1 + ((ln rb22 : Nat) : Int)) * 4) + zz10), rfl, rfl, rfl, rfl, rfl, rfl, ⟨by omega, by omega⟩, ⟨(by rw [← hdq1]; exact Or.inr ⟨GD.mk1 (by omega) (Or.inr ⟨fun q => absurd (hb1zz7.mp q) (by omega), exf13⟩) (gf14.mp (by omega)) (Or.inr (gf15.mp (by omega))), by omega⟩), (NBS.yes1 (fl := zz10) hW hb89 hi (by omega) (Or.inr ⟨fun q => absurd (hb1zz7.mp q) (by omega), exf13⟩) (by rw [← hdq1]; exact GD.mk1 (by omega) (Or.inr ⟨fun q => absurd (hb1zz7.mp q) (by omega), exf13⟩) (gf14.mp (by omega)) (Or.inr (gf15.mp (by omega)))) rq22 (by omega) (by omega))⟩⟩
            · refine c_iconst C dX4_nodeBehind_97 ?_
              exact c_iret C dX4_nodeBehind_98 rfl (by decide) (rom0 hph hph (by decide)) ⟨(-1), rfl, rfl, rfl, rfl, rfl, rfl, ⟨by decide, by decide⟩, ⟨(by rw [← hdq1]; exact Or.inl ⟨rfl, GD.no1 (by omega) (Or.inr ⟨fun q => absurd (hb1zz7.mp q) (by omega), exf13⟩) (fun _ q => q.elim (fun q => absurd (hb2zz1.mp q) (by omega)) (fun q2 => absurd (gf15.mpr q2) (by omega)))⟩), (NBS.no1 hW hb89 hi (by omega) (by rw [← hdq1]; exact (GD.no1 (by omega) (Or.inr ⟨fun q => absurd (hb1zz7.mp q) (by omega), exf13⟩) (fun _ q => q.elim (fun q => absurd (hb2zz1.mp q) (by omega)) (fun q2 => absurd (gf15.mpr q2) (by omega))))) rfl)⟩⟩
    · refine c_iload (j := 0) C dX4_nodeBehind_21 rfl ?_
      refine c_if_ne (tgt := 35) C ⟨by decide, by decide⟩ dX4_nodeBehind_23 (by decide) (fun _ => ?_) (fun z => absurd z (by omega))
      refine c_iconst C dX4_nodeBehind_35 ?_
      refine c_goto (tgt := 44) C dX4_nodeBehind_36 (by decide) ?_
      exact c_iret C dX4_nodeBehind_44 rfl (by decide) (rom0 hph hph (by decide)) ⟨(-1), rfl, rfl, rfl, rfl, rfl, rfl, ⟨by decide, by decide⟩, ⟨(by rw [← hdq1]; exact Or.inl ⟨rfl, GD.no0 (by omega) (fun q _ => (fun q => absurd (hb2zz1.mp q) (by omega)) q)⟩), (NBS.no0 hb89 hi (by omega) (by rw [← hdq1]; exact (GD.no0 (by omega) (fun q _ => (fun q => absurd (hb2zz1.mp q) (by omega)) q))) rfl)⟩⟩
set_option maxHeartbeats 4000000 in
set_option maxRecDepth 100000 in
theorem G_nextChoice {l : Launch} {G : GT} {mi : Nat} {sk : Nat → Nat} {L : List Nat} {cl ln : Nat → Nat} {iv : Nat → Nat → Int} {rv : Nat → Nat → Option Nat}  {a0 : Nat} {i : Int} {x : Int} (hW : WT (g0 G) sk L cl ln iv rv) (hS : SKL sk L cl) (t_a0 : ty L cl a0 17) (h_i : -2147483648 ≤ i ∧ i ≤ 2147483647) (h_x : -2147483648 ≤ x ∧ x ≤ 2147483647) (hi : 0 ≤ i ∧ i ≤ 403 ∧ 0 ≤ x) : Mc l G mi (Phi (g0 G) sk) PHM yX4_nextChoice cX4_nextChoice 6 (some .int) 4 [.ref a0, .int (iI i), .int (iI x)] L cl ln iv rv 0 (fun v L2 cl2 ln2 iv2 rv2 => ∃ f : Int, v = some (.int (iI f)) ∧ L = L2 ∧ cl = cl2 ∧ ln = ln2 ∧ iv = iv2 ∧ rv = rv2 ∧ (-2147483648 ≤ f ∧ f ≤ 2147483647) ∧ ((f = -1 ∨ (x ≤ f ∧ VL sk iv i f ∧ GD sk ln iv rv a0 i (i / 4) f)) ∧ NCS L cl ln iv rv sk a0 i x f)) := by
  refine Mc.mk (by decide) (Nat.le_of_ble_eq_true rfl) ?_
  intro p e s m args below meth c A C hM
  refine hv7 (Phi.le hW hS) (show ty L cl (sk 11) 11 from ⟨(hS 11 rfl).1, by rw [(hS 11 rfl).2]; rfl⟩) (show ty L cl (sk 16) 16 from ⟨(hS 16 rfl).1, by rw [(hS 16 rfl).2]; rfl⟩) (show ty L cl (sk 24) 24 from ⟨(hS 24 rfl).1, by rw [(hS 24 rfl).2]; rfl⟩) (show ty L cl (sk 25) 25 from ⟨(hS 25 rfl).1, by rw [(hS 25 rfl).2]; rfl⟩) (show XT L cl ln L cl ln from XT.refl) (show fT [] L cl iv rv iv rv from fT.refl) (fun hph tsk11 tsk16 tsk24 tsk25 hX0 hF0 => ?_)
  refine c_aload_n (j := 0) (x := a0) C dX4_nextChoice_0 rfl ?_
  obtain ⟨rb1, rq1, trb1⟩ := hW.ref t_a0 7 rfl rfl rfl
  have erb1 := hW.sk trb1 (by decide) rfl
  subst erb1
  refine c_getr (k := 7) C ck_5 dX4_nextChoice_1 w1_238 (by decide) t_a0 rfl rfl (by decide) rfl rq1 ?_
  refine c_st (st2 := [.ref (sk 16)]) rfl ?_
  refine c_iload_n (j := 1) C dX4_nextChoice_4 rfl ?_
  refine c_iconst C dX4_nextChoice_5 ?_
  obtain ⟨zz1, hzz1, ezz1⟩ := iI_of (iI i &&& iI 1)
  refine c_iand (w := iI zz1) C dX4_nextChoice_6 ezz1 ?_
  have hb1zz1 := bz_iff ezz1 hzz1
  refine c_if_eq (tgt := 14) C ⟨by omega, by omega⟩ dX4_nextChoice_7 (by decide) (fun c1 => ?_) (fun c1 => ?_)
  · refine c_iconst C dX4_nextChoice_14 ?_
    refine d_callV (As := [.int (iI 0)]) (rest := []) C hM (C_rowsOf (a0 := (sk 16)) (g := 0) hW hS tsk16 ⟨by decide, by decide⟩ ) dX4_nextChoice_15 kV_X4_95 rfl tsk16 rfl rfl (by decide) ck_4 rfl (Nat.le_of_ble_eq_true rfl) ⟨(Nat.le_of_ble_eq_true rfl), (Nat.le_of_ble_eq_true rfl)⟩ hph hph (show 0 + 0 = 0 from rfl) (by decide) (fun rh1 Lh1 clh1 lnh1 ivh1 rvh1 h1 => ?_)
    obtain ⟨f1, rfl, rfl, rfl, rfl, rfl, rfl, rgf1, exf1⟩ := h1
    refine c_st (st2 := [.ref f1]) rfl ?_
    rcases exf1 with exf1 | exf1
    · obtain ⟨hf1, rfl⟩ := exf1
      refine c_st (st2 := [.ref (sk 24)]) rfl ?_
      have ri1 : 0 ≤ iv (sk 24) 2 ∧ iv (sk 24) 2 ≤ 6003 := hW.int tsk24 2
      refine d_callV (As := []) (rest := []) C hM (C_size_24 (a0 := (sk 24)) hW hS tsk24  ) dX4_nextChoice_18 kV_X4_101 rfl tsk24 rfl rfl (by decide) ck_0 rfl (Nat.le_of_ble_eq_true rfl) ⟨(Nat.le_of_ble_eq_true rfl), (Nat.le_of_ble_eq_true rfl)⟩ hph hph (show 0 + 0 = 0 from rfl) (by decide) (fun rh2 Lh2 clh2 lnh2 ivh2 rvh2 h2 => ?_)
      obtain ⟨f2, rfl, rfl, rfl, rfl, rfl, rfl, rgf2, exf2⟩ := h2
      refine c_st (st2 := [.int (iI f2)]) rfl ?_
      have gf2 : f2 = iv (sk 24) 2 := exf2
      refine c_istore_n (lv2 := [(3, .int (iI f2)), (0, .ref a0), (1, .int (iI i)), (2, .int (iI x))]) C dX4_nextChoice_21 (by decide) rfl ?_
      refine c_iload_n (j := 3) C dX4_nextChoice_22 rfl ?_
      refine c_istore (lv2 := [(4, .int (iI x)), (3, .int (iI f2)), (0, .ref a0), (1, .int (iI i)), (2, .int (iI x))]) C dX4_nextChoice_23 (by decide) rfl ?_
      have Lp1 : ∀ (nn : Nat) (k : Int) , max 0 (6004 - k) < (nn : Int) → (x ≤ k ∧ k ≤ 2147483647) → (NCI L cl ln iv rv sk a0 i x k) → cw p l e 4 ((PHM) + 0 - ((Phi (g0 G) sk) ln rv)) s m args below meth c G A 6 (MQ below (Qu G A (Qp G (Phi (g0 G) sk) ((Phi (g0 G) sk) ln rv) 0 (fun v L2 cl2 ln2 iv2 rv2 => ∃ f : Int, v = some (.int (iI f)) ∧ L = L2 ∧ cl = cl2 ∧ ln = ln2 ∧ iv = iv2 ∧ rv = rv2 ∧ (-2147483648 ≤ f ∧ f ≤ 2147483647) ∧ ((f = -1 ∨ (x ≤ f ∧ VL sk iv i f ∧ GD sk ln iv rv a0 i (i / 4) f)) ∧ NCS L cl ln iv rv sk a0 i x f)))) args s (((PHM) + 0 - ((Phi (g0 G) sk) ln rv)) / 16) ((PHM) + 0 - ((Phi (g0 G) sk) ln rv)) A) (Phi (g0 G) sk) ((Phi (g0 G) sk) ln rv) L cl ln iv rv 0 25 [(4, .int (iI k)), (3, .int (iI f2)), (0, .ref a0), (1, .int (iI i)), (2, .int (iI x))] [] := by
        intro nn
        induction nn with
        | zero =>
          intro  k  hm   hk hN
          exact absurd hm (by omega)
        | succ nn ih1 =>
          intro  k  hm   hk hN
          refine c_iload (j := 0) C dX4_nextChoice_25 rfl ?_
          refine c_iload_n (j := 1) C dX4_nextChoice_27 rfl ?_
          refine c_icmp_gt (tgt := 64) C ⟨by omega, by omega⟩ ⟨by omega, by omega⟩ dX4_nextChoice_28 (by decide) (fun c2 => ?_) (fun c2 => ?_)
          · refine c_iconst C dX4_nextChoice_64 ?_
            have ri2 : 0 ≤ iv (sk 25) 2 ∧ iv (sk 25) 2 ≤ 6003 := hW.int tsk25 2
            exact c_iret C dX4_nextChoice_65 rfl (by decide) (rom0 hph hph (by decide)) ⟨(-1), rfl, rfl, rfl, rfl, rfl, rfl, ⟨by decide, by decide⟩, ⟨Or.inl rfl, NCS.none_ hN (by rw [if_pos (by have q := bz_m (i := i) ⟨by omega, by omega⟩; have q2 := hb1zz1; exact q.mp (q2.mpr (by omega)))]; omega) rfl⟩⟩
          · refine c_aload_n (j := 2) (x := a0) C dX4_nextChoice_31 rfl ?_
            refine c_iload_n (j := 3) C dX4_nextChoice_32 rfl ?_
            refine c_iload (j := 0) C dX4_nextChoice_33 rfl ?_
            have ri3 : 0 ≤ iv a0 9 ∧ iv a0 9 ≤ 100 := hW.int t_a0 9
            refine d_callV (As := [.int (iI i), .int (iI k)]) (rest := []) C hM (G_nodeBehind (a0 := a0) (i := i) (x := k) hW hS t_a0 (by omega) (by omega) (by show 0 ≤ i ∧ i ≤ 403; omega) (Or.inr (Or.inl ⟨hb1zz1.mpr (by omega), by omega⟩))) dX4_nextChoice_35 kV_X4_92 rfl t_a0 rfl rfl (by decide) ck_5 rfl (Nat.le_of_ble_eq_true rfl) ⟨(Nat.le_of_ble_eq_true rfl), (Nat.le_of_ble_eq_true rfl)⟩ hph hph (show 0 + 0 = 0 from rfl) (by decide) (fun rh3 Lh3 clh3 lnh3 ivh3 rvh3 h3 => ?_)
            obtain ⟨f3, rfl, rfl, rfl, rfl, rfl, rfl, rgf3, exf3⟩ := h3
            refine c_st (st2 := [.int (iI f3)]) rfl ?_
            have gf3 : ((f3 = -1 ∧ ¬ GD sk ln iv rv a0 i (i / 4) k) ∨ (GD sk ln iv rv a0 i (i / 4) k ∧ 4 * (i / 4) + 4 ≤ f3 ∧ f3 ≤ 4 * iv a0 9 + 3)) ∧ NBS L cl ln iv rv sk a0 i k f3 := exf3
            have nqf3 : f3 = -1 ∨ (4 * (i / 4) + 4 ≤ f3 ∧ f3 ≤ 4 * iv a0 9 + 3) := gf3.1.elim (fun q => Or.inl q.1) (fun q => Or.inr q.2)
            refine c_istore (lv2 := [(5, .int (iI f3)), (4, .int (iI k)), (3, .int (iI f2)), (0, .ref a0), (1, .int (iI i)), (2, .int (iI x))]) C dX4_nextChoice_38 (by decide) rfl ?_
            refine c_iload (j := 0) C dX4_nextChoice_40 rfl ?_
            refine c_if_lt (tgt := 58) C ⟨by omega, by omega⟩ dX4_nextChoice_42 (by decide) (fun c3 => ?_) (fun c3 => ?_)
            · refine c_iinc (z := k) (j := 1) (lv2 := [(4, .int (iI (k + 1))), (5, .int (iI f3)), (3, .int (iI f2)), (0, .ref a0), (1, .int (iI i)), (2, .int (iI x))]) C dX4_nextChoice_58 rfl (by decide) rfl ?_
              refine c_goto (tgt := 25) C dX4_nextChoice_61 (by decide) ?_
              refine c_lv (lv2 := [(4, .int (iI (k + 1))), (3, .int (iI f2)), (0, .ref a0), (1, .int (iI i)), (2, .int (iI x))]) [0, 2, 3, 4, 5] rfl ?_
              exact ih1  (k + 1)  (by omega)   (by omega) (hN.no (by omega) gf3.2 (by omega) (by omega))
            · refine c_aload_n (j := 3) (x := a0) C dX4_nextChoice_45 rfl ?_
              obtain ⟨rb2, rq2, trb2⟩ := hW.ref t_a0 0 rfl rfl rfl
              have lnrb2 : 404 ≤ ln rb2 ∧ ln rb2 ≤ 404 := hW.len trb2 rfl
              refine c_getr (k := 0) C ck_5 dX4_nextChoice_46 w1_229 (by decide) t_a0 rfl rfl (by decide) rfl rq2 ?_
              refine c_st (st2 := [.ref rb2]) rfl ?_
              refine c_iload (j := 0) C dX4_nextChoice_49 rfl ?_
              have ll1 : 404 ≤ ln rb2 ∧ ln rb2 ≤ 404 := hW.len trb2 rfl
              refine c_zald C dX4_nextChoice_51 trb2 rfl (by omega) (by omega) (by omega) ?_
              have ri4 : 0 ≤ iv rb2 f3.toNat ∧ iv rb2 f3.toNat ≤ 1 := hW.int trb2 f3.toNat
              refine c_if_eq (tgt := 58) C (r32_c (lo := 0) (hi := 1) ri4.1 ri4.2 (by decide) (by decide)) dX4_nextChoice_52 (by decide) (fun c4 => ?_) (fun c4 => ?_)
              · refine c_iinc (z := k) (j := 1) (lv2 := [(4, .int (iI (k + 1))), (5, .int (iI f3)), (3, .int (iI f2)), (0, .ref a0), (1, .int (iI i)), (2, .int (iI x))]) C dX4_nextChoice_58 rfl (by decide) rfl ?_
                refine c_goto (tgt := 25) C dX4_nextChoice_61 (by decide) ?_
                refine c_lv (lv2 := [(4, .int (iI (k + 1))), (3, .int (iI f2)), (0, .ref a0), (1, .int (iI i)), (2, .int (iI x))]) [0, 2, 3, 4, 5] rfl ?_
                exact ih1  (k + 1)  (by omega)   (by omega) (hN.shut (by omega) gf3.2 (by omega) (by omega) rq2 (by omega))
              · refine c_iload (j := 1) C dX4_nextChoice_55 rfl ?_
                have ri5 : 0 ≤ iv (sk 25) 2 ∧ iv (sk 25) 2 ≤ 6003 := hW.int tsk25 2
                exact c_iret C dX4_nextChoice_57 rfl (by decide) (rom0 hph hph (by decide)) ⟨k, rfl, rfl, rfl, rfl, rfl, rfl, ⟨by omega, by omega⟩, ⟨(Or.inr ⟨by omega, (Or.inr (Or.inl ⟨hb1zz1.mpr (by omega), by omega⟩)), (gf3.1.resolve_left (fun q => absurd q.1 (by omega))).1⟩), NCS.some_ hN ⟨by omega, by omega⟩ gf3.2 (by omega) (by omega) rq2 (by omega) (by rw [if_pos (by have q := bz_m (i := i) ⟨by omega, by omega⟩; have q2 := hb1zz1; exact q.mp (q2.mpr (by omega)))]; omega)⟩⟩
      refine c_lv (lv2 := [(4, .int (iI x)), (3, .int (iI f2)), (0, .ref a0), (1, .int (iI i)), (2, .int (iI x))]) [0, 1, 2, 3, 4] rfl ?_
      exact Lp1 6006 x  (by omega)   (by omega) (NCI.init (by omega))
    · exact absurd exf1.1 (by decide)
  · refine c_iconst C dX4_nextChoice_10 ?_
    refine c_goto (tgt := 15) C dX4_nextChoice_11 (by decide) ?_
    refine d_callV (As := [.int (iI 1)]) (rest := []) C hM (C_rowsOf (a0 := (sk 16)) (g := 1) hW hS tsk16 ⟨by decide, by decide⟩ ) dX4_nextChoice_15 kV_X4_95 rfl tsk16 rfl rfl (by decide) ck_4 rfl (Nat.le_of_ble_eq_true rfl) ⟨(Nat.le_of_ble_eq_true rfl), (Nat.le_of_ble_eq_true rfl)⟩ hph hph (show 0 + 0 = 0 from rfl) (by decide) (fun rh4 Lh4 clh4 lnh4 ivh4 rvh4 h4 => ?_)
    obtain ⟨f4, rfl, rfl, rfl, rfl, rfl, rfl, rgf4, exf4⟩ := h4
    refine c_st (st2 := [.ref f4]) rfl ?_
    rcases exf4 with exf4 | exf4
    · exact absurd exf4.1 (by decide)
    · obtain ⟨hf4, rfl⟩ := exf4
      refine c_st (st2 := [.ref (sk 25)]) rfl ?_
      have ri6 : 0 ≤ iv (sk 25) 2 ∧ iv (sk 25) 2 ≤ 6003 := hW.int tsk25 2
      refine d_callV (As := []) (rest := []) C hM (C_size_25 (a0 := (sk 25)) hW hS tsk25  ) dX4_nextChoice_18 kV_X4_101 rfl tsk25 rfl rfl (by decide) ck_0 rfl (Nat.le_of_ble_eq_true rfl) ⟨(Nat.le_of_ble_eq_true rfl), (Nat.le_of_ble_eq_true rfl)⟩ hph hph (show 0 + 0 = 0 from rfl) (by decide) (fun rh5 Lh5 clh5 lnh5 ivh5 rvh5 h5 => ?_)
      obtain ⟨f5, rfl, rfl, rfl, rfl, rfl, rfl, rgf5, exf5⟩ := h5
      refine c_st (st2 := [.int (iI f5)]) rfl ?_
      have gf5 : f5 = iv (sk 25) 2 := exf5
      refine c_istore_n (lv2 := [(3, .int (iI f5)), (0, .ref a0), (1, .int (iI i)), (2, .int (iI x))]) C dX4_nextChoice_21 (by decide) rfl ?_
      refine c_iload_n (j := 3) C dX4_nextChoice_22 rfl ?_
      refine c_istore (lv2 := [(4, .int (iI x)), (3, .int (iI f5)), (0, .ref a0), (1, .int (iI i)), (2, .int (iI x))]) C dX4_nextChoice_23 (by decide) rfl ?_
      have Lp2 : ∀ (nn : Nat) (k : Int) , max 0 (6004 - k) < (nn : Int) → (x ≤ k ∧ k ≤ 2147483647) → (NCI L cl ln iv rv sk a0 i x k) → cw p l e 4 ((PHM) + 0 - ((Phi (g0 G) sk) ln rv)) s m args below meth c G A 6 (MQ below (Qu G A (Qp G (Phi (g0 G) sk) ((Phi (g0 G) sk) ln rv) 0 (fun v L2 cl2 ln2 iv2 rv2 => ∃ f : Int, v = some (.int (iI f)) ∧ L = L2 ∧ cl = cl2 ∧ ln = ln2 ∧ iv = iv2 ∧ rv = rv2 ∧ (-2147483648 ≤ f ∧ f ≤ 2147483647) ∧ ((f = -1 ∨ (x ≤ f ∧ VL sk iv i f ∧ GD sk ln iv rv a0 i (i / 4) f)) ∧ NCS L cl ln iv rv sk a0 i x f)))) args s (((PHM) + 0 - ((Phi (g0 G) sk) ln rv)) / 16) ((PHM) + 0 - ((Phi (g0 G) sk) ln rv)) A) (Phi (g0 G) sk) ((Phi (g0 G) sk) ln rv) L cl ln iv rv 0 25 [(4, .int (iI k)), (3, .int (iI f5)), (0, .ref a0), (1, .int (iI i)), (2, .int (iI x))] [] := by
        intro nn
        induction nn with
        | zero =>
          intro  k  hm   hk hN
          exact absurd hm (by omega)
        | succ nn ih2 =>
          intro  k  hm   hk hN
          refine c_iload (j := 0) C dX4_nextChoice_25 rfl ?_
          refine c_iload_n (j := 1) C dX4_nextChoice_27 rfl ?_
          refine c_icmp_gt (tgt := 64) C ⟨by omega, by omega⟩ ⟨by omega, by omega⟩ dX4_nextChoice_28 (by decide) (fun c5 => ?_) (fun c5 => ?_)
          · refine c_iconst C dX4_nextChoice_64 ?_
            have ri7 : 0 ≤ iv (sk 24) 2 ∧ iv (sk 24) 2 ≤ 6003 := hW.int tsk24 2
            exact c_iret C dX4_nextChoice_65 rfl (by decide) (rom0 hph hph (by decide)) ⟨(-1), rfl, rfl, rfl, rfl, rfl, rfl, ⟨by decide, by decide⟩, ⟨Or.inl rfl, NCS.none_ hN (by rw [if_neg (by have q := bz_m (i := i) ⟨by omega, by omega⟩; have q2 := hb1zz1; exact fun u => absurd (q2.mp (q.mpr u)) (by omega))]; omega) rfl⟩⟩
          · refine c_aload_n (j := 2) (x := a0) C dX4_nextChoice_31 rfl ?_
            refine c_iload_n (j := 3) C dX4_nextChoice_32 rfl ?_
            refine c_iload (j := 0) C dX4_nextChoice_33 rfl ?_
            have ri8 : 0 ≤ iv a0 9 ∧ iv a0 9 ≤ 100 := hW.int t_a0 9
            refine d_callV (As := [.int (iI i), .int (iI k)]) (rest := []) C hM (G_nodeBehind (a0 := a0) (i := i) (x := k) hW hS t_a0 (by omega) (by omega) (by show 0 ≤ i ∧ i ≤ 403; omega) (Or.inr (Or.inr ⟨fun q => absurd (hb1zz1.mp q) (by omega), by omega⟩))) dX4_nextChoice_35 kV_X4_92 rfl t_a0 rfl rfl (by decide) ck_5 rfl (Nat.le_of_ble_eq_true rfl) ⟨(Nat.le_of_ble_eq_true rfl), (Nat.le_of_ble_eq_true rfl)⟩ hph hph (show 0 + 0 = 0 from rfl) (by decide) (fun rh6 Lh6 clh6 lnh6 ivh6 rvh6 h6 => ?_)
            obtain ⟨f6, rfl, rfl, rfl, rfl, rfl, rfl, rgf6, exf6⟩ := h6
            refine c_st (st2 := [.int (iI f6)]) rfl ?_
            have gf6 : ((f6 = -1 ∧ ¬ GD sk ln iv rv a0 i (i / 4) k) ∨ (GD sk ln iv rv a0 i (i / 4) k ∧ 4 * (i / 4) + 4 ≤ f6 ∧ f6 ≤ 4 * iv a0 9 + 3)) ∧ NBS L cl ln iv rv sk a0 i k f6 := exf6
            have nqf6 : f6 = -1 ∨ (4 * (i / 4) + 4 ≤ f6 ∧ f6 ≤ 4 * iv a0 9 + 3) := gf6.1.elim (fun q => Or.inl q.1) (fun q => Or.inr q.2)
            refine c_istore (lv2 := [(5, .int (iI f6)), (4, .int (iI k)), (3, .int (iI f5)), (0, .ref a0), (1, .int (iI i)), (2, .int (iI x))]) C dX4_nextChoice_38 (by decide) rfl ?_
            refine c_iload (j := 0) C dX4_nextChoice_40 rfl ?_
            refine c_if_lt (tgt := 58) C ⟨by omega, by omega⟩ dX4_nextChoice_42 (by decide) (fun c6 => ?_) (fun c6 => ?_)
            · refine c_iinc (z := k) (j := 1) (lv2 := [(4, .int (iI (k + 1))), (5, .int (iI f6)), (3, .int (iI f5)), (0, .ref a0), (1, .int (iI i)), (2, .int (iI x))]) C dX4_nextChoice_58 rfl (by decide) rfl ?_
              refine c_goto (tgt := 25) C dX4_nextChoice_61 (by decide) ?_
              refine c_lv (lv2 := [(4, .int (iI (k + 1))), (3, .int (iI f5)), (0, .ref a0), (1, .int (iI i)), (2, .int (iI x))]) [0, 2, 3, 4, 5] rfl ?_
              exact ih2  (k + 1)  (by omega)   (by omega) (hN.no (by omega) gf6.2 (by omega) (by omega))
            · refine c_aload_n (j := 3) (x := a0) C dX4_nextChoice_45 rfl ?_
              obtain ⟨rb3, rq3, trb3⟩ := hW.ref t_a0 0 rfl rfl rfl
              have lnrb3 : 404 ≤ ln rb3 ∧ ln rb3 ≤ 404 := hW.len trb3 rfl
              refine c_getr (k := 0) C ck_5 dX4_nextChoice_46 w1_229 (by decide) t_a0 rfl rfl (by decide) rfl rq3 ?_
              refine c_st (st2 := [.ref rb3]) rfl ?_
              refine c_iload (j := 0) C dX4_nextChoice_49 rfl ?_
              have ll2 : 404 ≤ ln rb3 ∧ ln rb3 ≤ 404 := hW.len trb3 rfl
              refine c_zald C dX4_nextChoice_51 trb3 rfl (by omega) (by omega) (by omega) ?_
              have ri9 : 0 ≤ iv rb3 f6.toNat ∧ iv rb3 f6.toNat ≤ 1 := hW.int trb3 f6.toNat
              refine c_if_eq (tgt := 58) C (r32_c (lo := 0) (hi := 1) ri9.1 ri9.2 (by decide) (by decide)) dX4_nextChoice_52 (by decide) (fun c7 => ?_) (fun c7 => ?_)
              · refine c_iinc (z := k) (j := 1) (lv2 := [(4, .int (iI (k + 1))), (5, .int (iI f6)), (3, .int (iI f5)), (0, .ref a0), (1, .int (iI i)), (2, .int (iI x))]) C dX4_nextChoice_58 rfl (by decide) rfl ?_
                refine c_goto (tgt := 25) C dX4_nextChoice_61 (by decide) ?_
                refine c_lv (lv2 := [(4, .int (iI (k + 1))), (3, .int (iI f5)), (0, .ref a0), (1, .int (iI i)), (2, .int (iI x))]) [0, 2, 3, 4, 5] rfl ?_
                exact ih2  (k + 1)  (by omega)   (by omega) (hN.shut (by omega) gf6.2 (by omega) (by omega) rq3 (by omega))
              · refine c_iload (j := 1) C dX4_nextChoice_55 rfl ?_
                have ri10 : 0 ≤ iv (sk 24) 2 ∧ iv (sk 24) 2 ≤ 6003 := hW.int tsk24 2
                exact c_iret C dX4_nextChoice_57 rfl (by decide) (rom0 hph hph (by decide)) ⟨k, rfl, rfl, rfl, rfl, rfl, rfl, ⟨by omega, by omega⟩, ⟨(Or.inr ⟨by omega, (Or.inr (Or.inr ⟨fun q => absurd (hb1zz1.mp q) (by omega), by omega⟩)), (gf6.1.resolve_left (fun q => absurd q.1 (by omega))).1⟩), NCS.some_ hN ⟨by omega, by omega⟩ gf6.2 (by omega) (by omega) rq3 (by omega) (by rw [if_neg (by have q := bz_m (i := i) ⟨by omega, by omega⟩; have q2 := hb1zz1; exact fun u => absurd (q2.mp (q.mpr u)) (by omega))]; omega)⟩⟩
      refine c_lv (lv2 := [(4, .int (iI x)), (3, .int (iI f5)), (0, .ref a0), (1, .int (iI i)), (2, .int (iI x))]) [0, 1, 2, 3, 4] rfl ?_
      exact Lp2 6006 x  (by omega)   (by omega) (NCI.init (by omega))
end
section
def MEI (L : List Nat) (cl ln : Nat → Nat) (iv : Nat → Nat → Int) (rv : Nat → Nat → Option Nat) (sk : Nat → Nat) (q : Nat) (iv1 : Nat → Nat → Int) (k : Int) : Prop := ∀ a l0 l1 C F n, GPC L cl ln iv rv sk q a l0 l1 C F n → CEQ iv1 rv q a l0 l1 C F n k
section GPEN
variable {g0 : Nat} {sk : Nat → Nat} {L L1 : List Nat} {cl ln cl1 ln1 : Nat → Nat} {iv iv1 iv2 : Nat → Nat → Int} {rv rv1 : Nat → Nat → Option Nat} {a : Nat → Nat → Int} {l0 l1 : List Int} {C : Nat → Int} {F : Int32} {q b cb : Nat} {i x n f k z y m : Int} {ls : List Nat}
theorem GPC.fr (hc : GPC L cl ln iv rv sk q a l0 l1 C F n) (hW : WT g0 sk L cl ln iv rv) (hS : SKL sk L cl) (tq : ty L cl q 17) (hF : fT ls L cl iv rv iv1 rv1) (hq : QT g0 sk L cl ln iv rv L1 cl1 ln1 iv1 rv1) (h9 : iv1 q 9 = iv q 9) (h10 : iv1 q 10 = iv q 10) (h8 : rv1 q 8 = rv q 8) (k24 : ls.contains 24 = false) (k25 : ls.contains 25 = false) (k2 : ls.contains 1002 = false) (k3 : ls.contains 1003 = false) (k63 : ls.contains 63 = false) : GPC L1 cl1 ln1 iv1 rv1 sk q a l0 l1 C F n := by
  obtain ⟨⟨⟨c1, c2⟩, c3, c4⟩, ⟨c5, c6⟩, c7, c8, c9⟩ := hc
  refine hv2 (el24.fr hW hS hF k24 k2) (el25.fr hW hS hF k25 k3) (fun e24 e25 => ?_)
  refine ⟨⟨⟨c1.mv hq e24.1 e24.2, c2.mv hq e25.1 e25.2⟩, c3, c4⟩, ⟨h9.trans c5, c6⟩, fun b hb j j1 j2 => ?_, by rw [h10]; exact c8, c9⟩
  rw [h8] at hb
  obtain ⟨b', w1, tb⟩ := hW.ref tq 8 rfl rfl rfl
  rw [hb] at w1
  cases w1
  rw [hF.i tb k63]
  exact c7 b hb j j1 j2
theorem CEQ.le (hc : CEQ iv rv q a l0 l1 C F n k) (h : k ≤ m) : CEQ iv rv q a l0 l1 C F n m := fun cb hcb p g h q1 q2 q3 q4 q5 => hc cb hcb p g h q1 q2 q3 q4 (by omega)
theorem CEQ.fr (hc : CEQ iv rv q a l0 l1 C F n k) (hW : WT g0 sk L cl ln iv rv) (tq : ty L cl q 17) (hF : fT ls L cl iv rv iv1 rv1) (h0 : rv1 q 0 = rv q 0) (k59 : ls.contains 59 = false) : CEQ iv1 rv1 q a l0 l1 C F n k := fun cb hcb p g h q1 q2 q3 q4 q5 => by
  rw [h0] at hcb
  obtain ⟨b', w1, tb⟩ := hW.ref tq 0 rfl rfl rfl
  rw [hcb] at w1
  cases w1
  rw [hF.i tb k59]
  exact hc cb hcb p g h q1 q2 q3 q4 q5
theorem MEI.init (hk : 4 * iv q 9 + 3 ≤ k) : MEI L cl ln iv rv sk q iv1 k := fun a l0 l1 C F n hc cb _ p g h q1 q2 q3 q4 q5 => by
  have e := hc.2.1.1
  omega
theorem MEI.end_ (hI : MEI L cl ln iv rv sk q iv1 k) (hcb : rv q 0 = some cb) (hk : 0 ≤ k ∧ k ≤ 403) (hn : 4 * iv q 9 ≤ k) (hv : y ≠ 0 ↔ k / 2 % 2 = 0) (e : iv2 = up2 iv1 cb k.toNat y) (hz : z = k - 1) : MEI L cl ln iv rv sk q iv2 z := fun a l0 l1 C F n hc cb' hcb' p g h q1 q2 q3 q4 q5 => by
  have en := hc.2.1.1
  rw [hcb] at hcb'
  cases hcb'
  rw [e]
  by_cases c : (4 * p + 2 * h + g).toNat = k.toNat
  · rw [c, up2_s, hv, RDC_end (by omega)]
    by_cases c2 : h = 1
    · rw [if_pos c2]
      exact ⟨fun u => by omega, fun u => absurd rfl u⟩
    · rw [if_neg c2]
      exact ⟨(fun _ u => by cases u), (fun _ => by omega)⟩
  · rw [up2_j c]
    exact hI a l0 l1 C F n hc cb hcb p g h q1 q2 q3 q4 (by omega)
theorem MEI.mid (hI : MEI L cl ln iv rv sk q iv1 k) (hcb : rv q 0 = some cb) (hk : 0 ≤ k ∧ k ≤ 403) (hn : k < 4 * iv q 9) (hd : ∀ a l0 l1 C F n, GPC L cl ln iv rv sk q a l0 l1 C F n → GPC L cl ln iv1 rv sk q a l0 l1 C F n) (hs : NCS L cl ln iv1 rv sk q k 0 f) (hv : (0 ≤ f ∧ y ≠ 0) ∨ (f < 0 ∧ y = 0)) (e : iv2 = up2 iv1 cb k.toNat y) (hz : z = k - 1) : MEI L cl ln iv rv sk q iv2 z := fun a l0 l1 C F n hc cb' hcb' p g h q1 q2 q3 q4 q5 => by
  refine hv2 (hc.2.1.1) (hcb') (fun en hcb2 => ?_)
  rw [hcb] at hcb'
  cases hcb'
  rw [e]
  by_cases c : (4 * p + 2 * h + g).toNat = k.toNat
  · rw [c, up2_s]
    have ep : p = k / 4 := by omega
    have eg : g = k % 2 := by omega
    have eh : h = k / 2 % 2 := by omega
    rw [ep, eg, eh]
    rcases hs a l0 l1 C F n (hd a l0 l1 C F n hc) ((hI a l0 l1 C F n hc).le (by omega)) with ⟨u1, u2⟩ | ⟨u1, o, u2, u3, _⟩
    · have z0 := RDC_z (a := a) (C := C) (F := F) (n := n) (p := k / 4) (h := k / 2 % 2) (by omega) (fun c o ho => u2 c o (by omega) ho)
      rw [z0]
      exact ⟨fun u => by omega, fun u => absurd rfl u⟩
    · exact ⟨fun _ => RDC_nz (by omega) (List.mem_of_getElem? u2) u3, fun _ => by omega⟩
  · rw [up2_j c]
    exact hI a l0 l1 C F n hc cb hcb p g h q1 q2 q3 q4 (by omega)
end GPEN
set_option maxHeartbeats 4000000 in
set_option maxRecDepth 100000 in
theorem G_markEnds {l : Launch} {G : GT} {mi : Nat} {sk : Nat → Nat} {L : List Nat} {cl ln : Nat → Nat} {iv : Nat → Nat → Int} {rv : Nat → Nat → Option Nat}  {a0 : Nat} (hW : WT (g0 G) sk L cl ln iv rv) (hS : SKL sk L cl) (t_a0 : ty L cl a0 17)  : Mc l G mi (Phi (g0 G) sk) PHM yX4_markEnds cX4_markEnds 2 none 5 [.ref a0] L cl ln iv rv 0 (fun v L2 cl2 ln2 iv2 rv2 => v = none ∧ L = L2 ∧ cl = cl2 ∧ ln = ln2 ∧ rv = rv2 ∧ fT [59] L cl iv rv iv2 rv2 ∧ WT (g0 G) sk L2 cl2 ln2 iv2 rv2 ∧ (MEI L cl ln iv rv sk a0 iv2 (-1))) := by
  refine Mc.mk (by decide) (Nat.le_of_ble_eq_true rfl) ?_
  intro p e s m args below meth c A C hM
  refine hv8 (Phi.le hW hS) (show ty L cl (sk 11) 11 from ⟨(hS 11 rfl).1, by rw [(hS 11 rfl).2]; rfl⟩) (show ty L cl (sk 16) 16 from ⟨(hS 16 rfl).1, by rw [(hS 16 rfl).2]; rfl⟩) (show ty L cl (sk 24) 24 from ⟨(hS 24 rfl).1, by rw [(hS 24 rfl).2]; rfl⟩) (show ty L cl (sk 25) 25 from ⟨(hS 25 rfl).1, by rw [(hS 25 rfl).2]; rfl⟩) (show XT L cl ln L cl ln from XT.refl) (show fT [59] L cl iv rv iv rv from fT.refl) (show 0 ≤ iv a0 9 ∧ iv a0 9 ≤ 100 from hW.int t_a0 9) (fun hph tsk11 tsk16 tsk24 tsk25 hX0 hF0 ri1 => ?_)
  obtain ⟨ce9, hce9, tce9⟩ := hW.ref t_a0 0 rfl rfl rfl
  refine c_aload_n (j := 0) (x := a0) C dX4_markEnds_0 rfl ?_
  refine c_get (k := 9) C ck_5 dX4_markEnds_1 w2_0 (by decide) t_a0 rfl rfl (by decide) rfl ?_
  refine c_iconst C dX4_markEnds_4 ?_
  refine c_imul C dX4_markEnds_5 ?_
  refine c_iconst C dX4_markEnds_6 ?_
  refine c_iadd C dX4_markEnds_7 ?_
  refine c_istore_n (lv2 := [(1, .int (iI (((iv a0 9) * 4) + 3))), (0, .ref a0)]) C dX4_markEnds_8 (by decide) rfl ?_
  have Lp1 : ∀ (nn : Nat) (k : Int) (ivb1 : Nat → Nat → Int) , k + 2 < (nn : Int) → WT (g0 G) sk L cl ln ivb1 rv → fT [59] L cl iv rv ivb1 rv → (-1 ≤ k ∧ k ≤ 403) → (ivb1 a0 9 = iv a0 9) → (MEI L cl ln iv rv sk a0 ivb1 k) → cw p l e 5 ((PHM) + 0 - ((Phi (g0 G) sk) ln rv)) s m args below meth c G A 2 (MQ below (Qu G A (Qp G (Phi (g0 G) sk) ((Phi (g0 G) sk) ln rv) 0 (fun v L2 cl2 ln2 iv2 rv2 => v = none ∧ L = L2 ∧ cl = cl2 ∧ ln = ln2 ∧ rv = rv2 ∧ fT [59] L cl iv rv iv2 rv2 ∧ WT (g0 G) sk L2 cl2 ln2 iv2 rv2 ∧ (MEI L cl ln iv rv sk a0 iv2 (-1))))) args s (((PHM) + 0 - ((Phi (g0 G) sk) ln rv)) / 16) ((PHM) + 0 - ((Phi (g0 G) sk) ln rv)) A) (Phi (g0 G) sk) ((Phi (g0 G) sk) ln rv) L cl ln ivb1 rv 0 9 [(1, .int (iI k)), (0, .ref a0)] [] := by
    intro nn
    induction nn with
    | zero =>
      intro  k ivb1 hm Wb1 Fb1  hk h9s hMe
      exact absurd hm (by omega)
    | succ nn ih1 =>
      intro  k ivb1 hm Wb1 Fb1  hk h9s hMe
      refine c_iload_n (j := 0) C dX4_markEnds_9 rfl ?_
      refine c_if_lt (tgt := 63) C (r32_c (lo := (-1)) (hi := 403) hk.1 hk.2 (by decide) (by decide)) dX4_markEnds_10 (by decide) (fun c1 => ?_) (fun c1 => ?_)
      · exact c_vret C dX4_markEnds_63 rfl (by decide) (rom0 hph hph (by decide)) ⟨rfl, rfl, rfl, rfl, rfl, Fb1, Wb1, (by have q := hMe; rw [show k = -1 by omega] at q; exact q)⟩
      · refine c_aload_n (j := 1) (x := a0) C dX4_markEnds_13 rfl ?_
        refine c_getr (k := 0) C ck_5 dX4_markEnds_14 w1_229 (by decide) t_a0 rfl rfl (by decide) rfl hce9 ?_
        refine c_st (st2 := [.ref ce9]) rfl ?_
        refine c_iload_n (j := 0) C dX4_markEnds_17 rfl ?_
        refine c_iload_n (j := 0) C dX4_markEnds_18 rfl ?_
        refine c_aload_n (j := 1) (x := a0) C dX4_markEnds_19 rfl ?_
        refine hv2 (show 0 ≤ ivb1 a0 9 ∧ ivb1 a0 9 ≤ 100 from Wb1.int t_a0 9) (show ivb1 a0 9 = iv a0 9 from Fb1.i t_a0 rfl 9) (fun ri2 ie1 => ?_)
        refine c_get (k := 9) C ck_5 dX4_markEnds_20 w2_0 (by decide) t_a0 rfl rfl (by decide) rfl ?_
        refine c_iconst C dX4_markEnds_23 ?_
        refine c_imul C dX4_markEnds_24 ?_
        refine c_icmp_lt (tgt := 42) C (r32_c (lo := (-1)) (hi := 403) hk.1 hk.2 (by decide) (by decide)) ⟨by omega, by omega⟩ dX4_markEnds_25 (by decide) (fun c2 => ?_) (fun c2 => ?_)
        · refine c_aload_n (j := 1) (x := a0) C dX4_markEnds_42 rfl ?_
          refine c_iload_n (j := 0) C dX4_markEnds_43 rfl ?_
          refine c_iconst C dX4_markEnds_44 ?_
          refine d_callV (As := [.int (iI k), .int (iI 0)]) (rest := [.int (iI k), .ref ce9]) C hM (G_nextChoice (a0 := a0) (i := k) (x := 0) Wb1 hS t_a0 (by omega) ⟨by decide, by decide⟩ (by show 0 ≤ k ∧ k ≤ 403 ∧ 0 ≤ (0 : Int); omega)) dX4_markEnds_45 kV_X4_85 rfl t_a0 rfl rfl (by decide) ck_5 rfl (Nat.le_of_ble_eq_true rfl) ⟨(Nat.le_of_ble_eq_true rfl), (Nat.le_of_ble_eq_true rfl)⟩ hph hph (show 0 + 0 = 0 from rfl) (by decide) (fun rh1 Lh1 clh1 lnh1 ivh1 rvh1 h1 => ?_)
          obtain ⟨f1, rfl, rfl, rfl, rfl, rfl, rfl, rgf1, exf1⟩ := h1
          refine c_st (st2 := [.int (iI f1), .int (iI k), .ref ce9]) rfl ?_
          have gf1 : (f1 = -1 ∨ ((0 : Int) ≤ f1 ∧ VL sk ivb1 k f1 ∧ GD sk ln ivb1 rv a0 k (k / 4) f1)) ∧ NCS L cl ln ivb1 rv sk a0 k (0 : Int) f1 := exf1
          refine c_if_lt (tgt := 55) C ⟨by omega, by omega⟩ dX4_markEnds_48 (by decide) (fun c3 => ?_) (fun c3 => ?_)
          · refine c_iconst C dX4_markEnds_55 ?_
            have ll1 : 404 ≤ ln ce9 ∧ ln ce9 ≤ 404 := Wb1.len tce9 rfl
            refine c_zast (x := 0) C dX4_markEnds_56 tce9 rfl (by omega) (by omega) (by omega) (by omega) (fun iv1 pq1 => ?_)
            refine hv2 (Wb1.puti pq1 tce9 (show 0 ≤ 0 ∧ 0 ≤ 1 by omega) rfl) (Fb1.puti hX0 pq1 tce9 rfl) (fun W2 F1 => ?_)
            refine c_iinc (z := k) (j := 0) (lv2 := [(1, .int (iI (k + (-1)))), (0, .ref a0)]) C dX4_markEnds_57 rfl (by decide) rfl ?_
            refine c_goto (tgt := 9) C dX4_markEnds_60 (by decide) ?_
            refine hv2 (show 0 ≤ iv1 a0 9 ∧ iv1 a0 9 ≤ 100 from W2.int t_a0 9) (show iv1 a0 9 = ivb1 a0 9 from by rw [pq1]; exact up2_k (ne_ty t_a0 tce9 (by decide))) (fun ri3 ie2 => ?_)
            refine c_lv (lv2 := [(1, .int (iI (k + (-1)))), (0, .ref a0)]) [0, 1] rfl ?_
            exact ih1  (k + (-1)) _ (by omega) W2 F1  (by omega) (ie2.trans ie1) (hMe.mid hce9 ⟨by omega, by omega⟩ (by omega) (fun a l0 l1 C F n hc => hc.fr hW hS t_a0 Fb1 (QT.of hW hS XT.refl Fb1 rfl rfl rfl rfl rfl) (Fb1.i t_a0 rfl 9) (Fb1.i t_a0 rfl 10) rfl rfl rfl rfl rfl rfl) gf1.2 (by omega) pq1 (by omega))
          · refine c_iconst C dX4_markEnds_51 ?_
            refine c_goto (tgt := 56) C dX4_markEnds_52 (by decide) ?_
            have ll2 : 404 ≤ ln ce9 ∧ ln ce9 ≤ 404 := Wb1.len tce9 rfl
            refine c_zast (x := 1) C dX4_markEnds_56 tce9 rfl (by omega) (by omega) (by omega) (by omega) (fun iv2 pq2 => ?_)
            refine hv2 (Wb1.puti pq2 tce9 (show 0 ≤ 1 ∧ 1 ≤ 1 by omega) rfl) (Fb1.puti hX0 pq2 tce9 rfl) (fun W3 F2 => ?_)
            refine c_iinc (z := k) (j := 0) (lv2 := [(1, .int (iI (k + (-1)))), (0, .ref a0)]) C dX4_markEnds_57 rfl (by decide) rfl ?_
            refine c_goto (tgt := 9) C dX4_markEnds_60 (by decide) ?_
            refine hv2 (show 0 ≤ iv2 a0 9 ∧ iv2 a0 9 ≤ 100 from W3.int t_a0 9) (show iv2 a0 9 = ivb1 a0 9 from by rw [pq2]; exact up2_k (ne_ty t_a0 tce9 (by decide))) (fun ri4 ie3 => ?_)
            refine c_lv (lv2 := [(1, .int (iI (k + (-1)))), (0, .ref a0)]) [0, 1] rfl ?_
            exact ih1  (k + (-1)) _ (by omega) W3 F2  (by omega) (ie3.trans ie1) (hMe.mid hce9 ⟨by omega, by omega⟩ (by omega) (fun a l0 l1 C F n hc => hc.fr hW hS t_a0 Fb1 (QT.of hW hS XT.refl Fb1 rfl rfl rfl rfl rfl) (Fb1.i t_a0 rfl 9) (Fb1.i t_a0 rfl 10) rfl rfl rfl rfl rfl rfl) gf1.2 (by omega) pq2 (by omega))
        · refine c_iload_n (j := 0) C dX4_markEnds_28 rfl ?_
          refine c_iconst C dX4_markEnds_29 ?_
          obtain ⟨zz1, hzz1, ezz1⟩ := iI_of (iI k &&& iI 2)
          refine c_iand (w := iI zz1) C dX4_markEnds_30 ezz1 ?_
          have mbzz1 := bz_iff ezz1 hzz1
          have mczz1 := b2_m (i := k) ⟨by omega, by omega⟩
          refine c_if_ne (tgt := 38) C ⟨by omega, by omega⟩ dX4_markEnds_31 (by decide) (fun c4 => ?_) (fun c4 => ?_)
          · refine c_iconst C dX4_markEnds_38 ?_
            refine c_goto (tgt := 56) C dX4_markEnds_39 (by decide) ?_
            have ll3 : 404 ≤ ln ce9 ∧ ln ce9 ≤ 404 := Wb1.len tce9 rfl
            refine c_zast (x := 0) C dX4_markEnds_56 tce9 rfl (by omega) (by omega) (by omega) (by omega) (fun iv3 pq3 => ?_)
            refine hv2 (Wb1.puti pq3 tce9 (show 0 ≤ 0 ∧ 0 ≤ 1 by omega) rfl) (Fb1.puti hX0 pq3 tce9 rfl) (fun W4 F3 => ?_)
            refine c_iinc (z := k) (j := 0) (lv2 := [(1, .int (iI (k + (-1)))), (0, .ref a0)]) C dX4_markEnds_57 rfl (by decide) rfl ?_
            refine c_goto (tgt := 9) C dX4_markEnds_60 (by decide) ?_
            refine hv2 (show 0 ≤ iv3 a0 9 ∧ iv3 a0 9 ≤ 100 from W4.int t_a0 9) (show iv3 a0 9 = ivb1 a0 9 from by rw [pq3]; exact up2_k (ne_ty t_a0 tce9 (by decide))) (fun ri5 ie4 => ?_)
            refine c_lv (lv2 := [(1, .int (iI (k + (-1)))), (0, .ref a0)]) [0, 1] rfl ?_
            exact ih1  (k + (-1)) _ (by omega) W4 F3  (by omega) (ie4.trans ie1) (hMe.end_ hce9 ⟨by omega, by omega⟩ (by omega) (by have q1 := mbzz1; have q2 := mczz1; unfold b2 at q2; rw [q1] at q2; omega) pq3 (by omega))
          · refine c_iconst C dX4_markEnds_34 ?_
            refine c_goto (tgt := 56) C dX4_markEnds_35 (by decide) ?_
            have ll4 : 404 ≤ ln ce9 ∧ ln ce9 ≤ 404 := Wb1.len tce9 rfl
            refine c_zast (x := 1) C dX4_markEnds_56 tce9 rfl (by omega) (by omega) (by omega) (by omega) (fun iv4 pq4 => ?_)
            refine hv2 (Wb1.puti pq4 tce9 (show 0 ≤ 1 ∧ 1 ≤ 1 by omega) rfl) (Fb1.puti hX0 pq4 tce9 rfl) (fun W5 F4 => ?_)
            refine c_iinc (z := k) (j := 0) (lv2 := [(1, .int (iI (k + (-1)))), (0, .ref a0)]) C dX4_markEnds_57 rfl (by decide) rfl ?_
            refine c_goto (tgt := 9) C dX4_markEnds_60 (by decide) ?_
            refine hv2 (show 0 ≤ iv4 a0 9 ∧ iv4 a0 9 ≤ 100 from W5.int t_a0 9) (show iv4 a0 9 = ivb1 a0 9 from by rw [pq4]; exact up2_k (ne_ty t_a0 tce9 (by decide))) (fun ri6 ie5 => ?_)
            refine c_lv (lv2 := [(1, .int (iI (k + (-1)))), (0, .ref a0)]) [0, 1] rfl ?_
            exact ih1  (k + (-1)) _ (by omega) W5 F4  (by omega) (ie5.trans ie1) (hMe.end_ hce9 ⟨by omega, by omega⟩ (by omega) (by have q1 := mbzz1; have q2 := mczz1; unfold b2 at q2; rw [q1] at q2; omega) pq4 (by omega))
  refine c_lv (lv2 := [(1, .int (iI (((iv a0 9) * 4) + 3))), (0, .ref a0)]) [0, 1] rfl ?_
  exact Lp1 410 (((iv a0 9) * 4) + 3) _ (by omega) hW hF0  (by omega) rfl (MEI.init (by omega))
end
section
def flt : List (List Int) → List Int
  | [] => []
  | w :: K => w ++ flt K
def ou1 (a : Nat → Nat → Int) (l0 l1 : List Int) (e : Int × Int) : List Int := oou a (e.1 / 2 % 2) (((chs l0 l1 (e.1 % 2))[e.2.toNat]?).getD none)
def pfl (a : Nat → Nat → Int) (l0 l1 : List Int) : List (Int × Int) → List Int
  | [] => []
  | e :: T => pfl a l0 l1 T ++ ou1 a l0 l1 e
def STQ (iv : Nat → Nat → Int) (nb cb : Nat) (T : List (Int × Int)) : Prop := ∀ (j : Nat) (e : Int × Int), T[j]? = some e → iv nb (T.length - 1 - j) = e.1 ∧ iv cb (T.length - 1 - j) = e.2
def VST (a : Nat → Nat → Int) (l0 l1 : List Int) (C : Nat → Int) (F : Int32) (n : Int) : List (Int × Int) → Int → Prop
  | [], i => i = 0
  | e :: T, i => ((0 ≤ e.2 ∧ 0 ≤ e.1 ∧ e.1 ≤ 403) ∧ ∃ o, (chs l0 l1 (e.1 % 2))[e.2.toNat]? = some o ∧ MYO a C F n (e.1 / 4) (e.1 / 2 % 2) o ∧ i = 4 * onp a (e.1 / 4) o + 2 * onh o + ong (e.1 % 2) o) ∧ VST a l0 l1 C F n T e.1
def KLP (iv : Nat → Nat → Int) (rv : Nat → Nat → Option Nat) (sk : Nat → Nat) (q : Nat) (K : List (List Int)) : Prop := iv q 5 = ((K.length : Nat) : Int) ∧ CEL iv rv (sk 11) (flt K) ∧ (∀ eb, rv q 3 = some eb → ∀ k : Nat, k < K.length → iv eb k = (((flt (K.take (k + 1))).length : Nat) : Int)) ∧ ∀ (k : Nat) (w : List Int), K[k]? = some w → w.length ≤ 800
noncomputable def rsN (a : Nat → Nat → Int) (l0 l1 : List Int) (C : Nat → Int) (F : Int32) (n : Int) (i c : Int) : List (List Int) := if i / 4 = n then RDC a l0 l1 C F n (i / 4) (i % 2) (i / 2 % 2) else fmp (RCO a l0 l1 C F n (i / 4) (i % 2) (i / 2 % 2)) ((chs l0 l1 (i % 2)).drop (c + 1).toNat)
noncomputable def rsS (a : Nat → Nat → Int) (l0 l1 : List Int) (C : Nat → Int) (F : Int32) (n : Int) : List (Int × Int) → List (List Int)
  | [] => []
  | e :: T => pxs (pfl a l0 l1 T) (rsN a l0 l1 C F n e.1 e.2) ++ rsS a l0 l1 C F n T
section GPST
variable {a : Nat → Nat → Int} {l0 l1 : List Int} {C : Nat → Int} {F : Int32} {n i c x y g h : Int} {T : List (Int × Int)} {e : Int × Int} {K M : List (List Int)} {w : List Int} {o : Option Int} {iv iv1 : Nat → Nat → Int} {nb cb j k m : Nat}
theorem flt_app : ∀ K M : List (List Int), flt (K ++ M) = flt K ++ flt M := by
  intro K M
  induction K with
  | nil => rfl
  | cons w K ih =>
    show w ++ flt (K ++ M) = w ++ flt K ++ flt M
    rw [ih, List.append_assoc]
theorem flt_one : flt (K ++ [w]) = flt K ++ w := by
  rw [flt_app]
  show flt K ++ (w ++ []) = _
  rw [List.append_nil]
theorem flt_len : ∀ K : List (List Int), (∀ (k : Nat) (w : List Int), K[k]? = some w → w.length ≤ 800) → (flt K).length ≤ 800 * K.length := by
  intro K
  induction K with
  | nil => intro _; exact Nat.le_refl _
  | cons w K ih =>
    intro hh
    refine hv2 (hh 0 w rfl) (ih (fun k u q => hh (k + 1) u q)) (fun e1 e2 => ?_)
    show (w ++ flt K).length ≤ 800 * (K.length + 1)
    rw [List.length_append]
    omega
theorem ou1_of (ho : (chs l0 l1 (e.1 % 2))[e.2.toNat]? = some o) : ou1 a l0 l1 e = oou a (e.1 / 2 % 2) o := by
  unfold ou1
  rw [ho]
  rfl
theorem oou_len (h12 : ∀ j, a 12 j ≤ 8) : (oou a h o).length ≤ 8 := by
  cases o with
  | none =>
    show 1 ≤ 8
    omega
  | some d =>
    show (rout a d h).length ≤ 8
    unfold rout
    split
    · rw [rlt_len]
      have := h12 d.toNat
      omega
    · split
      · show 1 ≤ 8
        omega
      · split
        · show 1 ≤ 8
          omega
        · show 0 ≤ 8
          omega
theorem on_r (hg : g = 0 ∨ g = 1) : (ong g o = 0 ∨ ong g o = 1) ∧ (onh o = 0 ∨ onh o = 1) := by
  cases o with
  | none => exact ⟨Or.inl rfl, Or.inl rfl⟩
  | some d => exact ⟨ngp_r hg, ngh_r⟩
theorem VST.rng : ∀ (T : List (Int × Int)) (i : Int), VST a l0 l1 C F n T i → (∀ j, a 12 j ≤ 8) → 0 ≤ n → 0 ≤ i ∧ i / 4 ≤ n ∧ (((pfl a l0 l1 T).length : Nat) : Int) ≤ 8 * (i / 4) ∧ ((T.length : Nat) : Int) ≤ i / 4 := by
  intro T
  induction T with
  | nil =>
    intro i hv h12 h0
    have e : i = 0 := hv
    subst e
    refine ⟨by decide, by omega, ?_, ?_⟩
    · show (0 : Int) ≤ 8 * (0 / 4)
      decide
    · show (0 : Int) ≤ 0 / 4
      decide
  | cons e T ih =>
    intro i hv h12 h0
    obtain ⟨⟨e1, o, o1, o2, o3⟩, hvt⟩ := hv
    obtain ⟨r1, r2, r3, r4⟩ := ih e.1 hvt h12 h0
    refine hv2 (o2.lt) (oou_len (o := o) (h := e.1 / 2 % 2) h12) (fun lt ol => ?_)
    have on := on_r (o := o) (g := e.1 % 2) (by omega)
    have el : (pfl a l0 l1 (e :: T)).length = (pfl a l0 l1 T).length + (oou a (e.1 / 2 % 2) o).length := by
      show (pfl a l0 l1 T ++ ou1 a l0 l1 e).length = _
      rw [ou1_of o1, List.length_append]
    have et : (e :: T).length = T.length + 1 := rfl
    refine ⟨by omega, by omega, by omega, by omega⟩
theorem VST.top (hv : VST a l0 l1 C F n T i) (h12 : ∀ j, a 12 j ≤ 8) (h0 : 0 ≤ n) (hg : n ≤ 100) : 0 ≤ i ∧ i ≤ 403 := by
  have r := hv.rng T i h12 h0
  cases T with
  | nil =>
    have e : i = 0 := hv
    omega
  | cons e T =>
    obtain ⟨⟨e1, o, o1, o2, o3⟩, _⟩ := hv
    have lt := o2.lt
    have on := on_r (o := o) (g := e.1 % 2) (by omega)
    omega
theorem VST.drop : ∀ (T : List (Int × Int)) (i : Int) (m : Nat), VST a l0 l1 C F n T i → ∃ y, VST a l0 l1 C F n (T.drop m) y := by
  intro T
  induction T with
  | nil =>
    intro i m hv
    rw [List.drop_nil]
    exact ⟨i, hv⟩
  | cons e T ih =>
    intro i m hv
    cases m with
    | zero => exact ⟨i, hv⟩
    | succ m => exact ih e.1 m hv.2
theorem drop_c : ∀ (T : List (Int × Int)) (m : Nat), T[m]? = some e → T.drop m = e :: T.drop (m + 1) := by
  intro T
  induction T with
  | nil => intro m q; simp at q
  | cons d T ih =>
    intro m q
    cases m with
    | zero =>
      have q2 : some d = some e := q
      cases q2
      rfl
    | succ m => exact ih m q
theorem STQ.pop (hs : STQ iv nb cb (e :: T)) : STQ iv nb cb T := fun j f q => by
  have u := hs (j + 1) f q
  rw [show (e :: T).length - 1 - (j + 1) = T.length - 1 - j by show T.length + 1 - 1 - (j + 1) = _; omega] at u
  exact u
theorem STQ.top (hs : STQ iv nb cb (e :: T)) : iv nb T.length = e.1 ∧ iv cb T.length = e.2 := by
  have u := hs 0 e rfl
  rw [show (e :: T).length - 1 - 0 = T.length from rfl] at u
  exact u
theorem STQ.push (hs : STQ iv nb cb T) (h1 : iv1 nb T.length = e.1) (h2 : iv1 cb T.length = e.2) (h3 : ∀ d : Nat, d < T.length → iv1 nb d = iv nb d ∧ iv1 cb d = iv cb d) : STQ iv1 nb cb (e :: T) := fun j f q => by
  rw [show (e :: T).length - 1 - j = T.length - j by show T.length + 1 - 1 - j = _; omega]
  cases j with
  | zero =>
    have q2 : some e = some f := q
    cases q2
    exact ⟨h1, h2⟩
  | succ j =>
    have q2 : T[j]? = some f := q
    refine hv2 (gl3 q2) (hs j f q2) (fun lt u => ?_)
    have v := h3 (T.length - (j + 1)) (by omega)
    rw [show T.length - (j + 1) = T.length - 1 - j by omega] at v ⊢
    exact ⟨v.1.trans u.1, v.2.trans u.2⟩
theorem STQ.cg (hs : STQ iv nb cb T) (h1 : ∀ d, iv1 nb d = iv nb d) (h2 : ∀ d, iv1 cb d = iv cb d) : STQ iv1 nb cb T := fun j f q => by
  rw [h1, h2]
  exact hs j f q
end GPST
end
section
set_option maxHeartbeats 4000000 in
set_option maxRecDepth 100000 in
theorem G_copyOf_11 {l : Launch} {G : GT} {mi : Nat} {sk : Nat → Nat} {L : List Nat} {cl ln : Nat → Nat} {iv : Nat → Nat → Int} {rv : Nat → Nat → Option Nat}  {a0 : Nat} {n : Int} (hW : WT (g0 G) sk L cl ln iv rv) (hS : SKL sk L cl) (t_a0 : ty L cl a0 41) (h_n : -2147483648 ≤ n ∧ n ≤ 2147483647) (hn : ((ln a0 : Nat) : Int) < n ∧ 16 ≤ n ∧ n ≤ 80000) : Mc l G mi zPf 0 yJ7_copyOf_59c91 cJ7_copyOf_59c91 3 (some (.array .int)) 1 [.ref a0, .int (iI n)] L cl ln iv rv (16 + n.toNat) (fun v L2 cl2 ln2 iv2 rv2 => ∃ f : Nat, v = some (.ref f) ∧ XT L cl ln L2 cl2 ln2 ∧ fT [41] L cl iv rv iv2 rv2 ∧ WT (g0 G) sk L2 cl2 ln2 iv2 rv2 ∧ ty L2 cl2 f 41 ∧ (ln2 f = n.toNat ∧ ∀ j : Nat, j < ln a0 → iv2 f j = iv a0 j)) := by
  refine Mc.mk (by decide) (Nat.le_of_ble_eq_true rfl) ?_
  intro p e s m args below meth c A C hM
  refine hv3 ((show zPf ln rv ≤ 0 from Nat.le_refl 0)) (show XT L cl ln L cl ln from XT.refl) (show fT [41] L cl iv rv iv rv from fT.refl) (fun hph hX0 hF0 => ?_)
  refine c_iload_n (j := 1) C dJ7_copyOf_59c91_0 rfl ?_
  refine c_aload_n (j := 0) (x := a0) C dJ7_copyOf_59c91_1 rfl ?_
  have ll1 : 16 ≤ ln a0 ∧ ln a0 ≤ 80000 := hW.len t_a0 rfl
  refine c_alenI C dJ7_copyOf_59c91_2 t_a0 rfl ?_
  refine c_icmp_ne (tgt := 14) C ⟨by omega, by omega⟩ ⟨by omega, by omega⟩ dJ7_copyOf_59c91_3 (by decide) (fun _ => ?_) (fun z => absurd z (by omega))
  refine c_iload_n (j := 1) C dJ7_copyOf_59c91_14 rfl ?_
  refine c_newaI (z := n) (N := n.toNat) C 41 dJ7_copyOf_59c91_15 w1_57 rfl (by omega) (by omega) (rom2 hph hph (by omega)) (fun qn1 cln1 lnn1 ivn1 rvn1 hqn1 hcn1 hln1 hin1 hrn1 => ⟨(0 + (16 + n.toNat)), (z_in (by omega)), ?_⟩)
  refine c_g0 C (fun hg1 => ?_)
  refine hv5 (show ∀ b, b ≠ qn1 → lnn1 b = ln b from (fun b hb => by rw [hln1]; exact va_up_ne _ _ hb)) (show lnn1 qn1 = n.toNat from by rw [hln1]; exact va_up_self _ _ _) (hF0.new hX0 hqn1 hin1 hrn1) (show ty (L ++ [qn1]) cln1 qn1 41 from ty_new hcn1) (show qn1 ∉ L from fun h => hqn1 ((hX0 qn1 h).1)) (fun hxn1 lqn1 F1 tqn1 h0qn1 => ?_)
  refine hv2 (hW.new (ln2 := lnn1) hqn1 (hg1 qn1 (List.mem_append_right _ List.mem_cons_self)) hcn1 hxn1 hin1 hrn1 (fun _ => ⟨(show (-2147483648 : Int) ≤ 0 by decide), (show (0 : Int) ≤ 2147483647 by decide)⟩) (Or.inr (fun _ => rfl)) (fun _ => by show 16 ≤ lnn1 qn1 ∧ lnn1 qn1 ≤ 80000; omega) rfl rfl) (XT.new hqn1 hcn1 hxn1) (fun W1 xl1 => ?_)
  refine hv2 (hX0.trans xl1) (xl1.skl hS) (fun X1 sk1 => ?_)
  refine c_astore_n (lv2 := [(2, .ref qn1), (0, .ref a0), (1, .int (iI n))]) C dJ7_copyOf_59c91_17 (by decide) rfl ?_
  refine c_aload_n (j := 1) (x := a0) C dJ7_copyOf_59c91_18 rfl ?_
  refine c_iconst C dJ7_copyOf_59c91_19 ?_
  refine c_aload_n (j := 0) (x := qn1) C dJ7_copyOf_59c91_20 rfl ?_
  refine c_iconst C dJ7_copyOf_59c91_21 ?_
  refine c_aload_n (j := 1) (x := a0) C dJ7_copyOf_59c91_22 rfl ?_
  have ty1 := xl1.ty t_a0
  have ll2 : 16 ≤ lnn1 a0 ∧ lnn1 a0 ≤ 80000 := W1.len ty1 rfl
  refine c_alenI C dJ7_copyOf_59c91_23 ty1 rfl ?_
  refine c_iload_n (j := 2) C dJ7_copyOf_59c91_24 rfl ?_
  obtain ⟨mn1, hmn1, emn1⟩ := mmin_c (x := ((lnn1 a0 : Nat) : Int)) (y := n) ⟨by omega, by omega⟩ ⟨by omega, by omega⟩
  refine c_mmin (w := iI mn1) C dJ7_copyOf_59c91_25 w2_128 w2_129 w1_14 w2_130 (by decide) (rom0 hph (Nat.le_refl 0) (by omega)) (Nat.le_of_ble_eq_true rfl) emn1 ?_
  have ll3 : 16 ≤ lnn1 qn1 ∧ lnn1 qn1 ≤ 80000 := W1.len tqn1 rfl
  refine c_copyi (sp := 0) (dp := 0) (n := mn1) C dJ7_copyOf_59c91_28 w2_131 w2_133 w2_132 w1_15 ty1 rfl tqn1 rfl (by omega) (by omega) (by omega) (by omega) (by omega) (by omega) (by omega) (by decide) (Nat.le_of_ble_eq_true rfl) (fun iv1 pq1 => ?_)
  refine hv2 (W1.copy pq1 tqn1 ty1 (fun _ => rfl) (fun _ => rfl) (fun _ => rfl) (fun _ => rfl) rfl) (F1.copy X1 pq1 tqn1 rfl) (fun W2 F2 => ?_)
  refine c_aload_n (j := 0) (x := qn1) C dJ7_copyOf_59c91_31 rfl ?_
  have le1 : lnn1 a0 = ln a0 := (xl1 a0 t_a0.1).2.2
  exact c_aret (x := some qn1) C dJ7_copyOf_59c91_32 rfl (Or.inr ⟨_, rfl⟩) (by omega) (rom0 hph (Nat.le_refl 0) (by omega)) ⟨qn1, rfl, X1, F2, W2, tqn1, ⟨lqn1, fun j hj => by
      rw [pq1]
      show (if qn1 = qn1 then (if (0 : Int).toNat ≤ j ∧ j < (0 : Int).toNat + mn1.toNat then ivn1 a0 ((0 : Int).toNat + (j - (0 : Int).toNat)) else ivn1 qn1 j) else ivn1 qn1 j) = _
      rw [if_pos rfl, if_pos ⟨by omega, by omega⟩, hin1, congrFun (up0_a (ne_in t_a0.1 hqn1)) _]
      exact congrArg (iv a0) (by omega)⟩⟩
set_option maxHeartbeats 4000000 in
set_option maxRecDepth 100000 in
theorem G_add_11 {l : Launch} {G : GT} {mi : Nat} {sk : Nat → Nat} {L : List Nat} {cl ln : Nat → Nat} {iv : Nat → Nat → Int} {rv : Nat → Nat → Option Nat}  {a0 : Nat} {x : Int} (hW : WT (g0 G) sk L cl ln iv rv) (hS : SKL sk L cl) (t_a0 : ty L cl a0 11) (h_x : -2147483648 ≤ x ∧ x ≤ 2147483647)  : Mc l G mi (Phi (g0 G) sk) PHM yX1_add cX1_add 2 none 2 [.ref a0, .int (iI x)] L cl ln iv rv 0 (fun v L2 cl2 ln2 iv2 rv2 => v = none ∧ XT L cl ln L2 cl2 ln2 ∧ fT [11, 41] L cl iv rv iv2 rv2 ∧ WT (g0 G) sk L2 cl2 ln2 iv2 rv2 ∧ (((iv2 a0 2 = iv a0 2 ∧ iv a0 2 = 40000) ∨ (iv2 a0 2 = iv a0 2 + 1 ∧ iv a0 2 < 40000)) ∧ (∀ ss, CT iv rv a0 ss → iv a0 2 < 40000 → CT iv2 rv2 a0 (va_up ss (iv a0 2).toNat x)) ∧ (iv a0 2 = 40000 → ∀ ss, CT iv rv a0 ss → CT iv2 rv2 a0 ss))) := by
  refine Mc.mk (by decide) (Nat.le_of_ble_eq_true rfl) ?_
  intro p e s m args below meth c A C hM
  refine hv3 (Phi.le hW hS) (show XT L cl ln L cl ln from XT.refl) (show fT [11, 41] L cl iv rv iv rv from fT.refl) (fun hph hX0 hF0 => ?_)
  refine c_aload_n (j := 0) (x := a0) C dX1_add_0 rfl ?_
  have ri1 : 0 ≤ iv a0 2 ∧ iv a0 2 ≤ 40000 := hW.int t_a0 2
  refine c_get (k := 2) C ck_2 dX1_add_1 w1_43 (by decide) t_a0 rfl rfl (by decide) rfl ?_
  refine c_aload_n (j := 0) (x := a0) C dX1_add_4 rfl ?_
  have ri2 : 40000 ≤ iv a0 0 ∧ iv a0 0 ≤ 40000 := hW.int t_a0 0
  refine c_get (k := 0) C ck_2 dX1_add_5 w1_38 (by decide) t_a0 rfl rfl (by decide) rfl ?_
  refine c_icmp_lt (tgt := 12) C (r32_c (lo := 0) (hi := 40000) ri1.1 ri1.2 (by decide) (by decide)) (r32_c (lo := 40000) (hi := 40000) ri2.1 ri2.2 (by decide) (by decide)) dX1_add_8 (by decide) (fun c1 => ?_) (fun c1 => ?_)
  · refine c_aload_n (j := 0) (x := a0) C dX1_add_12 rfl ?_
    refine c_get (k := 2) C ck_2 dX1_add_13 w1_43 (by decide) t_a0 rfl rfl (by decide) rfl ?_
    refine c_aload_n (j := 0) (x := a0) C dX1_add_16 rfl ?_
    obtain ⟨rb1, rq1, trb1⟩ := hW.ref t_a0 1 rfl rfl rfl
    refine hv2 (show 16 ≤ ln rb1 ∧ ln rb1 ≤ 80000 from hW.len trb1 rfl) (hW.isz t_a0 rfl rfl rq1) (fun lnrb1 szrb1 => ?_)
    refine c_getr (k := 1) C ck_2 dX1_add_17 w1_39 (by decide) t_a0 rfl rfl (by decide) rfl rq1 ?_
    refine c_st (st2 := [.ref rb1, .int (iI (iv a0 2))]) rfl ?_
    have ll1 : 16 ≤ ln rb1 ∧ ln rb1 ≤ 80000 := hW.len trb1 rfl
    refine c_alenI C dX1_add_20 trb1 rfl ?_
    refine c_icmp_lt (tgt := 42) C (r32_c (lo := 0) (hi := 40000) ri1.1 ri1.2 (by decide) (by decide)) ⟨by omega, by omega⟩ dX1_add_21 (by decide) (fun c2 => ?_) (fun c2 => ?_)
    · refine c_aload_n (j := 0) (x := a0) C dX1_add_42 rfl ?_
      refine c_getr (k := 1) C ck_2 dX1_add_43 w1_39 (by decide) t_a0 rfl rfl (by decide) rfl rq1 ?_
      refine c_st (st2 := [.ref rb1]) rfl ?_
      refine c_aload_n (j := 0) (x := a0) C dX1_add_46 rfl ?_
      refine c_get (k := 2) C ck_2 dX1_add_47 w1_43 (by decide) t_a0 rfl rfl (by decide) rfl ?_
      refine c_iload_n (j := 1) C dX1_add_50 rfl ?_
      refine c_iast (x := x) C dX1_add_51 trb1 rfl (by omega) (by omega) (by omega) (fun iv1 pq1 => ?_)
      refine hv2 (hW.puti pq1 trb1 (show (-2147483648) ≤ x ∧ x ≤ 2147483647 by omega) rfl) (hF0.puti hX0 pq1 trb1 rfl) (fun W1 F1 => ?_)
      refine c_aload_n (j := 0) (x := a0) C dX1_add_52 rfl ?_
      refine c_dup C dX1_add_53 rfl ?_
      refine hv2 (show 0 ≤ iv1 a0 2 ∧ iv1 a0 2 ≤ 40000 from W1.int t_a0 2) (show iv1 a0 2 = iv a0 2 from by rw [pq1]; exact up2_k (ne_ty t_a0 trb1 (by decide))) (fun ri3 ie1 => ?_)
      refine c_get (k := 2) C ck_2 dX1_add_54 w1_43 (by decide) t_a0 rfl rfl (by decide) rfl ?_
      refine c_iconst C dX1_add_57 ?_
      refine c_iadd C dX1_add_58 ?_
      refine c_put (z := (iv1 a0 2) + 1) (k := 2) C ck_2 dX1_add_59 w1_43 (by decide) rfl t_a0 rfl rfl (by decide) rfl (by rfl) (by rfl) (fun iv2 pq2 => ?_)
      refine hv3 (W1.isz_put pq2 t_a0 (show 0 ≤ ((iv1 a0 2) + 1) ∧ ((iv1 a0 2) + 1) ≤ 40000 by omega) rfl rfl rq1 (show ((iv1 a0 2) + 1) ≤ ((ln rb1 : Nat) : Int) by omega)) (F1.puti hX0 pq2 t_a0 rfl) (show iv2 a0 2 = (iv1 a0 2) + 1 from by rw [pq2]; exact up2_s) (fun W2 F2 ie2 => ?_)
      have ri4 : 0 ≤ iv2 a0 2 ∧ iv2 a0 2 ≤ 40000 := W2.int t_a0 2
      exact c_vret C dX1_add_62 rfl (by decide) (rom0 hph hph (by decide)) ⟨rfl, hX0, F2, W2, ⟨by omega, (fun ss hs hq b2 hb j hj => by
          rw [rq1] at hb
          cases hb
          rw [pq2, up2_k (ne_ty trb1 t_a0 (by decide)), pq1]
          by_cases e : j = (iv a0 2).toNat
          · subst e; rw [up2_s, va_up_self]
          · rw [up2_j e, va_up_ne _ _ e]; exact hs _ rq1 j (by omega)), (fun e => absurd e (by omega))⟩⟩
    · refine c_aload_n (j := 0) (x := a0) C dX1_add_24 rfl ?_
      refine c_aload_n (j := 0) (x := a0) C dX1_add_25 rfl ?_
      refine c_getr (k := 1) C ck_2 dX1_add_26 w1_39 (by decide) t_a0 rfl rfl (by decide) rfl rq1 ?_
      refine c_st (st2 := [.ref rb1, .ref a0]) rfl ?_
      refine c_aload_n (j := 0) (x := a0) C dX1_add_29 rfl ?_
      refine c_getr (k := 1) C ck_2 dX1_add_30 w1_39 (by decide) t_a0 rfl rfl (by decide) rfl rq1 ?_
      refine c_st (st2 := [.ref rb1, .ref rb1, .ref a0]) rfl ?_
      refine c_alenI C dX1_add_33 trb1 rfl ?_
      refine c_iconst C dX1_add_34 ?_
      refine c_imul C dX1_add_35 ?_
      refine c_g0 C (fun hg0 => ?_)
      refine hv2 (hW.sk t_a0 (by decide) rfl) (cap_of (ln := ln) rq1 (hg0 rb1 trb1.1)) (fun ask0 cp0 => ?_)
      have sl0 := Phi.slack (t := 11) (n := ln rb1) hW hS ⟨by decide, by decide⟩ (by rw [← ask0]; exact cp0) (by show ln rb1 ≤ 40000; omega)
      refine c_callS (As := [.ref rb1, .int (iI (((ln rb1 : Nat) : Int) * 2))]) (rest := [.ref a0]) C hM (G_copyOf_11 (a0 := rb1) (n := ((ln rb1 : Nat) : Int) * 2) hW hS trb1 (by omega) (by show ((ln rb1 : Nat) : Int) < (((ln rb1 : Nat) : Int) * 2) ∧ 16 ≤ (((ln rb1 : Nat) : Int) * 2) ∧ (((ln rb1 : Nat) : Int) * 2) ≤ 80000; omega)) dX1_add_36 kS_X1_20 rfl rfl (Nat.le_of_ble_eq_true rfl) ⟨(Nat.le_of_ble_eq_true rfl), (Nat.le_of_ble_eq_true rfl)⟩ (by unfold zPf; omega) (fun rh1 Lh1 clh1 lnh1 ivh1 rvh1 h1 => ⟨(0 + (16 + (((ln rb1 : Nat) : Int) * 2).toNat)), (zk1 (by obtain ⟨_, _, xlh1x, flh1x, Wh1x, _⟩ := h1; exact Phi.fr hW hS xlh1x flh1x rfl)), ?_⟩)
      obtain ⟨f1, rfl, xl1, fl1, W3, rgf1, exf1⟩ := h1
      refine hv3 (hF0.call hX0 fl1 rfl) (hX0.trans xl1) (xl1.skl hS) (fun F3 X1 sk1 => ?_)
      refine c_st (st2 := [.ref f1, .ref a0]) rfl ?_
      refine hv3 (show lnh1 f1 = (((ln rb1 : Nat) : Int) * 2).toNat ∧ ∀ j : Nat, j < ln rb1 → ivh1 f1 j = iv rb1 j from exf1) (xl1.ty t_a0) (show rvh1 a0 1 = rv a0 1 from (fl1.r t_a0 rfl 1)) (fun gf1 ty1 re1 => ?_)
      rw [rq1] at re1
      refine hv4 (show 0 ≤ ivh1 a0 2 ∧ ivh1 a0 2 ≤ 40000 from W3.int ty1 2) (show ivh1 a0 2 = iv a0 2 from fl1.i t_a0 rfl 2) (xl1.ty trb1) (show lnh1 rb1 = ln rb1 from (xl1 rb1 trb1.1).2.2) (fun ri5 ie3 ty2 le1 => ?_)
      refine c_g0 C (fun hg1 => ?_)
      refine hv2 (W3.sk ty1 (by decide) rfl) (cap_of (ln := lnh1) re1 (hg1 rb1 ty2.1)) (fun ask cpo => ?_)
      refine c_putr (x := (some f1)) (k := 1) C ck_2 dX1_add_39 w1_39 (by decide) rfl ty1 rfl rfl (by decide) rfl (by rfl) (by rfl) (fun rv1 pq3 => ⟨0, (by have gr := Phi.grow (g := g0 G) (rv2 := rv1) (rv := rvh1) (b := f1) (ln := lnh1) (t := 11) sk1 (by rw [← ask]; exact pq3) (hg1 f1 rgf1.1) (Or.inl ⟨by decide, by decide⟩); rw [← ask] at gr; have gr2 : Phi (g0 G) sk lnh1 rv1 + 3 * cap (g0 G) lnh1 rvh1 a0 = Phi (g0 G) sk lnh1 rvh1 + 3 * lnh1 f1 := gr; omega), ?_⟩)
      refine hv2 (W3.putit pq3 ty1 rfl rfl rgf1 (by omega)) (F3.putr X1 pq3 ty1 rfl) (fun W4 F4 => ?_)
      refine c_aload_n (j := 0) (x := a0) C dX1_add_42 rfl ?_
      have rp1 : rv1 a0 1 = (some f1) := by rw [pq3]; exact upr_s
      refine c_getr (k := 1) C ck_2 dX1_add_43 w1_39 (by decide) ty1 rfl rfl (by decide) rfl rp1 ?_
      refine c_st (st2 := [.ref f1]) rfl ?_
      refine c_aload_n (j := 0) (x := a0) C dX1_add_46 rfl ?_
      refine c_get (k := 2) C ck_2 dX1_add_47 w1_43 (by decide) ty1 rfl rfl (by decide) rfl ?_
      refine c_iload_n (j := 1) C dX1_add_50 rfl ?_
      have ll2 : 16 ≤ lnh1 f1 ∧ lnh1 f1 ≤ 80000 := W4.len rgf1 rfl
      refine c_iast (x := x) C dX1_add_51 rgf1 rfl (by omega) (by omega) (by omega) (fun iv3 pq4 => ?_)
      refine hv2 (W4.puti pq4 rgf1 (show (-2147483648) ≤ x ∧ x ≤ 2147483647 by omega) rfl) (F4.puti X1 pq4 rgf1 rfl) (fun W5 F5 => ?_)
      refine c_aload_n (j := 0) (x := a0) C dX1_add_52 rfl ?_
      refine c_dup C dX1_add_53 rfl ?_
      refine hv2 (show 0 ≤ iv3 a0 2 ∧ iv3 a0 2 ≤ 40000 from W5.int ty1 2) (show iv3 a0 2 = ivh1 a0 2 from by rw [pq4]; exact up2_k (ne_ty ty1 rgf1 (by decide))) (fun ri6 ie4 => ?_)
      refine c_get (k := 2) C ck_2 dX1_add_54 w1_43 (by decide) ty1 rfl rfl (by decide) rfl ?_
      refine c_iconst C dX1_add_57 ?_
      refine c_iadd C dX1_add_58 ?_
      refine c_put (z := (iv3 a0 2) + 1) (k := 2) C ck_2 dX1_add_59 w1_43 (by decide) rfl ty1 rfl rfl (by decide) rfl (by rfl) (by rfl) (fun iv4 pq5 => ?_)
      refine hv3 (W5.isz_put pq5 ty1 (show 0 ≤ ((iv3 a0 2) + 1) ∧ ((iv3 a0 2) + 1) ≤ 40000 by omega) rfl rfl rp1 (show ((iv3 a0 2) + 1) ≤ ((lnh1 f1 : Nat) : Int) by omega)) (F5.puti X1 pq5 ty1 rfl) (show iv4 a0 2 = (iv3 a0 2) + 1 from by rw [pq5]; exact up2_s) (fun W6 F6 ie5 => ?_)
      refine hv2 (show 0 ≤ iv4 a0 2 ∧ iv4 a0 2 ≤ 40000 from W6.int ty1 2) (Phi.le W6 sk1) (fun ri7 pl1 => ?_)
      exact c_vret C dX1_add_62 rfl (by decide) (rom0 hph pl1 (by decide)) ⟨rfl, X1, F6, W6, ⟨by omega, (fun ss hs hq b2 hb j hj => by
          rw [rp1] at hb
          cases hb
          rw [pq5, up2_k (ne_ty rgf1 ty1 (by decide)), pq4]
          by_cases e : j = (iv a0 2).toNat
          · subst e; rw [show (iv a0 2).toNat = (ivh1 a0 2).toNat from congrArg Int.toNat (by omega), up2_s, va_up_self]
          · rw [up2_j (fun e2 => e (e2.trans (congrArg Int.toNat (by omega)))), va_up_ne _ _ e, gf1.2 j (by omega)]; exact hs _ rq1 j (by omega)), (fun e => absurd e (by omega))⟩⟩
  · exact c_vret C dX1_add_11 rfl (by decide) (rom0 hph hph (by decide)) ⟨rfl, hX0, hF0, hW, ⟨by omega, (fun ss hs hq => absurd hq (by omega)), fun _ ss hs => hs⟩⟩
def WLC (iv : Nat → Nat → Int) (rv : Nat → Nat → Option Nat) (iv2 : Nat → Nat → Int) (rv2 : Nat → Nat → Option Nat) (ln : Nat → Nat) (w q : Nat) (g : Int) : Prop := ∀ a d bs, RWD ln iv rv a w d → CEL iv rv q bs → (0 ≤ d → bs.length + 8 ≤ 40000) → CEL iv2 rv2 q (bs ++ (if 0 ≤ d then rout a d g else []))
def WLJ (iv : Nat → Nat → Int) (rv : Nat → Nat → Option Nat) (iv1 : Nat → Nat → Int) (rv1 : Nat → Nat → Option Nat) (ln : Nat → Nat) (w q : Nat) (g k : Int) : Prop := ∀ a d bs, RWD ln iv rv a w d → CEL iv rv q bs → (0 ≤ d → bs.length + 8 ≤ 40000) → (∀ lb, rv w 1 = some lb → k ≤ ((ln lb : Nat) : Int)) ∧ CEL iv1 rv1 q (bs ++ (if 0 ≤ d then rlt a d g k.toNat else []))
def WEF (iv : Nat → Nat → Int) (rv : Nat → Nat → Option Nat) (iv2 : Nat → Nat → Int) (rv2 : Nat → Nat → Option Nat) (ln : Nat → Nat) (w q : Nat) (g : Int) : Prop := ∀ a d bs, RWD ln iv rv a w d → CEL iv rv q bs → bs.length + 8 ≤ 40000 → CEL iv2 rv2 q (bs ++ rout a d g)
def WRJ (L : List Nat) (cl ln : Nat → Nat) (iv : Nat → Nat → Int) (rv : Nat → Nat → Option Nat) (sk : Nat → Nat) (q : Nat) (iv1 : Nat → Nat → Int) (rv1 : Nat → Nat → Option Nat) (m k c : Int) : Prop := ∀ a l0 l1 C F n K T i, GPC L cl ln iv rv sk q a l0 l1 C F n → VST a l0 l1 C F n T i → ((T.length : Nat) : Int) = m → (∀ nb cb, rv q 1 = some nb → rv q 2 = some cb → STQ iv nb cb T) → KLP iv rv sk q K → K.length < 50 → CEL iv1 rv1 (sk 11) (flt K ++ pfl a l0 l1 (T.drop (T.length - k.toNat))) ∧ ∀ y, VST a l0 l1 C F n (T.drop (T.length - k.toNat)) y → c = y / 2 % 2
def WRS (L : List Nat) (cl ln : Nat → Nat) (iv : Nat → Nat → Int) (rv : Nat → Nat → Option Nat) (sk : Nat → Nat) (q : Nat) (iv1 : Nat → Nat → Int) (rv1 : Nat → Nat → Option Nat) (m : Int) : Prop := ∀ a l0 l1 C F n K T i, GPC L cl ln iv rv sk q a l0 l1 C F n → VST a l0 l1 C F n T i → ((T.length : Nat) : Int) = m → (∀ nb cb, rv q 1 = some nb → rv q 2 = some cb → STQ iv nb cb T) → KLP iv rv sk q K → K.length < 50 → KLP iv1 rv1 sk q (K ++ [pfl a l0 l1 T])
section GPWR
variable {g0 : Nat} {sk : Nat → Nat} {L L1 : List Nat} {cl ln cl1 ln1 ln2 : Nat → Nat} {iv iv1 iv2 iv3 iv4 : Nat → Nat → Int} {rv rv1 rv2 rv3 : Nat → Nat → Option Nat} {a : Nat → Nat → Int} {l0 l1 bs xs : List Int} {C : Nat → Int} {F : Int32} {q w b lb nb cb eb s : Nat} {x y z g h d f k m c c2 i0 n : Int} {ls : List Nat} {N : Int} {T : List (Int × Int)} {e0 : Int × Int} {K : List (List Int)}
theorem CEL.snc (hc : CEL iv rv q xs) (hl : ((xs.length : Nat) : Int) < N) (g : (((iv2 q 2 = iv q 2 ∧ iv q 2 = N) ∨ (iv2 q 2 = iv q 2 + 1 ∧ iv q 2 < N)) ∧ (∀ ss, CT iv rv q ss → iv q 2 < N → CT iv2 rv2 q (va_up ss (iv q 2).toNat x)) ∧ (iv q 2 = N → ∀ ss, CT iv rv q ss → CT iv2 rv2 q ss))) : CEL iv2 rv2 q (xs ++ [x]) := by
  obtain ⟨g1, g2, g3⟩ := g
  have e := hc.1
  have w := g2 _ hc.ct (by omega)
  refine ⟨by rw [len1]; omega, fun b hq j y ej => ?_⟩
  rw [w b hq j (by rcases ap1 ej with ⟨c, _⟩ | ⟨c, _⟩ <;> omega)]
  rcases ap1 ej with ⟨c, ej⟩ | ⟨c, ej⟩
  · rw [va_up_ne _ _ (by omega)]
    show (xs[j]?).getD 0 = y
    rw [ej]
    rfl
  · rw [show j = (iv q 2).toNat by omega, va_up_self]
    exact ej
theorem CEL.f11 (hc : CEL iv rv (sk 11) xs) (hW : WT g0 sk L cl ln iv rv) (t11 : ty L cl (sk 11) 11) (hF : fT ls L cl iv rv iv2 rv2) (h1 : ls.contains 11 = false) (h2 : ls.contains 41 = false) : CEL iv2 rv2 (sk 11) xs := by
  refine ⟨(hF.i t11 h1 2).trans hc.1, fun b hq j x e => ?_⟩
  rw [hF.r t11 h1 1] at hq
  obtain ⟨b', w1, tb⟩ := hW.ref t11 1 rfl rfl rfl
  rw [hq] at w1
  cases w1
  rw [hF.i tb h2 j]
  exact hc.2 b hq j x e
theorem CEL.put11 {r j0 tt : Nat} {iv0 : Nat → Nat → Int} (hc : CEL iv rv (sk 11) xs) (hW : WT g0 sk L cl ln iv0 rv) (t11 : ty L cl (sk 11) 11) (tr : ty L cl r tt) (n1 : 11 ≠ tt) (n2 : 41 ≠ tt) (e : iv2 = up2 iv r j0 x) : CEL iv2 rv (sk 11) xs := by
  refine ⟨by rw [e, up2_k (ne_ty t11 tr n1)]; exact hc.1, fun b hq j y ej => ?_⟩
  obtain ⟨b', w1, tb⟩ := hW.ref t11 1 rfl rfl rfl
  rw [hq] at w1
  cases w1
  rw [e, up2_k (ne_ty tb tr n2)]
  exact hc.2 b hq j y ej
theorem WLJ.init : WLJ iv rv iv rv ln w q g 0 := fun a d bs _ hb _ => ⟨fun lb _ => by omega, by
  have e : (if 0 ≤ d then rlt a d g (0 : Int).toNat else []) = [] := by split <;> rfl
  rw [e, List.append_nil]
  exact hb⟩
theorem WLJ.step (hI : WLJ iv rv iv1 rv1 ln w q g k) (hl : rv w 1 = some lb) (hk : 0 ≤ k ∧ k < ((ln lb : Nat) : Int) ∧ k < 8) (ga : (((iv2 q 2 = iv1 q 2 ∧ iv1 q 2 = 40000) ∨ (iv2 q 2 = iv1 q 2 + 1 ∧ iv1 q 2 < 40000)) ∧ (∀ ss, CT iv1 rv1 q ss → iv1 q 2 < 40000 → CT iv2 rv2 q (va_up ss (iv1 q 2).toNat x)) ∧ (iv1 q 2 = 40000 → ∀ ss, CT iv1 rv1 q ss → CT iv2 rv2 q ss))) (hx : 33 ≤ iv lb k.toNat → iv lb k.toNat ≤ 125 → x = iv lb k.toNat - (if g = 1 ∧ k = 0 then 32 else 0)) : WLJ iv rv iv2 rv2 ln w q g (k + 1) := fun a d bs hw hb h8 => by
  obtain ⟨c1, c2⟩ := hI a d bs hw hb h8
  refine ⟨fun lb' e => by rw [hl] at e; cases e; omega, ?_⟩
  by_cases hd : 0 ≤ d
  · obtain ⟨_, _, l', c', q1, _, q3, _, q5, _⟩ := hw.1 hd
    have h9 := h8 hd
    rw [hl] at q1
    cases q1
    rw [if_pos hd] at c2 ⊢
    rw [show (k + 1).toNat = k.toNat + 1 by omega]
    show CEL iv2 rv2 q (bs ++ (rlt a d g k.toNat ++ [a 14 (8 * d + ((k.toNat : Nat) : Int)).toNat - (if g = 1 ∧ k.toNat = 0 then 32 else 0)]))
    rw [← List.append_assoc]
    have e2 : (if g = 1 ∧ k.toNat = 0 then (32 : Int) else 0) = (if g = 1 ∧ k = 0 then 32 else 0) := by
      by_cases q1 : g = 1 ∧ k = 0
      · rw [if_pos q1, if_pos ⟨q1.1, by omega⟩]
      · rw [if_neg q1, if_neg (fun q2 => q1 ⟨q2.1, by omega⟩)]
    have q7 := q5 k.toNat (by omega)
    refine hv2 (hx q7.2.1 q7.2.2) (q7.1) (fun hx2 e3 => ?_)
    rw [e2, show (8 * d + ((k.toNat : Nat) : Int)).toNat = 8 * d.toNat + k.toNat by omega, ← e3, ← hx2]
    exact c2.snc (by rw [List.length_append, rlt_len]; omega) ga
  · obtain ⟨⟨_, l', q1, q2⟩, _⟩ := hw.2 (by omega)
    rw [hl] at q1
    cases q1
    omega
theorem WLJ.fin (hI : WLJ iv rv iv1 rv1 ln w q g k) (hl : rv w 1 = some lb) (hk : ((ln lb : Nat) : Int) ≤ k) : WLC iv rv iv1 rv1 ln w q g := fun a d bs hw hb h8 => by
  obtain ⟨c1, c2⟩ := hI a d bs hw hb h8
  have e1 := c1 lb hl
  by_cases hd : 0 ≤ d
  · obtain ⟨_, _, l', c', q1, _, q3, _, q5, _⟩ := hw.1 hd
    rw [hl] at q1
    cases q1
    rw [if_pos hd] at c2 ⊢
    have e2 : rout a d g = rlt a d g (a 12 d.toNat).toNat := if_pos hd
    rw [e2, ← q3, show (((ln lb : Nat) : Int)).toNat = k.toNat by omega]
    exact c2
  · rw [if_neg hd] at c2 ⊢
    exact c2
theorem WEF.plain (hr : iv w 0 ≠ 2 ∧ iv w 0 ≠ 3) (hq : WLC iv rv iv2 rv2 ln w q g) : WEF iv rv iv2 rv2 ln w q g := fun a d bs hw hb h8 => by
  refine hv2 (hq a d bs hw hb (fun _ => h8)) (hw.rl0) (fun o er => ?_)
  by_cases e : 0 ≤ d
  · rw [if_pos e] at o
    exact o
  · rw [if_neg e] at o
    rw [rout_ind e ⟨by omega, by omega⟩]
    exact o
theorem WEF.turn (hr : (iv w 0 = 2 ∧ x = 60) ∨ (iv w 0 = 3 ∧ x = 62)) (ga : (((iv2 q 2 = iv q 2 ∧ iv q 2 = 40000) ∨ (iv2 q 2 = iv q 2 + 1 ∧ iv q 2 < 40000)) ∧ (∀ ss, CT iv rv q ss → iv q 2 < 40000 → CT iv2 rv2 q (va_up ss (iv q 2).toNat x)) ∧ (iv q 2 = 40000 → ∀ ss, CT iv rv q ss → CT iv2 rv2 q ss))) (hk : ∀ a d, RWD ln iv rv a w d → RWD ln2 iv2 rv2 a w d) (hq : WLC iv2 rv2 iv3 rv3 ln2 w q g) : WEF iv rv iv3 rv3 ln w q g := fun a d bs hw hb h8 => by
  have er := hw.rl0
  have hd : ¬ 0 ≤ d := fun e => by
    have : rol d = 4 := if_pos e
    omega
  have e4 : rout a d g = [x] := by
    unfold rout
    rw [if_neg hd]
    by_cases q1 : rol d = 2
    · rw [if_pos q1, show x = 60 by omega]
    · rw [if_neg q1, if_pos (by omega), show x = 62 by omega]
  rw [e4]
  have u := hq a d _ (hk a d hw) (hb.snc (by omega) ga) (fun e => absurd e hd)
  rw [if_neg hd, List.append_nil] at u
  exact u
theorem WRJ.init (hc : c = 0) : WRJ L cl ln iv rv sk q iv rv m 0 c := fun a l0 l1 C F n K T i _ hv _ _ hk _ => by
  have e : T.drop (T.length - (0 : Int).toNat) = [] := List.drop_eq_nil_of_le (by show T.length ≤ T.length - 0; omega)
  rw [e]
  refine ⟨?_, fun y hy => ?_⟩
  · show CEL iv rv (sk 11) (flt K ++ [])
    rw [List.append_nil]
    exact hk.2.1
  · have e2 : y = 0 := hy
    rw [hc, e2]
    rfl
theorem WRJ.ent (hk : 0 ≤ k ∧ k < m) (hl : ((T.length : Nat) : Int) = m) (hs : STQ iv nb cb T) (hv : VST a l0 l1 C F n T i0) : ∃ e y, T.drop (T.length - (k + 1).toNat) = e :: (T.drop (T.length - k.toNat)) ∧ (iv nb k.toNat = e.1 ∧ iv cb k.toNat = e.2) ∧ VST a l0 l1 C F n (e :: (T.drop (T.length - k.toNat))) y := by
  have lt : T.length - 1 - k.toNat < T.length := by omega
  have e2 := List.getElem?_eq_getElem lt
  have d := drop_c T _ e2
  obtain ⟨y, hy⟩ := VST.drop T i0 (T.length - 1 - k.toNat) hv
  rw [show T.length - 1 - k.toNat + 1 = T.length - k.toNat by omega] at d
  rw [d] at hy
  refine ⟨_, y, by rw [show T.length - (k + 1).toNat = T.length - 1 - k.toNat by omega]; exact d, ?_, hy⟩
  have u := hs _ _ e2
  rw [show T.length - 1 - (T.length - 1 - k.toNat) = k.toNat by omega] at u
  exact u
theorem WRJ.cap (hv : VST a l0 l1 C F n (e0 :: T) y) (h12 : ∀ j, a 12 j ≤ 8) (hn : 0 ≤ n ∧ n ≤ 100) (hK : ∀ (k : Nat) (w : List Int), K[k]? = some w → w.length ≤ 800) (h50 : K.length < 50) : (flt K ++ pfl a l0 l1 T).length + 8 ≤ 40000 := by
  have f1 := flt_len K hK
  obtain ⟨⟨_, o, _, o2, _⟩, hvt⟩ := hv
  refine hv2 (hvt.rng T _ h12 hn.1) (o2.lt) (fun r lt => ?_)
  rw [List.length_append]
  omega
theorem WRJ.blank (hJ : WRJ L cl ln iv rv sk q iv1 rv1 m k c) (hk : 0 ≤ k ∧ k < m) (hnb : rv q 1 = some nb) (hcb : rv q 2 = some cb) (hx : iv cb k.toNat = 0) (ga : (((iv2 (sk 11) 2 = iv1 (sk 11) 2 ∧ iv1 (sk 11) 2 = 40000) ∨ (iv2 (sk 11) 2 = iv1 (sk 11) 2 + 1 ∧ iv1 (sk 11) 2 < 40000)) ∧ (∀ ss, CT iv1 rv1 (sk 11) ss → iv1 (sk 11) 2 < 40000 → CT iv2 rv2 (sk 11) (va_up ss (iv1 (sk 11) 2).toNat 32)) ∧ (iv1 (sk 11) 2 = 40000 → ∀ ss, CT iv1 rv1 (sk 11) ss → CT iv2 rv2 (sk 11) ss))) : WRJ L cl ln iv rv sk q iv2 rv2 m (k + 1) c := fun a l0 l1 C F n K T i hc hv hl hs hK h50 => by
  obtain ⟨p1, p2⟩ := hJ a l0 l1 C F n K T i hc hv hl hs hK h50
  obtain ⟨e, y, d1, d2, d3⟩ := WRJ.ent hk hl (hs nb cb hnb hcb) hv
  have cp := WRJ.cap d3 hc.2.2.2.2 hc.2.1.2 hK.2.2.2 h50
  rw [d1]
  obtain ⟨⟨r1, o, o1, o2, o3⟩, v2⟩ := d3
  have o0 : (chs l0 l1 (e.1 % 2))[e.2.toNat]? = some none := by
    rw [show e.2 = 0 by omega]
    rfl
  have ou : ou1 a l0 l1 e = [32] := ou1_of (o := none) o0
  refine ⟨?_, fun z hz => ?_⟩
  · show CEL iv2 rv2 (sk 11) (flt K ++ (pfl a l0 l1 (T.drop (T.length - k.toNat)) ++ ou1 a l0 l1 e))
    rw [ou, ← List.append_assoc]
    exact p1.snc (by omega) ga
  · have c0 := p2 e.1 v2
    obtain ⟨⟨_, o', q1, q2, q3⟩, _⟩ := hz
    rw [o0] at q1
    cases q1
    refine hv2 (show MYB C F n (e.1 / 4) (e.1 / 2 % 2) from q2) (show z = 4 * (e.1 / 4 + 1) + 2 * 0 + 0 from q3) (fun q5 q7 => ?_)
    have q6 := q5.1.1
    omega
theorem WRJ.row (hJ : WRJ L cl ln iv rv sk q iv1 rv1 m k c) (hk : 0 ≤ k ∧ k < m) (hnb : rv q 1 = some nb) (hcb : rv q 2 = some cb) (hd : ∀ a l0 l1 C F n, GPC L cl ln iv rv sk q a l0 l1 C F n → GPC L1 cl1 ln1 iv1 rv1 sk q a l0 l1 C F n) (hx : x = iv cb k.toNat ∧ 0 < x) (hi : i0 = iv nb k.toNat) (hr : RWx sk rv1 i0 x w) (hE : WEF iv1 rv1 iv2 rv2 ln1 w (sk 11) c) (hc2 : (c2 = 1 ∧ iv1 w 0 = 0) ∨ (c2 = 0 ∧ iv1 w 0 ≠ 0)) : WRJ L cl ln iv rv sk q iv2 rv2 m (k + 1) c2 := fun a l0 l1 C F n K T i hc hv hl hs hK h50 => by
  obtain ⟨p1, p2⟩ := hJ a l0 l1 C F n K T i hc hv hl hs hK h50
  obtain ⟨e, y, d1, d2, d3⟩ := WRJ.ent hk hl (hs nb cb hnb hcb) hv
  have cp := WRJ.cap d3 hc.2.2.2.2 hc.2.1.2 hK.2.2.2 h50
  rw [d1]
  obtain ⟨⟨r1, o, o1, o2, o3⟩, v2⟩ := d3
  have ex : e.2 = x := by omega
  have ei : e.1 = i0 := by omega
  obtain ⟨d, e1, e2⟩ := chs_row (x := e.2) (by omega) o1
  subst e1
  have pt := (hd a l0 l1 C F n hc).part (i := e.1)
  obtain ⟨w', w1, w2, w3⟩ := pt.1.2 _ _ e2
  have ew : w' = w := by
    have bm := bz_m (i := i0) ⟨by omega, by omega⟩
    rw [ex, ei] at w1
    rcases hr with ⟨h1, h2⟩ | ⟨h1, h2⟩
    · rw [if_pos (bm.mp h1), h2] at w1
      cases w1
      rfl
    · rw [if_neg (fun u => h1 (bm.mpr u)), h2] at w1
      cases w1
      rfl
  subst ew
  have c0 := p2 e.1 v2
  have ou : ou1 a l0 l1 e = rout a d c := by
    rw [ou1_of o1, c0]
    rfl
  refine ⟨?_, fun z hz => ?_⟩
  · show CEL iv2 rv2 (sk 11) (flt K ++ (pfl a l0 l1 (T.drop (T.length - k.toNat)) ++ ou1 a l0 l1 e))
    rw [ou, ← List.append_assoc]
    exact hE a d _ w3 p1 cp
  · obtain ⟨⟨_, o', q1, q2, q3⟩, _⟩ := hz
    rw [o1] at q1
    cases q1
    refine hv2 (w3.rl0) (show z = 4 * (e.1 / 4 + rlen a d) + 2 * ngh d + ngp d (e.1 % 2) from q3) (fun er q7 => ?_)
    have r1 := ngp_r (d := d) (pt := e.1 % 2) (by omega)
    have r2 : ngh d = c2 := by
      unfold ngh
      split <;> omega
    omega
theorem WRS.mk (hJ : WRJ L cl ln iv rv sk q iv1 rv1 m k c) (hk : k = m) (hm : 0 ≤ m) (heb : rv1 q 3 = some eb) (h3 : rv1 q 3 = rv q 3) (hE : ∀ j, iv1 eb j = iv eb j) (h5 : iv1 q 5 = iv q 5) (e1 : iv2 = up2 iv1 eb z.toNat y) (hz : z = iv1 q 5) (hy : y = iv1 (sk 11) 2) (e2 : iv3 = up2 iv2 q 5 x) (hx : x = iv1 q 5 + 1) (nq : eb ≠ q) (hC : ∀ xs, CEL iv1 rv1 (sk 11) xs → CEL iv3 rv1 (sk 11) xs) : WRS L cl ln iv rv sk q iv3 rv1 m := fun a l0 l1 C F n K T i hc hv hl hs hK h50 => by
  obtain ⟨p1, _⟩ := hJ a l0 l1 C F n K T i hc hv hl hs hK h50
  have ed : T.drop (T.length - k.toNat) = T := by
    rw [show T.length - k.toNat = 0 by omega]
    rfl
  rw [ed] at p1
  obtain ⟨k1, k2, k3, k4⟩ := hK
  refine hv2 (hv.rng T i hc.2.2.2.2 hc.2.1.2.1) (hc.2.1.2) (fun r hn => ?_)
  have l1' : (K ++ [pfl a l0 l1 T]).length = K.length + 1 := by
    rw [List.length_append]
    rfl
  refine ⟨by rw [l1', e2, up2_s, hx, h5]; omega, by rw [flt_one]; exact hC _ p1, fun eb' hb' j hj => ?_, fun j w e => ?_⟩
  · rw [heb] at hb'
    cases hb'
    rw [l1'] at hj
    rw [e2, up2_k nq, e1]
    by_cases c1 : j < K.length
    · rw [up2_j (by omega), hE, List.take_append_of_le_length (by omega)]
      exact k3 eb (h3.symm.trans heb) j c1
    · rw [show j = z.toNat by omega, up2_s, hy, List.take_of_length_le (by rw [l1']; omega), flt_one]
      exact p1.1
  · by_cases c1 : j < K.length
    · rw [List.getElem?_append_left c1] at e
      exact k4 j w e
    · rw [List.getElem?_append_right (by omega)] at e
      have c2 : j - K.length = 0 := by
        have := gl3 e
        have l2 : ([pfl a l0 l1 T] : List (List Int)).length = 1 := rfl
        omega
      rw [c2] at e
      have e5 : some (pfl a l0 l1 T) = some w := e
      cases e5
      omega
end GPWR
set_option maxHeartbeats 4000000 in
set_option maxRecDepth 100000 in
theorem G_wl11 {l : Launch} {G : GT} {mi : Nat} {sk : Nat → Nat} {L : List Nat} {cl ln : Nat → Nat} {iv : Nat → Nat → Int} {rv : Nat → Nat → Option Nat}  {a0 : Nat} {a1 : Nat} {g : Int} (hW : WT (g0 G) sk L cl ln iv rv) (hS : SKL sk L cl) (t_a0 : ty L cl a0 20) (t_a1 : ty L cl a1 11) (h_g : -2147483648 ≤ g ∧ g ≤ 2147483647) (hg01 : g = 0 ∨ g = 1) : Mc l G mi (Phi (g0 G) sk) PHM yX5_writeLetters cX5_writeLetters 4 none 3 [.ref a0, .ref a1, .int (iI g)] L cl ln iv rv 0 (fun v L2 cl2 ln2 iv2 rv2 => v = none ∧ XT L cl ln L2 cl2 ln2 ∧ fT [11, 41] L cl iv rv iv2 rv2 ∧ WT (g0 G) sk L2 cl2 ln2 iv2 rv2 ∧ (WLC iv rv iv2 rv2 ln a0 a1 g)) := by
  refine Mc.mk (by decide) (Nat.le_of_ble_eq_true rfl) ?_
  intro p e s m args below meth c A C hM
  refine hv3 (Phi.le hW hS) (show XT L cl ln L cl ln from XT.refl) (show fT [11, 41] L cl iv rv iv rv from fT.refl) (fun hph hX0 hF0 => ?_)
  obtain ⟨lb9, hl9, tl9⟩ := hW.ref t_a0 1 rfl rfl rfl
  refine c_iconst C dX5_writeLetters_0 ?_
  refine c_istore_n (lv2 := [(3, .int (iI 0)), (0, .ref a0), (1, .ref a1), (2, .int (iI g))]) C dX5_writeLetters_1 (by decide) rfl ?_
  have Lp1 : ∀ (nn : Nat) (k : Int) (Lb1 : List Nat) (clb1 lnb1 : Nat → Nat) (ivb1 : Nat → Nat → Int) (rvb1 : Nat → Nat → Option Nat) , 9 - k < (nn : Int) → XT L cl ln Lb1 clb1 lnb1 → WT (g0 G) sk Lb1 clb1 lnb1 ivb1 rvb1 → fT [11, 41] L cl iv rv ivb1 rvb1 → (0 ≤ k ∧ k ≤ 8) → (WLJ iv rv ivb1 rvb1 ln a0 a1 g k) → cw p l e 3 ((PHM) + 0 - ((Phi (g0 G) sk) ln rv)) s m args below meth c G A 4 (MQ below (Qu G A (Qp G (Phi (g0 G) sk) ((Phi (g0 G) sk) ln rv) 0 (fun v L2 cl2 ln2 iv2 rv2 => v = none ∧ XT L cl ln L2 cl2 ln2 ∧ fT [11, 41] L cl iv rv iv2 rv2 ∧ WT (g0 G) sk L2 cl2 ln2 iv2 rv2 ∧ (WLC iv rv iv2 rv2 ln a0 a1 g)))) args s (((PHM) + 0 - ((Phi (g0 G) sk) ln rv)) / 16) ((PHM) + 0 - ((Phi (g0 G) sk) ln rv)) A) (Phi (g0 G) sk) ((Phi (g0 G) sk) ln rv) Lb1 clb1 lnb1 ivb1 rvb1 0 2 [(3, .int (iI k)), (0, .ref a0), (1, .ref a1), (2, .int (iI g))] [] := by
    intro nn
    induction nn with
    | zero =>
      intro  k Lb1 clb1 lnb1 ivb1 rvb1 hm Xb1 Wb1 Fb1  hk hI
      have skb1 := Xb1.skl hS
      exact absurd hm (by omega)
    | succ nn ih1 =>
      intro  k Lb1 clb1 lnb1 ivb1 rvb1 hm Xb1 Wb1 Fb1  hk hI
      have skb1 := Xb1.skl hS
      refine c_iload_n (j := 0) C dX5_writeLetters_2 rfl ?_
      refine c_aload_n (j := 1) (x := a0) C dX5_writeLetters_3 rfl ?_
      refine hv2 (Xb1.ty t_a0) (show rvb1 a0 1 = rv a0 1 from (Fb1.r t_a0 rfl 1)) (fun ty1 re1 => ?_)
      rw [hl9] at re1
      refine c_getr (k := 1) C ck_6 dX5_writeLetters_4 w3_138 (by decide) ty1 rfl rfl (by decide) rfl re1 ?_
      refine c_st (st2 := [.ref lb9, .int (iI k)]) rfl ?_
      have ty2 := Xb1.ty tl9
      have ll1 : 0 ≤ lnb1 lb9 ∧ lnb1 lb9 ≤ 8 := Wb1.len ty2 rfl
      refine c_alenI C dX5_writeLetters_7 ty2 rfl ?_
      refine c_icmp_ge (tgt := 47) C (r32_c (lo := 0) (hi := 8) hk.1 hk.2 (by decide) (by decide)) ⟨by omega, by omega⟩ dX5_writeLetters_8 (by decide) (fun c1 => ?_) (fun c1 => ?_)
      · have le1 : lnb1 lb9 = ln lb9 := (Xb1 lb9 tl9.1).2.2
        have pl1 := Phi.le Wb1 skb1
        exact c_vret C dX5_writeLetters_47 rfl (by decide) (rom0 hph pl1 (by decide)) ⟨rfl, Xb1, Fb1, Wb1, (hI.fin hl9 (by omega))⟩
      · refine c_aload_n (j := 2) (x := a1) C dX5_writeLetters_11 rfl ?_
        refine c_iload_n (j := 0) C dX5_writeLetters_12 rfl ?_
        refine c_if_ne (tgt := 32) C (r32_c (lo := 0) (hi := 8) hk.1 hk.2 (by decide) (by decide)) dX5_writeLetters_13 (by decide) (fun c2 => ?_) (fun c2 => ?_)
        · refine c_aload_n (j := 1) (x := a0) C dX5_writeLetters_32 rfl ?_
          refine c_getr (k := 1) C ck_6 dX5_writeLetters_33 w3_138 (by decide) ty1 rfl rfl (by decide) rfl re1 ?_
          refine c_st (st2 := [.ref lb9, .ref a1]) rfl ?_
          refine c_iload_n (j := 0) C dX5_writeLetters_36 rfl ?_
          refine c_iald C dX5_writeLetters_37 ty2 rfl (by omega) (by omega) (by omega) ?_
          refine hv4 (show (-2147483648) ≤ ivb1 lb9 k.toNat ∧ ivb1 lb9 k.toNat ≤ 2147483647 from Wb1.int ty2 k.toNat) (show ivb1 lb9 k.toNat = iv lb9 k.toNat from Fb1.i tl9 rfl k.toNat) (Xb1.ty t_a1) (Phi.le Wb1 skb1) (fun ri1 ie1 ty3 pl2 => ?_)
          have ri2 : 0 ≤ ivb1 a1 2 ∧ ivb1 a1 2 ≤ 40000 := Wb1.int ty3 2
          refine d_callV (As := [.int (iI (ivb1 lb9 k.toNat))]) (rest := []) C hM (G_add_11 (a0 := a1) (x := ivb1 lb9 k.toNat) Wb1 skb1 ty3 (by omega) ) dX5_writeLetters_38 kV_X5_47 rfl ty3 rfl rfl (by decide) ck_2 rfl (Nat.le_of_ble_eq_true rfl) ⟨(Nat.le_of_ble_eq_true rfl), (Nat.le_of_ble_eq_true rfl)⟩ hph pl2 (show 0 + 0 = 0 from rfl) (by decide) (fun rh1 Lh1 clh1 lnh1 ivh1 rvh1 h1 => ?_)
          obtain ⟨rfl, xl1, fl1, W1, exf1⟩ := h1
          refine hv3 (Fb1.call Xb1 fl1 rfl) (Xb1.trans xl1) (xl1.skl skb1) (fun F1 X1 sk1 => ?_)
          refine c_st (st2 := []) rfl ?_
          refine hv2 (xl1.ty ty3) (show ((ivh1 a1 2 = ivb1 a1 2 ∧ ivb1 a1 2 = 40000) ∨ (ivh1 a1 2 = ivb1 a1 2 + 1 ∧ ivb1 a1 2 < 40000)) ∧ (∀ ss, CT ivb1 rvb1 a1 ss → ivb1 a1 2 < 40000 → CT ivh1 rvh1 a1 (va_up ss (ivb1 a1 2).toNat (ivb1 lb9 k.toNat))) ∧ (ivb1 a1 2 = 40000 → ∀ ss, CT ivb1 rvb1 a1 ss → CT ivh1 rvh1 a1 ss) from exf1) (fun ty4 gf1 => ?_)
          have ri3 : 0 ≤ ivh1 a1 2 ∧ ivh1 a1 2 ≤ 40000 := W1.int ty4 2
          refine c_iinc (z := k) (j := 0) (lv2 := [(3, .int (iI (k + 1))), (0, .ref a0), (1, .ref a1), (2, .int (iI g))]) C dX5_writeLetters_41 rfl (by decide) rfl ?_
          refine c_goto (tgt := 2) C dX5_writeLetters_44 (by decide) ?_
          refine hv3 (xl1.ty ty2) (show lnb1 lb9 = ln lb9 from (Xb1 lb9 tl9.1).2.2) (show lnh1 lb9 = lnb1 lb9 from (xl1 lb9 ty2.1).2.2) (fun ty5 le2 le3 => ?_)
          refine c_lv (lv2 := [(3, .int (iI (k + 1))), (0, .ref a0), (1, .ref a1), (2, .int (iI g))]) [0, 1, 2, 3] rfl ?_
          exact ih1  (k + 1) _ _ _ _ _ (by omega) X1 W1 F1  (by omega) (hI.step hl9 ⟨by omega, by omega, by omega⟩ gf1 (fun b1 b2 => by
              have e9 : ivb1 lb9 k.toNat = iv lb9 k.toNat := Fb1.i tl9 rfl k.toNat
              rw [if_neg (by omega)]
              omega))
        · refine c_iload_n (j := 3) C dX5_writeLetters_16 rfl ?_
          refine c_if_eq (tgt := 32) C ⟨by omega, by omega⟩ dX5_writeLetters_17 (by decide) (fun c3 => ?_) (fun c3 => ?_)
          · refine c_aload_n (j := 1) (x := a0) C dX5_writeLetters_32 rfl ?_
            refine c_getr (k := 1) C ck_6 dX5_writeLetters_33 w3_138 (by decide) ty1 rfl rfl (by decide) rfl re1 ?_
            refine c_st (st2 := [.ref lb9, .ref a1]) rfl ?_
            refine c_iload_n (j := 0) C dX5_writeLetters_36 rfl ?_
            refine c_iald C dX5_writeLetters_37 ty2 rfl (by omega) (by omega) (by omega) ?_
            refine hv4 (show (-2147483648) ≤ ivb1 lb9 k.toNat ∧ ivb1 lb9 k.toNat ≤ 2147483647 from Wb1.int ty2 k.toNat) (show ivb1 lb9 k.toNat = iv lb9 k.toNat from Fb1.i tl9 rfl k.toNat) (Xb1.ty t_a1) (Phi.le Wb1 skb1) (fun ri4 ie4 ty6 pl3 => ?_)
            have ri5 : 0 ≤ ivb1 a1 2 ∧ ivb1 a1 2 ≤ 40000 := Wb1.int ty6 2
            refine d_callV (As := [.int (iI (ivb1 lb9 k.toNat))]) (rest := []) C hM (G_add_11 (a0 := a1) (x := ivb1 lb9 k.toNat) Wb1 skb1 ty6 (by omega) ) dX5_writeLetters_38 kV_X5_47 rfl ty6 rfl rfl (by decide) ck_2 rfl (Nat.le_of_ble_eq_true rfl) ⟨(Nat.le_of_ble_eq_true rfl), (Nat.le_of_ble_eq_true rfl)⟩ hph pl3 (show 0 + 0 = 0 from rfl) (by decide) (fun rh2 Lh2 clh2 lnh2 ivh2 rvh2 h2 => ?_)
            obtain ⟨rfl, xl2, fl2, W2, exf2⟩ := h2
            refine hv3 (Fb1.call Xb1 fl2 rfl) (Xb1.trans xl2) (xl2.skl skb1) (fun F2 X2 sk2 => ?_)
            refine c_st (st2 := []) rfl ?_
            refine hv2 (xl2.ty ty6) (show ((ivh2 a1 2 = ivb1 a1 2 ∧ ivb1 a1 2 = 40000) ∨ (ivh2 a1 2 = ivb1 a1 2 + 1 ∧ ivb1 a1 2 < 40000)) ∧ (∀ ss, CT ivb1 rvb1 a1 ss → ivb1 a1 2 < 40000 → CT ivh2 rvh2 a1 (va_up ss (ivb1 a1 2).toNat (ivb1 lb9 k.toNat))) ∧ (ivb1 a1 2 = 40000 → ∀ ss, CT ivb1 rvb1 a1 ss → CT ivh2 rvh2 a1 ss) from exf2) (fun ty7 gf2 => ?_)
            have ri6 : 0 ≤ ivh2 a1 2 ∧ ivh2 a1 2 ≤ 40000 := W2.int ty7 2
            refine c_iinc (z := k) (j := 0) (lv2 := [(3, .int (iI (k + 1))), (0, .ref a0), (1, .ref a1), (2, .int (iI g))]) C dX5_writeLetters_41 rfl (by decide) rfl ?_
            refine c_goto (tgt := 2) C dX5_writeLetters_44 (by decide) ?_
            refine hv3 (xl2.ty ty2) (show lnb1 lb9 = ln lb9 from (Xb1 lb9 tl9.1).2.2) (show lnh2 lb9 = lnb1 lb9 from (xl2 lb9 ty2.1).2.2) (fun ty8 le4 le5 => ?_)
            refine c_lv (lv2 := [(3, .int (iI (k + 1))), (0, .ref a0), (1, .ref a1), (2, .int (iI g))]) [0, 1, 2, 3] rfl ?_
            exact ih1  (k + 1) _ _ _ _ _ (by omega) X2 W2 F2  (by omega) (hI.step hl9 ⟨by omega, by omega, by omega⟩ gf2 (fun b1 b2 => by
                have e9 : ivb1 lb9 k.toNat = iv lb9 k.toNat := Fb1.i tl9 rfl k.toNat
                rw [if_neg (by omega)]
                omega))
          · refine c_aload_n (j := 1) (x := a0) C dX5_writeLetters_20 rfl ?_
            refine c_getr (k := 1) C ck_6 dX5_writeLetters_21 w3_138 (by decide) ty1 rfl rfl (by decide) rfl re1 ?_
            refine c_st (st2 := [.ref lb9, .ref a1]) rfl ?_
            refine c_iload_n (j := 0) C dX5_writeLetters_24 rfl ?_
            refine c_iald C dX5_writeLetters_25 ty2 rfl (by omega) (by omega) (by omega) ?_
            refine hv2 (show (-2147483648) ≤ ivb1 lb9 k.toNat ∧ ivb1 lb9 k.toNat ≤ 2147483647 from Wb1.int ty2 k.toNat) (show ivb1 lb9 k.toNat = iv lb9 k.toNat from Fb1.i tl9 rfl k.toNat) (fun ri7 ie7 => ?_)
            refine c_bipush (z := 32) C dX5_writeLetters_26 (by decide) ?_
            refine c_isub C dX5_writeLetters_28 ?_
            obtain ⟨zz1, hzz1, ezz1⟩ := iI_of (iI ((ivb1 lb9 k.toNat) - 32))
            refine c_st (st2 := [.int (iI zz1), .ref a1]) (by rw [ezz1]) ?_
            refine c_goto (tgt := 38) C dX5_writeLetters_29 (by decide) ?_
            refine hv2 (Xb1.ty t_a1) (Phi.le Wb1 skb1) (fun ty9 pl4 => ?_)
            have ri8 : 0 ≤ ivb1 a1 2 ∧ ivb1 a1 2 ≤ 40000 := Wb1.int ty9 2
            refine d_callV (As := [.int (iI zz1)]) (rest := []) C hM (G_add_11 (a0 := a1) (x := zz1) Wb1 skb1 ty9 (by omega) ) dX5_writeLetters_38 kV_X5_47 rfl ty9 rfl rfl (by decide) ck_2 rfl (Nat.le_of_ble_eq_true rfl) ⟨(Nat.le_of_ble_eq_true rfl), (Nat.le_of_ble_eq_true rfl)⟩ hph pl4 (show 0 + 0 = 0 from rfl) (by decide) (fun rh3 Lh3 clh3 lnh3 ivh3 rvh3 h3 => ?_)
            obtain ⟨rfl, xl3, fl3, W3, exf3⟩ := h3
            refine hv3 (Fb1.call Xb1 fl3 rfl) (Xb1.trans xl3) (xl3.skl skb1) (fun F3 X3 sk3 => ?_)
            refine c_st (st2 := []) rfl ?_
            refine hv2 (xl3.ty ty9) (show ((ivh3 a1 2 = ivb1 a1 2 ∧ ivb1 a1 2 = 40000) ∨ (ivh3 a1 2 = ivb1 a1 2 + 1 ∧ ivb1 a1 2 < 40000)) ∧ (∀ ss, CT ivb1 rvb1 a1 ss → ivb1 a1 2 < 40000 → CT ivh3 rvh3 a1 (va_up ss (ivb1 a1 2).toNat zz1)) ∧ (ivb1 a1 2 = 40000 → ∀ ss, CT ivb1 rvb1 a1 ss → CT ivh3 rvh3 a1 ss) from exf3) (fun ty10 gf3 => ?_)
            have ri9 : 0 ≤ ivh3 a1 2 ∧ ivh3 a1 2 ≤ 40000 := W3.int ty10 2
            refine c_iinc (z := k) (j := 0) (lv2 := [(3, .int (iI (k + 1))), (0, .ref a0), (1, .ref a1), (2, .int (iI g))]) C dX5_writeLetters_41 rfl (by decide) rfl ?_
            refine c_goto (tgt := 2) C dX5_writeLetters_44 (by decide) ?_
            refine hv3 (xl3.ty ty2) (show lnb1 lb9 = ln lb9 from (Xb1 lb9 tl9.1).2.2) (show lnh3 lb9 = lnb1 lb9 from (xl3 lb9 ty2.1).2.2) (fun ty11 le6 le7 => ?_)
            refine c_lv (lv2 := [(3, .int (iI (k + 1))), (0, .ref a0), (1, .ref a1), (2, .int (iI g))]) [0, 1, 2, 3] rfl ?_
            exact ih1  (k + 1) _ _ _ _ _ (by omega) X3 W3 F3  (by omega) (hI.step hl9 ⟨by omega, by omega, by omega⟩ gf3 (fun b1 b2 => by
                have e9 : ivb1 lb9 k.toNat = iv lb9 k.toNat := Fb1.i tl9 rfl k.toNat
                have q9 := iI_ij ezz1 ⟨by omega, by omega⟩ ⟨by omega, by omega⟩
                rw [if_pos ⟨by omega, by omega⟩]
                omega))
  refine c_lv (lv2 := [(3, .int (iI 0)), (0, .ref a0), (1, .ref a1), (2, .int (iI g))]) [0, 1, 2, 3] rfl ?_
  exact Lp1 10 0 _ _ _ _ _ (by omega) hX0 hW hF0  (by omega) WLJ.init
set_option maxHeartbeats 4000000 in
set_option maxRecDepth 100000 in
theorem G_rwrite {l : Launch} {G : GT} {mi : Nat} {sk : Nat → Nat} {L : List Nat} {cl ln : Nat → Nat} {iv : Nat → Nat → Int} {rv : Nat → Nat → Option Nat}  {a0 : Nat} {n : Int} (hW : WT (g0 G) sk L cl ln iv rv) (hS : SKL sk L cl) (t_a0 : ty L cl a0 17) (h_n : -2147483648 ≤ n ∧ n ≤ 2147483647) (hn : 0 ≤ n ∧ n ≤ 100) (hct : iv a0 5 < 50) (hwk : ∀ nb cb, rv a0 1 = some nb → rv a0 2 = some cb → ∀ d : Nat, (d : Int) < n → 0 ≤ iv cb d ∧ VL sk iv (iv nb d) (iv cb d)) : Mc l G mi (Phi (g0 G) sk) PHM yX4_write cX4_write 5 none 5 [.ref a0, .int (iI n)] L cl ln iv rv 0 (fun v L2 cl2 ln2 iv2 rv2 => v = none ∧ XT L cl ln L2 cl2 ln2 ∧ fT [17, 62, 11, 41] L cl iv rv iv2 rv2 ∧ WT (g0 G) sk L2 cl2 ln2 iv2 rv2 ∧ ((rv2 a0 1 = rv a0 1 ∧ rv2 a0 2 = rv a0 2) ∧ ((iv2 a0 9 = iv a0 9 ∧ iv2 a0 10 = iv a0 10 ∧ iv2 a0 6 = iv a0 6 ∧ iv2 a0 5 = iv a0 5 + 1) ∧ rv2 a0 0 = rv a0 0 ∧ rv2 a0 8 = rv a0 8 ∧ rv2 a0 3 = rv a0 3) ∧ WRS L cl ln iv rv sk a0 iv2 rv2 n)) := by
  refine Mc.mk (by decide) (Nat.le_of_ble_eq_true rfl) ?_
  intro p e s m args below meth c A C hM
  refine hv7 (Phi.le hW hS) (show ty L cl (sk 11) 11 from ⟨(hS 11 rfl).1, by rw [(hS 11 rfl).2]; rfl⟩) (show ty L cl (sk 16) 16 from ⟨(hS 16 rfl).1, by rw [(hS 16 rfl).2]; rfl⟩) (show ty L cl (sk 24) 24 from ⟨(hS 24 rfl).1, by rw [(hS 24 rfl).2]; rfl⟩) (show ty L cl (sk 25) 25 from ⟨(hS 25 rfl).1, by rw [(hS 25 rfl).2]; rfl⟩) (show XT L cl ln L cl ln from XT.refl) (show fT [17, 62, 11, 41] L cl iv rv iv rv from fT.refl) (fun hph tsk11 tsk16 tsk24 tsk25 hX0 hF0 => ?_)
  obtain ⟨nb0, hnb0, tnb0⟩ := hW.ref t_a0 1 rfl rfl rfl
  obtain ⟨cb0, hcb0, tcb0⟩ := hW.ref t_a0 2 rfl rfl rfl
  refine hv4 (show 0 ≤ iv a0 5 ∧ iv a0 5 ≤ 50 from hW.int t_a0 5) (show 0 ≤ iv a0 6 ∧ iv a0 6 ≤ 1 from hW.int t_a0 6) (show 0 ≤ iv a0 9 ∧ iv a0 9 ≤ 100 from hW.int t_a0 9) (show (-2147483648) ≤ iv a0 10 ∧ iv a0 10 ≤ 2147483647 from hW.int t_a0 10) (fun ri1 ri2 ri3 ri4 => ?_)
  obtain ⟨eb9, heb9, teb9⟩ := hW.ref t_a0 3 rfl rfl rfl
  refine c_iconst C dX4_write_0 ?_
  refine c_istore_n (lv2 := [(2, .int (iI 0)), (0, .ref a0), (1, .int (iI n))]) C dX4_write_1 (by decide) rfl ?_
  refine c_iconst C dX4_write_2 ?_
  refine c_istore_n (lv2 := [(3, .int (iI 0)), (2, .int (iI 0)), (0, .ref a0), (1, .int (iI n))]) C dX4_write_3 (by decide) rfl ?_
  have Lp1 : ∀ (nn : Nat) (cc0 k : Int) (Lb1 : List Nat) (clb1 lnb1 : Nat → Nat) (ivb1 : Nat → Nat → Int) (rvb1 : Nat → Nat → Option Nat) , 101 - k < (nn : Int) → XT L cl ln Lb1 clb1 lnb1 → WT (g0 G) sk Lb1 clb1 lnb1 ivb1 rvb1 → fT [17, 62, 11, 41] L cl iv rv ivb1 rvb1 → (cc0 = 0 ∨ cc0 = 1) → (0 ≤ k ∧ k ≤ n) → (ivb1 a0 5 = iv a0 5) → (rvb1 a0 1 = some nb0 ∧ rvb1 a0 2 = some cb0) → (ivb1 a0 9 = iv a0 9 ∧ ivb1 a0 10 = iv a0 10 ∧ ivb1 a0 6 = iv a0 6) → (rvb1 a0 0 = rv a0 0 ∧ rvb1 a0 8 = rv a0 8 ∧ rvb1 a0 3 = rv a0 3) → (∀ j, ivb1 eb9 j = iv eb9 j) → (WRJ L cl ln iv rv sk a0 ivb1 rvb1 n k cc0) → cw p l e 5 ((PHM) + 0 - ((Phi (g0 G) sk) ln rv)) s m args below meth c G A 5 (MQ below (Qu G A (Qp G (Phi (g0 G) sk) ((Phi (g0 G) sk) ln rv) 0 (fun v L2 cl2 ln2 iv2 rv2 => v = none ∧ XT L cl ln L2 cl2 ln2 ∧ fT [17, 62, 11, 41] L cl iv rv iv2 rv2 ∧ WT (g0 G) sk L2 cl2 ln2 iv2 rv2 ∧ ((rv2 a0 1 = rv a0 1 ∧ rv2 a0 2 = rv a0 2) ∧ ((iv2 a0 9 = iv a0 9 ∧ iv2 a0 10 = iv a0 10 ∧ iv2 a0 6 = iv a0 6 ∧ iv2 a0 5 = iv a0 5 + 1) ∧ rv2 a0 0 = rv a0 0 ∧ rv2 a0 8 = rv a0 8 ∧ rv2 a0 3 = rv a0 3) ∧ WRS L cl ln iv rv sk a0 iv2 rv2 n)))) args s (((PHM) + 0 - ((Phi (g0 G) sk) ln rv)) / 16) ((PHM) + 0 - ((Phi (g0 G) sk) ln rv)) A) (Phi (g0 G) sk) ((Phi (g0 G) sk) ln rv) Lb1 clb1 lnb1 ivb1 rvb1 0 4 [(2, .int (iI cc0)), (3, .int (iI k)), (0, .ref a0), (1, .int (iI n))] [] := by
    intro nn
    induction nn with
    | zero =>
      intro  cc0 k Lb1 clb1 lnb1 ivb1 rvb1 hm Xb1 Wb1 Fb1  hcc hk hc5 hr hk9 hr0 hE62 hJ
      have skb1 := Xb1.skl hS
      exact absurd hm (by omega)
    | succ nn ih1 =>
      intro  cc0 k Lb1 clb1 lnb1 ivb1 rvb1 hm Xb1 Wb1 Fb1  hcc hk hc5 hr hk9 hr0 hE62 hJ
      have skb1 := Xb1.skl hS
      refine c_iload_n (j := 1) C dX4_write_4 rfl ?_
      refine c_iload_n (j := 3) C dX4_write_5 rfl ?_
      refine c_icmp_ge (tgt := 140) C ⟨by omega, by omega⟩ ⟨by omega, by omega⟩ dX4_write_6 (by decide) (fun c1 => ?_) (fun c1 => ?_)
      · refine c_aload_n (j := 2) (x := a0) C dX4_write_140 rfl ?_
        have ty1 := Xb1.ty t_a0
        refine c_getr (k := 3) C ck_5 dX4_write_141 w1_232 (by decide) ty1 rfl rfl (by decide) rfl (hr0.2.2.trans heb9) ?_
        refine c_st (st2 := [.ref eb9]) rfl ?_
        refine c_aload_n (j := 2) (x := a0) C dX4_write_144 rfl ?_
        have ri5 : 0 ≤ ivb1 a0 5 ∧ ivb1 a0 5 ≤ 50 := Wb1.int ty1 5
        refine c_get (k := 5) C ck_5 dX4_write_145 w1_234 (by decide) ty1 rfl rfl (by decide) rfl ?_
        refine c_aload_n (j := 2) (x := a0) C dX4_write_148 rfl ?_
        obtain ⟨rb1, rq1, trb1⟩ := Wb1.ref ty1 4 rfl rfl rfl
        have erb1 := Wb1.sk trb1 (by decide) rfl
        subst erb1
        refine c_getr (k := 4) C ck_5 dX4_write_149 w1_233 (by decide) ty1 rfl rfl (by decide) rfl rq1 ?_
        refine c_st (st2 := [.ref (sk 11), .int (iI (ivb1 a0 5)), .ref eb9]) rfl ?_
        have ty2 := Xb1.ty tsk11
        have ri6 : 0 ≤ ivb1 (sk 11) 2 ∧ ivb1 (sk 11) 2 ≤ 40000 := Wb1.int ty2 2
        refine c_get (k := 2) C ck_2 dX4_write_152 w1_48 (by decide) ty2 rfl rfl (by decide) rfl ?_
        have ty3 := Xb1.ty teb9
        have ll1 : 50 ≤ lnb1 eb9 ∧ lnb1 eb9 ≤ 50 := Wb1.len ty3 rfl
        refine c_iast (x := ivb1 (sk 11) 2) C dX4_write_155 ty3 rfl (by omega) (by omega) (by omega) (fun iv1 pq1 => ?_)
        refine hv2 (Wb1.puti pq1 ty3 (show (-2147483648) ≤ (ivb1 (sk 11) 2) ∧ (ivb1 (sk 11) 2) ≤ 2147483647 by omega) rfl) (Fb1.puti Xb1 pq1 ty3 rfl) (fun W1 F1 => ?_)
        refine c_aload_n (j := 2) (x := a0) C dX4_write_156 rfl ?_
        refine c_dup C dX4_write_157 rfl ?_
        refine hv2 (show 0 ≤ iv1 a0 5 ∧ iv1 a0 5 ≤ 50 from W1.int ty1 5) (show iv1 a0 5 = ivb1 a0 5 from by rw [pq1]; exact up2_k (ne_ty ty1 ty3 (by decide))) (fun ri7 ie3 => ?_)
        refine c_get (k := 5) C ck_5 dX4_write_158 w1_234 (by decide) ty1 rfl rfl (by decide) rfl ?_
        refine c_iconst C dX4_write_161 ?_
        refine c_iadd C dX4_write_162 ?_
        refine c_put (z := (iv1 a0 5) + 1) (k := 5) C ck_5 dX4_write_163 w1_234 (by decide) rfl ty1 rfl rfl (by decide) rfl (by rfl) (by rfl) (fun iv2 pq2 => ?_)
        refine hv11 (W1.puti pq2 ty1 (show 0 ≤ ((iv1 a0 5) + 1) ∧ ((iv1 a0 5) + 1) ≤ 50 by omega) rfl) (F1.puti Xb1 pq2 ty1 rfl) (show iv2 a0 5 = (iv1 a0 5) + 1 from by rw [pq2]; exact up2_s) (show iv2 a0 6 = iv1 a0 6 from by rw [pq2]; exact up2_j (by decide)) (show iv1 a0 6 = ivb1 a0 6 from by rw [pq1]; exact up2_k (ne_ty ty1 ty3 (by decide))) (show iv2 a0 9 = iv1 a0 9 from by rw [pq2]; exact up2_j (by decide)) (show iv1 a0 9 = ivb1 a0 9 from by rw [pq1]; exact up2_k (ne_ty ty1 ty3 (by decide))) (show iv2 a0 10 = iv1 a0 10 from by rw [pq2]; exact up2_j (by decide)) (show iv1 a0 10 = ivb1 a0 10 from by rw [pq1]; exact up2_k (ne_ty ty1 ty3 (by decide))) (show iv2 (sk 11) 2 = iv1 (sk 11) 2 from by rw [pq2]; exact up2_k (ne_ty ty2 ty1 (by decide))) (show iv1 (sk 11) 2 = ivb1 (sk 11) 2 from by rw [pq1]; exact up2_k (ne_ty ty2 ty3 (by decide))) (fun W2 F2 ie4 ie5 ie6 ie8 ie9 ie11 ie12 ie14 ie15 => ?_)
        refine hv6 (show 0 ≤ iv2 a0 5 ∧ iv2 a0 5 ≤ 50 from W2.int ty1 5) (show 0 ≤ iv2 a0 6 ∧ iv2 a0 6 ≤ 1 from W2.int ty1 6) (show 0 ≤ iv2 a0 9 ∧ iv2 a0 9 ≤ 100 from W2.int ty1 9) (show (-2147483648) ≤ iv2 a0 10 ∧ iv2 a0 10 ≤ 2147483647 from W2.int ty1 10) (show 0 ≤ iv2 (sk 11) 2 ∧ iv2 (sk 11) 2 ≤ 40000 from W2.int ty2 2) (Phi.le W2 skb1) (fun ri8 ri9 ri10 ri11 ri12 pl1 => ?_)
        exact c_vret C dX4_write_166 rfl (by decide) (rom0 hph pl1 (by decide)) ⟨rfl, Xb1, F2, W2, ⟨⟨(hr.1).trans hnb0.symm, (hr.2).trans hcb0.symm⟩, ⟨⟨by omega, by omega, by omega, by omega⟩, hr0.1, hr0.2.1, hr0.2.2⟩, WRS.mk hJ (by omega) (by omega) (hr0.2.2.trans heb9) hr0.2.2 hE62 (by omega) pq1 (by omega) (by omega) pq2 (by omega) (ne_ty ty3 ty1 (by decide)) (fun xs hc => (hc.put11 Wb1 ty2 ty3 (by decide) (by decide) pq1).put11 Wb1 ty2 ty1 (by decide) (by decide) pq2)⟩⟩
      · refine c_aload_n (j := 2) (x := a0) C dX4_write_9 rfl ?_
        have ty4 := Xb1.ty t_a0
        refine c_getr (k := 2) C ck_5 dX4_write_10 w1_231 (by decide) ty4 rfl rfl (by decide) rfl hr.2 ?_
        refine c_st (st2 := [.ref cb0]) rfl ?_
        refine c_iload_n (j := 1) C dX4_write_13 rfl ?_
        have ty5 := Xb1.ty tcb0
        have ll2 : 101 ≤ lnb1 cb0 ∧ lnb1 cb0 ≤ 101 := Wb1.len ty5 rfl
        refine c_iald C dX4_write_14 ty5 rfl (by omega) (by omega) (by omega) ?_
        refine hv2 (show (-2147483648) ≤ ivb1 cb0 k.toNat ∧ ivb1 cb0 k.toNat ≤ 2147483647 from Wb1.int ty5 k.toNat) (show ivb1 cb0 k.toNat = iv cb0 k.toNat from Fb1.i tcb0 rfl k.toNat) (fun ri13 ie16 => ?_)
        have vc := (hwk nb0 cb0 hnb0 hcb0 k.toNat (by omega)).1
        refine c_if_ne (tgt := 30) C (r32_c (lo := (-2147483648)) (hi := 2147483647) ri13.1 ri13.2 (by decide) (by decide)) dX4_write_15 (by decide) (fun c2 => ?_) (fun c2 => ?_)
        · refine c_aload_n (j := 2) (x := a0) C dX4_write_30 rfl ?_
          obtain ⟨rb2, rq2, trb2⟩ := Wb1.ref ty4 7 rfl rfl rfl
          have erb2 := Wb1.sk trb2 (by decide) rfl
          subst erb2
          refine c_getr (k := 7) C ck_5 dX4_write_31 w1_238 (by decide) ty4 rfl rfl (by decide) rfl rq2 ?_
          refine c_st (st2 := [.ref (sk 16)]) rfl ?_
          refine c_aload_n (j := 2) (x := a0) C dX4_write_34 rfl ?_
          refine c_getr (k := 1) C ck_5 dX4_write_35 w1_230 (by decide) ty4 rfl rfl (by decide) rfl hr.1 ?_
          refine c_st (st2 := [.ref nb0, .ref (sk 16)]) rfl ?_
          refine c_iload_n (j := 1) C dX4_write_38 rfl ?_
          have ty6 := Xb1.ty tnb0
          have ll3 : 101 ≤ lnb1 nb0 ∧ lnb1 nb0 ≤ 101 := Wb1.len ty6 rfl
          refine c_iald C dX4_write_39 ty6 rfl (by omega) (by omega) (by omega) ?_
          refine hv2 (show (-2147483648) ≤ ivb1 nb0 k.toNat ∧ ivb1 nb0 k.toNat ≤ 2147483647 from Wb1.int ty6 k.toNat) (show ivb1 nb0 k.toNat = iv nb0 k.toNat from Fb1.i tnb0 rfl k.toNat) (fun ri14 ie17 => ?_)
          refine c_iconst C dX4_write_40 ?_
          obtain ⟨zz1, hzz1, ezz1⟩ := iI_of (iI (ivb1 nb0 k.toNat) &&& iI 1)
          refine c_iand (w := iI zz1) C dX4_write_41 ezz1 ?_
          refine hv6 (Xb1.ty tsk24) (show ivb1 (sk 24) 2 = iv (sk 24) 2 from Fb1.i tsk24 rfl 2) (Xb1.ty tsk25) (show ivb1 (sk 25) 2 = iv (sk 25) 2 from Fb1.i tsk25 rfl 2) (show ivb1 nb0 k.toNat = iv nb0 k.toNat from (show ivb1 nb0 k.toNat = iv nb0 k.toNat from Fb1.i tnb0 rfl k.toNat)) (bz_iff ezz1 hzz1) (fun ty7 ie18 ty8 ie19 enzz1 hb1zz1 => ?_)
          refine hv2 (show 0 ≤ ivb1 (sk 24) 2 ∧ ivb1 (sk 24) 2 ≤ 6003 from Wb1.int ty7 2) (show 0 ≤ ivb1 (sk 25) 2 ∧ ivb1 (sk 25) 2 ≤ 6003 from Wb1.int ty8 2) (fun ri15 ri16 => ?_)
          have vwzz1 := (hwk nb0 cb0 hnb0 hcb0 k.toNat (by omega))
          have vzzz1 := vwzz1.2.zed (by rw [← enzz1]; exact ezz1) hzz1
          refine c_if_eq (tgt := 49) C ⟨by omega, by omega⟩ dX4_write_42 (by decide) (fun c3 => ?_) (fun c3 => ?_)
          · refine c_iconst C dX4_write_49 ?_
            refine hv2 (Xb1.ty tsk16) (Phi.le Wb1 skb1) (fun ty9 pl2 => ?_)
            refine d_callV (As := [.int (iI 0)]) (rest := []) C hM (C_rowsOf (a0 := (sk 16)) (g := 0) Wb1 skb1 ty9 ⟨by decide, by decide⟩ ) dX4_write_50 kV_X4_95 rfl ty9 rfl rfl (by decide) ck_4 rfl (Nat.le_of_ble_eq_true rfl) ⟨(Nat.le_of_ble_eq_true rfl), (Nat.le_of_ble_eq_true rfl)⟩ hph pl2 (show 0 + 0 = 0 from rfl) (by decide) (fun rh1 Lh1 clh1 lnh1 ivh1 rvh1 h1 => ?_)
            obtain ⟨f1, rfl, rfl, rfl, rfl, rfl, rfl, rgf1, exf1⟩ := h1
            refine c_st (st2 := [.ref f1]) rfl ?_
            rcases exf1 with exf1 | exf1
            · obtain ⟨hf1, rfl⟩ := exf1
              refine c_st (st2 := [.ref (sk 24)]) rfl ?_
              refine c_aload_n (j := 2) (x := a0) C dX4_write_53 rfl ?_
              refine c_getr (k := 2) C ck_5 dX4_write_54 w1_231 (by decide) ty4 rfl rfl (by decide) rfl hr.2 ?_
              refine c_st (st2 := [.ref cb0, .ref (sk 24)]) rfl ?_
              refine c_iload_n (j := 1) C dX4_write_57 rfl ?_
              refine c_iald C dX4_write_58 ty5 rfl (by omega) (by omega) (by omega) ?_
              refine c_iconst C dX4_write_59 ?_
              refine c_isub C dX4_write_60 ?_
              refine d_callV (As := [.int (iI ((ivb1 cb0 k.toNat) - 1))]) (rest := []) C hM (C_get_24 (a0 := (sk 24)) (i := (ivb1 cb0 k.toNat) - 1) Wb1 skb1 ty7 (by omega) (by show 0 ≤ ((ivb1 cb0 k.toNat) - 1) ∧ ((ivb1 cb0 k.toNat) - 1) < ivb1 (sk 24) 2; omega)) dX4_write_61 kV_X4_110 rfl ty7 rfl rfl (by decide) ck_0 rfl (Nat.le_of_ble_eq_true rfl) ⟨(Nat.le_of_ble_eq_true rfl), (Nat.le_of_ble_eq_true rfl)⟩ hph pl2 (show 0 + 0 = 0 from rfl) (by decide) (fun rh2 Lh2 clh2 lnh2 ivh2 rvh2 h2 => ?_)
              obtain ⟨f2, rfl, rfl, rfl, rfl, rfl, rfl, rgf2, exf2⟩ := h2
              refine c_st (st2 := [.ref f2]) rfl ?_
              refine hv4 (show el rvb1 (sk 24) ((ivb1 cb0 k.toNat) - 1).toNat = some f2 from exf2) (show (-2147483648) ≤ ivb1 f2 0 ∧ ivb1 f2 0 ≤ 2147483647 from Wb1.int rgf2 0) (show 0 ≤ ivb1 a0 9 ∧ ivb1 a0 9 ≤ 100 from Wb1.int ty4 9) (show (-2147483648) ≤ ivb1 a0 10 ∧ ivb1 a0 10 ≤ 2147483647 from Wb1.int ty4 10) (fun gf2 ri17 ri18 ri19 => ?_)
              refine c_cast C ck_6 dX4_write_64 w5_149 w8_169t rgf2 rfl rfl (by decide) ?_
              refine c_astore (lv2 := [(4, .ref f2), (2, .int (iI cc0)), (3, .int (iI k)), (0, .ref a0), (1, .int (iI n))]) C dX4_write_67 (by decide) rfl ?_
              refine c_aload (j := 0) (x := f2) C dX4_write_69 rfl ?_
              refine c_get (k := 0) C ck_6 dX4_write_71 w3_136 (by decide) rgf2 rfl rfl (by decide) rfl ?_
              refine c_iconst C dX4_write_74 ?_
              refine c_icmp_eq (tgt := 87) C (r32_c (lo := (-2147483648)) (hi := 2147483647) ri17.1 ri17.2 (by decide) (by decide)) ⟨by decide, by decide⟩ dX4_write_75 (by decide) (fun c4 => ?_) (fun c4 => ?_)
              · refine c_aload_n (j := 3) (x := a0) C dX4_write_87 rfl ?_
                obtain ⟨rb3, rq3, trb3⟩ := Wb1.ref ty4 4 rfl rfl rfl
                have erb3 := Wb1.sk trb3 (by decide) rfl
                subst erb3
                refine c_getr (k := 4) C ck_5 dX4_write_88 w1_233 (by decide) ty4 rfl rfl (by decide) rfl rq3 ?_
                refine c_st (st2 := [.ref (sk 11)]) rfl ?_
                refine c_aload (j := 0) (x := f2) C dX4_write_91 rfl ?_
                refine c_get (k := 0) C ck_6 dX4_write_93 w3_136 (by decide) rgf2 rfl rfl (by decide) rfl ?_
                refine c_iconst C dX4_write_96 ?_
                refine c_icmp_ne (tgt := 105) C (r32_c (lo := (-2147483648)) (hi := 2147483647) ri17.1 ri17.2 (by decide) (by decide)) ⟨by decide, by decide⟩ dX4_write_97 (by decide) (fun z => absurd z (by omega)) (fun _ => ?_)
                refine c_bipush (z := 60) C dX4_write_100 (by decide) ?_
                refine c_goto (tgt := 107) C dX4_write_102 (by decide) ?_
                have ty10 := Xb1.ty tsk11
                have ri20 : 0 ≤ ivb1 (sk 11) 2 ∧ ivb1 (sk 11) 2 ≤ 40000 := Wb1.int ty10 2
                refine d_callV (As := [.int (iI 60)]) (rest := []) C hM (G_add_11 (a0 := (sk 11)) (x := 60) Wb1 skb1 ty10 ⟨by decide, by decide⟩ ) dX4_write_107 kV_X4_128 rfl ty10 rfl rfl (by decide) ck_2 rfl (Nat.le_of_ble_eq_true rfl) ⟨(Nat.le_of_ble_eq_true rfl), (Nat.le_of_ble_eq_true rfl)⟩ hph pl2 (show 0 + 0 = 0 from rfl) (by decide) (fun rh3 Lh3 clh3 lnh3 ivh3 rvh3 h3 => ?_)
                obtain ⟨rfl, xl3, fl3, W5, exf3⟩ := h3
                refine hv4 (Fb1.call Xb1 fl3 rfl) (Xb1.ty teb9) (Xb1.trans xl3) (xl3.skl skb1) (fun F3 ty11 X1 sk1 => ?_)
                refine c_st (st2 := []) rfl ?_
                refine hv2 (xl3.ty ty10) (show ((ivh3 (sk 11) 2 = ivb1 (sk 11) 2 ∧ ivb1 (sk 11) 2 = 40000) ∨ (ivh3 (sk 11) 2 = ivb1 (sk 11) 2 + 1 ∧ ivb1 (sk 11) 2 < 40000)) ∧ (∀ ss, CT ivb1 rvb1 (sk 11) ss → ivb1 (sk 11) 2 < 40000 → CT ivh3 rvh3 (sk 11) (va_up ss (ivb1 (sk 11) 2).toNat (60 : Int))) ∧ (ivb1 (sk 11) 2 = 40000 → ∀ ss, CT ivb1 rvb1 (sk 11) ss → CT ivh3 rvh3 (sk 11) ss) from exf3) (fun ty12 gf3 => ?_)
                have ri21 : 0 ≤ ivh3 (sk 11) 2 ∧ ivh3 (sk 11) 2 ≤ 40000 := W5.int ty12 2
                refine c_aload (j := 0) (x := f2) C dX4_write_110 rfl ?_
                refine c_aload_n (j := 3) (x := a0) C dX4_write_112 rfl ?_
                refine hv2 (xl3.ty ty4) (show rvh3 a0 4 = rvb1 a0 4 from (fl3.r ty4 rfl 4)) (fun ty13 re1 => ?_)
                rw [rq3] at re1
                refine c_getr (k := 4) C ck_5 dX4_write_113 w1_233 (by decide) ty13 rfl rfl (by decide) rfl re1 ?_
                refine c_st (st2 := [.ref (sk 11), .ref f2]) rfl ?_
                refine c_iload_n (j := 1) C dX4_write_116 rfl ?_
                refine hv2 (xl3.ty rgf2) (Phi.le W5 sk1) (fun ty14 pl3 => ?_)
                refine d_callV (As := [.ref (sk 11), .int (iI cc0)]) (rest := []) C hM (G_wl11 (a0 := f2) (a1 := (sk 11)) (g := cc0) W5 sk1 ty14 ty12 (by omega) (by show cc0 = 0 ∨ cc0 = 1; omega)) dX4_write_117 kV_X4_131 rfl ty14 rfl rfl (by decide) ck_6 rfl (Nat.le_of_ble_eq_true rfl) ⟨(Nat.le_of_ble_eq_true rfl), (Nat.le_of_ble_eq_true rfl)⟩ hph pl3 (show 0 + 0 = 0 from rfl) (by decide) (fun rh4 Lh4 clh4 lnh4 ivh4 rvh4 h4 => ?_)
                obtain ⟨rfl, xl4, fl4, W6, exf4⟩ := h4
                refine hv9 (F3.call X1 fl4 rfl) (xl3.ty ty9) (xl3.ty ty7) (xl3.ty ty8) (xl3.ty ty6) (xl3.ty ty5) (xl3.ty ty11) (X1.trans xl4) (xl4.skl sk1) (fun F4 ty15 ty16 ty17 ty18 ty19 ty20 X2 sk2 => ?_)
                refine c_st (st2 := []) rfl ?_
                have gf4 : WLC ivh3 rvh3 ivh4 rvh4 lnh3 f2 (sk 11) cc0 := exf4
                refine c_aload (j := 0) (x := f2) C dX4_write_120 rfl ?_
                refine hv3 (xl4.ty ty14) (show ivh4 f2 0 = ivh3 f2 0 from fl4.i ty14 rfl 0) (show ivh3 f2 0 = ivb1 f2 0 from fl3.i rgf2 rfl 0) (fun ty21 ie25 ie26 => ?_)
                have ri22 : (-2147483648) ≤ ivh4 f2 0 ∧ ivh4 f2 0 ≤ 2147483647 := W6.int ty21 0
                refine c_get (k := 0) C ck_6 dX4_write_122 w3_136 (by decide) ty21 rfl rfl (by decide) rfl ?_
                refine c_if_ne (tgt := 132) C (r32_c (lo := (-2147483648)) (hi := 2147483647) ri22.1 ri22.2 (by decide) (by decide)) dX4_write_125 (by decide) (fun c5 => ?_) (fun c5 => ?_)
                · refine c_iconst C dX4_write_132 ?_
                  refine c_istore_n (lv2 := [(2, .int (iI 0)), (4, .ref f2), (3, .int (iI k)), (0, .ref a0), (1, .int (iI n))]) C dX4_write_133 (by decide) rfl ?_
                  refine c_iinc (z := k) (j := 2) (lv2 := [(3, .int (iI (k + 1))), (2, .int (iI 0)), (4, .ref f2), (0, .ref a0), (1, .int (iI n))]) C dX4_write_134 rfl (by decide) rfl ?_
                  refine c_goto (tgt := 4) C dX4_write_137 (by decide) ?_
                  refine hv14 (xl4.ty ty13) (show ivh4 a0 5 = ivh3 a0 5 from fl4.i ty13 rfl 5) (show ivh3 a0 5 = ivb1 a0 5 from fl3.i ty4 rfl 5) (show ivh4 a0 9 = ivh3 a0 9 from fl4.i ty13 rfl 9) (show ivh3 a0 9 = ivb1 a0 9 from fl3.i ty4 rfl 9) (show ivh4 a0 10 = ivh3 a0 10 from fl4.i ty13 rfl 10) (show ivh3 a0 10 = ivb1 a0 10 from fl3.i ty4 rfl 10) (show ivh4 a0 6 = ivh3 a0 6 from fl4.i ty13 rfl 6) (show ivh3 a0 6 = ivb1 a0 6 from fl3.i ty4 rfl 6) (xl4.ty ty19) (show ivh4 cb0 k.toNat = ivh3 cb0 k.toNat from fl4.i ty19 rfl k.toNat) (show ivh3 cb0 k.toNat = ivb1 cb0 k.toNat from fl3.i ty5 rfl k.toNat) (xl4.ty ty20) (show rvh3 a0 1 = rvb1 a0 1 from (fl3.r ty4 rfl 1)) (fun ty22 ie27 ie28 ie30 ie31 ie32 ie33 ie34 ie35 ty23 ie37 ie38 ty24 re2 => ?_)
                  refine hv5 (show 0 ≤ ivh4 a0 5 ∧ ivh4 a0 5 ≤ 50 from W6.int ty22 5) (show 0 ≤ ivh4 a0 9 ∧ ivh4 a0 9 ≤ 100 from W6.int ty22 9) (show (-2147483648) ≤ ivh4 a0 10 ∧ ivh4 a0 10 ≤ 2147483647 from W6.int ty22 10) (show 0 ≤ ivh4 a0 6 ∧ ivh4 a0 6 ≤ 1 from W6.int ty22 6) (show (-2147483648) ≤ ivh4 cb0 k.toNat ∧ ivh4 cb0 k.toNat ≤ 2147483647 from W6.int ty23 k.toNat) (fun ri23 ri24 ri25 ri26 ri27 => ?_)
                  rw [hr.1] at re2
                  have re3 : rvh4 a0 1 = rvh3 a0 1 := (fl4.r ty13 rfl 1)
                  rw [re2] at re3
                  have re4 : rvh3 a0 2 = rvb1 a0 2 := (fl3.r ty4 rfl 2)
                  rw [hr.2] at re4
                  have re5 : rvh4 a0 2 = rvh3 a0 2 := (fl4.r ty13 rfl 2)
                  rw [re4] at re5
                  refine c_lv (lv2 := [(2, .int (iI 0)), (3, .int (iI (k + 1))), (0, .ref a0), (1, .int (iI n))]) [1, 0, 3, 4] rfl ?_
                  exact ih1  0 (k + 1) _ _ _ _ _ (by omega) X2 W6 F4  (by omega) (by omega) (ie27.trans (ie28.trans hc5)) ⟨re3, re5⟩ ⟨(ie30.trans (ie31.trans hk9.1)), (ie32.trans (ie33.trans hk9.2.1)), (ie34.trans (ie35.trans hk9.2.2))⟩ ⟨(Eq.trans (fl4.r ty13 rfl 0) (Eq.trans (fl3.r ty4 rfl 0) hr0.1)), (Eq.trans (fl4.r ty13 rfl 8) (Eq.trans (fl3.r ty4 rfl 8) hr0.2.1)), (Eq.trans (fl4.r ty13 rfl 3) (Eq.trans (fl3.r ty4 rfl 3) hr0.2.2))⟩ (fun j => (Eq.trans (fl4.i ty20 rfl j) (Eq.trans (fl3.i ty11 rfl j) (hE62 j)))) (hJ.row ⟨by omega, by omega⟩ hnb0 hcb0 (fun a l0 l1 C F n hc => hc.fr hW hS t_a0 Fb1 (QT.of hW hS Xb1 Fb1 rfl rfl rfl rfl rfl) (by omega) (by omega) hr0.2.1 rfl rfl rfl rfl rfl) ⟨by omega, by omega⟩ (by omega) (Or.inl ⟨hb1zz1.mpr (by omega), exf2⟩) (WEF.turn (by omega) gf3 (fun a d q => q.keep rgf2 Wb1 xl3 (KP.fr Wb1 fl3 rfl)) gf4) (by omega))
                · refine c_iconst C dX4_write_128 ?_
                  refine c_goto (tgt := 133) C dX4_write_129 (by decide) ?_
                  refine c_istore_n (lv2 := [(2, .int (iI 1)), (4, .ref f2), (3, .int (iI k)), (0, .ref a0), (1, .int (iI n))]) C dX4_write_133 (by decide) rfl ?_
                  refine c_iinc (z := k) (j := 2) (lv2 := [(3, .int (iI (k + 1))), (2, .int (iI 1)), (4, .ref f2), (0, .ref a0), (1, .int (iI n))]) C dX4_write_134 rfl (by decide) rfl ?_
                  refine c_goto (tgt := 4) C dX4_write_137 (by decide) ?_
                  refine hv14 (xl4.ty ty13) (show ivh4 a0 5 = ivh3 a0 5 from fl4.i ty13 rfl 5) (show ivh3 a0 5 = ivb1 a0 5 from fl3.i ty4 rfl 5) (show ivh4 a0 9 = ivh3 a0 9 from fl4.i ty13 rfl 9) (show ivh3 a0 9 = ivb1 a0 9 from fl3.i ty4 rfl 9) (show ivh4 a0 10 = ivh3 a0 10 from fl4.i ty13 rfl 10) (show ivh3 a0 10 = ivb1 a0 10 from fl3.i ty4 rfl 10) (show ivh4 a0 6 = ivh3 a0 6 from fl4.i ty13 rfl 6) (show ivh3 a0 6 = ivb1 a0 6 from fl3.i ty4 rfl 6) (xl4.ty ty19) (show ivh4 cb0 k.toNat = ivh3 cb0 k.toNat from fl4.i ty19 rfl k.toNat) (show ivh3 cb0 k.toNat = ivb1 cb0 k.toNat from fl3.i ty5 rfl k.toNat) (xl4.ty ty20) (show rvh3 a0 1 = rvb1 a0 1 from (fl3.r ty4 rfl 1)) (fun ty25 ie39 ie40 ie42 ie43 ie44 ie45 ie46 ie47 ty26 ie49 ie50 ty27 re6 => ?_)
                  refine hv5 (show 0 ≤ ivh4 a0 5 ∧ ivh4 a0 5 ≤ 50 from W6.int ty25 5) (show 0 ≤ ivh4 a0 9 ∧ ivh4 a0 9 ≤ 100 from W6.int ty25 9) (show (-2147483648) ≤ ivh4 a0 10 ∧ ivh4 a0 10 ≤ 2147483647 from W6.int ty25 10) (show 0 ≤ ivh4 a0 6 ∧ ivh4 a0 6 ≤ 1 from W6.int ty25 6) (show (-2147483648) ≤ ivh4 cb0 k.toNat ∧ ivh4 cb0 k.toNat ≤ 2147483647 from W6.int ty26 k.toNat) (fun ri28 ri29 ri30 ri31 ri32 => ?_)
                  rw [hr.1] at re6
                  have re7 : rvh4 a0 1 = rvh3 a0 1 := (fl4.r ty13 rfl 1)
                  rw [re6] at re7
                  have re8 : rvh3 a0 2 = rvb1 a0 2 := (fl3.r ty4 rfl 2)
                  rw [hr.2] at re8
                  have re9 : rvh4 a0 2 = rvh3 a0 2 := (fl4.r ty13 rfl 2)
                  rw [re8] at re9
                  refine c_lv (lv2 := [(2, .int (iI 1)), (3, .int (iI (k + 1))), (0, .ref a0), (1, .int (iI n))]) [1, 0, 3, 4] rfl ?_
                  exact ih1  1 (k + 1) _ _ _ _ _ (by omega) X2 W6 F4  (by omega) (by omega) (ie39.trans (ie40.trans hc5)) ⟨re7, re9⟩ ⟨(ie42.trans (ie43.trans hk9.1)), (ie44.trans (ie45.trans hk9.2.1)), (ie46.trans (ie47.trans hk9.2.2))⟩ ⟨(Eq.trans (fl4.r ty13 rfl 0) (Eq.trans (fl3.r ty4 rfl 0) hr0.1)), (Eq.trans (fl4.r ty13 rfl 8) (Eq.trans (fl3.r ty4 rfl 8) hr0.2.1)), (Eq.trans (fl4.r ty13 rfl 3) (Eq.trans (fl3.r ty4 rfl 3) hr0.2.2))⟩ (fun j => (Eq.trans (fl4.i ty20 rfl j) (Eq.trans (fl3.i ty11 rfl j) (hE62 j)))) (hJ.row ⟨by omega, by omega⟩ hnb0 hcb0 (fun a l0 l1 C F n hc => hc.fr hW hS t_a0 Fb1 (QT.of hW hS Xb1 Fb1 rfl rfl rfl rfl rfl) (by omega) (by omega) hr0.2.1 rfl rfl rfl rfl rfl) ⟨by omega, by omega⟩ (by omega) (Or.inl ⟨hb1zz1.mpr (by omega), exf2⟩) (WEF.turn (by omega) gf3 (fun a d q => q.keep rgf2 Wb1 xl3 (KP.fr Wb1 fl3 rfl)) gf4) (by omega))
              · refine c_aload (j := 0) (x := f2) C dX4_write_78 rfl ?_
                refine c_get (k := 0) C ck_6 dX4_write_80 w3_136 (by decide) rgf2 rfl rfl (by decide) rfl ?_
                refine c_iconst C dX4_write_83 ?_
                refine c_icmp_ne (tgt := 110) C (r32_c (lo := (-2147483648)) (hi := 2147483647) ri17.1 ri17.2 (by decide) (by decide)) ⟨by decide, by decide⟩ dX4_write_84 (by decide) (fun c6 => ?_) (fun c6 => ?_)
                · refine c_aload (j := 0) (x := f2) C dX4_write_110 rfl ?_
                  refine c_aload_n (j := 3) (x := a0) C dX4_write_112 rfl ?_
                  obtain ⟨rb4, rq4, trb4⟩ := Wb1.ref ty4 4 rfl rfl rfl
                  have erb4 := Wb1.sk trb4 (by decide) rfl
                  subst erb4
                  refine c_getr (k := 4) C ck_5 dX4_write_113 w1_233 (by decide) ty4 rfl rfl (by decide) rfl rq4 ?_
                  refine c_st (st2 := [.ref (sk 11), .ref f2]) rfl ?_
                  refine c_iload_n (j := 1) C dX4_write_116 rfl ?_
                  have ty28 := Xb1.ty tsk11
                  refine d_callV (As := [.ref (sk 11), .int (iI cc0)]) (rest := []) C hM (G_wl11 (a0 := f2) (a1 := (sk 11)) (g := cc0) Wb1 skb1 rgf2 ty28 (by omega) (by show cc0 = 0 ∨ cc0 = 1; omega)) dX4_write_117 kV_X4_131 rfl rgf2 rfl rfl (by decide) ck_6 rfl (Nat.le_of_ble_eq_true rfl) ⟨(Nat.le_of_ble_eq_true rfl), (Nat.le_of_ble_eq_true rfl)⟩ hph pl2 (show 0 + 0 = 0 from rfl) (by decide) (fun rh5 Lh5 clh5 lnh5 ivh5 rvh5 h5 => ?_)
                  obtain ⟨rfl, xl5, fl5, W7, exf5⟩ := h5
                  refine hv4 (Fb1.call Xb1 fl5 rfl) (Xb1.ty teb9) (Xb1.trans xl5) (xl5.skl skb1) (fun F5 ty29 X3 sk3 => ?_)
                  refine c_st (st2 := []) rfl ?_
                  have gf5 : WLC ivb1 rvb1 ivh5 rvh5 lnb1 f2 (sk 11) cc0 := exf5
                  refine c_aload (j := 0) (x := f2) C dX4_write_120 rfl ?_
                  refine hv2 (xl5.ty rgf2) (show ivh5 f2 0 = ivb1 f2 0 from fl5.i rgf2 rfl 0) (fun ty30 ie51 => ?_)
                  have ri33 : (-2147483648) ≤ ivh5 f2 0 ∧ ivh5 f2 0 ≤ 2147483647 := W7.int ty30 0
                  refine c_get (k := 0) C ck_6 dX4_write_122 w3_136 (by decide) ty30 rfl rfl (by decide) rfl ?_
                  refine c_if_ne (tgt := 132) C (r32_c (lo := (-2147483648)) (hi := 2147483647) ri33.1 ri33.2 (by decide) (by decide)) dX4_write_125 (by decide) (fun c7 => ?_) (fun c7 => ?_)
                  · refine c_iconst C dX4_write_132 ?_
                    refine c_istore_n (lv2 := [(2, .int (iI 0)), (4, .ref f2), (3, .int (iI k)), (0, .ref a0), (1, .int (iI n))]) C dX4_write_133 (by decide) rfl ?_
                    refine c_iinc (z := k) (j := 2) (lv2 := [(3, .int (iI (k + 1))), (2, .int (iI 0)), (4, .ref f2), (0, .ref a0), (1, .int (iI n))]) C dX4_write_134 rfl (by decide) rfl ?_
                    refine c_goto (tgt := 4) C dX4_write_137 (by decide) ?_
                    refine hv9 (xl5.ty ty4) (show ivh5 a0 5 = ivb1 a0 5 from fl5.i ty4 rfl 5) (show ivh5 a0 9 = ivb1 a0 9 from fl5.i ty4 rfl 9) (show ivh5 a0 10 = ivb1 a0 10 from fl5.i ty4 rfl 10) (show ivh5 a0 6 = ivb1 a0 6 from fl5.i ty4 rfl 6) (xl5.ty ty5) (show ivh5 cb0 k.toNat = ivb1 cb0 k.toNat from fl5.i ty5 rfl k.toNat) (xl5.ty ty29) (show rvh5 a0 1 = rvb1 a0 1 from (fl5.r ty4 rfl 1)) (fun ty31 ie52 ie54 ie55 ie56 ty32 ie58 ty33 re10 => ?_)
                    refine hv5 (show 0 ≤ ivh5 a0 5 ∧ ivh5 a0 5 ≤ 50 from W7.int ty31 5) (show 0 ≤ ivh5 a0 9 ∧ ivh5 a0 9 ≤ 100 from W7.int ty31 9) (show (-2147483648) ≤ ivh5 a0 10 ∧ ivh5 a0 10 ≤ 2147483647 from W7.int ty31 10) (show 0 ≤ ivh5 a0 6 ∧ ivh5 a0 6 ≤ 1 from W7.int ty31 6) (show (-2147483648) ≤ ivh5 cb0 k.toNat ∧ ivh5 cb0 k.toNat ≤ 2147483647 from W7.int ty32 k.toNat) (fun ri34 ri35 ri36 ri37 ri38 => ?_)
                    rw [hr.1] at re10
                    have re11 : rvh5 a0 2 = rvb1 a0 2 := (fl5.r ty4 rfl 2)
                    rw [hr.2] at re11
                    refine c_lv (lv2 := [(2, .int (iI 0)), (3, .int (iI (k + 1))), (0, .ref a0), (1, .int (iI n))]) [1, 0, 3, 4] rfl ?_
                    exact ih1  0 (k + 1) _ _ _ _ _ (by omega) X3 W7 F5  (by omega) (by omega) (ie52.trans hc5) ⟨re10, re11⟩ ⟨(ie54.trans hk9.1), (ie55.trans hk9.2.1), (ie56.trans hk9.2.2)⟩ ⟨(Eq.trans (fl5.r ty4 rfl 0) hr0.1), (Eq.trans (fl5.r ty4 rfl 8) hr0.2.1), (Eq.trans (fl5.r ty4 rfl 3) hr0.2.2)⟩ (fun j => (Eq.trans (fl5.i ty29 rfl j) (hE62 j))) (hJ.row ⟨by omega, by omega⟩ hnb0 hcb0 (fun a l0 l1 C F n hc => hc.fr hW hS t_a0 Fb1 (QT.of hW hS Xb1 Fb1 rfl rfl rfl rfl rfl) (by omega) (by omega) hr0.2.1 rfl rfl rfl rfl rfl) ⟨by omega, by omega⟩ (by omega) (Or.inl ⟨hb1zz1.mpr (by omega), exf2⟩) (WEF.plain ⟨by omega, by omega⟩ gf5) (by omega))
                  · refine c_iconst C dX4_write_128 ?_
                    refine c_goto (tgt := 133) C dX4_write_129 (by decide) ?_
                    refine c_istore_n (lv2 := [(2, .int (iI 1)), (4, .ref f2), (3, .int (iI k)), (0, .ref a0), (1, .int (iI n))]) C dX4_write_133 (by decide) rfl ?_
                    refine c_iinc (z := k) (j := 2) (lv2 := [(3, .int (iI (k + 1))), (2, .int (iI 1)), (4, .ref f2), (0, .ref a0), (1, .int (iI n))]) C dX4_write_134 rfl (by decide) rfl ?_
                    refine c_goto (tgt := 4) C dX4_write_137 (by decide) ?_
                    refine hv9 (xl5.ty ty4) (show ivh5 a0 5 = ivb1 a0 5 from fl5.i ty4 rfl 5) (show ivh5 a0 9 = ivb1 a0 9 from fl5.i ty4 rfl 9) (show ivh5 a0 10 = ivb1 a0 10 from fl5.i ty4 rfl 10) (show ivh5 a0 6 = ivb1 a0 6 from fl5.i ty4 rfl 6) (xl5.ty ty5) (show ivh5 cb0 k.toNat = ivb1 cb0 k.toNat from fl5.i ty5 rfl k.toNat) (xl5.ty ty29) (show rvh5 a0 1 = rvb1 a0 1 from (fl5.r ty4 rfl 1)) (fun ty34 ie59 ie61 ie62 ie63 ty35 ie65 ty36 re12 => ?_)
                    refine hv5 (show 0 ≤ ivh5 a0 5 ∧ ivh5 a0 5 ≤ 50 from W7.int ty34 5) (show 0 ≤ ivh5 a0 9 ∧ ivh5 a0 9 ≤ 100 from W7.int ty34 9) (show (-2147483648) ≤ ivh5 a0 10 ∧ ivh5 a0 10 ≤ 2147483647 from W7.int ty34 10) (show 0 ≤ ivh5 a0 6 ∧ ivh5 a0 6 ≤ 1 from W7.int ty34 6) (show (-2147483648) ≤ ivh5 cb0 k.toNat ∧ ivh5 cb0 k.toNat ≤ 2147483647 from W7.int ty35 k.toNat) (fun ri39 ri40 ri41 ri42 ri43 => ?_)
                    rw [hr.1] at re12
                    have re13 : rvh5 a0 2 = rvb1 a0 2 := (fl5.r ty4 rfl 2)
                    rw [hr.2] at re13
                    refine c_lv (lv2 := [(2, .int (iI 1)), (3, .int (iI (k + 1))), (0, .ref a0), (1, .int (iI n))]) [1, 0, 3, 4] rfl ?_
                    exact ih1  1 (k + 1) _ _ _ _ _ (by omega) X3 W7 F5  (by omega) (by omega) (ie59.trans hc5) ⟨re12, re13⟩ ⟨(ie61.trans hk9.1), (ie62.trans hk9.2.1), (ie63.trans hk9.2.2)⟩ ⟨(Eq.trans (fl5.r ty4 rfl 0) hr0.1), (Eq.trans (fl5.r ty4 rfl 8) hr0.2.1), (Eq.trans (fl5.r ty4 rfl 3) hr0.2.2)⟩ (fun j => (Eq.trans (fl5.i ty29 rfl j) (hE62 j))) (hJ.row ⟨by omega, by omega⟩ hnb0 hcb0 (fun a l0 l1 C F n hc => hc.fr hW hS t_a0 Fb1 (QT.of hW hS Xb1 Fb1 rfl rfl rfl rfl rfl) (by omega) (by omega) hr0.2.1 rfl rfl rfl rfl rfl) ⟨by omega, by omega⟩ (by omega) (Or.inl ⟨hb1zz1.mpr (by omega), exf2⟩) (WEF.plain ⟨by omega, by omega⟩ gf5) (by omega))
                · refine c_aload_n (j := 3) (x := a0) C dX4_write_87 rfl ?_
                  obtain ⟨rb5, rq5, trb5⟩ := Wb1.ref ty4 4 rfl rfl rfl
                  have erb5 := Wb1.sk trb5 (by decide) rfl
                  subst erb5
                  refine c_getr (k := 4) C ck_5 dX4_write_88 w1_233 (by decide) ty4 rfl rfl (by decide) rfl rq5 ?_
                  refine c_st (st2 := [.ref (sk 11)]) rfl ?_
                  refine c_aload (j := 0) (x := f2) C dX4_write_91 rfl ?_
                  refine c_get (k := 0) C ck_6 dX4_write_93 w3_136 (by decide) rgf2 rfl rfl (by decide) rfl ?_
                  refine c_iconst C dX4_write_96 ?_
                  refine c_icmp_ne (tgt := 105) C (r32_c (lo := (-2147483648)) (hi := 2147483647) ri17.1 ri17.2 (by decide) (by decide)) ⟨by decide, by decide⟩ dX4_write_97 (by decide) (fun _ => ?_) (fun z => absurd z (by omega))
                  refine c_bipush (z := 62) C dX4_write_105 (by decide) ?_
                  have ty37 := Xb1.ty tsk11
                  have ri44 : 0 ≤ ivb1 (sk 11) 2 ∧ ivb1 (sk 11) 2 ≤ 40000 := Wb1.int ty37 2
                  refine d_callV (As := [.int (iI 62)]) (rest := []) C hM (G_add_11 (a0 := (sk 11)) (x := 62) Wb1 skb1 ty37 ⟨by decide, by decide⟩ ) dX4_write_107 kV_X4_128 rfl ty37 rfl rfl (by decide) ck_2 rfl (Nat.le_of_ble_eq_true rfl) ⟨(Nat.le_of_ble_eq_true rfl), (Nat.le_of_ble_eq_true rfl)⟩ hph pl2 (show 0 + 0 = 0 from rfl) (by decide) (fun rh6 Lh6 clh6 lnh6 ivh6 rvh6 h6 => ?_)
                  obtain ⟨rfl, xl6, fl6, W8, exf6⟩ := h6
                  refine hv4 (Fb1.call Xb1 fl6 rfl) (Xb1.ty teb9) (Xb1.trans xl6) (xl6.skl skb1) (fun F6 ty38 X4 sk4 => ?_)
                  refine c_st (st2 := []) rfl ?_
                  refine hv2 (xl6.ty ty37) (show ((ivh6 (sk 11) 2 = ivb1 (sk 11) 2 ∧ ivb1 (sk 11) 2 = 40000) ∨ (ivh6 (sk 11) 2 = ivb1 (sk 11) 2 + 1 ∧ ivb1 (sk 11) 2 < 40000)) ∧ (∀ ss, CT ivb1 rvb1 (sk 11) ss → ivb1 (sk 11) 2 < 40000 → CT ivh6 rvh6 (sk 11) (va_up ss (ivb1 (sk 11) 2).toNat (62 : Int))) ∧ (ivb1 (sk 11) 2 = 40000 → ∀ ss, CT ivb1 rvb1 (sk 11) ss → CT ivh6 rvh6 (sk 11) ss) from exf6) (fun ty39 gf6 => ?_)
                  have ri45 : 0 ≤ ivh6 (sk 11) 2 ∧ ivh6 (sk 11) 2 ≤ 40000 := W8.int ty39 2
                  refine c_aload (j := 0) (x := f2) C dX4_write_110 rfl ?_
                  refine c_aload_n (j := 3) (x := a0) C dX4_write_112 rfl ?_
                  refine hv2 (xl6.ty ty4) (show rvh6 a0 4 = rvb1 a0 4 from (fl6.r ty4 rfl 4)) (fun ty40 re14 => ?_)
                  rw [rq5] at re14
                  refine c_getr (k := 4) C ck_5 dX4_write_113 w1_233 (by decide) ty40 rfl rfl (by decide) rfl re14 ?_
                  refine c_st (st2 := [.ref (sk 11), .ref f2]) rfl ?_
                  refine c_iload_n (j := 1) C dX4_write_116 rfl ?_
                  refine hv2 (xl6.ty rgf2) (Phi.le W8 sk4) (fun ty41 pl4 => ?_)
                  refine d_callV (As := [.ref (sk 11), .int (iI cc0)]) (rest := []) C hM (G_wl11 (a0 := f2) (a1 := (sk 11)) (g := cc0) W8 sk4 ty41 ty39 (by omega) (by show cc0 = 0 ∨ cc0 = 1; omega)) dX4_write_117 kV_X4_131 rfl ty41 rfl rfl (by decide) ck_6 rfl (Nat.le_of_ble_eq_true rfl) ⟨(Nat.le_of_ble_eq_true rfl), (Nat.le_of_ble_eq_true rfl)⟩ hph pl4 (show 0 + 0 = 0 from rfl) (by decide) (fun rh7 Lh7 clh7 lnh7 ivh7 rvh7 h7 => ?_)
                  obtain ⟨rfl, xl7, fl7, W9, exf7⟩ := h7
                  refine hv9 (F6.call X4 fl7 rfl) (xl6.ty ty9) (xl6.ty ty7) (xl6.ty ty8) (xl6.ty ty6) (xl6.ty ty5) (xl6.ty ty38) (X4.trans xl7) (xl7.skl sk4) (fun F7 ty42 ty43 ty44 ty45 ty46 ty47 X5 sk5 => ?_)
                  refine c_st (st2 := []) rfl ?_
                  have gf7 : WLC ivh6 rvh6 ivh7 rvh7 lnh6 f2 (sk 11) cc0 := exf7
                  refine c_aload (j := 0) (x := f2) C dX4_write_120 rfl ?_
                  refine hv3 (xl7.ty ty41) (show ivh7 f2 0 = ivh6 f2 0 from fl7.i ty41 rfl 0) (show ivh6 f2 0 = ivb1 f2 0 from fl6.i rgf2 rfl 0) (fun ty48 ie68 ie69 => ?_)
                  have ri46 : (-2147483648) ≤ ivh7 f2 0 ∧ ivh7 f2 0 ≤ 2147483647 := W9.int ty48 0
                  refine c_get (k := 0) C ck_6 dX4_write_122 w3_136 (by decide) ty48 rfl rfl (by decide) rfl ?_
                  refine c_if_ne (tgt := 132) C (r32_c (lo := (-2147483648)) (hi := 2147483647) ri46.1 ri46.2 (by decide) (by decide)) dX4_write_125 (by decide) (fun c8 => ?_) (fun c8 => ?_)
                  · refine c_iconst C dX4_write_132 ?_
                    refine c_istore_n (lv2 := [(2, .int (iI 0)), (4, .ref f2), (3, .int (iI k)), (0, .ref a0), (1, .int (iI n))]) C dX4_write_133 (by decide) rfl ?_
                    refine c_iinc (z := k) (j := 2) (lv2 := [(3, .int (iI (k + 1))), (2, .int (iI 0)), (4, .ref f2), (0, .ref a0), (1, .int (iI n))]) C dX4_write_134 rfl (by decide) rfl ?_
                    refine c_goto (tgt := 4) C dX4_write_137 (by decide) ?_
                    refine hv14 (xl7.ty ty40) (show ivh7 a0 5 = ivh6 a0 5 from fl7.i ty40 rfl 5) (show ivh6 a0 5 = ivb1 a0 5 from fl6.i ty4 rfl 5) (show ivh7 a0 9 = ivh6 a0 9 from fl7.i ty40 rfl 9) (show ivh6 a0 9 = ivb1 a0 9 from fl6.i ty4 rfl 9) (show ivh7 a0 10 = ivh6 a0 10 from fl7.i ty40 rfl 10) (show ivh6 a0 10 = ivb1 a0 10 from fl6.i ty4 rfl 10) (show ivh7 a0 6 = ivh6 a0 6 from fl7.i ty40 rfl 6) (show ivh6 a0 6 = ivb1 a0 6 from fl6.i ty4 rfl 6) (xl7.ty ty46) (show ivh7 cb0 k.toNat = ivh6 cb0 k.toNat from fl7.i ty46 rfl k.toNat) (show ivh6 cb0 k.toNat = ivb1 cb0 k.toNat from fl6.i ty5 rfl k.toNat) (xl7.ty ty47) (show rvh6 a0 1 = rvb1 a0 1 from (fl6.r ty4 rfl 1)) (fun ty49 ie70 ie71 ie73 ie74 ie75 ie76 ie77 ie78 ty50 ie80 ie81 ty51 re15 => ?_)
                    refine hv5 (show 0 ≤ ivh7 a0 5 ∧ ivh7 a0 5 ≤ 50 from W9.int ty49 5) (show 0 ≤ ivh7 a0 9 ∧ ivh7 a0 9 ≤ 100 from W9.int ty49 9) (show (-2147483648) ≤ ivh7 a0 10 ∧ ivh7 a0 10 ≤ 2147483647 from W9.int ty49 10) (show 0 ≤ ivh7 a0 6 ∧ ivh7 a0 6 ≤ 1 from W9.int ty49 6) (show (-2147483648) ≤ ivh7 cb0 k.toNat ∧ ivh7 cb0 k.toNat ≤ 2147483647 from W9.int ty50 k.toNat) (fun ri47 ri48 ri49 ri50 ri51 => ?_)
                    rw [hr.1] at re15
                    have re16 : rvh7 a0 1 = rvh6 a0 1 := (fl7.r ty40 rfl 1)
                    rw [re15] at re16
                    have re17 : rvh6 a0 2 = rvb1 a0 2 := (fl6.r ty4 rfl 2)
                    rw [hr.2] at re17
                    have re18 : rvh7 a0 2 = rvh6 a0 2 := (fl7.r ty40 rfl 2)
                    rw [re17] at re18
                    refine c_lv (lv2 := [(2, .int (iI 0)), (3, .int (iI (k + 1))), (0, .ref a0), (1, .int (iI n))]) [1, 0, 3, 4] rfl ?_
                    exact ih1  0 (k + 1) _ _ _ _ _ (by omega) X5 W9 F7  (by omega) (by omega) (ie70.trans (ie71.trans hc5)) ⟨re16, re18⟩ ⟨(ie73.trans (ie74.trans hk9.1)), (ie75.trans (ie76.trans hk9.2.1)), (ie77.trans (ie78.trans hk9.2.2))⟩ ⟨(Eq.trans (fl7.r ty40 rfl 0) (Eq.trans (fl6.r ty4 rfl 0) hr0.1)), (Eq.trans (fl7.r ty40 rfl 8) (Eq.trans (fl6.r ty4 rfl 8) hr0.2.1)), (Eq.trans (fl7.r ty40 rfl 3) (Eq.trans (fl6.r ty4 rfl 3) hr0.2.2))⟩ (fun j => (Eq.trans (fl7.i ty47 rfl j) (Eq.trans (fl6.i ty38 rfl j) (hE62 j)))) (hJ.row ⟨by omega, by omega⟩ hnb0 hcb0 (fun a l0 l1 C F n hc => hc.fr hW hS t_a0 Fb1 (QT.of hW hS Xb1 Fb1 rfl rfl rfl rfl rfl) (by omega) (by omega) hr0.2.1 rfl rfl rfl rfl rfl) ⟨by omega, by omega⟩ (by omega) (Or.inl ⟨hb1zz1.mpr (by omega), exf2⟩) (WEF.turn (by omega) gf6 (fun a d q => q.keep rgf2 Wb1 xl6 (KP.fr Wb1 fl6 rfl)) gf7) (by omega))
                  · refine c_iconst C dX4_write_128 ?_
                    refine c_goto (tgt := 133) C dX4_write_129 (by decide) ?_
                    refine c_istore_n (lv2 := [(2, .int (iI 1)), (4, .ref f2), (3, .int (iI k)), (0, .ref a0), (1, .int (iI n))]) C dX4_write_133 (by decide) rfl ?_
                    refine c_iinc (z := k) (j := 2) (lv2 := [(3, .int (iI (k + 1))), (2, .int (iI 1)), (4, .ref f2), (0, .ref a0), (1, .int (iI n))]) C dX4_write_134 rfl (by decide) rfl ?_
                    refine c_goto (tgt := 4) C dX4_write_137 (by decide) ?_
                    refine hv14 (xl7.ty ty40) (show ivh7 a0 5 = ivh6 a0 5 from fl7.i ty40 rfl 5) (show ivh6 a0 5 = ivb1 a0 5 from fl6.i ty4 rfl 5) (show ivh7 a0 9 = ivh6 a0 9 from fl7.i ty40 rfl 9) (show ivh6 a0 9 = ivb1 a0 9 from fl6.i ty4 rfl 9) (show ivh7 a0 10 = ivh6 a0 10 from fl7.i ty40 rfl 10) (show ivh6 a0 10 = ivb1 a0 10 from fl6.i ty4 rfl 10) (show ivh7 a0 6 = ivh6 a0 6 from fl7.i ty40 rfl 6) (show ivh6 a0 6 = ivb1 a0 6 from fl6.i ty4 rfl 6) (xl7.ty ty46) (show ivh7 cb0 k.toNat = ivh6 cb0 k.toNat from fl7.i ty46 rfl k.toNat) (show ivh6 cb0 k.toNat = ivb1 cb0 k.toNat from fl6.i ty5 rfl k.toNat) (xl7.ty ty47) (show rvh6 a0 1 = rvb1 a0 1 from (fl6.r ty4 rfl 1)) (fun ty52 ie82 ie83 ie85 ie86 ie87 ie88 ie89 ie90 ty53 ie92 ie93 ty54 re19 => ?_)
                    refine hv5 (show 0 ≤ ivh7 a0 5 ∧ ivh7 a0 5 ≤ 50 from W9.int ty52 5) (show 0 ≤ ivh7 a0 9 ∧ ivh7 a0 9 ≤ 100 from W9.int ty52 9) (show (-2147483648) ≤ ivh7 a0 10 ∧ ivh7 a0 10 ≤ 2147483647 from W9.int ty52 10) (show 0 ≤ ivh7 a0 6 ∧ ivh7 a0 6 ≤ 1 from W9.int ty52 6) (show (-2147483648) ≤ ivh7 cb0 k.toNat ∧ ivh7 cb0 k.toNat ≤ 2147483647 from W9.int ty53 k.toNat) (fun ri52 ri53 ri54 ri55 ri56 => ?_)
                    rw [hr.1] at re19
                    have re20 : rvh7 a0 1 = rvh6 a0 1 := (fl7.r ty40 rfl 1)
                    rw [re19] at re20
                    have re21 : rvh6 a0 2 = rvb1 a0 2 := (fl6.r ty4 rfl 2)
                    rw [hr.2] at re21
                    have re22 : rvh7 a0 2 = rvh6 a0 2 := (fl7.r ty40 rfl 2)
                    rw [re21] at re22
                    refine c_lv (lv2 := [(2, .int (iI 1)), (3, .int (iI (k + 1))), (0, .ref a0), (1, .int (iI n))]) [1, 0, 3, 4] rfl ?_
                    exact ih1  1 (k + 1) _ _ _ _ _ (by omega) X5 W9 F7  (by omega) (by omega) (ie82.trans (ie83.trans hc5)) ⟨re20, re22⟩ ⟨(ie85.trans (ie86.trans hk9.1)), (ie87.trans (ie88.trans hk9.2.1)), (ie89.trans (ie90.trans hk9.2.2))⟩ ⟨(Eq.trans (fl7.r ty40 rfl 0) (Eq.trans (fl6.r ty4 rfl 0) hr0.1)), (Eq.trans (fl7.r ty40 rfl 8) (Eq.trans (fl6.r ty4 rfl 8) hr0.2.1)), (Eq.trans (fl7.r ty40 rfl 3) (Eq.trans (fl6.r ty4 rfl 3) hr0.2.2))⟩ (fun j => (Eq.trans (fl7.i ty47 rfl j) (Eq.trans (fl6.i ty38 rfl j) (hE62 j)))) (hJ.row ⟨by omega, by omega⟩ hnb0 hcb0 (fun a l0 l1 C F n hc => hc.fr hW hS t_a0 Fb1 (QT.of hW hS Xb1 Fb1 rfl rfl rfl rfl rfl) (by omega) (by omega) hr0.2.1 rfl rfl rfl rfl rfl) ⟨by omega, by omega⟩ (by omega) (Or.inl ⟨hb1zz1.mpr (by omega), exf2⟩) (WEF.turn (by omega) gf6 (fun a d q => q.keep rgf2 Wb1 xl6 (KP.fr Wb1 fl6 rfl)) gf7) (by omega))
            · exact absurd exf1.1 (by decide)
          · refine c_iconst C dX4_write_45 ?_
            refine c_goto (tgt := 50) C dX4_write_46 (by decide) ?_
            refine hv2 (Xb1.ty tsk16) (Phi.le Wb1 skb1) (fun ty55 pl5 => ?_)
            refine d_callV (As := [.int (iI 1)]) (rest := []) C hM (C_rowsOf (a0 := (sk 16)) (g := 1) Wb1 skb1 ty55 ⟨by decide, by decide⟩ ) dX4_write_50 kV_X4_95 rfl ty55 rfl rfl (by decide) ck_4 rfl (Nat.le_of_ble_eq_true rfl) ⟨(Nat.le_of_ble_eq_true rfl), (Nat.le_of_ble_eq_true rfl)⟩ hph pl5 (show 0 + 0 = 0 from rfl) (by decide) (fun rh8 Lh8 clh8 lnh8 ivh8 rvh8 h8 => ?_)
            obtain ⟨f8, rfl, rfl, rfl, rfl, rfl, rfl, rgf8, exf8⟩ := h8
            refine c_st (st2 := [.ref f8]) rfl ?_
            rcases exf8 with exf8 | exf8
            · exact absurd exf8.1 (by decide)
            · obtain ⟨hf8, rfl⟩ := exf8
              refine c_st (st2 := [.ref (sk 25)]) rfl ?_
              refine c_aload_n (j := 2) (x := a0) C dX4_write_53 rfl ?_
              refine c_getr (k := 2) C ck_5 dX4_write_54 w1_231 (by decide) ty4 rfl rfl (by decide) rfl hr.2 ?_
              refine c_st (st2 := [.ref cb0, .ref (sk 25)]) rfl ?_
              refine c_iload_n (j := 1) C dX4_write_57 rfl ?_
              refine c_iald C dX4_write_58 ty5 rfl (by omega) (by omega) (by omega) ?_
              refine c_iconst C dX4_write_59 ?_
              refine c_isub C dX4_write_60 ?_
              refine d_callV (As := [.int (iI ((ivb1 cb0 k.toNat) - 1))]) (rest := []) C hM (C_get_25 (a0 := (sk 25)) (i := (ivb1 cb0 k.toNat) - 1) Wb1 skb1 ty8 (by omega) (by show 0 ≤ ((ivb1 cb0 k.toNat) - 1) ∧ ((ivb1 cb0 k.toNat) - 1) < ivb1 (sk 25) 2; omega)) dX4_write_61 kV_X4_110 rfl ty8 rfl rfl (by decide) ck_0 rfl (Nat.le_of_ble_eq_true rfl) ⟨(Nat.le_of_ble_eq_true rfl), (Nat.le_of_ble_eq_true rfl)⟩ hph pl5 (show 0 + 0 = 0 from rfl) (by decide) (fun rh9 Lh9 clh9 lnh9 ivh9 rvh9 h9 => ?_)
              obtain ⟨f9, rfl, rfl, rfl, rfl, rfl, rfl, rgf9, exf9⟩ := h9
              refine c_st (st2 := [.ref f9]) rfl ?_
              refine hv4 (show el rvb1 (sk 25) ((ivb1 cb0 k.toNat) - 1).toNat = some f9 from exf9) (show (-2147483648) ≤ ivb1 f9 0 ∧ ivb1 f9 0 ≤ 2147483647 from Wb1.int rgf9 0) (show 0 ≤ ivb1 a0 9 ∧ ivb1 a0 9 ≤ 100 from Wb1.int ty4 9) (show (-2147483648) ≤ ivb1 a0 10 ∧ ivb1 a0 10 ≤ 2147483647 from Wb1.int ty4 10) (fun gf9 ri57 ri58 ri59 => ?_)
              refine c_cast C ck_6 dX4_write_64 w5_149 w8_169t rgf9 rfl rfl (by decide) ?_
              refine c_astore (lv2 := [(4, .ref f9), (2, .int (iI cc0)), (3, .int (iI k)), (0, .ref a0), (1, .int (iI n))]) C dX4_write_67 (by decide) rfl ?_
              refine c_aload (j := 0) (x := f9) C dX4_write_69 rfl ?_
              refine c_get (k := 0) C ck_6 dX4_write_71 w3_136 (by decide) rgf9 rfl rfl (by decide) rfl ?_
              refine c_iconst C dX4_write_74 ?_
              refine c_icmp_eq (tgt := 87) C (r32_c (lo := (-2147483648)) (hi := 2147483647) ri57.1 ri57.2 (by decide) (by decide)) ⟨by decide, by decide⟩ dX4_write_75 (by decide) (fun c9 => ?_) (fun c9 => ?_)
              · refine c_aload_n (j := 3) (x := a0) C dX4_write_87 rfl ?_
                obtain ⟨rb6, rq6, trb6⟩ := Wb1.ref ty4 4 rfl rfl rfl
                have erb6 := Wb1.sk trb6 (by decide) rfl
                subst erb6
                refine c_getr (k := 4) C ck_5 dX4_write_88 w1_233 (by decide) ty4 rfl rfl (by decide) rfl rq6 ?_
                refine c_st (st2 := [.ref (sk 11)]) rfl ?_
                refine c_aload (j := 0) (x := f9) C dX4_write_91 rfl ?_
                refine c_get (k := 0) C ck_6 dX4_write_93 w3_136 (by decide) rgf9 rfl rfl (by decide) rfl ?_
                refine c_iconst C dX4_write_96 ?_
                refine c_icmp_ne (tgt := 105) C (r32_c (lo := (-2147483648)) (hi := 2147483647) ri57.1 ri57.2 (by decide) (by decide)) ⟨by decide, by decide⟩ dX4_write_97 (by decide) (fun z => absurd z (by omega)) (fun _ => ?_)
                refine c_bipush (z := 60) C dX4_write_100 (by decide) ?_
                refine c_goto (tgt := 107) C dX4_write_102 (by decide) ?_
                have ty56 := Xb1.ty tsk11
                have ri60 : 0 ≤ ivb1 (sk 11) 2 ∧ ivb1 (sk 11) 2 ≤ 40000 := Wb1.int ty56 2
                refine d_callV (As := [.int (iI 60)]) (rest := []) C hM (G_add_11 (a0 := (sk 11)) (x := 60) Wb1 skb1 ty56 ⟨by decide, by decide⟩ ) dX4_write_107 kV_X4_128 rfl ty56 rfl rfl (by decide) ck_2 rfl (Nat.le_of_ble_eq_true rfl) ⟨(Nat.le_of_ble_eq_true rfl), (Nat.le_of_ble_eq_true rfl)⟩ hph pl5 (show 0 + 0 = 0 from rfl) (by decide) (fun rh10 Lh10 clh10 lnh10 ivh10 rvh10 h10 => ?_)
                obtain ⟨rfl, xl10, fl10, W12, exf10⟩ := h10
                refine hv4 (Fb1.call Xb1 fl10 rfl) (Xb1.ty teb9) (Xb1.trans xl10) (xl10.skl skb1) (fun F8 ty57 X6 sk6 => ?_)
                refine c_st (st2 := []) rfl ?_
                refine hv2 (xl10.ty ty56) (show ((ivh10 (sk 11) 2 = ivb1 (sk 11) 2 ∧ ivb1 (sk 11) 2 = 40000) ∨ (ivh10 (sk 11) 2 = ivb1 (sk 11) 2 + 1 ∧ ivb1 (sk 11) 2 < 40000)) ∧ (∀ ss, CT ivb1 rvb1 (sk 11) ss → ivb1 (sk 11) 2 < 40000 → CT ivh10 rvh10 (sk 11) (va_up ss (ivb1 (sk 11) 2).toNat (60 : Int))) ∧ (ivb1 (sk 11) 2 = 40000 → ∀ ss, CT ivb1 rvb1 (sk 11) ss → CT ivh10 rvh10 (sk 11) ss) from exf10) (fun ty58 gf10 => ?_)
                have ri61 : 0 ≤ ivh10 (sk 11) 2 ∧ ivh10 (sk 11) 2 ≤ 40000 := W12.int ty58 2
                refine c_aload (j := 0) (x := f9) C dX4_write_110 rfl ?_
                refine c_aload_n (j := 3) (x := a0) C dX4_write_112 rfl ?_
                refine hv2 (xl10.ty ty4) (show rvh10 a0 4 = rvb1 a0 4 from (fl10.r ty4 rfl 4)) (fun ty59 re23 => ?_)
                rw [rq6] at re23
                refine c_getr (k := 4) C ck_5 dX4_write_113 w1_233 (by decide) ty59 rfl rfl (by decide) rfl re23 ?_
                refine c_st (st2 := [.ref (sk 11), .ref f9]) rfl ?_
                refine c_iload_n (j := 1) C dX4_write_116 rfl ?_
                refine hv2 (xl10.ty rgf9) (Phi.le W12 sk6) (fun ty60 pl6 => ?_)
                refine d_callV (As := [.ref (sk 11), .int (iI cc0)]) (rest := []) C hM (G_wl11 (a0 := f9) (a1 := (sk 11)) (g := cc0) W12 sk6 ty60 ty58 (by omega) (by show cc0 = 0 ∨ cc0 = 1; omega)) dX4_write_117 kV_X4_131 rfl ty60 rfl rfl (by decide) ck_6 rfl (Nat.le_of_ble_eq_true rfl) ⟨(Nat.le_of_ble_eq_true rfl), (Nat.le_of_ble_eq_true rfl)⟩ hph pl6 (show 0 + 0 = 0 from rfl) (by decide) (fun rh11 Lh11 clh11 lnh11 ivh11 rvh11 h11 => ?_)
                obtain ⟨rfl, xl11, fl11, W13, exf11⟩ := h11
                refine hv9 (F8.call X6 fl11 rfl) (xl10.ty ty55) (xl10.ty ty7) (xl10.ty ty8) (xl10.ty ty6) (xl10.ty ty5) (xl10.ty ty57) (X6.trans xl11) (xl11.skl sk6) (fun F9 ty61 ty62 ty63 ty64 ty65 ty66 X7 sk7 => ?_)
                refine c_st (st2 := []) rfl ?_
                have gf11 : WLC ivh10 rvh10 ivh11 rvh11 lnh10 f9 (sk 11) cc0 := exf11
                refine c_aload (j := 0) (x := f9) C dX4_write_120 rfl ?_
                refine hv3 (xl11.ty ty60) (show ivh11 f9 0 = ivh10 f9 0 from fl11.i ty60 rfl 0) (show ivh10 f9 0 = ivb1 f9 0 from fl10.i rgf9 rfl 0) (fun ty67 ie99 ie100 => ?_)
                have ri62 : (-2147483648) ≤ ivh11 f9 0 ∧ ivh11 f9 0 ≤ 2147483647 := W13.int ty67 0
                refine c_get (k := 0) C ck_6 dX4_write_122 w3_136 (by decide) ty67 rfl rfl (by decide) rfl ?_
                refine c_if_ne (tgt := 132) C (r32_c (lo := (-2147483648)) (hi := 2147483647) ri62.1 ri62.2 (by decide) (by decide)) dX4_write_125 (by decide) (fun c10 => ?_) (fun c10 => ?_)
                · refine c_iconst C dX4_write_132 ?_
                  refine c_istore_n (lv2 := [(2, .int (iI 0)), (4, .ref f9), (3, .int (iI k)), (0, .ref a0), (1, .int (iI n))]) C dX4_write_133 (by decide) rfl ?_
                  refine c_iinc (z := k) (j := 2) (lv2 := [(3, .int (iI (k + 1))), (2, .int (iI 0)), (4, .ref f9), (0, .ref a0), (1, .int (iI n))]) C dX4_write_134 rfl (by decide) rfl ?_
                  refine c_goto (tgt := 4) C dX4_write_137 (by decide) ?_
                  refine hv14 (xl11.ty ty59) (show ivh11 a0 5 = ivh10 a0 5 from fl11.i ty59 rfl 5) (show ivh10 a0 5 = ivb1 a0 5 from fl10.i ty4 rfl 5) (show ivh11 a0 9 = ivh10 a0 9 from fl11.i ty59 rfl 9) (show ivh10 a0 9 = ivb1 a0 9 from fl10.i ty4 rfl 9) (show ivh11 a0 10 = ivh10 a0 10 from fl11.i ty59 rfl 10) (show ivh10 a0 10 = ivb1 a0 10 from fl10.i ty4 rfl 10) (show ivh11 a0 6 = ivh10 a0 6 from fl11.i ty59 rfl 6) (show ivh10 a0 6 = ivb1 a0 6 from fl10.i ty4 rfl 6) (xl11.ty ty65) (show ivh11 cb0 k.toNat = ivh10 cb0 k.toNat from fl11.i ty65 rfl k.toNat) (show ivh10 cb0 k.toNat = ivb1 cb0 k.toNat from fl10.i ty5 rfl k.toNat) (xl11.ty ty66) (show rvh10 a0 1 = rvb1 a0 1 from (fl10.r ty4 rfl 1)) (fun ty68 ie101 ie102 ie104 ie105 ie106 ie107 ie108 ie109 ty69 ie111 ie112 ty70 re24 => ?_)
                  refine hv5 (show 0 ≤ ivh11 a0 5 ∧ ivh11 a0 5 ≤ 50 from W13.int ty68 5) (show 0 ≤ ivh11 a0 9 ∧ ivh11 a0 9 ≤ 100 from W13.int ty68 9) (show (-2147483648) ≤ ivh11 a0 10 ∧ ivh11 a0 10 ≤ 2147483647 from W13.int ty68 10) (show 0 ≤ ivh11 a0 6 ∧ ivh11 a0 6 ≤ 1 from W13.int ty68 6) (show (-2147483648) ≤ ivh11 cb0 k.toNat ∧ ivh11 cb0 k.toNat ≤ 2147483647 from W13.int ty69 k.toNat) (fun ri63 ri64 ri65 ri66 ri67 => ?_)
                  rw [hr.1] at re24
                  have re25 : rvh11 a0 1 = rvh10 a0 1 := (fl11.r ty59 rfl 1)
                  rw [re24] at re25
                  have re26 : rvh10 a0 2 = rvb1 a0 2 := (fl10.r ty4 rfl 2)
                  rw [hr.2] at re26
                  have re27 : rvh11 a0 2 = rvh10 a0 2 := (fl11.r ty59 rfl 2)
                  rw [re26] at re27
                  refine c_lv (lv2 := [(2, .int (iI 0)), (3, .int (iI (k + 1))), (0, .ref a0), (1, .int (iI n))]) [1, 0, 3, 4] rfl ?_
                  exact ih1  0 (k + 1) _ _ _ _ _ (by omega) X7 W13 F9  (by omega) (by omega) (ie101.trans (ie102.trans hc5)) ⟨re25, re27⟩ ⟨(ie104.trans (ie105.trans hk9.1)), (ie106.trans (ie107.trans hk9.2.1)), (ie108.trans (ie109.trans hk9.2.2))⟩ ⟨(Eq.trans (fl11.r ty59 rfl 0) (Eq.trans (fl10.r ty4 rfl 0) hr0.1)), (Eq.trans (fl11.r ty59 rfl 8) (Eq.trans (fl10.r ty4 rfl 8) hr0.2.1)), (Eq.trans (fl11.r ty59 rfl 3) (Eq.trans (fl10.r ty4 rfl 3) hr0.2.2))⟩ (fun j => (Eq.trans (fl11.i ty66 rfl j) (Eq.trans (fl10.i ty57 rfl j) (hE62 j)))) (hJ.row ⟨by omega, by omega⟩ hnb0 hcb0 (fun a l0 l1 C F n hc => hc.fr hW hS t_a0 Fb1 (QT.of hW hS Xb1 Fb1 rfl rfl rfl rfl rfl) (by omega) (by omega) hr0.2.1 rfl rfl rfl rfl rfl) ⟨by omega, by omega⟩ (by omega) (Or.inr ⟨fun q => absurd (hb1zz1.mp q) (by omega), exf9⟩) (WEF.turn (by omega) gf10 (fun a d q => q.keep rgf9 Wb1 xl10 (KP.fr Wb1 fl10 rfl)) gf11) (by omega))
                · refine c_iconst C dX4_write_128 ?_
                  refine c_goto (tgt := 133) C dX4_write_129 (by decide) ?_
                  refine c_istore_n (lv2 := [(2, .int (iI 1)), (4, .ref f9), (3, .int (iI k)), (0, .ref a0), (1, .int (iI n))]) C dX4_write_133 (by decide) rfl ?_
                  refine c_iinc (z := k) (j := 2) (lv2 := [(3, .int (iI (k + 1))), (2, .int (iI 1)), (4, .ref f9), (0, .ref a0), (1, .int (iI n))]) C dX4_write_134 rfl (by decide) rfl ?_
                  refine c_goto (tgt := 4) C dX4_write_137 (by decide) ?_
                  refine hv14 (xl11.ty ty59) (show ivh11 a0 5 = ivh10 a0 5 from fl11.i ty59 rfl 5) (show ivh10 a0 5 = ivb1 a0 5 from fl10.i ty4 rfl 5) (show ivh11 a0 9 = ivh10 a0 9 from fl11.i ty59 rfl 9) (show ivh10 a0 9 = ivb1 a0 9 from fl10.i ty4 rfl 9) (show ivh11 a0 10 = ivh10 a0 10 from fl11.i ty59 rfl 10) (show ivh10 a0 10 = ivb1 a0 10 from fl10.i ty4 rfl 10) (show ivh11 a0 6 = ivh10 a0 6 from fl11.i ty59 rfl 6) (show ivh10 a0 6 = ivb1 a0 6 from fl10.i ty4 rfl 6) (xl11.ty ty65) (show ivh11 cb0 k.toNat = ivh10 cb0 k.toNat from fl11.i ty65 rfl k.toNat) (show ivh10 cb0 k.toNat = ivb1 cb0 k.toNat from fl10.i ty5 rfl k.toNat) (xl11.ty ty66) (show rvh10 a0 1 = rvb1 a0 1 from (fl10.r ty4 rfl 1)) (fun ty71 ie113 ie114 ie116 ie117 ie118 ie119 ie120 ie121 ty72 ie123 ie124 ty73 re28 => ?_)
                  refine hv5 (show 0 ≤ ivh11 a0 5 ∧ ivh11 a0 5 ≤ 50 from W13.int ty71 5) (show 0 ≤ ivh11 a0 9 ∧ ivh11 a0 9 ≤ 100 from W13.int ty71 9) (show (-2147483648) ≤ ivh11 a0 10 ∧ ivh11 a0 10 ≤ 2147483647 from W13.int ty71 10) (show 0 ≤ ivh11 a0 6 ∧ ivh11 a0 6 ≤ 1 from W13.int ty71 6) (show (-2147483648) ≤ ivh11 cb0 k.toNat ∧ ivh11 cb0 k.toNat ≤ 2147483647 from W13.int ty72 k.toNat) (fun ri68 ri69 ri70 ri71 ri72 => ?_)
                  rw [hr.1] at re28
                  have re29 : rvh11 a0 1 = rvh10 a0 1 := (fl11.r ty59 rfl 1)
                  rw [re28] at re29
                  have re30 : rvh10 a0 2 = rvb1 a0 2 := (fl10.r ty4 rfl 2)
                  rw [hr.2] at re30
                  have re31 : rvh11 a0 2 = rvh10 a0 2 := (fl11.r ty59 rfl 2)
                  rw [re30] at re31
                  refine c_lv (lv2 := [(2, .int (iI 1)), (3, .int (iI (k + 1))), (0, .ref a0), (1, .int (iI n))]) [1, 0, 3, 4] rfl ?_
                  exact ih1  1 (k + 1) _ _ _ _ _ (by omega) X7 W13 F9  (by omega) (by omega) (ie113.trans (ie114.trans hc5)) ⟨re29, re31⟩ ⟨(ie116.trans (ie117.trans hk9.1)), (ie118.trans (ie119.trans hk9.2.1)), (ie120.trans (ie121.trans hk9.2.2))⟩ ⟨(Eq.trans (fl11.r ty59 rfl 0) (Eq.trans (fl10.r ty4 rfl 0) hr0.1)), (Eq.trans (fl11.r ty59 rfl 8) (Eq.trans (fl10.r ty4 rfl 8) hr0.2.1)), (Eq.trans (fl11.r ty59 rfl 3) (Eq.trans (fl10.r ty4 rfl 3) hr0.2.2))⟩ (fun j => (Eq.trans (fl11.i ty66 rfl j) (Eq.trans (fl10.i ty57 rfl j) (hE62 j)))) (hJ.row ⟨by omega, by omega⟩ hnb0 hcb0 (fun a l0 l1 C F n hc => hc.fr hW hS t_a0 Fb1 (QT.of hW hS Xb1 Fb1 rfl rfl rfl rfl rfl) (by omega) (by omega) hr0.2.1 rfl rfl rfl rfl rfl) ⟨by omega, by omega⟩ (by omega) (Or.inr ⟨fun q => absurd (hb1zz1.mp q) (by omega), exf9⟩) (WEF.turn (by omega) gf10 (fun a d q => q.keep rgf9 Wb1 xl10 (KP.fr Wb1 fl10 rfl)) gf11) (by omega))
              · refine c_aload (j := 0) (x := f9) C dX4_write_78 rfl ?_
                refine c_get (k := 0) C ck_6 dX4_write_80 w3_136 (by decide) rgf9 rfl rfl (by decide) rfl ?_
                refine c_iconst C dX4_write_83 ?_
                refine c_icmp_ne (tgt := 110) C (r32_c (lo := (-2147483648)) (hi := 2147483647) ri57.1 ri57.2 (by decide) (by decide)) ⟨by decide, by decide⟩ dX4_write_84 (by decide) (fun c11 => ?_) (fun c11 => ?_)
                · refine c_aload (j := 0) (x := f9) C dX4_write_110 rfl ?_
                  refine c_aload_n (j := 3) (x := a0) C dX4_write_112 rfl ?_
                  obtain ⟨rb7, rq7, trb7⟩ := Wb1.ref ty4 4 rfl rfl rfl
                  have erb7 := Wb1.sk trb7 (by decide) rfl
                  subst erb7
                  refine c_getr (k := 4) C ck_5 dX4_write_113 w1_233 (by decide) ty4 rfl rfl (by decide) rfl rq7 ?_
                  refine c_st (st2 := [.ref (sk 11), .ref f9]) rfl ?_
                  refine c_iload_n (j := 1) C dX4_write_116 rfl ?_
                  have ty74 := Xb1.ty tsk11
                  refine d_callV (As := [.ref (sk 11), .int (iI cc0)]) (rest := []) C hM (G_wl11 (a0 := f9) (a1 := (sk 11)) (g := cc0) Wb1 skb1 rgf9 ty74 (by omega) (by show cc0 = 0 ∨ cc0 = 1; omega)) dX4_write_117 kV_X4_131 rfl rgf9 rfl rfl (by decide) ck_6 rfl (Nat.le_of_ble_eq_true rfl) ⟨(Nat.le_of_ble_eq_true rfl), (Nat.le_of_ble_eq_true rfl)⟩ hph pl5 (show 0 + 0 = 0 from rfl) (by decide) (fun rh12 Lh12 clh12 lnh12 ivh12 rvh12 h12 => ?_)
                  obtain ⟨rfl, xl12, fl12, W14, exf12⟩ := h12
                  refine hv4 (Fb1.call Xb1 fl12 rfl) (Xb1.ty teb9) (Xb1.trans xl12) (xl12.skl skb1) (fun F10 ty75 X8 sk8 => ?_)
                  refine c_st (st2 := []) rfl ?_
                  have gf12 : WLC ivb1 rvb1 ivh12 rvh12 lnb1 f9 (sk 11) cc0 := exf12
                  refine c_aload (j := 0) (x := f9) C dX4_write_120 rfl ?_
                  refine hv2 (xl12.ty rgf9) (show ivh12 f9 0 = ivb1 f9 0 from fl12.i rgf9 rfl 0) (fun ty76 ie125 => ?_)
                  have ri73 : (-2147483648) ≤ ivh12 f9 0 ∧ ivh12 f9 0 ≤ 2147483647 := W14.int ty76 0
                  refine c_get (k := 0) C ck_6 dX4_write_122 w3_136 (by decide) ty76 rfl rfl (by decide) rfl ?_
                  refine c_if_ne (tgt := 132) C (r32_c (lo := (-2147483648)) (hi := 2147483647) ri73.1 ri73.2 (by decide) (by decide)) dX4_write_125 (by decide) (fun c12 => ?_) (fun c12 => ?_)
                  · refine c_iconst C dX4_write_132 ?_
                    refine c_istore_n (lv2 := [(2, .int (iI 0)), (4, .ref f9), (3, .int (iI k)), (0, .ref a0), (1, .int (iI n))]) C dX4_write_133 (by decide) rfl ?_
                    refine c_iinc (z := k) (j := 2) (lv2 := [(3, .int (iI (k + 1))), (2, .int (iI 0)), (4, .ref f9), (0, .ref a0), (1, .int (iI n))]) C dX4_write_134 rfl (by decide) rfl ?_
                    refine c_goto (tgt := 4) C dX4_write_137 (by decide) ?_
                    refine hv9 (xl12.ty ty4) (show ivh12 a0 5 = ivb1 a0 5 from fl12.i ty4 rfl 5) (show ivh12 a0 9 = ivb1 a0 9 from fl12.i ty4 rfl 9) (show ivh12 a0 10 = ivb1 a0 10 from fl12.i ty4 rfl 10) (show ivh12 a0 6 = ivb1 a0 6 from fl12.i ty4 rfl 6) (xl12.ty ty5) (show ivh12 cb0 k.toNat = ivb1 cb0 k.toNat from fl12.i ty5 rfl k.toNat) (xl12.ty ty75) (show rvh12 a0 1 = rvb1 a0 1 from (fl12.r ty4 rfl 1)) (fun ty77 ie126 ie128 ie129 ie130 ty78 ie132 ty79 re32 => ?_)
                    refine hv5 (show 0 ≤ ivh12 a0 5 ∧ ivh12 a0 5 ≤ 50 from W14.int ty77 5) (show 0 ≤ ivh12 a0 9 ∧ ivh12 a0 9 ≤ 100 from W14.int ty77 9) (show (-2147483648) ≤ ivh12 a0 10 ∧ ivh12 a0 10 ≤ 2147483647 from W14.int ty77 10) (show 0 ≤ ivh12 a0 6 ∧ ivh12 a0 6 ≤ 1 from W14.int ty77 6) (show (-2147483648) ≤ ivh12 cb0 k.toNat ∧ ivh12 cb0 k.toNat ≤ 2147483647 from W14.int ty78 k.toNat) (fun ri74 ri75 ri76 ri77 ri78 => ?_)
                    rw [hr.1] at re32
                    have re33 : rvh12 a0 2 = rvb1 a0 2 := (fl12.r ty4 rfl 2)
                    rw [hr.2] at re33
                    refine c_lv (lv2 := [(2, .int (iI 0)), (3, .int (iI (k + 1))), (0, .ref a0), (1, .int (iI n))]) [1, 0, 3, 4] rfl ?_
                    exact ih1  0 (k + 1) _ _ _ _ _ (by omega) X8 W14 F10  (by omega) (by omega) (ie126.trans hc5) ⟨re32, re33⟩ ⟨(ie128.trans hk9.1), (ie129.trans hk9.2.1), (ie130.trans hk9.2.2)⟩ ⟨(Eq.trans (fl12.r ty4 rfl 0) hr0.1), (Eq.trans (fl12.r ty4 rfl 8) hr0.2.1), (Eq.trans (fl12.r ty4 rfl 3) hr0.2.2)⟩ (fun j => (Eq.trans (fl12.i ty75 rfl j) (hE62 j))) (hJ.row ⟨by omega, by omega⟩ hnb0 hcb0 (fun a l0 l1 C F n hc => hc.fr hW hS t_a0 Fb1 (QT.of hW hS Xb1 Fb1 rfl rfl rfl rfl rfl) (by omega) (by omega) hr0.2.1 rfl rfl rfl rfl rfl) ⟨by omega, by omega⟩ (by omega) (Or.inr ⟨fun q => absurd (hb1zz1.mp q) (by omega), exf9⟩) (WEF.plain ⟨by omega, by omega⟩ gf12) (by omega))
                  · refine c_iconst C dX4_write_128 ?_
                    refine c_goto (tgt := 133) C dX4_write_129 (by decide) ?_
                    refine c_istore_n (lv2 := [(2, .int (iI 1)), (4, .ref f9), (3, .int (iI k)), (0, .ref a0), (1, .int (iI n))]) C dX4_write_133 (by decide) rfl ?_
                    refine c_iinc (z := k) (j := 2) (lv2 := [(3, .int (iI (k + 1))), (2, .int (iI 1)), (4, .ref f9), (0, .ref a0), (1, .int (iI n))]) C dX4_write_134 rfl (by decide) rfl ?_
                    refine c_goto (tgt := 4) C dX4_write_137 (by decide) ?_
                    refine hv9 (xl12.ty ty4) (show ivh12 a0 5 = ivb1 a0 5 from fl12.i ty4 rfl 5) (show ivh12 a0 9 = ivb1 a0 9 from fl12.i ty4 rfl 9) (show ivh12 a0 10 = ivb1 a0 10 from fl12.i ty4 rfl 10) (show ivh12 a0 6 = ivb1 a0 6 from fl12.i ty4 rfl 6) (xl12.ty ty5) (show ivh12 cb0 k.toNat = ivb1 cb0 k.toNat from fl12.i ty5 rfl k.toNat) (xl12.ty ty75) (show rvh12 a0 1 = rvb1 a0 1 from (fl12.r ty4 rfl 1)) (fun ty80 ie133 ie135 ie136 ie137 ty81 ie139 ty82 re34 => ?_)
                    refine hv5 (show 0 ≤ ivh12 a0 5 ∧ ivh12 a0 5 ≤ 50 from W14.int ty80 5) (show 0 ≤ ivh12 a0 9 ∧ ivh12 a0 9 ≤ 100 from W14.int ty80 9) (show (-2147483648) ≤ ivh12 a0 10 ∧ ivh12 a0 10 ≤ 2147483647 from W14.int ty80 10) (show 0 ≤ ivh12 a0 6 ∧ ivh12 a0 6 ≤ 1 from W14.int ty80 6) (show (-2147483648) ≤ ivh12 cb0 k.toNat ∧ ivh12 cb0 k.toNat ≤ 2147483647 from W14.int ty81 k.toNat) (fun ri79 ri80 ri81 ri82 ri83 => ?_)
                    rw [hr.1] at re34
                    have re35 : rvh12 a0 2 = rvb1 a0 2 := (fl12.r ty4 rfl 2)
                    rw [hr.2] at re35
                    refine c_lv (lv2 := [(2, .int (iI 1)), (3, .int (iI (k + 1))), (0, .ref a0), (1, .int (iI n))]) [1, 0, 3, 4] rfl ?_
                    exact ih1  1 (k + 1) _ _ _ _ _ (by omega) X8 W14 F10  (by omega) (by omega) (ie133.trans hc5) ⟨re34, re35⟩ ⟨(ie135.trans hk9.1), (ie136.trans hk9.2.1), (ie137.trans hk9.2.2)⟩ ⟨(Eq.trans (fl12.r ty4 rfl 0) hr0.1), (Eq.trans (fl12.r ty4 rfl 8) hr0.2.1), (Eq.trans (fl12.r ty4 rfl 3) hr0.2.2)⟩ (fun j => (Eq.trans (fl12.i ty75 rfl j) (hE62 j))) (hJ.row ⟨by omega, by omega⟩ hnb0 hcb0 (fun a l0 l1 C F n hc => hc.fr hW hS t_a0 Fb1 (QT.of hW hS Xb1 Fb1 rfl rfl rfl rfl rfl) (by omega) (by omega) hr0.2.1 rfl rfl rfl rfl rfl) ⟨by omega, by omega⟩ (by omega) (Or.inr ⟨fun q => absurd (hb1zz1.mp q) (by omega), exf9⟩) (WEF.plain ⟨by omega, by omega⟩ gf12) (by omega))
                · refine c_aload_n (j := 3) (x := a0) C dX4_write_87 rfl ?_
                  obtain ⟨rb8, rq8, trb8⟩ := Wb1.ref ty4 4 rfl rfl rfl
                  have erb8 := Wb1.sk trb8 (by decide) rfl
                  subst erb8
                  refine c_getr (k := 4) C ck_5 dX4_write_88 w1_233 (by decide) ty4 rfl rfl (by decide) rfl rq8 ?_
                  refine c_st (st2 := [.ref (sk 11)]) rfl ?_
                  refine c_aload (j := 0) (x := f9) C dX4_write_91 rfl ?_
                  refine c_get (k := 0) C ck_6 dX4_write_93 w3_136 (by decide) rgf9 rfl rfl (by decide) rfl ?_
                  refine c_iconst C dX4_write_96 ?_
                  refine c_icmp_ne (tgt := 105) C (r32_c (lo := (-2147483648)) (hi := 2147483647) ri57.1 ri57.2 (by decide) (by decide)) ⟨by decide, by decide⟩ dX4_write_97 (by decide) (fun _ => ?_) (fun z => absurd z (by omega))
                  refine c_bipush (z := 62) C dX4_write_105 (by decide) ?_
                  have ty83 := Xb1.ty tsk11
                  have ri84 : 0 ≤ ivb1 (sk 11) 2 ∧ ivb1 (sk 11) 2 ≤ 40000 := Wb1.int ty83 2
                  refine d_callV (As := [.int (iI 62)]) (rest := []) C hM (G_add_11 (a0 := (sk 11)) (x := 62) Wb1 skb1 ty83 ⟨by decide, by decide⟩ ) dX4_write_107 kV_X4_128 rfl ty83 rfl rfl (by decide) ck_2 rfl (Nat.le_of_ble_eq_true rfl) ⟨(Nat.le_of_ble_eq_true rfl), (Nat.le_of_ble_eq_true rfl)⟩ hph pl5 (show 0 + 0 = 0 from rfl) (by decide) (fun rh13 Lh13 clh13 lnh13 ivh13 rvh13 h13 => ?_)
                  obtain ⟨rfl, xl13, fl13, W15, exf13⟩ := h13
                  refine hv4 (Fb1.call Xb1 fl13 rfl) (Xb1.ty teb9) (Xb1.trans xl13) (xl13.skl skb1) (fun F11 ty84 X9 sk9 => ?_)
                  refine c_st (st2 := []) rfl ?_
                  refine hv2 (xl13.ty ty83) (show ((ivh13 (sk 11) 2 = ivb1 (sk 11) 2 ∧ ivb1 (sk 11) 2 = 40000) ∨ (ivh13 (sk 11) 2 = ivb1 (sk 11) 2 + 1 ∧ ivb1 (sk 11) 2 < 40000)) ∧ (∀ ss, CT ivb1 rvb1 (sk 11) ss → ivb1 (sk 11) 2 < 40000 → CT ivh13 rvh13 (sk 11) (va_up ss (ivb1 (sk 11) 2).toNat (62 : Int))) ∧ (ivb1 (sk 11) 2 = 40000 → ∀ ss, CT ivb1 rvb1 (sk 11) ss → CT ivh13 rvh13 (sk 11) ss) from exf13) (fun ty85 gf13 => ?_)
                  have ri85 : 0 ≤ ivh13 (sk 11) 2 ∧ ivh13 (sk 11) 2 ≤ 40000 := W15.int ty85 2
                  refine c_aload (j := 0) (x := f9) C dX4_write_110 rfl ?_
                  refine c_aload_n (j := 3) (x := a0) C dX4_write_112 rfl ?_
                  refine hv2 (xl13.ty ty4) (show rvh13 a0 4 = rvb1 a0 4 from (fl13.r ty4 rfl 4)) (fun ty86 re36 => ?_)
                  rw [rq8] at re36
                  refine c_getr (k := 4) C ck_5 dX4_write_113 w1_233 (by decide) ty86 rfl rfl (by decide) rfl re36 ?_
                  refine c_st (st2 := [.ref (sk 11), .ref f9]) rfl ?_
                  refine c_iload_n (j := 1) C dX4_write_116 rfl ?_
                  refine hv2 (xl13.ty rgf9) (Phi.le W15 sk9) (fun ty87 pl7 => ?_)
                  refine d_callV (As := [.ref (sk 11), .int (iI cc0)]) (rest := []) C hM (G_wl11 (a0 := f9) (a1 := (sk 11)) (g := cc0) W15 sk9 ty87 ty85 (by omega) (by show cc0 = 0 ∨ cc0 = 1; omega)) dX4_write_117 kV_X4_131 rfl ty87 rfl rfl (by decide) ck_6 rfl (Nat.le_of_ble_eq_true rfl) ⟨(Nat.le_of_ble_eq_true rfl), (Nat.le_of_ble_eq_true rfl)⟩ hph pl7 (show 0 + 0 = 0 from rfl) (by decide) (fun rh14 Lh14 clh14 lnh14 ivh14 rvh14 h14 => ?_)
                  obtain ⟨rfl, xl14, fl14, W16, exf14⟩ := h14
                  refine hv9 (F11.call X9 fl14 rfl) (xl13.ty ty55) (xl13.ty ty7) (xl13.ty ty8) (xl13.ty ty6) (xl13.ty ty5) (xl13.ty ty84) (X9.trans xl14) (xl14.skl sk9) (fun F12 ty88 ty89 ty90 ty91 ty92 ty93 X10 sk10 => ?_)
                  refine c_st (st2 := []) rfl ?_
                  have gf14 : WLC ivh13 rvh13 ivh14 rvh14 lnh13 f9 (sk 11) cc0 := exf14
                  refine c_aload (j := 0) (x := f9) C dX4_write_120 rfl ?_
                  refine hv3 (xl14.ty ty87) (show ivh14 f9 0 = ivh13 f9 0 from fl14.i ty87 rfl 0) (show ivh13 f9 0 = ivb1 f9 0 from fl13.i rgf9 rfl 0) (fun ty94 ie142 ie143 => ?_)
                  have ri86 : (-2147483648) ≤ ivh14 f9 0 ∧ ivh14 f9 0 ≤ 2147483647 := W16.int ty94 0
                  refine c_get (k := 0) C ck_6 dX4_write_122 w3_136 (by decide) ty94 rfl rfl (by decide) rfl ?_
                  refine c_if_ne (tgt := 132) C (r32_c (lo := (-2147483648)) (hi := 2147483647) ri86.1 ri86.2 (by decide) (by decide)) dX4_write_125 (by decide) (fun c13 => ?_) (fun c13 => ?_)
                  · refine c_iconst C dX4_write_132 ?_
                    refine c_istore_n (lv2 := [(2, .int (iI 0)), (4, .ref f9), (3, .int (iI k)), (0, .ref a0), (1, .int (iI n))]) C dX4_write_133 (by decide) rfl ?_
                    refine c_iinc (z := k) (j := 2) (lv2 := [(3, .int (iI (k + 1))), (2, .int (iI 0)), (4, .ref f9), (0, .ref a0), (1, .int (iI n))]) C dX4_write_134 rfl (by decide) rfl ?_
                    refine c_goto (tgt := 4) C dX4_write_137 (by decide) ?_
                    refine hv14 (xl14.ty ty86) (show ivh14 a0 5 = ivh13 a0 5 from fl14.i ty86 rfl 5) (show ivh13 a0 5 = ivb1 a0 5 from fl13.i ty4 rfl 5) (show ivh14 a0 9 = ivh13 a0 9 from fl14.i ty86 rfl 9) (show ivh13 a0 9 = ivb1 a0 9 from fl13.i ty4 rfl 9) (show ivh14 a0 10 = ivh13 a0 10 from fl14.i ty86 rfl 10) (show ivh13 a0 10 = ivb1 a0 10 from fl13.i ty4 rfl 10) (show ivh14 a0 6 = ivh13 a0 6 from fl14.i ty86 rfl 6) (show ivh13 a0 6 = ivb1 a0 6 from fl13.i ty4 rfl 6) (xl14.ty ty92) (show ivh14 cb0 k.toNat = ivh13 cb0 k.toNat from fl14.i ty92 rfl k.toNat) (show ivh13 cb0 k.toNat = ivb1 cb0 k.toNat from fl13.i ty5 rfl k.toNat) (xl14.ty ty93) (show rvh13 a0 1 = rvb1 a0 1 from (fl13.r ty4 rfl 1)) (fun ty95 ie144 ie145 ie147 ie148 ie149 ie150 ie151 ie152 ty96 ie154 ie155 ty97 re37 => ?_)
                    refine hv5 (show 0 ≤ ivh14 a0 5 ∧ ivh14 a0 5 ≤ 50 from W16.int ty95 5) (show 0 ≤ ivh14 a0 9 ∧ ivh14 a0 9 ≤ 100 from W16.int ty95 9) (show (-2147483648) ≤ ivh14 a0 10 ∧ ivh14 a0 10 ≤ 2147483647 from W16.int ty95 10) (show 0 ≤ ivh14 a0 6 ∧ ivh14 a0 6 ≤ 1 from W16.int ty95 6) (show (-2147483648) ≤ ivh14 cb0 k.toNat ∧ ivh14 cb0 k.toNat ≤ 2147483647 from W16.int ty96 k.toNat) (fun ri87 ri88 ri89 ri90 ri91 => ?_)
                    rw [hr.1] at re37
                    have re38 : rvh14 a0 1 = rvh13 a0 1 := (fl14.r ty86 rfl 1)
                    rw [re37] at re38
                    have re39 : rvh13 a0 2 = rvb1 a0 2 := (fl13.r ty4 rfl 2)
                    rw [hr.2] at re39
                    have re40 : rvh14 a0 2 = rvh13 a0 2 := (fl14.r ty86 rfl 2)
                    rw [re39] at re40
                    refine c_lv (lv2 := [(2, .int (iI 0)), (3, .int (iI (k + 1))), (0, .ref a0), (1, .int (iI n))]) [1, 0, 3, 4] rfl ?_
                    exact ih1  0 (k + 1) _ _ _ _ _ (by omega) X10 W16 F12  (by omega) (by omega) (ie144.trans (ie145.trans hc5)) ⟨re38, re40⟩ ⟨(ie147.trans (ie148.trans hk9.1)), (ie149.trans (ie150.trans hk9.2.1)), (ie151.trans (ie152.trans hk9.2.2))⟩ ⟨(Eq.trans (fl14.r ty86 rfl 0) (Eq.trans (fl13.r ty4 rfl 0) hr0.1)), (Eq.trans (fl14.r ty86 rfl 8) (Eq.trans (fl13.r ty4 rfl 8) hr0.2.1)), (Eq.trans (fl14.r ty86 rfl 3) (Eq.trans (fl13.r ty4 rfl 3) hr0.2.2))⟩ (fun j => (Eq.trans (fl14.i ty93 rfl j) (Eq.trans (fl13.i ty84 rfl j) (hE62 j)))) (hJ.row ⟨by omega, by omega⟩ hnb0 hcb0 (fun a l0 l1 C F n hc => hc.fr hW hS t_a0 Fb1 (QT.of hW hS Xb1 Fb1 rfl rfl rfl rfl rfl) (by omega) (by omega) hr0.2.1 rfl rfl rfl rfl rfl) ⟨by omega, by omega⟩ (by omega) (Or.inr ⟨fun q => absurd (hb1zz1.mp q) (by omega), exf9⟩) (WEF.turn (by omega) gf13 (fun a d q => q.keep rgf9 Wb1 xl13 (KP.fr Wb1 fl13 rfl)) gf14) (by omega))
                  · refine c_iconst C dX4_write_128 ?_
                    refine c_goto (tgt := 133) C dX4_write_129 (by decide) ?_
                    refine c_istore_n (lv2 := [(2, .int (iI 1)), (4, .ref f9), (3, .int (iI k)), (0, .ref a0), (1, .int (iI n))]) C dX4_write_133 (by decide) rfl ?_
                    refine c_iinc (z := k) (j := 2) (lv2 := [(3, .int (iI (k + 1))), (2, .int (iI 1)), (4, .ref f9), (0, .ref a0), (1, .int (iI n))]) C dX4_write_134 rfl (by decide) rfl ?_
                    refine c_goto (tgt := 4) C dX4_write_137 (by decide) ?_
                    refine hv14 (xl14.ty ty86) (show ivh14 a0 5 = ivh13 a0 5 from fl14.i ty86 rfl 5) (show ivh13 a0 5 = ivb1 a0 5 from fl13.i ty4 rfl 5) (show ivh14 a0 9 = ivh13 a0 9 from fl14.i ty86 rfl 9) (show ivh13 a0 9 = ivb1 a0 9 from fl13.i ty4 rfl 9) (show ivh14 a0 10 = ivh13 a0 10 from fl14.i ty86 rfl 10) (show ivh13 a0 10 = ivb1 a0 10 from fl13.i ty4 rfl 10) (show ivh14 a0 6 = ivh13 a0 6 from fl14.i ty86 rfl 6) (show ivh13 a0 6 = ivb1 a0 6 from fl13.i ty4 rfl 6) (xl14.ty ty92) (show ivh14 cb0 k.toNat = ivh13 cb0 k.toNat from fl14.i ty92 rfl k.toNat) (show ivh13 cb0 k.toNat = ivb1 cb0 k.toNat from fl13.i ty5 rfl k.toNat) (xl14.ty ty93) (show rvh13 a0 1 = rvb1 a0 1 from (fl13.r ty4 rfl 1)) (fun ty98 ie156 ie157 ie159 ie160 ie161 ie162 ie163 ie164 ty99 ie166 ie167 ty100 re41 => ?_)
                    refine hv5 (show 0 ≤ ivh14 a0 5 ∧ ivh14 a0 5 ≤ 50 from W16.int ty98 5) (show 0 ≤ ivh14 a0 9 ∧ ivh14 a0 9 ≤ 100 from W16.int ty98 9) (show (-2147483648) ≤ ivh14 a0 10 ∧ ivh14 a0 10 ≤ 2147483647 from W16.int ty98 10) (show 0 ≤ ivh14 a0 6 ∧ ivh14 a0 6 ≤ 1 from W16.int ty98 6) (show (-2147483648) ≤ ivh14 cb0 k.toNat ∧ ivh14 cb0 k.toNat ≤ 2147483647 from W16.int ty99 k.toNat) (fun ri92 ri93 ri94 ri95 ri96 => ?_)
                    rw [hr.1] at re41
                    have re42 : rvh14 a0 1 = rvh13 a0 1 := (fl14.r ty86 rfl 1)
                    rw [re41] at re42
                    have re43 : rvh13 a0 2 = rvb1 a0 2 := (fl13.r ty4 rfl 2)
                    rw [hr.2] at re43
                    have re44 : rvh14 a0 2 = rvh13 a0 2 := (fl14.r ty86 rfl 2)
                    rw [re43] at re44
                    refine c_lv (lv2 := [(2, .int (iI 1)), (3, .int (iI (k + 1))), (0, .ref a0), (1, .int (iI n))]) [1, 0, 3, 4] rfl ?_
                    exact ih1  1 (k + 1) _ _ _ _ _ (by omega) X10 W16 F12  (by omega) (by omega) (ie156.trans (ie157.trans hc5)) ⟨re42, re44⟩ ⟨(ie159.trans (ie160.trans hk9.1)), (ie161.trans (ie162.trans hk9.2.1)), (ie163.trans (ie164.trans hk9.2.2))⟩ ⟨(Eq.trans (fl14.r ty86 rfl 0) (Eq.trans (fl13.r ty4 rfl 0) hr0.1)), (Eq.trans (fl14.r ty86 rfl 8) (Eq.trans (fl13.r ty4 rfl 8) hr0.2.1)), (Eq.trans (fl14.r ty86 rfl 3) (Eq.trans (fl13.r ty4 rfl 3) hr0.2.2))⟩ (fun j => (Eq.trans (fl14.i ty93 rfl j) (Eq.trans (fl13.i ty84 rfl j) (hE62 j)))) (hJ.row ⟨by omega, by omega⟩ hnb0 hcb0 (fun a l0 l1 C F n hc => hc.fr hW hS t_a0 Fb1 (QT.of hW hS Xb1 Fb1 rfl rfl rfl rfl rfl) (by omega) (by omega) hr0.2.1 rfl rfl rfl rfl rfl) ⟨by omega, by omega⟩ (by omega) (Or.inr ⟨fun q => absurd (hb1zz1.mp q) (by omega), exf9⟩) (WEF.turn (by omega) gf13 (fun a d q => q.keep rgf9 Wb1 xl13 (KP.fr Wb1 fl13 rfl)) gf14) (by omega))
        · refine c_aload_n (j := 2) (x := a0) C dX4_write_18 rfl ?_
          obtain ⟨rb9, rq9, trb9⟩ := Wb1.ref ty4 4 rfl rfl rfl
          have erb9 := Wb1.sk trb9 (by decide) rfl
          subst erb9
          refine c_getr (k := 4) C ck_5 dX4_write_19 w1_233 (by decide) ty4 rfl rfl (by decide) rfl rq9 ?_
          refine c_st (st2 := [.ref (sk 11)]) rfl ?_
          refine c_bipush (z := 32) C dX4_write_22 (by decide) ?_
          refine hv2 (Xb1.ty tsk11) (Phi.le Wb1 skb1) (fun ty101 pl8 => ?_)
          have ri97 : 0 ≤ ivb1 (sk 11) 2 ∧ ivb1 (sk 11) 2 ≤ 40000 := Wb1.int ty101 2
          refine d_callV (As := [.int (iI 32)]) (rest := []) C hM (G_add_11 (a0 := (sk 11)) (x := 32) Wb1 skb1 ty101 ⟨by decide, by decide⟩ ) dX4_write_24 kV_X4_128 rfl ty101 rfl rfl (by decide) ck_2 rfl (Nat.le_of_ble_eq_true rfl) ⟨(Nat.le_of_ble_eq_true rfl), (Nat.le_of_ble_eq_true rfl)⟩ hph pl8 (show 0 + 0 = 0 from rfl) (by decide) (fun rh15 Lh15 clh15 lnh15 ivh15 rvh15 h15 => ?_)
          obtain ⟨rfl, xl15, fl15, W17, exf15⟩ := h15
          refine hv8 (Fb1.call Xb1 fl15 rfl) (Xb1.ty tsk16) (Xb1.ty tsk24) (Xb1.ty tsk25) (Xb1.ty tnb0) (Xb1.ty teb9) (Xb1.trans xl15) (xl15.skl skb1) (fun F13 ty102 ty103 ty104 ty105 ty106 X11 sk11 => ?_)
          refine c_st (st2 := []) rfl ?_
          refine hv2 (xl15.ty ty101) (show ((ivh15 (sk 11) 2 = ivb1 (sk 11) 2 ∧ ivb1 (sk 11) 2 = 40000) ∨ (ivh15 (sk 11) 2 = ivb1 (sk 11) 2 + 1 ∧ ivb1 (sk 11) 2 < 40000)) ∧ (∀ ss, CT ivb1 rvb1 (sk 11) ss → ivb1 (sk 11) 2 < 40000 → CT ivh15 rvh15 (sk 11) (va_up ss (ivb1 (sk 11) 2).toNat (32 : Int))) ∧ (ivb1 (sk 11) 2 = 40000 → ∀ ss, CT ivb1 rvb1 (sk 11) ss → CT ivh15 rvh15 (sk 11) ss) from exf15) (fun ty107 gf15 => ?_)
          have ri98 : 0 ≤ ivh15 (sk 11) 2 ∧ ivh15 (sk 11) 2 ≤ 40000 := W17.int ty107 2
          refine c_goto (tgt := 134) C dX4_write_27 (by decide) ?_
          refine c_iinc (z := k) (j := 1) (lv2 := [(3, .int (iI (k + 1))), (2, .int (iI cc0)), (0, .ref a0), (1, .int (iI n))]) C dX4_write_134 rfl (by decide) rfl ?_
          refine c_goto (tgt := 4) C dX4_write_137 (by decide) ?_
          refine hv9 (xl15.ty ty4) (show ivh15 a0 5 = ivb1 a0 5 from fl15.i ty4 rfl 5) (show ivh15 a0 9 = ivb1 a0 9 from fl15.i ty4 rfl 9) (show ivh15 a0 10 = ivb1 a0 10 from fl15.i ty4 rfl 10) (show ivh15 a0 6 = ivb1 a0 6 from fl15.i ty4 rfl 6) (xl15.ty ty5) (show ivh15 cb0 k.toNat = ivb1 cb0 k.toNat from fl15.i ty5 rfl k.toNat) (xl15.ty ty106) (show rvh15 a0 1 = rvb1 a0 1 from (fl15.r ty4 rfl 1)) (fun ty108 ie170 ie172 ie174 ie176 ty109 ie178 ty110 re45 => ?_)
          refine hv5 (show 0 ≤ ivh15 a0 5 ∧ ivh15 a0 5 ≤ 50 from W17.int ty108 5) (show 0 ≤ ivh15 a0 9 ∧ ivh15 a0 9 ≤ 100 from W17.int ty108 9) (show (-2147483648) ≤ ivh15 a0 10 ∧ ivh15 a0 10 ≤ 2147483647 from W17.int ty108 10) (show 0 ≤ ivh15 a0 6 ∧ ivh15 a0 6 ≤ 1 from W17.int ty108 6) (show (-2147483648) ≤ ivh15 cb0 k.toNat ∧ ivh15 cb0 k.toNat ≤ 2147483647 from W17.int ty109 k.toNat) (fun ri99 ri100 ri101 ri102 ri103 => ?_)
          rw [hr.1] at re45
          have re46 : rvh15 a0 2 = rvb1 a0 2 := (fl15.r ty4 rfl 2)
          rw [hr.2] at re46
          refine c_lv (lv2 := [(2, .int (iI cc0)), (3, .int (iI (k + 1))), (0, .ref a0), (1, .int (iI n))]) [1, 0, 2, 3] rfl ?_
          exact ih1  cc0 (k + 1) _ _ _ _ _ (by omega) X11 W17 F13  (by omega) (by omega) (ie170.trans hc5) ⟨re45, re46⟩ ⟨(ie172.trans hk9.1), (ie174.trans hk9.2.1), (ie176.trans hk9.2.2)⟩ ⟨(Eq.trans (fl15.r ty4 rfl 0) hr0.1), (Eq.trans (fl15.r ty4 rfl 8) hr0.2.1), (Eq.trans (fl15.r ty4 rfl 3) hr0.2.2)⟩ (fun j => (Eq.trans (fl15.i ty106 rfl j) (hE62 j))) (hJ.blank ⟨by omega, by omega⟩ hnb0 hcb0 (by omega) gf15)
  refine c_lv (lv2 := [(2, .int (iI 0)), (3, .int (iI 0)), (0, .ref a0), (1, .int (iI n))]) [1, 0, 2, 3] rfl ?_
  exact Lp1 103 0 0 _ _ _ _ _ (by omega) hX0 hW hF0  (by omega) (by omega) rfl ⟨hnb0, hcb0⟩ ⟨rfl, rfl, rfl⟩ ⟨rfl, rfl, rfl⟩ (fun _ => rfl) (WRJ.init rfl)
end
section
def VSS (a : Nat → Nat → Int) (l0 l1 : List Int) (C : Nat → Int) (F : Int32) (n : Int) (tn cnt : Int) : List (Int × Int) → Prop
  | [] => True
  | e :: T => VST a l0 l1 C F n T e.1 ∧ ((e.2 = -1 ∧ RDC a l0 l1 C F n (e.1 / 4) (e.1 % 2) (e.1 / 2 % 2) ≠ [] ∧ tn ≤ 202 * cnt + 100 + ((T.length : Nat) : Int)) ∨ (0 ≤ e.2 ∧ e.1 / 4 < n ∧ tn ≤ 202 * cnt + 100 - ((T.length : Nat) : Int)))
def WKJ (L : List Nat) (cl ln : Nat → Nat) (iv : Nat → Nat → Int) (rv : Nat → Nat → Option Nat) (sk : Nat → Nat) (q : Nat) (iv1 : Nat → Nat → Int) (rv1 : Nat → Nat → Option Nat) (nb cb : Nat) (x dp tn : Int) : Prop := ∀ a l0 l1 C F n, GPC L cl ln iv rv sk q a l0 l1 C F n → CEQ iv rv q a l0 l1 C F n (-1) → RDC a l0 l1 C F n 0 0 0 ≠ [] → (1 ≤ x ∧ x ≤ 50) → KLP iv rv sk q [] → iv q 6 = 0 → ∃ (S : List (Int × Int)) (Z : List (List Int)), (((S.length : Nat) : Int) = dp + 1 ∧ STQ iv1 nb cb S) ∧ VSS a l0 l1 C F n tn ((Z.length : Nat) : Int) S ∧ RDC a l0 l1 C F n 0 0 0 = Z ++ rsS a l0 l1 C F n S ∧ KLP iv1 rv1 sk q Z ∧ ((Z.length : Nat) : Int) ≤ x ∧ iv1 q 6 = 0
def WKS (L : List Nat) (cl ln : Nat → Nat) (iv : Nat → Nat → Int) (rv : Nat → Nat → Option Nat) (sk : Nat → Nat) (q : Nat) (iv2 : Nat → Nat → Int) (rv2 : Nat → Nat → Option Nat) (x : Int) : Prop := ∀ a l0 l1 C F n, GPC L cl ln iv rv sk q a l0 l1 C F n → CEQ iv rv q a l0 l1 C F n (-1) → RDC a l0 l1 C F n 0 0 0 ≠ [] → (1 ≤ x ∧ x ≤ 50) → KLP iv rv sk q [] → iv q 6 = 0 → ∃ (K : List (List Int)) (mo : Int), KMQ x.toNat (RDC a l0 l1 C F n 0 0 0) K mo ∧ KLP iv2 rv2 sk q K ∧ iv2 q 6 = mo
section GPWK
variable {g0 : Nat} {sk : Nat → Nat} {L L1 : List Nat} {cl ln cl1 ln1 : Nat → Nat} {iv iv1 iv2 iv3 iv4 : Nat → Nat → Int} {rv rv1 rv2 : Nat → Nat → Option Nat} {a : Nat → Nat → Int} {l0 l1 : List Int} {C : Nat → Int} {F : Int32} {q nb cb b : Nat} {x n dp tn i c f nd i0 c0 i2 z y : Int} {ls : List Nat} {T : List (Int × Int)} {K Z : List (List Int)} {fu : Option Int → List (List Int)} {o : Option Int}
theorem fmp_skip : ∀ (d k : Nat) (l : List (Option Int)), (∀ (j : Nat) (o : Option Int), k ≤ j → j < k + d → l[j]? = some o → fu o = []) → fmp fu (l.drop k) = fmp fu (l.drop (k + d)) := by
  intro d
  induction d with
  | zero => intro k l _; rfl
  | succ d ih =>
    intro k l hh
    have e2 := ih (k + 1) l (fun j o h1 h2 ho => hh j o (by omega) (by omega) ho)
    rw [show k + 1 + d = k + (d + 1) by omega] at e2
    cases ho : l[k]? with
    | none =>
      have le : l.length ≤ k := List.getElem?_eq_none_iff.mp ho
      rw [List.drop_eq_nil_of_le le, List.drop_eq_nil_of_le (by omega)]
    | some o =>
      rw [fmp_dr l k ho, hh k o (by omega) (by omega) ho, List.nil_append]
      exact e2
theorem rsN_fresh : rsN a l0 l1 C F n i (-1) = RDC a l0 l1 C F n (i / 4) (i % 2) (i / 2 % 2) := by
  unfold rsN
  by_cases e : i / 4 = n
  · rw [if_pos e]
  · rw [if_neg e, RDC_go e]
    rfl
theorem rsN_none (hp : i / 4 ≠ n) (h0 : 0 ≤ c + 1) (hh : ∀ (j : Nat) (o : Option Int), c + 1 ≤ ((j : Nat) : Int) → (chs l0 l1 (i % 2))[j]? = some o → RCO a l0 l1 C F n (i / 4) (i % 2) (i / 2 % 2) o = []) : rsN a l0 l1 C F n i c = [] := by
  unfold rsN
  rw [if_neg hp, fmp_nil]
  intro o ho
  obtain ⟨j, e⟩ := List.getElem?_of_mem ho
  rw [List.getElem?_drop] at e
  exact hh _ o (by omega) e
theorem rsN_next (hp : i / 4 ≠ n) (h0 : 0 ≤ c + 1) (hf : c + 1 ≤ f) (ho : (chs l0 l1 (i % 2))[f.toNat]? = some o) (hh : ∀ (j : Nat) (o2 : Option Int), c + 1 ≤ ((j : Nat) : Int) → ((j : Nat) : Int) < f → (chs l0 l1 (i % 2))[j]? = some o2 → RCO a l0 l1 C F n (i / 4) (i % 2) (i / 2 % 2) o2 = []) : rsN a l0 l1 C F n i c = RCO a l0 l1 C F n (i / 4) (i % 2) (i / 2 % 2) o ++ rsN a l0 l1 C F n i f := by
  unfold rsN
  rw [if_neg hp, if_neg hp, fmp_skip (f.toNat - (c + 1).toNat) (c + 1).toNat _ (fun j o2 h1 h2 h3 => hh j o2 (by omega) (by omega) h3), show (c + 1).toNat + (f.toNat - (c + 1).toNat) = f.toNat by omega, fmp_dr _ _ ho, show (f + 1).toNat = f.toNat + 1 by omega]
theorem RDC_one (hp : i / 4 = n) (hn : RDC a l0 l1 C F n (i / 4) (i % 2) (i / 2 % 2) ≠ []) : RDC a l0 l1 C F n (i / 4) (i % 2) (i / 2 % 2) = [[]] := by
  rw [RDC_end hp, if_neg (RDC_h hn hp)]
theorem pxs_one {w : List Int} : pxs w [[]] = [w] := by
  show [w ++ []] = [w]
  rw [List.append_nil]
theorem KLP.cg (hk : KLP iv rv sk q K) (h5 : iv1 q 5 = iv q 5) (hC : ∀ xs, CEL iv rv (sk 11) xs → CEL iv1 rv1 (sk 11) xs) (h3 : rv1 q 3 = rv q 3) (hE : ∀ eb, rv q 3 = some eb → ∀ j, iv1 eb j = iv eb j) : KLP iv1 rv1 sk q K := by
  obtain ⟨k1, k2, k3, k4⟩ := hk
  refine ⟨h5.trans k1, hC _ k2, fun eb hb j hj => ?_, k4⟩
  rw [h3] at hb
  rw [hE eb hb j]
  exact k3 eb hb j hj
theorem WKJ.init (e1 : iv1 nb 0 = 0) (e2 : iv1 cb 0 = -1) (hK : ∀ K, KLP iv rv sk q K → KLP iv1 rv1 sk q K) (h6 : iv1 q 6 = iv q 6) : WKJ L cl ln iv rv sk q iv1 rv1 nb cb x 0 0 := fun a l0 l1 C F n hc he hr hx hk h0 => by
  refine ⟨[(0, -1)], [], ⟨rfl, fun j e ej => ?_⟩, ⟨rfl, Or.inl ⟨rfl, hr, by decide⟩⟩, ?_, hK _ hk, by show (0 : Int) ≤ x; omega, by omega⟩
  · have lt := gl3 ej
    have l1' : ([((0 : Int), (-1 : Int))] : List (Int × Int)).length = 1 := rfl
    rw [show j = 0 by omega] at ej ⊢
    have e5 : some ((0 : Int), (-1 : Int)) = some e := ej
    cases e5
    exact ⟨e1, e2⟩
  · show _ = [] ++ (pxs [] (rsN a l0 l1 C F n 0 (-1)) ++ [])
    rw [pxs_nil, rsN_fresh, List.append_nil, List.nil_append]
    rfl
theorem WKJ.fin (hJ : WKJ L cl ln iv rv sk q iv1 rv1 nb cb x dp tn) (hd : dp < 0 ∨ 1000000 ≤ tn) (hm : -1 ≤ dp ∧ dp ≤ 100) : WKS L cl ln iv rv sk q iv1 rv1 x := fun a l0 l1 C F n hc he hr hx hk h0 => by
  obtain ⟨S, Z, ⟨s1, s2⟩, s3, s4, s5, s6, s7⟩ := hJ a l0 l1 C F n hc he hr hx hk h0
  cases S with
  | nil =>
    refine ⟨Z, 0, ⟨?_, Or.inr ⟨rfl, ?_⟩⟩, s5, s7⟩
    · rw [s4, show rsS a l0 l1 C F n [] = [] from rfl, List.append_nil, List.take_of_length_le (by omega)]
    · rw [s4, show rsS a l0 l1 C F n [] = [] from rfl, List.append_nil]
      omega
  | cons e T =>
    exfalso
    have lt : (e :: T).length = T.length + 1 := rfl
    rcases hd with hd | hd
    · omega
    · rcases s3.2 with ⟨_, _, u⟩ | ⟨_, _, u⟩ <;> omega
theorem WKJ.topp (s1 : ((T.length : Nat) : Int) = dp) (s2 : STQ iv1 nb cb ((i, c) :: T)) (hi : i0 = iv1 nb dp.toNat) (hch : c0 = iv1 cb dp.toNat) : i0 = i ∧ c0 = c := by
  have u := s2.top
  rw [show T.length = dp.toNat by omega] at u
  exact ⟨hi.trans u.1, hch.trans u.2⟩
theorem WKJ.left (hJ : WKJ L cl ln iv rv sk q iv1 rv1 nb cb x dp tn) (hdp : 0 ≤ dp) (hi : i0 = iv1 nb dp.toNat) (hch : c0 = iv1 cb dp.toNat) (hend : 4 * iv q 9 ≤ i0) (hx5 : x ≤ iv1 q 5) (hK : ∀ K, KLP iv1 rv1 sk q K → KLP iv2 rv1 sk q K) (h6 : iv2 q 6 = 1) : WKS L cl ln iv rv sk q iv2 rv1 x := fun a l0 l1 C F n hc he hr hx hk h0 => by
  obtain ⟨S, Z, ⟨s1, s2⟩, s3, s4, s5, s6, s7⟩ := hJ a l0 l1 C F n hc he hr hx hk h0
  cases S with
  | nil =>
    have lt : ([] : List (Int × Int)).length = 0 := rfl
    omega
  | cons e T =>
    obtain ⟨i, c⟩ := e
    have lt : ((i, c) :: T).length = T.length + 1 := rfl
    obtain ⟨t1, t2⟩ := WKJ.topp (by omega) s2 hi hch
    refine hv2 (hc.2.1.1) (s3.1.rng T _ hc.2.2.2.2 hc.2.1.2.1) (fun en r => ?_)
    have ep : i / 4 = n := by
      have r1 : i / 4 ≤ n := r.2.1
      omega
    rcases s3.2 with ⟨u1, u2, u3⟩ | ⟨u1, u2, u3⟩
    · have u4 : c = -1 := u1
      subst u4
      have e1 : rsS a l0 l1 C F n ((i, -1) :: T) = [pfl a l0 l1 T] ++ rsS a l0 l1 C F n T := by
        show pxs (pfl a l0 l1 T) (rsN a l0 l1 C F n i (-1)) ++ rsS a l0 l1 C F n T = _
        rw [rsN_fresh, RDC_one ep u2, pxs_one]
      have zl : Z.length = x.toNat := by
        have := s5.1
        omega
      refine ⟨Z, 1, ⟨?_, Or.inl ⟨rfl, ?_⟩⟩, hK _ s5, h6⟩
      · rw [s4, List.take_append_of_le_length (by omega), List.take_of_length_le (by omega)]
      · rw [s4, e1, List.length_append, List.length_append]
        show x.toNat < Z.length + (1 + _)
        omega
    · have u4 : i / 4 < n := u2
      omega
theorem WKJ.endw (hJ : WKJ L cl ln iv rv sk q iv1 rv1 nb cb x dp tn) (hdp : 0 ≤ dp) (hi : i0 = iv1 nb dp.toNat) (hch : c0 = iv1 cb dp.toNat) (hend : 4 * iv q 9 ≤ i0) (hx5 : iv1 q 5 < x) (hd1 : ∀ a l0 l1 C F n, GPC L cl ln iv rv sk q a l0 l1 C F n → GPC L1 cl1 ln1 iv1 rv1 sk q a l0 l1 C F n) (hnb : rv1 q 1 = some nb) (hcb : rv1 q 2 = some cb) (hw : WRS L1 cl1 ln1 iv1 rv1 sk q iv2 rv2 dp) (hS : ∀ T, STQ iv1 nb cb T → STQ iv2 nb cb T) (h6 : iv2 q 6 = iv1 q 6) (hz : z = dp - 1) (hy : y = tn + 1) : WKJ L cl ln iv rv sk q iv2 rv2 nb cb x z y := fun a l0 l1 C F n hc he hr hx hk h0 => by
  obtain ⟨S, Z, ⟨s1, s2⟩, s3, s4, s5, s6, s7⟩ := hJ a l0 l1 C F n hc he hr hx hk h0
  cases S with
  | nil =>
    have lt : ([] : List (Int × Int)).length = 0 := rfl
    omega
  | cons e T =>
    obtain ⟨i, c⟩ := e
    have lt : ((i, c) :: T).length = T.length + 1 := rfl
    obtain ⟨t1, t2⟩ := WKJ.topp (by omega) s2 hi hch
    refine hv3 (hc.2.1.1) (s3.1.rng T _ hc.2.2.2.2 hc.2.1.2.1) (hc.2.1.2) (fun en r nn => ?_)
    have ep : i / 4 = n := by
      have r1 : i / 4 ≤ n := r.2.1
      omega
    rcases s3.2 with ⟨u1, u2, u3⟩ | ⟨u1, u2, u3⟩
    · have u4 : c = -1 := u1
      subst u4
      have e1 : rsS a l0 l1 C F n ((i, -1) :: T) = [pfl a l0 l1 T] ++ rsS a l0 l1 C F n T := by
        show pxs (pfl a l0 l1 T) (rsN a l0 l1 C F n i (-1)) ++ rsS a l0 l1 C F n T = _
        rw [rsN_fresh, RDC_one ep u2, pxs_one]
      have k5 := s5.1
      have zl : (Z ++ [pfl a l0 l1 T]).length = Z.length + 1 := by
        rw [List.length_append]
        rfl
      have w2 := hw a l0 l1 C F n Z T i (hd1 a l0 l1 C F n hc) s3.1 (by omega) (fun nb' cb' g1 g2 => by
        rw [hnb] at g1
        cases g1
        rw [hcb] at g2
        cases g2
        exact s2.pop) s5 (by omega)
      refine ⟨T, Z ++ [pfl a l0 l1 T], ⟨by omega, hS _ s2.pop⟩, ?_, by rw [s4, e1, List.append_assoc], w2, by rw [zl]; omega, by omega⟩
      have r4 : ((T.length : Nat) : Int) ≤ i / 4 := r.2.2.2
      rw [zl]
      cases T with
      | nil => exact True.intro
      | cons e' T' =>
        have lt2 : (e' :: T').length = T'.length + 1 := rfl
        obtain ⟨⟨v1, o, v2, v3, v4⟩, v5⟩ := s3.1
        have lt3 := v3.lt
        refine ⟨v5, Or.inr ⟨v1.1, by omega, ?_⟩⟩
        push_cast
        omega
    · have u4 : i / 4 < n := u2
      omega
theorem WKJ.pop (hJ : WKJ L cl ln iv rv sk q iv1 rv1 nb cb x dp tn) (hdp : 0 ≤ dp) (hi : i0 = iv1 nb dp.toNat) (hch : c0 = iv1 cb dp.toNat) (hend : i0 < 4 * iv q 9) (hd1 : ∀ a l0 l1 C F n, GPC L cl ln iv rv sk q a l0 l1 C F n → GPC L1 cl1 ln1 iv1 rv1 sk q a l0 l1 C F n) (he1 : ∀ a l0 l1 C F n, CEQ iv rv q a l0 l1 C F n (-1) → CEQ iv1 rv1 q a l0 l1 C F n (-1)) (hc1 : c = c0 + 1) (hs : NCS L1 cl1 ln1 iv1 rv1 sk q i0 c f) (hf : f < 0) (hz : z = dp - 1) (hy : y = tn + 1) : WKJ L cl ln iv rv sk q iv1 rv1 nb cb x z y := fun a l0 l1 C F n hc he hr hx hk h0 => by
  obtain ⟨S, Z, ⟨s1, s2⟩, s3, s4, s5, s6, s7⟩ := hJ a l0 l1 C F n hc he hr hx hk h0
  cases S with
  | nil =>
    have lt : ([] : List (Int × Int)).length = 0 := rfl
    omega
  | cons e T =>
    obtain ⟨i, c9⟩ := e
    have lt : ((i, c9) :: T).length = T.length + 1 := rfl
    obtain ⟨t1, t2⟩ := WKJ.topp (by omega) s2 hi hch
    subst t1
    subst t2
    refine hv2 (hc.2.1.1) (s3.1.top hc.2.2.2.2 hc.2.1.2.1 hc.2.1.2.2) (fun en tp => ?_)
    have ge : 0 ≤ c0 + 1 := by
      rcases s3.2 with ⟨v1, _⟩ | ⟨v1, _⟩
      · have v2 : c0 = -1 := v1
        omega
      · have v2 : 0 ≤ c0 := v1
        omega
    rcases hs a l0 l1 C F n (hd1 a l0 l1 C F n hc) ((he1 a l0 l1 C F n he).le (by omega)) with ⟨_, u2⟩ | ⟨u1, o, u2, u3, u4⟩
    · have rn : rsN a l0 l1 C F n i0 c0 = [] := rsN_none (by omega) ge (fun j o h1 ho => u2 j o (by omega) ho)
      have e1 : rsS a l0 l1 C F n ((i0, c0) :: T) = rsS a l0 l1 C F n T := by
        show pxs (pfl a l0 l1 T) (rsN a l0 l1 C F n i0 c0) ++ rsS a l0 l1 C F n T = _
        rw [rn]
        rfl
      refine ⟨T, Z, ⟨by omega, s2.pop⟩, ?_, by rw [s4, e1], s5, s6, s7⟩
      rcases s3.2 with ⟨v1, v2, _⟩ | ⟨v1, v2, v3⟩
      · exfalso
        have v4 : c0 = -1 := v1
        rw [v4, rsN_fresh] at rn
        exact v2 rn
      · cases T with
        | nil => exact True.intro
        | cons e' T' =>
          have lt2 : (e' :: T').length = T'.length + 1 := rfl
          obtain ⟨⟨w1, o, w2, w3, w4⟩, w5⟩ := s3.1
          have lt3 := w3.lt
          exact ⟨w5, Or.inr ⟨w1.1, by omega, by omega⟩⟩
    · omega
theorem WKJ.push (hJ : WKJ L cl ln iv rv sk q iv1 rv1 nb cb x dp tn) (hdp : 0 ≤ dp) (hi : i0 = iv1 nb dp.toNat) (hch : c0 = iv1 cb dp.toNat) (hend : i0 < 4 * iv q 9) (hd1 : ∀ a l0 l1 C F n, GPC L cl ln iv rv sk q a l0 l1 C F n → GPC L1 cl1 ln1 iv1 rv1 sk q a l0 l1 C F n) (he1 : ∀ a l0 l1 C F n, CEQ iv rv q a l0 l1 C F n (-1) → CEQ iv1 rv1 q a l0 l1 C F n (-1)) (hc1 : c = c0 + 1) (hs : NCS L1 cl1 ln1 iv1 rv1 sk q i0 c f) (hf : 0 ≤ f) (e1 : iv2 = up2 iv1 cb dp.toNat f) (hd2 : ∀ a l0 l1 C F n, GPC L cl ln iv rv sk q a l0 l1 C F n → GPC L1 cl1 ln1 iv2 rv1 sk q a l0 l1 C F n) (hi2 : i2 = i0) (hn : NBS L1 cl1 ln1 iv2 rv1 sk q i2 f nd) (e2 : iv3 = up2 iv2 nb (dp + 1).toNat nd) (e3 : iv4 = up2 iv3 cb (dp + 1).toNat (-1)) (ne : nb ≠ cb) (hK : ∀ K, KLP iv1 rv1 sk q K → KLP iv4 rv1 sk q K) (h6 : iv4 q 6 = iv1 q 6) (hz : z = dp + 1) (hy : y = tn + 1) : WKJ L cl ln iv rv sk q iv4 rv1 nb cb x z y := fun a l0 l1 C F n hc he hr hx hk h0 => by
  obtain ⟨S, Z, ⟨s1, s2⟩, s3, s4, s5, s6, s7⟩ := hJ a l0 l1 C F n hc he hr hx hk h0
  subst hi2
  cases S with
  | nil =>
    have lt : ([] : List (Int × Int)).length = 0 := rfl
    omega
  | cons e T =>
    obtain ⟨i, c9⟩ := e
    have lt : ((i, c9) :: T).length = T.length + 1 := rfl
    obtain ⟨t1, t2⟩ := WKJ.topp (by omega) s2 hi hch
    subst t1
    subst t2
    refine hv2 (hc.2.1.1) (s3.1.top hc.2.2.2.2 hc.2.1.2.1 hc.2.1.2.2) (fun en tp => ?_)
    have ge : 0 ≤ c0 + 1 := by
      rcases s3.2 with ⟨v1, _⟩ | ⟨v1, _⟩
      · have v2 : c0 = -1 := v1
        omega
      · have v2 : 0 ≤ c0 := v1
        omega
    rcases hs a l0 l1 C F n (hd1 a l0 l1 C F n hc) ((he1 a l0 l1 C F n he).le (by omega)) with ⟨u1, _⟩ | ⟨u1, o, u2, u3, u4⟩
    · omega
    · have my : MYO a C F n (i2 / 4) (i2 / 2 % 2) o ∧ RDC a l0 l1 C F n (onp a (i2 / 4) o) (ong (i2 % 2) o) (onh o) ≠ [] := Classical.byContradiction (fun u => u3 (RCO_e.mpr u))
      rcases hn a l0 l1 C F n (hd2 a l0 l1 C F n hc) o hf u2 with ⟨_, u5⟩ | ⟨_, u5⟩
      · exact absurd my.1 u5
      · have on := on_r (o := o) (g := i2 % 2) (by omega)
        have ml := my.1.lt
        have d4 : nd / 4 = onp a (i2 / 4) o := by omega
        have d2 : nd % 2 = ong (i2 % 2) o := by omega
        have d3 : nd / 2 % 2 = onh o := by omega
        have tl : T.length = dp.toNat := by omega
        have q1 : iv4 nb dp.toNat = i2 := by
          rw [e3, up2_k ne, e2, up2_j (by omega), e1, up2_k ne]
          exact hi.symm
        have q2 : iv4 cb dp.toNat = f := by
          rw [e3, up2_j (by omega), e2, up2_k (Ne.symm ne), e1, up2_s]
        have q3 : ∀ d : Nat, d < T.length → iv4 nb d = iv1 nb d ∧ iv4 cb d = iv1 cb d := fun d hd => by
          refine ⟨?_, ?_⟩
          · rw [e3, up2_k ne, e2, up2_j (by omega), e1, up2_k ne]
          · rw [e3, up2_j (by omega), e2, up2_k (Ne.symm ne), e1, up2_j (by omega)]
        refine hv3 (show iv4 nb (dp + 1).toNat = nd from by rw [e3, up2_k ne, e2, up2_s]) (show iv4 cb (dp + 1).toNat = -1 from by rw [e3, up2_s]) (show STQ iv4 nb cb ((i2, f) :: T) from STQ.push s2.pop (by rw [tl]; exact q1) (by rw [tl]; exact q2) q3) (fun q4 q5 st1 => ?_)
        have l2 : ((i2, f) :: T).length = (dp + 1).toNat := by
          show T.length + 1 = _
          omega
        refine hv3 (show STQ iv4 nb cb ((nd, -1) :: (i2, f) :: T) from STQ.push st1 (by rw [l2]; exact q4) (by rw [l2]; exact q5) (fun d _ => ⟨rfl, rfl⟩)) (show ((nd, (-1 : Int)) :: (i2, f) :: T).length = T.length + 2 from rfl) (show ou1 a l0 l1 (i2, f) = oou a (i2 / 2 % 2) o from ou1_of (e := (i2, f)) u2) (fun st2 l3 ou => ?_)
        have rn : rsN a l0 l1 C F n i2 c0 = RCO a l0 l1 C F n (i2 / 4) (i2 % 2) (i2 / 2 % 2) o ++ rsN a l0 l1 C F n i2 f := rsN_next (by omega) ge (by omega) u2 (fun j o2 h1 h2 h3 => u4 j o2 (by omega) h2 h3)
        have er : rsS a l0 l1 C F n ((i2, c0) :: T) = rsS a l0 l1 C F n ((nd, -1) :: (i2, f) :: T) := by
          show pxs (pfl a l0 l1 T) (rsN a l0 l1 C F n i2 c0) ++ rsS a l0 l1 C F n T = pxs (pfl a l0 l1 T ++ ou1 a l0 l1 (i2, f)) (rsN a l0 l1 C F n nd (-1)) ++ (pxs (pfl a l0 l1 T) (rsN a l0 l1 C F n i2 f) ++ rsS a l0 l1 C F n T)
          rw [rn, rsN_fresh, d4, d2, d3, ou, RCO_yes my.1, pxs_app, pxs_pxs, List.append_assoc]
        refine ⟨_, Z, ⟨by omega, st2⟩, ⟨⟨⟨⟨hf, tp.1, tp.2⟩, o, u2, my.1, u5⟩, s3.1⟩, Or.inl ⟨rfl, ?_, ?_⟩⟩, by rw [s4, er], hK _ s5, s6, by omega⟩
        · show RDC a l0 l1 C F n (nd / 4) (nd % 2) (nd / 2 % 2) ≠ []
          rw [d4, d2, d3]
          exact my.2
        · show y ≤ 202 * ((Z.length : Nat) : Int) + 100 + ((((i2, f) :: T).length : Nat) : Int)
          rw [l2]
          rcases s3.2 with ⟨_, _, v3⟩ | ⟨_, _, v3⟩ <;> omega
end GPWK
section GPW2
variable {g0 : Nat} {sk : Nat → Nat} {L : List Nat} {cl ln : Nat → Nat} {iv iv0 iv1 iv2 : Nat → Nat → Int} {rv : Nat → Nat → Option Nat} {q r j0 tt : Nat} {x : Int} {K : List (List Int)}
theorem KLP.put (hk : KLP iv rv sk q K) (hW : WT g0 sk L cl ln iv0 rv) (tq : ty L cl q 17) (t11 : ty L cl (sk 11) 11) (tr : ty L cl r tt) (n1 : 11 ≠ tt) (n2 : 41 ≠ tt) (n3 : 62 ≠ tt) (n4 : 17 ≠ tt) (e : iv2 = up2 iv r j0 x) : KLP iv2 rv sk q K := hk.cg (by rw [e, up2_k (ne_ty tq tr n4)]) (fun xs hc => hc.put11 hW t11 tr n1 n2 e) rfl (fun eb hb j => by
  obtain ⟨b', w1, tb⟩ := hW.ref tq 3 rfl rfl rfl
  rw [hb] at w1
  cases w1
  rw [e, up2_k (ne_ty tb tr n3)])
theorem KLP.self (hk : KLP iv rv sk q K) (hW : WT g0 sk L cl ln iv0 rv) (tq : ty L cl q 17) (t11 : ty L cl (sk 11) 11) (h5 : j0 ≠ 5) (e : iv2 = up2 iv q j0 x) : KLP iv2 rv sk q K := hk.cg (by rw [e, up2_j (Ne.symm h5)]) (fun xs hc => hc.put11 hW t11 tq (by decide) (by decide) e) rfl (fun eb hb j => by
  obtain ⟨b', w1, tb⟩ := hW.ref tq 3 rfl rfl rfl
  rw [hb] at w1
  cases w1
  rw [e, up2_k (ne_ty tb tq (by decide))])
theorem KLP.nil (h5 : iv q 5 = 0) (h11 : iv (sk 11) 2 = 0) : KLP iv rv sk q [] := ⟨h5, CEL.nil h11, fun _ _ k hk => absurd hk (Nat.not_lt_zero k), fun k w e => by simp at e⟩
end GPW2
set_option maxHeartbeats 4000000 in
set_option maxRecDepth 100000 in
theorem G_walk {l : Launch} {G : GT} {mi : Nat} {sk : Nat → Nat} {L : List Nat} {cl ln : Nat → Nat} {iv : Nat → Nat → Int} {rv : Nat → Nat → Option Nat}  {a0 : Nat} {x : Int} (hW : WT (g0 G) sk L cl ln iv rv) (hS : SKL sk L cl) (t_a0 : ty L cl a0 17) (h_x : -2147483648 ≤ x ∧ x ≤ 2147483647) (hx : x ≤ 50) : Mc l G mi (Phi (g0 G) sk) PHM yX4_walk cX4_walk 6 none 6 [.ref a0, .int (iI x)] L cl ln iv rv 0 (fun v L2 cl2 ln2 iv2 rv2 => v = none ∧ XT L cl ln L2 cl2 ln2 ∧ fT [17, 60, 61, 62, 11, 41] L cl iv rv iv2 rv2 ∧ WT (g0 G) sk L2 cl2 ln2 iv2 rv2 ∧ (WKS L cl ln iv rv sk a0 iv2 rv2 x)) := by
  refine Mc.mk (by decide) (Nat.le_of_ble_eq_true rfl) ?_
  intro p e s m args below meth c A C hM
  refine hv7 (Phi.le hW hS) (show ty L cl (sk 11) 11 from ⟨(hS 11 rfl).1, by rw [(hS 11 rfl).2]; rfl⟩) (show ty L cl (sk 16) 16 from ⟨(hS 16 rfl).1, by rw [(hS 16 rfl).2]; rfl⟩) (show ty L cl (sk 24) 24 from ⟨(hS 24 rfl).1, by rw [(hS 24 rfl).2]; rfl⟩) (show ty L cl (sk 25) 25 from ⟨(hS 25 rfl).1, by rw [(hS 25 rfl).2]; rfl⟩) (show XT L cl ln L cl ln from XT.refl) (show fT [17, 60, 61, 62, 11, 41] L cl iv rv iv rv from fT.refl) (fun hph tsk11 tsk16 tsk24 tsk25 hX0 hF0 => ?_)
  obtain ⟨nb0, hnb0, tnb0⟩ := hW.ref t_a0 1 rfl rfl rfl
  obtain ⟨cb0, hcb0, tcb0⟩ := hW.ref t_a0 2 rfl rfl rfl
  refine hv4 (show 0 ≤ iv a0 5 ∧ iv a0 5 ≤ 50 from hW.int t_a0 5) (show 0 ≤ iv a0 6 ∧ iv a0 6 ≤ 1 from hW.int t_a0 6) (show 0 ≤ iv a0 9 ∧ iv a0 9 ≤ 100 from hW.int t_a0 9) (show (-2147483648) ≤ iv a0 10 ∧ iv a0 10 ≤ 2147483647 from hW.int t_a0 10) (fun ri1 ri2 ri3 ri4 => ?_)
  refine c_iconst C dX4_walk_0 ?_
  refine c_istore_n (lv2 := [(2, .int (iI 0)), (0, .ref a0), (1, .int (iI x))]) C dX4_walk_1 (by decide) rfl ?_
  refine c_aload_n (j := 1) (x := a0) C dX4_walk_2 rfl ?_
  refine c_getr (k := 1) C ck_5 dX4_walk_3 w1_230 (by decide) t_a0 rfl rfl (by decide) rfl hnb0 ?_
  refine c_st (st2 := [.ref nb0]) rfl ?_
  refine c_iconst C dX4_walk_6 ?_
  refine c_iconst C dX4_walk_7 ?_
  have ll1 : 101 ≤ ln nb0 ∧ ln nb0 ≤ 101 := hW.len tnb0 rfl
  refine c_iast (x := 0) C dX4_walk_8 tnb0 rfl (by omega) (by omega) (by omega) (fun iv1 pq1 => ?_)
  refine hv2 (hW.puti pq1 tnb0 (show (-2147483648) ≤ 0 ∧ 0 ≤ 2147483647 by omega) rfl) (hF0.puti hX0 pq1 tnb0 rfl) (fun W1 F1 => ?_)
  refine c_aload_n (j := 1) (x := a0) C dX4_walk_9 rfl ?_
  refine c_getr (k := 2) C ck_5 dX4_walk_10 w1_231 (by decide) t_a0 rfl rfl (by decide) rfl hcb0 ?_
  refine c_st (st2 := [.ref cb0]) rfl ?_
  refine c_iconst C dX4_walk_13 ?_
  refine c_iconst C dX4_walk_14 ?_
  have ll2 : 101 ≤ ln cb0 ∧ ln cb0 ≤ 101 := W1.len tcb0 rfl
  refine c_iast (x := (-1)) C dX4_walk_15 tcb0 rfl (by omega) (by omega) (by omega) (fun iv2 pq2 => ?_)
  refine hv2 (W1.puti pq2 tcb0 (show (-2147483648) ≤ (-1) ∧ (-1) ≤ 2147483647 by omega) rfl) (F1.puti hX0 pq2 tcb0 rfl) (fun W2 F2 => ?_)
  refine c_iconst C dX4_walk_16 ?_
  refine c_istore_n (lv2 := [(3, .int (iI 0)), (2, .int (iI 0)), (0, .ref a0), (1, .int (iI x))]) C dX4_walk_17 (by decide) rfl ?_
  have Lp1 : ∀ (nn : Nat) (dp tn : Int) (Lb1 : List Nat) (clb1 lnb1 : Nat → Nat) (ivb1 : Nat → Nat → Int) (rvb1 : Nat → Nat → Option Nat) , 1000001 - tn < (nn : Int) → XT L cl ln Lb1 clb1 lnb1 → WT (g0 G) sk Lb1 clb1 lnb1 ivb1 rvb1 → fT [17, 60, 61, 62, 11, 41] L cl iv rv ivb1 rvb1 → (-1 ≤ dp ∧ dp ≤ 100) → (0 ≤ tn ∧ tn ≤ 1000000) → (rvb1 a0 1 = some nb0 ∧ rvb1 a0 2 = some cb0) → (WKI sk ivb1 nb0 cb0 dp) → (ivb1 a0 9 = iv a0 9 ∧ ivb1 a0 10 = iv a0 10) → (rvb1 a0 0 = rv a0 0 ∧ rvb1 a0 8 = rv a0 8 ∧ rvb1 a0 3 = rv a0 3) → (WKJ L cl ln iv rv sk a0 ivb1 rvb1 nb0 cb0 x dp tn) → cw p l e 6 ((PHM) + 0 - ((Phi (g0 G) sk) ln rv)) s m args below meth c G A 6 (MQ below (Qu G A (Qp G (Phi (g0 G) sk) ((Phi (g0 G) sk) ln rv) 0 (fun v L2 cl2 ln2 iv2 rv2 => v = none ∧ XT L cl ln L2 cl2 ln2 ∧ fT [17, 60, 61, 62, 11, 41] L cl iv rv iv2 rv2 ∧ WT (g0 G) sk L2 cl2 ln2 iv2 rv2 ∧ (WKS L cl ln iv rv sk a0 iv2 rv2 x)))) args s (((PHM) + 0 - ((Phi (g0 G) sk) ln rv)) / 16) ((PHM) + 0 - ((Phi (g0 G) sk) ln rv)) A) (Phi (g0 G) sk) ((Phi (g0 G) sk) ln rv) Lb1 clb1 lnb1 ivb1 rvb1 0 18 [(2, .int (iI dp)), (3, .int (iI tn)), (0, .ref a0), (1, .int (iI x))] [] := by
    intro nn
    induction nn with
    | zero =>
      intro  dp tn Lb1 clb1 lnb1 ivb1 rvb1 hm Xb1 Wb1 Fb1  hdp ht hr hwi hk9 hr0 hJ
      have skb1 := Xb1.skl hS
      exact absurd hm (by omega)
    | succ nn ih1 =>
      intro  dp tn Lb1 clb1 lnb1 ivb1 rvb1 hm Xb1 Wb1 Fb1  hdp ht hr hwi hk9 hr0 hJ
      have skb1 := Xb1.skl hS
      refine c_iload_n (j := 0) C dX4_walk_18 rfl ?_
      refine c_if_lt (tgt := 165) C (r32_c (lo := (-1)) (hi := 100) hdp.1 hdp.2 (by decide) (by decide)) dX4_walk_19 (by decide) (fun c1 => ?_) (fun c1 => ?_)
      · have ty1 := Xb1.ty t_a0
        refine hv5 (show 0 ≤ ivb1 a0 5 ∧ ivb1 a0 5 ≤ 50 from Wb1.int ty1 5) (show 0 ≤ ivb1 a0 6 ∧ ivb1 a0 6 ≤ 1 from Wb1.int ty1 6) (show 0 ≤ ivb1 a0 9 ∧ ivb1 a0 9 ≤ 100 from Wb1.int ty1 9) (show (-2147483648) ≤ ivb1 a0 10 ∧ ivb1 a0 10 ≤ 2147483647 from Wb1.int ty1 10) (Phi.le Wb1 skb1) (fun ri5 ri6 ri7 ri8 pl1 => ?_)
        exact c_vret C dX4_walk_165 rfl (by decide) (rom0 hph pl1 (by decide)) ⟨rfl, Xb1, Fb1, Wb1, (hJ.fin (by omega) ⟨by omega, by omega⟩)⟩
      · refine c_iload_n (j := 1) C dX4_walk_22 rfl ?_
        refine c_ldc (z := 1000000) C dX4_walk_23 w5_159 rfl ?_
        refine c_icmp_ge (tgt := 165) C (r32_c (lo := 0) (hi := 1000000) ht.1 ht.2 (by decide) (by decide)) ⟨by decide, by decide⟩ dX4_walk_25 (by decide) (fun c2 => ?_) (fun c2 => ?_)
        · have ty2 := Xb1.ty t_a0
          refine hv5 (show 0 ≤ ivb1 a0 5 ∧ ivb1 a0 5 ≤ 50 from Wb1.int ty2 5) (show 0 ≤ ivb1 a0 6 ∧ ivb1 a0 6 ≤ 1 from Wb1.int ty2 6) (show 0 ≤ ivb1 a0 9 ∧ ivb1 a0 9 ≤ 100 from Wb1.int ty2 9) (show (-2147483648) ≤ ivb1 a0 10 ∧ ivb1 a0 10 ≤ 2147483647 from Wb1.int ty2 10) (Phi.le Wb1 skb1) (fun ri9 ri10 ri11 ri12 pl2 => ?_)
          exact c_vret C dX4_walk_165 rfl (by decide) (rom0 hph pl2 (by decide)) ⟨rfl, Xb1, Fb1, Wb1, (hJ.fin (by omega) ⟨by omega, by omega⟩)⟩
        · have ty3 := Xb1.ty tsk24
          refine hv4 (show 0 ≤ ivb1 (sk 24) 2 ∧ ivb1 (sk 24) 2 ≤ 6003 from Wb1.int ty3 2) (show ivb1 (sk 24) 2 = iv (sk 24) 2 from Fb1.i tsk24 rfl 2) (Xb1.ty tsk25) (show ivb1 (sk 25) 2 = iv (sk 25) 2 from Fb1.i tsk25 rfl 2) (fun ri13 ie9 ty4 ie10 => ?_)
          have ri14 : 0 ≤ ivb1 (sk 25) 2 ∧ ivb1 (sk 25) 2 ≤ 6003 := Wb1.int ty4 2
          obtain ⟨wk1, wk2, wk3, wk4, wk5⟩ := hwi dp.toNat (by omega)
          have wk6 : ivb1 cb0 dp.toNat ≤ 0 ∨ ivb1 cb0 dp.toNat ≤ ivb1 (sk 24) 2 ∨ ivb1 cb0 dp.toNat ≤ ivb1 (sk 25) 2 := wk5.elim Or.inl (fun q => Or.inr (q.elim (fun q => Or.inl q.2) (fun q => Or.inr q.2)))
          refine c_aload_n (j := 2) (x := a0) C dX4_walk_28 rfl ?_
          have ty5 := Xb1.ty t_a0
          refine c_getr (k := 1) C ck_5 dX4_walk_29 w1_230 (by decide) ty5 rfl rfl (by decide) rfl hr.1 ?_
          refine c_st (st2 := [.ref nb0]) rfl ?_
          refine c_iload_n (j := 0) C dX4_walk_32 rfl ?_
          have ty6 := Xb1.ty tnb0
          have ll3 : 101 ≤ lnb1 nb0 ∧ lnb1 nb0 ≤ 101 := Wb1.len ty6 rfl
          refine c_iald C dX4_walk_33 ty6 rfl (by omega) (by omega) (by omega) ?_
          have ri15 : (-2147483648) ≤ ivb1 nb0 dp.toNat ∧ ivb1 nb0 dp.toNat ≤ 2147483647 := Wb1.int ty6 dp.toNat
          refine c_aload_n (j := 2) (x := a0) C dX4_walk_34 rfl ?_
          have ri16 : 0 ≤ ivb1 a0 9 ∧ ivb1 a0 9 ≤ 100 := Wb1.int ty5 9
          refine c_get (k := 9) C ck_5 dX4_walk_35 w2_0 (by decide) ty5 rfl rfl (by decide) rfl ?_
          refine c_iconst C dX4_walk_38 ?_
          refine c_imul C dX4_walk_39 ?_
          refine c_icmp_lt (tgt := 47) C (r32_c (lo := (-2147483648)) (hi := 2147483647) ri15.1 ri15.2 (by decide) (by decide)) ⟨by omega, by omega⟩ dX4_walk_40 (by decide) (fun c3 => ?_) (fun c3 => ?_)
          · refine c_iconst C dX4_walk_47 ?_
            refine c_istore (lv2 := [(4, .int (iI 0)), (2, .int (iI dp)), (3, .int (iI tn)), (0, .ref a0), (1, .int (iI x))]) C dX4_walk_48 (by decide) rfl ?_
            refine c_iload (j := 0) C dX4_walk_50 rfl ?_
            refine c_if_eq (tgt := 69) C ⟨by decide, by decide⟩ dX4_walk_52 (by decide) (fun _ => ?_) (fun z => absurd z (by omega))
            refine c_iload (j := 0) C dX4_walk_69 rfl ?_
            refine c_if_eq (tgt := 78) C ⟨by decide, by decide⟩ dX4_walk_71 (by decide) (fun _ => ?_) (fun z => absurd z (by omega))
            refine c_aload_n (j := 3) (x := a0) C dX4_walk_78 rfl ?_
            refine c_aload_n (j := 3) (x := a0) C dX4_walk_79 rfl ?_
            refine c_getr (k := 1) C ck_5 dX4_walk_80 w1_230 (by decide) ty5 rfl rfl (by decide) rfl hr.1 ?_
            refine c_st (st2 := [.ref nb0, .ref a0]) rfl ?_
            refine c_iload_n (j := 1) C dX4_walk_83 rfl ?_
            refine c_iald C dX4_walk_84 ty6 rfl (by omega) (by omega) (by omega) ?_
            refine c_aload_n (j := 3) (x := a0) C dX4_walk_85 rfl ?_
            refine c_getr (k := 2) C ck_5 dX4_walk_86 w1_231 (by decide) ty5 rfl rfl (by decide) rfl hr.2 ?_
            refine c_st (st2 := [.ref cb0, .int (iI (ivb1 nb0 dp.toNat)), .ref a0]) rfl ?_
            refine c_iload_n (j := 1) C dX4_walk_89 rfl ?_
            have ty7 := Xb1.ty tcb0
            have ll4 : 101 ≤ lnb1 cb0 ∧ lnb1 cb0 ≤ 101 := Wb1.len ty7 rfl
            refine c_iald C dX4_walk_90 ty7 rfl (by omega) (by omega) (by omega) ?_
            have ri17 : (-2147483648) ≤ ivb1 cb0 dp.toNat ∧ ivb1 cb0 dp.toNat ≤ 2147483647 := Wb1.int ty7 dp.toNat
            refine c_iconst C dX4_walk_91 ?_
            refine c_iadd C dX4_walk_92 ?_
            have pl3 := Phi.le Wb1 skb1
            refine d_callV (As := [.int (iI (ivb1 nb0 dp.toNat)), .int (iI ((ivb1 cb0 dp.toNat) + 1))]) (rest := []) C hM (G_nextChoice (a0 := a0) (i := ivb1 nb0 dp.toNat) (x := (ivb1 cb0 dp.toNat) + 1) Wb1 skb1 ty5 (by omega) (by omega) (by show 0 ≤ (ivb1 nb0 dp.toNat) ∧ (ivb1 nb0 dp.toNat) ≤ 403 ∧ 0 ≤ ((ivb1 cb0 dp.toNat) + 1); omega)) dX4_walk_93 kV_X4_85 rfl ty5 rfl rfl (by decide) ck_5 rfl (Nat.le_of_ble_eq_true rfl) ⟨(Nat.le_of_ble_eq_true rfl), (Nat.le_of_ble_eq_true rfl)⟩ hph pl3 (show 0 + 0 = 0 from rfl) (by decide) (fun rh1 Lh1 clh1 lnh1 ivh1 rvh1 h1 => ?_)
            obtain ⟨f1, rfl, rfl, rfl, rfl, rfl, rfl, rgf1, exf1⟩ := h1
            refine c_st (st2 := [.int (iI f1)]) rfl ?_
            have gf1 : (f1 = -1 ∨ (((ivb1 cb0 dp.toNat) + 1) ≤ f1 ∧ VL sk ivb1 (ivb1 nb0 dp.toNat) f1 ∧ GD sk lnb1 ivb1 rvb1 a0 (ivb1 nb0 dp.toNat) ((ivb1 nb0 dp.toNat) / 4) f1)) ∧ NCS Lb1 clb1 lnb1 ivb1 rvb1 sk a0 (ivb1 nb0 dp.toNat) ((ivb1 cb0 dp.toNat) + 1) f1 := exf1
            refine c_istore (lv2 := [(5, .int (iI f1)), (4, .int (iI 0)), (2, .int (iI dp)), (3, .int (iI tn)), (0, .ref a0), (1, .int (iI x))]) C dX4_walk_96 (by decide) rfl ?_
            refine c_iload (j := 1) C dX4_walk_98 rfl ?_
            refine c_if_eq (tgt := 108) C ⟨by decide, by decide⟩ dX4_walk_100 (by decide) (fun _ => ?_) (fun z => absurd z (by omega))
            refine c_iload (j := 0) C dX4_walk_108 rfl ?_
            refine c_if_ge (tgt := 119) C ⟨by omega, by omega⟩ dX4_walk_110 (by decide) (fun c4 => ?_) (fun c4 => ?_)
            · refine c_aload_n (j := 4) (x := a0) C dX4_walk_119 rfl ?_
              refine c_getr (k := 2) C ck_5 dX4_walk_120 w1_231 (by decide) ty5 rfl rfl (by decide) rfl hr.2 ?_
              refine c_st (st2 := [.ref cb0]) rfl ?_
              refine c_iload_n (j := 2) C dX4_walk_123 rfl ?_
              refine c_iload (j := 0) C dX4_walk_124 rfl ?_
              refine c_iast (x := f1) C dX4_walk_126 ty7 rfl (by omega) (by omega) (by omega) (fun iv3 pq3 => ?_)
              refine hv2 (Wb1.puti pq3 ty7 (show (-2147483648) ≤ f1 ∧ f1 ≤ 2147483647 by omega) rfl) (Fb1.puti Xb1 pq3 ty7 rfl) (fun W4 F3 => ?_)
              refine c_aload_n (j := 4) (x := a0) C dX4_walk_127 rfl ?_
              refine c_getr (k := 1) C ck_5 dX4_walk_128 w1_230 (by decide) ty5 rfl rfl (by decide) rfl hr.1 ?_
              refine c_st (st2 := [.ref nb0]) rfl ?_
              refine c_iload_n (j := 2) C dX4_walk_131 rfl ?_
              refine c_iconst C dX4_walk_132 ?_
              refine c_iadd C dX4_walk_133 ?_
              refine c_aload_n (j := 4) (x := a0) C dX4_walk_134 rfl ?_
              refine c_aload_n (j := 4) (x := a0) C dX4_walk_135 rfl ?_
              refine c_getr (k := 1) C ck_5 dX4_walk_136 w1_230 (by decide) ty5 rfl rfl (by decide) rfl hr.1 ?_
              refine c_st (st2 := [.ref nb0, .ref a0, .int (iI (dp + 1)), .ref nb0]) rfl ?_
              refine c_iload_n (j := 2) C dX4_walk_139 rfl ?_
              refine c_iald C dX4_walk_140 ty6 rfl (by omega) (by omega) (by omega) ?_
              refine hv2 (show (-2147483648) ≤ iv3 nb0 dp.toNat ∧ iv3 nb0 dp.toNat ≤ 2147483647 from W4.int ty6 dp.toNat) (show iv3 nb0 dp.toNat = ivb1 nb0 dp.toNat from by rw [pq3]; exact up2_k (ne_ty ty6 ty7 (by decide))) (fun ri18 ie14 => ?_)
              refine c_iload (j := 0) C dX4_walk_141 rfl ?_
              refine hv5 (show 0 ≤ iv3 a0 9 ∧ iv3 a0 9 ≤ 100 from W4.int ty5 9) (show iv3 a0 9 = ivb1 a0 9 from by rw [pq3]; exact up2_k (ne_ty ty5 ty7 (by decide))) (show (-2147483648) ≤ iv3 a0 10 ∧ iv3 a0 10 ≤ 2147483647 from W4.int ty5 10) (show iv3 a0 10 = ivb1 a0 10 from by rw [pq3]; exact up2_k (ne_ty ty5 ty7 (by decide))) (show iv3 nb0 dp.toNat = ivb1 nb0 dp.toNat from by rw [pq3]; exact up2_k (ne_ty ty6 ty7 (by decide))) (fun ri19 ie15 ri20 ie16 en => ?_)
              have vv := ((gf1.1).resolve_left (fun q => absurd q (by omega))).2
              have vp := vv.1.put skb1 pq3 ty7
              refine d_callV (As := [.int (iI (iv3 nb0 dp.toNat)), .int (iI f1)]) (rest := [.int (iI (dp + 1)), .ref nb0]) C hM (G_nodeBehind (a0 := a0) (i := iv3 nb0 dp.toNat) (x := f1) W4 skb1 ty5 (by omega) (by omega) (by show 0 ≤ (iv3 nb0 dp.toNat) ∧ (iv3 nb0 dp.toNat) ≤ 403; omega) (by rw [en]; exact vp)) dX4_walk_143 kV_X4_92 rfl ty5 rfl rfl (by decide) ck_5 rfl (Nat.le_of_ble_eq_true rfl) ⟨(Nat.le_of_ble_eq_true rfl), (Nat.le_of_ble_eq_true rfl)⟩ hph pl3 (show 0 + 0 = 0 from rfl) (by decide) (fun rh2 Lh2 clh2 lnh2 ivh2 rvh2 h2 => ?_)
              obtain ⟨f2, rfl, rfl, rfl, rfl, rfl, rfl, rgf2, exf2⟩ := h2
              refine c_st (st2 := [.int (iI f2), .int (iI (dp + 1)), .ref nb0]) rfl ?_
              have gf2 : ((f2 = -1 ∧ ¬ GD sk lnb1 iv3 rvb1 a0 (iv3 nb0 dp.toNat) ((iv3 nb0 dp.toNat) / 4) f1) ∨ (GD sk lnb1 iv3 rvb1 a0 (iv3 nb0 dp.toNat) ((iv3 nb0 dp.toNat) / 4) f1 ∧ 4 * ((iv3 nb0 dp.toNat) / 4) + 4 ≤ f2 ∧ f2 ≤ 4 * iv3 a0 9 + 3)) ∧ NBS Lb1 clb1 lnb1 iv3 rvb1 sk a0 (iv3 nb0 dp.toNat) f1 f2 := exf2
              have nq : 4 * ((iv3 nb0 dp.toNat) / 4) + 4 ≤ f2 ∧ f2 ≤ 4 * iv3 a0 9 + 3 := (gf2.1).elim (fun q => absurd (by rw [en]; exact vv.2.put vv.1 Wb1 skb1 ty5 pq3 ty7) q.2) (fun q => q.2)
              refine c_iast (x := f2) C dX4_walk_146 ty6 rfl (by omega) (by omega) (by omega) (fun iv4 pq4 => ?_)
              refine hv2 (W4.puti pq4 ty6 (show (-2147483648) ≤ f2 ∧ f2 ≤ 2147483647 by omega) rfl) (F3.puti Xb1 pq4 ty6 rfl) (fun W6 F4 => ?_)
              refine c_aload_n (j := 4) (x := a0) C dX4_walk_147 rfl ?_
              refine c_getr (k := 2) C ck_5 dX4_walk_148 w1_231 (by decide) ty5 rfl rfl (by decide) rfl hr.2 ?_
              refine c_st (st2 := [.ref cb0]) rfl ?_
              refine c_iload_n (j := 2) C dX4_walk_151 rfl ?_
              refine c_iconst C dX4_walk_152 ?_
              refine c_iadd C dX4_walk_153 ?_
              refine c_iconst C dX4_walk_154 ?_
              refine c_iast (x := (-1)) C dX4_walk_155 ty7 rfl (by omega) (by omega) (by omega) (fun iv5 pq5 => ?_)
              refine hv2 (W6.puti pq5 ty7 (show (-2147483648) ≤ (-1) ∧ (-1) ≤ 2147483647 by omega) rfl) (F4.puti Xb1 pq5 ty7 rfl) (fun W7 F5 => ?_)
              refine c_iinc (z := dp) (j := 2) (lv2 := [(2, .int (iI (dp + 1))), (5, .int (iI f1)), (4, .int (iI 0)), (3, .int (iI tn)), (0, .ref a0), (1, .int (iI x))]) C dX4_walk_156 rfl (by decide) rfl ?_
              refine c_iinc (z := tn) (j := 3) (lv2 := [(3, .int (iI (tn + 1))), (2, .int (iI (dp + 1))), (5, .int (iI f1)), (4, .int (iI 0)), (0, .ref a0), (1, .int (iI x))]) C dX4_walk_159 rfl (by decide) rfl ?_
              refine c_goto (tgt := 18) C dX4_walk_162 (by decide) ?_
              refine hv15 (show 0 ≤ iv5 a0 9 ∧ iv5 a0 9 ≤ 100 from W7.int ty5 9) (show iv5 a0 9 = iv4 a0 9 from by rw [pq5]; exact up2_k (ne_ty ty5 ty7 (by decide))) (show iv4 a0 9 = iv3 a0 9 from by rw [pq4]; exact up2_k (ne_ty ty5 ty6 (by decide))) (show (-2147483648) ≤ iv5 a0 10 ∧ iv5 a0 10 ≤ 2147483647 from W7.int ty5 10) (show iv5 a0 10 = iv4 a0 10 from by rw [pq5]; exact up2_k (ne_ty ty5 ty7 (by decide))) (show iv4 a0 10 = iv3 a0 10 from by rw [pq4]; exact up2_k (ne_ty ty5 ty6 (by decide))) (show 0 ≤ iv5 a0 5 ∧ iv5 a0 5 ≤ 50 from W7.int ty5 5) (show iv5 a0 5 = iv4 a0 5 from by rw [pq5]; exact up2_k (ne_ty ty5 ty7 (by decide))) (show iv4 a0 5 = iv3 a0 5 from by rw [pq4]; exact up2_k (ne_ty ty5 ty6 (by decide))) (show iv3 a0 5 = ivb1 a0 5 from by rw [pq3]; exact up2_k (ne_ty ty5 ty7 (by decide))) (show 0 ≤ iv5 a0 6 ∧ iv5 a0 6 ≤ 1 from W7.int ty5 6) (show iv5 a0 6 = iv4 a0 6 from by rw [pq5]; exact up2_k (ne_ty ty5 ty7 (by decide))) (show iv4 a0 6 = iv3 a0 6 from by rw [pq4]; exact up2_k (ne_ty ty5 ty6 (by decide))) (show iv3 a0 6 = ivb1 a0 6 from by rw [pq3]; exact up2_k (ne_ty ty5 ty7 (by decide))) (Xb1.ty tsk11) (fun ri21 ie18 ie19 ri22 ie20 ie21 ri23 ie22 ie23 ie24 ri24 ie26 ie27 ie28 ty8 => ?_)
              refine c_lv (lv2 := [(2, .int (iI (dp + 1))), (3, .int (iI (tn + 1))), (0, .ref a0), (1, .int (iI x))]) [1, 0, 4, 5] rfl ?_
              exact ih1  (dp + 1) (tn + 1) _ _ _ _ _ (by omega) Xb1 W7 F5  (by omega) (by omega) ⟨hr.1, hr.2⟩ (WKI.next hwi pq3 pq4 pq5 (ne_ty ty6 ty7 (by decide)) (by omega) vv.1 (by omega) (by omega) (ne_ty ty3 ty6 (by decide)) (ne_ty ty3 ty7 (by decide)) (ne_ty ty4 ty6 (by decide)) (ne_ty ty4 ty7 (by decide))) ⟨(ie18.trans (ie19.trans (ie15.trans hk9.1))), (ie20.trans (ie21.trans (ie16.trans hk9.2)))⟩ ⟨hr0.1, hr0.2.1, hr0.2.2⟩ (WKJ.push (i0 := ivb1 nb0 dp.toNat) (c0 := ivb1 cb0 dp.toNat) hJ (by omega) rfl rfl (by omega) (fun a l0 l1 C F n hc => hc.fr hW hS t_a0 Fb1 (QT.of hW hS Xb1 Fb1 rfl rfl rfl rfl rfl) hk9.1 hk9.2 hr0.2.1 rfl rfl rfl rfl rfl) (fun a l0 l1 C F n he => he.fr hW t_a0 Fb1 hr0.1 rfl) (by omega) gf1.2 (by omega) pq3 (fun a l0 l1 C F n hc => hc.fr hW hS t_a0 F3 (QT.of hW hS Xb1 F3 rfl rfl rfl rfl rfl) (by omega) (by omega) hr0.2.1 rfl rfl rfl rfl rfl) en gf2.2 pq4 pq5 (ne_ty ty6 ty7 (by decide)) (fun K hk => (((hk.put Wb1 ty5 ty8 ty7 (by decide) (by decide) (by decide) (by decide) pq3).put Wb1 ty5 ty8 ty6 (by decide) (by decide) (by decide) (by decide) pq4).put Wb1 ty5 ty8 ty7 (by decide) (by decide) (by decide) (by decide) pq5)) (by omega) (by omega) (by omega))
            · refine c_iinc (z := dp) (j := 2) (lv2 := [(2, .int (iI (dp + (-1)))), (5, .int (iI f1)), (4, .int (iI 0)), (3, .int (iI tn)), (0, .ref a0), (1, .int (iI x))]) C dX4_walk_113 rfl (by decide) rfl ?_
              refine c_goto (tgt := 159) C dX4_walk_116 (by decide) ?_
              refine c_iinc (z := tn) (j := 3) (lv2 := [(3, .int (iI (tn + 1))), (2, .int (iI (dp + (-1)))), (5, .int (iI f1)), (4, .int (iI 0)), (0, .ref a0), (1, .int (iI x))]) C dX4_walk_159 rfl (by decide) rfl ?_
              refine c_goto (tgt := 18) C dX4_walk_162 (by decide) ?_
              refine hv4 (show (-2147483648) ≤ ivb1 a0 10 ∧ ivb1 a0 10 ≤ 2147483647 from Wb1.int ty5 10) (show 0 ≤ ivb1 a0 5 ∧ ivb1 a0 5 ≤ 50 from Wb1.int ty5 5) (show 0 ≤ ivb1 a0 6 ∧ ivb1 a0 6 ≤ 1 from Wb1.int ty5 6) (Xb1.ty tsk11) (fun ri25 ri26 ri27 ty9 => ?_)
              refine c_lv (lv2 := [(2, .int (iI (dp + (-1)))), (3, .int (iI (tn + 1))), (0, .ref a0), (1, .int (iI x))]) [1, 0, 4, 5] rfl ?_
              exact ih1  (dp + (-1)) (tn + 1) _ _ _ _ _ (by omega) Xb1 Wb1 Fb1  (by omega) (by omega) ⟨hr.1, hr.2⟩ hwi.back ⟨hk9.1, hk9.2⟩ ⟨hr0.1, hr0.2.1, hr0.2.2⟩ (WKJ.pop (i0 := ivb1 nb0 dp.toNat) (c0 := ivb1 cb0 dp.toNat) hJ (by omega) rfl rfl (by omega) (fun a l0 l1 C F n hc => hc.fr hW hS t_a0 Fb1 (QT.of hW hS Xb1 Fb1 rfl rfl rfl rfl rfl) hk9.1 hk9.2 hr0.2.1 rfl rfl rfl rfl rfl) (fun a l0 l1 C F n he => he.fr hW t_a0 Fb1 hr0.1 rfl) (by omega) gf1.2 (by omega) (by omega) (by omega))
          · refine c_iconst C dX4_walk_43 ?_
            refine c_goto (tgt := 48) C dX4_walk_44 (by decide) ?_
            refine c_istore (lv2 := [(4, .int (iI 1)), (2, .int (iI dp)), (3, .int (iI tn)), (0, .ref a0), (1, .int (iI x))]) C dX4_walk_48 (by decide) rfl ?_
            refine c_iload (j := 0) C dX4_walk_50 rfl ?_
            refine c_if_eq (tgt := 69) C ⟨by decide, by decide⟩ dX4_walk_52 (by decide) (fun z => absurd z (by omega)) (fun _ => ?_)
            refine c_aload_n (j := 3) (x := a0) C dX4_walk_55 rfl ?_
            have ri28 : 0 ≤ ivb1 a0 5 ∧ ivb1 a0 5 ≤ 50 := Wb1.int ty5 5
            refine c_get (k := 5) C ck_5 dX4_walk_56 w1_234 (by decide) ty5 rfl rfl (by decide) rfl ?_
            refine c_iload_n (j := 4) C dX4_walk_59 rfl ?_
            refine c_icmp_lt (tgt := 69) C (r32_c (lo := 0) (hi := 50) ri28.1 ri28.2 (by decide) (by decide)) ⟨by omega, by omega⟩ dX4_walk_60 (by decide) (fun c5 => ?_) (fun c5 => ?_)
            · refine c_iload (j := 0) C dX4_walk_69 rfl ?_
              refine c_if_eq (tgt := 78) C ⟨by decide, by decide⟩ dX4_walk_71 (by decide) (fun z => absurd z (by omega)) (fun _ => ?_)
              refine c_iconst C dX4_walk_74 ?_
              refine c_goto (tgt := 96) C dX4_walk_75 (by decide) ?_
              refine c_istore (lv2 := [(5, .int (iI (-1))), (4, .int (iI 1)), (2, .int (iI dp)), (3, .int (iI tn)), (0, .ref a0), (1, .int (iI x))]) C dX4_walk_96 (by decide) rfl ?_
              refine c_iload (j := 1) C dX4_walk_98 rfl ?_
              refine c_if_eq (tgt := 108) C ⟨by decide, by decide⟩ dX4_walk_100 (by decide) (fun z => absurd z (by omega)) (fun _ => ?_)
              refine c_aload_n (j := 4) (x := a0) C dX4_walk_103 rfl ?_
              refine c_iload_n (j := 2) C dX4_walk_104 rfl ?_
              refine hv4 (Xb1.ty tcb0) (show 0 ≤ ivb1 a0 6 ∧ ivb1 a0 6 ≤ 1 from Wb1.int ty5 6) (show (-2147483648) ≤ ivb1 a0 10 ∧ ivb1 a0 10 ≤ 2147483647 from Wb1.int ty5 10) (Phi.le Wb1 skb1) (fun ty10 ri29 ri30 pl4 => ?_)
              refine d_callV (As := [.int (iI dp)]) (rest := []) C hM (G_rwrite (a0 := a0) (n := dp) Wb1 skb1 ty5 (by omega) (by show 0 ≤ dp ∧ dp ≤ 100; omega) (by show ivb1 a0 5 < 50; omega) (fun nb cb h1 h2 d hd => by rw [hr.1] at h1; cases h1; rw [hr.2] at h2; cases h2; exact ⟨(hwi d (by omega)).2.2.2.1 hd, (hwi d (by omega)).2.2.2.2⟩)) dX4_walk_105 kV_X4_89 rfl ty5 rfl rfl (by decide) ck_5 rfl (Nat.le_of_ble_eq_true rfl) ⟨(Nat.le_of_ble_eq_true rfl), (Nat.le_of_ble_eq_true rfl)⟩ hph pl4 (show 0 + 0 = 0 from rfl) (by decide) (fun rh3 Lh3 clh3 lnh3 ivh3 rvh3 h3 => ?_)
              obtain ⟨rfl, xl3, fl3, W8, exf3⟩ := h3
              refine hv5 (Fb1.call Xb1 fl3 rfl) (Xb1.ty tsk11) (Xb1.ty tsk16) (Xb1.trans xl3) (xl3.skl skb1) (fun F6 ty11 ty12 X1 sk1 => ?_)
              refine c_st (st2 := []) rfl ?_
              refine hv5 (xl3.ty ty5) (show (rvh3 a0 1 = rvb1 a0 1 ∧ rvh3 a0 2 = rvb1 a0 2) ∧ ((ivh3 a0 9 = ivb1 a0 9 ∧ ivh3 a0 10 = ivb1 a0 10 ∧ ivh3 a0 6 = ivb1 a0 6 ∧ ivh3 a0 5 = ivb1 a0 5 + 1) ∧ rvh3 a0 0 = rvb1 a0 0 ∧ rvh3 a0 8 = rvb1 a0 8 ∧ rvh3 a0 3 = rvb1 a0 3) ∧ WRS Lb1 clb1 lnb1 ivb1 rvb1 sk a0 ivh3 rvh3 dp from exf3) (exf3.1.1.trans hr.1) (exf3.1.2.trans hr.2) (exf3.2.1.1) (fun ty13 gf3 rw1 rw2 kw1 => ?_)
              refine hv4 (show 0 ≤ ivh3 a0 9 ∧ ivh3 a0 9 ≤ 100 from W8.int ty13 9) (show (-2147483648) ≤ ivh3 a0 10 ∧ ivh3 a0 10 ≤ 2147483647 from W8.int ty13 10) (show 0 ≤ ivh3 a0 6 ∧ ivh3 a0 6 ≤ 1 from W8.int ty13 6) (show 0 ≤ ivh3 a0 5 ∧ ivh3 a0 5 ≤ 50 from W8.int ty13 5) (fun ri31 ri32 ri33 ri34 => ?_)
              refine c_iload (j := 0) C dX4_walk_108 rfl ?_
              refine c_if_ge (tgt := 119) C ⟨by decide, by decide⟩ dX4_walk_110 (by decide) (fun z => absurd z (by omega)) (fun _ => ?_)
              refine c_iinc (z := dp) (j := 2) (lv2 := [(2, .int (iI (dp + (-1)))), (5, .int (iI (-1))), (4, .int (iI 1)), (3, .int (iI tn)), (0, .ref a0), (1, .int (iI x))]) C dX4_walk_113 rfl (by decide) rfl ?_
              refine c_goto (tgt := 159) C dX4_walk_116 (by decide) ?_
              refine c_iinc (z := tn) (j := 3) (lv2 := [(3, .int (iI (tn + 1))), (2, .int (iI (dp + (-1)))), (5, .int (iI (-1))), (4, .int (iI 1)), (0, .ref a0), (1, .int (iI x))]) C dX4_walk_159 rfl (by decide) rfl ?_
              refine c_goto (tgt := 18) C dX4_walk_162 (by decide) ?_
              refine hv3 (xl3.ty ty6) (xl3.ty ty10) (xl3.ty ty11) (fun ty14 ty15 ty16 => ?_)
              refine c_lv (lv2 := [(2, .int (iI (dp + (-1)))), (3, .int (iI (tn + 1))), (0, .ref a0), (1, .int (iI x))]) [1, 0, 4, 5] rfl ?_
              exact ih1  (dp + (-1)) (tn + 1) _ _ _ _ _ (by omega) X1 W8 F6  (by omega) (by omega) ⟨rw1, rw2⟩ (WKI.back (WKI.fr hwi (fun d => fl3.i ty6 rfl d) (fun d => fl3.i ty10 rfl d) (fl3.i ty3 rfl 2) (fl3.i ty4 rfl 2))) ⟨(gf3.2.1.1.1.trans hk9.1), (gf3.2.1.1.2.1.trans hk9.2)⟩ ⟨(Eq.trans exf3.2.1.2.1 hr0.1), (Eq.trans exf3.2.1.2.2.1 hr0.2.1), (Eq.trans exf3.2.1.2.2.2 hr0.2.2)⟩ (WKJ.endw (i0 := ivb1 nb0 dp.toNat) (c0 := ivb1 cb0 dp.toNat) hJ (by omega) rfl rfl (by omega) (by omega) (fun a l0 l1 C F n hc => hc.fr hW hS t_a0 Fb1 (QT.of hW hS Xb1 Fb1 rfl rfl rfl rfl rfl) hk9.1 hk9.2 hr0.2.1 rfl rfl rfl rfl rfl) hr.1 hr.2 exf3.2.2 (fun T hT => hT.cg (fun d => fl3.i ty6 rfl d) (fun d => fl3.i ty10 rfl d)) (by omega) (by omega) (by omega))
            · refine c_aload_n (j := 3) (x := a0) C dX4_walk_63 rfl ?_
              refine c_iconst C dX4_walk_64 ?_
              refine c_put (z := 1) (k := 6) C ck_5 dX4_walk_65 w1_236 (by decide) rfl ty5 rfl rfl (by decide) rfl (by decide) (by decide) (fun iv6 pq6 => ?_)
              refine hv7 (Wb1.puti pq6 ty5 ⟨by decide, by decide⟩ rfl) (Fb1.puti Xb1 pq6 ty5 rfl) (show iv6 a0 5 = ivb1 a0 5 from by rw [pq6]; exact up2_j (by decide)) (show iv6 a0 6 = 1 from by rw [pq6]; exact up2_s) (show iv6 a0 9 = ivb1 a0 9 from by rw [pq6]; exact up2_j (by decide)) (show iv6 a0 10 = ivb1 a0 10 from by rw [pq6]; exact up2_j (by decide)) (Xb1.ty tsk11) (fun W9 F7 ie40 ie41 ie42 ie43 ty17 => ?_)
              refine hv5 (show 0 ≤ iv6 a0 5 ∧ iv6 a0 5 ≤ 50 from W9.int ty5 5) (show 0 ≤ iv6 a0 6 ∧ iv6 a0 6 ≤ 1 from W9.int ty5 6) (show 0 ≤ iv6 a0 9 ∧ iv6 a0 9 ≤ 100 from W9.int ty5 9) (show (-2147483648) ≤ iv6 a0 10 ∧ iv6 a0 10 ≤ 2147483647 from W9.int ty5 10) (Phi.le W9 skb1) (fun ri35 ri36 ri37 ri38 pl5 => ?_)
              exact c_vret C dX4_walk_68 rfl (by decide) (rom0 hph pl5 (by decide)) ⟨rfl, Xb1, F7, W9, (WKJ.left (i0 := ivb1 nb0 dp.toNat) (c0 := ivb1 cb0 dp.toNat) hJ (by omega) rfl rfl (by omega) (by omega) (fun K hk => hk.self Wb1 ty5 ty17 (by decide) pq6) (by omega))⟩
  refine hv12 (show 0 ≤ iv2 a0 9 ∧ iv2 a0 9 ≤ 100 from W2.int t_a0 9) (show iv2 a0 9 = iv1 a0 9 from by rw [pq2]; exact up2_k (ne_ty t_a0 tcb0 (by decide))) (show iv1 a0 9 = iv a0 9 from by rw [pq1]; exact up2_k (ne_ty t_a0 tnb0 (by decide))) (show (-2147483648) ≤ iv2 a0 10 ∧ iv2 a0 10 ≤ 2147483647 from W2.int t_a0 10) (show iv2 a0 10 = iv1 a0 10 from by rw [pq2]; exact up2_k (ne_ty t_a0 tcb0 (by decide))) (show iv1 a0 10 = iv a0 10 from by rw [pq1]; exact up2_k (ne_ty t_a0 tnb0 (by decide))) (show 0 ≤ iv2 a0 5 ∧ iv2 a0 5 ≤ 50 from W2.int t_a0 5) (show iv2 a0 5 = iv1 a0 5 from by rw [pq2]; exact up2_k (ne_ty t_a0 tcb0 (by decide))) (show iv1 a0 5 = iv a0 5 from by rw [pq1]; exact up2_k (ne_ty t_a0 tnb0 (by decide))) (show 0 ≤ iv2 a0 6 ∧ iv2 a0 6 ≤ 1 from W2.int t_a0 6) (show iv2 a0 6 = iv1 a0 6 from by rw [pq2]; exact up2_k (ne_ty t_a0 tcb0 (by decide))) (show iv1 a0 6 = iv a0 6 from by rw [pq1]; exact up2_k (ne_ty t_a0 tnb0 (by decide))) (fun ri39 ie45 ie46 ri40 ie47 ie48 ri41 ie49 ie50 ri42 ie51 ie52 => ?_)
  refine c_lv (lv2 := [(2, .int (iI 0)), (3, .int (iI 0)), (0, .ref a0), (1, .int (iI x))]) [1, 0, 2, 3] rfl ?_
  exact Lp1 1000003 0 0 _ _ _ _ _ (by omega) hX0 W2 F2  (by omega) (by omega) ⟨hnb0, hcb0⟩ (WKI.init (by rw [pq2, up2_k (ne_ty tnb0 tcb0 (by decide)), pq1]; exact up2_s) (by rw [pq2]; exact up2_s)) ⟨(ie45.trans ie46), (ie47.trans ie48)⟩ ⟨rfl, rfl, rfl⟩ (WKJ.init (by rw [pq2, up2_k (ne_ty tnb0 tcb0 (by decide)), pq1]; exact up2_s) (by rw [pq2]; exact up2_s) (fun K hk => ((hk.put hW t_a0 tsk11 tnb0 (by decide) (by decide) (by decide) (by decide) pq1).put hW t_a0 tsk11 tcb0 (by decide) (by decide) (by decide) (by decide) pq2)) (by omega))
end
section
def CLS (L : List Nat) (cl ln : Nat → Nat) (iv : Nat → Nat → Int) (rv : Nat → Nat → Option Nat) (sk : Nat → Nat) (q r : Nat) (iv2 : Nat → Nat → Int) (rv2 : Nat → Nat → Option Nat) (x y : Int) : Prop := ∀ a l0 l1 xs, (HL L cl ln iv rv a (sk 24) l0 ∧ HL L cl ln iv rv a (sk 25) l1) → (NZL a l0 ∧ NZL a l1) → (LTP a l0 ∧ LTP a l1) → (∀ j, a 12 j ≤ 8) → LNE iv rv r xs → xs.length ≤ 100 → (1 ≤ y ∧ y ≤ 50) → ∃ (K : List (List Int)) (mo : Int), KMQ y.toNat (RDC a l0 l1 (RR0 xs) (iI x) ((xs.length : Nat) : Int) 0 0 0) K mo ∧ KLP iv2 rv2 sk q K ∧ iv2 q 6 = mo
def GPA_ (L : List Nat) (cl ln : Nat → Nat) (iv : Nat → Nat → Int) (rv : Nat → Nat → Option Nat) (sk : Nat → Nat) (q r : Nat) (iv1 : Nat → Nat → Int) (x : Int) : Prop := ∀ a l0 l1 xs, (HL L cl ln iv rv a (sk 24) l0 ∧ HL L cl ln iv rv a (sk 25) l1) → (NZL a l0 ∧ NZL a l1) → (LTP a l0 ∧ LTP a l1) → (∀ j, a 12 j ≤ 8) → LNE iv rv r xs → xs.length ≤ 100 → GPC L cl ln iv1 rv sk q a l0 l1 (RR0 xs) (iI x) ((xs.length : Nat) : Int)
section GPCL
variable {g0 : Nat} {sk : Nat → Nat} {L : List Nat} {cl ln : Nat → Nat} {iv iv1 iv2 iv3 iv4 : Nat → Nat → Int} {rv rv2 : Nat → Nat → Option Nat} {q r b c cb : Nat} {x y m z : Int} {ls : List Nat}
theorem GPA_.mk (hW : WT g0 sk L cl ln iv rv) (hS : SKL sk L cl) (hF : fT ls L cl iv rv iv1 rv) (hq : QT g0 sk L cl ln iv rv L cl ln iv1 rv) (k24 : ls.contains 24 = false) (k25 : ls.contains 25 = false) (k2 : ls.contains 1002 = false) (k3 : ls.contains 1003 = false) (hb : rv q 8 = some b) (hc : rv r 0 = some c) (hm : m = iv r 1 ∨ (100 < iv r 1)) (h9 : iv1 q 9 = m) (h10 : iv1 q 10 = x) (hcp : ∀ j : Nat, ((j : Nat) : Int) < m → iv1 b j = iv c j) : GPA_ L cl ln iv rv sk q r iv1 x := fun a l0 l1 xs h1 h2 h3 h4 h5 h6 => by
  refine hv3 (el24.fr hW hS hF k24 k2) (el25.fr hW hS hF k25 k3) (h5.1) (fun e24 e25 e1 => ?_)
  refine ⟨⟨⟨h1.1.mv hq e24.1 e24.2, h1.2.mv hq e25.1 e25.2⟩, h2, h3⟩, ⟨by omega, by omega, by omega⟩, fun b' hb' j j1 j2 => ?_, by rw [h10], h4⟩
  rw [hb] at hb'
  cases hb'
  have lt : j.toNat < xs.length := by omega
  have e2 := List.getElem?_eq_getElem lt
  rw [hcp j.toNat (by omega), h5.2 c hc _ _ e2]
  unfold RR0
  rw [e2]
  rfl
theorem CLS.walk (hA : GPA_ L cl ln iv rv sk q r iv1 x) (hM : MEI L cl ln iv1 rv sk q iv2 (-1)) (hd : ∀ a l0 l1 C F n, GPC L cl ln iv1 rv sk q a l0 l1 C F n → GPC L cl ln iv2 rv sk q a l0 l1 C F n) (hcb : rv q 0 = some cb) (hz : iv2 cb 0 ≠ 0) (h5 : iv2 q 5 = 0) (h6 : iv2 q 6 = 0) (h11 : iv2 (sk 11) 2 = 0) (hw : WKS L cl ln iv2 rv sk q iv3 rv2 z) (hzy : z = y ∨ y < 1 ∨ 50 < y) : CLS L cl ln iv rv sk q r iv3 rv2 x y := fun a l0 l1 xs g1 g2 g3 g4 g5 g6 g7 => by
  have gp := hA a l0 l1 xs g1 g2 g3 g4 g5 g6
  have ce := hM _ _ _ _ _ _ gp
  have c0 := ce cb hcb 0 0 0 (Or.inl rfl) (Or.inl rfl) (by decide) (by omega) (by decide)
  have ez : z = y := by omega
  subst ez
  exact hw _ _ _ _ _ _ (hd _ _ _ _ _ _ gp) ce (c0.mp hz) g7 (KLP.nil h5 h11) h6
theorem CLS.none_ (hA : GPA_ L cl ln iv rv sk q r iv1 x) (hM : MEI L cl ln iv1 rv sk q iv2 (-1)) (hcb : rv q 0 = some cb) (hz : iv2 cb 0 = 0) (h5 : iv2 q 5 = 0) (h6 : iv2 q 6 = 0) (h11 : iv2 (sk 11) 2 = 0) : CLS L cl ln iv rv sk q r iv2 rv x y := fun a l0 l1 xs g1 g2 g3 g4 g5 g6 g7 => by
  have gp := hA a l0 l1 xs g1 g2 g3 g4 g5 g6
  have ce := hM _ _ _ _ _ _ gp
  have c0 := ce cb hcb 0 0 0 (Or.inl rfl) (Or.inl rfl) (by decide) (by omega) (by decide)
  have e : RDC a l0 l1 (RR0 xs) (iI x) ((xs.length : Nat) : Int) 0 0 0 = [] := Classical.byContradiction (fun u => c0.mpr u hz)
  refine ⟨[], 0, ?_, KLP.nil h5 h11, h6⟩
  rw [e]
  exact KMQ.init
end GPCL
set_option maxHeartbeats 4000000 in
set_option maxRecDepth 100000 in
theorem G_collect {l : Launch} {G : GT} {mi : Nat} {sk : Nat → Nat} {L : List Nat} {cl ln : Nat → Nat} {iv : Nat → Nat → Int} {rv : Nat → Nat → Option Nat}  {a0 : Nat} {a1 : Nat} {x : Int} {y : Int} (hW : WT (g0 G) sk L cl ln iv rv) (hS : SKL sk L cl) (t_a0 : ty L cl a0 17) (t_a1 : ty L cl a1 19) (h_x : -2147483648 ≤ x ∧ x ≤ 2147483647) (h_y : -2147483648 ≤ y ∧ y ≤ 2147483647)  : Mc l G mi (Phi (g0 G) sk) PHM yX4_collect cX4_collect 4 none 7 [.ref a0, .ref a1, .int (iI x), .int (iI y)] L cl ln iv rv 0 (fun v L2 cl2 ln2 iv2 rv2 => v = none ∧ XT L cl ln L2 cl2 ln2 ∧ fT [17, 63, 59, 60, 61, 62, 11, 41] L cl iv rv iv2 rv2 ∧ WT (g0 G) sk L2 cl2 ln2 iv2 rv2 ∧ (CLS L cl ln iv rv sk a0 a1 iv2 rv2 x y)) := by
  refine Mc.mk (by decide) (Nat.le_of_ble_eq_true rfl) ?_
  intro p e s m args below meth c A C hM
  refine hv12 (Phi.le hW hS) (show ty L cl (sk 11) 11 from ⟨(hS 11 rfl).1, by rw [(hS 11 rfl).2]; rfl⟩) (show ty L cl (sk 16) 16 from ⟨(hS 16 rfl).1, by rw [(hS 16 rfl).2]; rfl⟩) (show ty L cl (sk 24) 24 from ⟨(hS 24 rfl).1, by rw [(hS 24 rfl).2]; rfl⟩) (show ty L cl (sk 25) 25 from ⟨(hS 25 rfl).1, by rw [(hS 25 rfl).2]; rfl⟩) (show XT L cl ln L cl ln from XT.refl) (show fT [17, 63, 59, 60, 61, 62, 11, 41] L cl iv rv iv rv from fT.refl) (show 0 ≤ iv a0 5 ∧ iv a0 5 ≤ 50 from hW.int t_a0 5) (show 0 ≤ iv a0 6 ∧ iv a0 6 ≤ 1 from hW.int t_a0 6) (show 0 ≤ iv a0 9 ∧ iv a0 9 ≤ 100 from hW.int t_a0 9) (show (-2147483648) ≤ iv a0 10 ∧ iv a0 10 ≤ 2147483647 from hW.int t_a0 10) (show 0 ≤ iv a1 1 ∧ iv a1 1 ≤ 200 from hW.int t_a1 1) (fun hph tsk11 tsk16 tsk24 tsk25 hX0 hF0 ri1 ri2 ri3 ri4 ri5 => ?_)
  obtain ⟨b89, hb89, tb89⟩ := hW.ref t_a0 8 rfl rfl rfl
  obtain ⟨c19, hc19, tc19⟩ := hW.ref t_a1 0 rfl rfl rfl
  obtain ⟨ce9, hce9, tce9⟩ := hW.ref t_a0 0 rfl rfl rfl
  refine c_aload_n (j := 0) (x := a0) C dX4_collect_0 rfl ?_
  refine c_aload_n (j := 1) (x := a1) C dX4_collect_1 rfl ?_
  refine c_get (k := 1) C ck_3 dX4_collect_2 w4_50 (by decide) t_a1 rfl rfl (by decide) rfl ?_
  refine c_bipush (z := 100) C dX4_collect_5 (by decide) ?_
  obtain ⟨mn1, hmn1, emn1⟩ := mmin_c (x := iv a1 1) (y := 100) (r32_c (lo := 0) (hi := 200) ri5.1 ri5.2 (by decide) (by decide)) ⟨by decide, by decide⟩
  refine c_mmin (w := iI mn1) C dX4_collect_7 w5_127 w2_129 w1_14 w2_130 (by decide) (rom0 hph hph (by decide)) (Nat.le_of_ble_eq_true rfl) emn1 ?_
  refine c_put (z := mn1) (k := 9) C ck_5 dX4_collect_10 w2_0 (by decide) rfl t_a0 rfl rfl (by decide) rfl (by rfl) (by rfl) (fun iv1 pq1 => ?_)
  refine hv2 (hW.puti pq1 t_a0 (show 0 ≤ mn1 ∧ mn1 ≤ 100 by omega) rfl) (hF0.puti hX0 pq1 t_a0 rfl) (fun W1 F1 => ?_)
  refine c_aload_n (j := 1) (x := a1) C dX4_collect_13 rfl ?_
  refine c_getr (k := 0) C ck_3 dX4_collect_14 w4_45 (by decide) t_a1 rfl rfl (by decide) rfl hc19 ?_
  refine c_st (st2 := [.ref c19]) rfl ?_
  refine c_iconst C dX4_collect_17 ?_
  refine c_aload_n (j := 0) (x := a0) C dX4_collect_18 rfl ?_
  refine c_getr (k := 8) C ck_5 dX4_collect_19 w1_239 (by decide) t_a0 rfl rfl (by decide) rfl hb89 ?_
  refine c_st (st2 := [.ref b89, .int (iI 0), .ref c19]) rfl ?_
  refine c_iconst C dX4_collect_22 ?_
  refine c_aload_n (j := 0) (x := a0) C dX4_collect_23 rfl ?_
  refine hv2 (show 0 ≤ iv1 a0 9 ∧ iv1 a0 9 ≤ 100 from W1.int t_a0 9) (show iv1 a0 9 = mn1 from by rw [pq1]; exact up2_s) (fun ri6 ie1 => ?_)
  refine c_get (k := 9) C ck_5 dX4_collect_24 w2_0 (by decide) t_a0 rfl rfl (by decide) rfl ?_
  refine hv2 (show 200 ≤ ln c19 ∧ ln c19 ≤ 200 from W1.len tc19 rfl) (show 100 ≤ ln b89 ∧ ln b89 ≤ 100 from W1.len tb89 rfl) (fun ll1 ll2 => ?_)
  refine c_copyi (sp := 0) (dp := 0) (n := iv1 a0 9) C dX4_collect_27 w5_128 w2_133 w2_132 w1_15 tc19 rfl tb89 rfl (by omega) (by omega) (by omega) (by omega) (by omega) (by omega) (by omega) (by decide) (Nat.le_of_ble_eq_true rfl) (fun iv2 pq2 => ?_)
  refine hv2 (W1.copy pq2 tb89 tc19 (fun _ => rfl) (fun _ => rfl) (fun _ => rfl) (fun _ => rfl) rfl) (F1.copy hX0 pq2 tb89 rfl) (fun W2 F2 => ?_)
  refine c_aload_n (j := 0) (x := a0) C dX4_collect_30 rfl ?_
  refine c_iload_n (j := 2) C dX4_collect_31 rfl ?_
  refine c_put (z := x) (k := 10) C ck_5 dX4_collect_32 w2_1 (by decide) rfl t_a0 rfl rfl (by decide) rfl (by rfl) (by rfl) (fun iv3 pq3 => ?_)
  refine hv2 (W2.puti pq3 t_a0 (show (-2147483648) ≤ x ∧ x ≤ 2147483647 by omega) rfl) (F2.puti hX0 pq3 t_a0 rfl) (fun W3 F3 => ?_)
  refine c_aload_n (j := 0) (x := a0) C dX4_collect_35 rfl ?_
  refine c_iconst C dX4_collect_36 ?_
  refine c_put (z := 0) (k := 5) C ck_5 dX4_collect_37 w1_234 (by decide) rfl t_a0 rfl rfl (by decide) rfl (by rfl) (by rfl) (fun iv4 pq4 => ?_)
  refine hv2 (W3.puti pq4 t_a0 ⟨by decide, by decide⟩ rfl) (F3.puti hX0 pq4 t_a0 rfl) (fun W4 F4 => ?_)
  refine c_aload_n (j := 0) (x := a0) C dX4_collect_40 rfl ?_
  refine c_iconst C dX4_collect_41 ?_
  refine c_put (z := 0) (k := 6) C ck_5 dX4_collect_42 w1_236 (by decide) rfl t_a0 rfl rfl (by decide) rfl (by decide) (by decide) (fun iv5 pq5 => ?_)
  refine hv2 (W4.puti pq5 t_a0 ⟨by decide, by decide⟩ rfl) (F4.puti hX0 pq5 t_a0 rfl) (fun W5 F5 => ?_)
  refine c_aload_n (j := 0) (x := a0) C dX4_collect_45 rfl ?_
  obtain ⟨rb1, rq1, trb1⟩ := W5.ref t_a0 4 rfl rfl rfl
  have erb1 := W5.sk trb1 (by decide) rfl
  subst erb1
  refine c_getr (k := 4) C ck_5 dX4_collect_46 w1_233 (by decide) t_a0 rfl rfl (by decide) rfl rq1 ?_
  refine c_st (st2 := [.ref (sk 11)]) rfl ?_
  refine d_callV (As := []) (rest := []) C hM (C_clear_11 (a0 := (sk 11)) W5 hS tsk11  ) dX4_collect_49 kV_X4_76 rfl tsk11 rfl rfl (by decide) ck_2 rfl (Nat.le_of_ble_eq_true rfl) ⟨(Nat.le_of_ble_eq_true rfl), (Nat.le_of_ble_eq_true rfl)⟩ hph hph (show 0 + 0 = 0 from rfl) (by decide) (fun rh1 Lh1 clh1 lnh1 ivh1 rvh1 h1 => ?_)
  obtain ⟨rfl, rfl, rfl, rfl, rfl, fl1, W6, exf1⟩ := h1
  have F6 := F5.call hX0 fl1 rfl
  refine c_st (st2 := []) rfl ?_
  refine hv2 (show 0 ≤ ivh1 (sk 11) 2 ∧ ivh1 (sk 11) 2 ≤ 40000 from W6.int tsk11 2) (show ivh1 (sk 11) 2 = 0 from exf1) (fun ri7 gf1 => ?_)
  refine c_aload_n (j := 0) (x := a0) C dX4_collect_52 rfl ?_
  refine hv18 (show 0 ≤ ivh1 a0 5 ∧ ivh1 a0 5 ≤ 50 from W6.int t_a0 5) (show ivh1 a0 5 = iv5 a0 5 from fl1.i t_a0 rfl 5) (show iv5 a0 5 = iv4 a0 5 from by rw [pq5]; exact up2_j (by decide)) (show iv4 a0 5 = 0 from by rw [pq4]; exact up2_s) (show 0 ≤ ivh1 a0 6 ∧ ivh1 a0 6 ≤ 1 from W6.int t_a0 6) (show ivh1 a0 6 = iv5 a0 6 from fl1.i t_a0 rfl 6) (show iv5 a0 6 = 0 from by rw [pq5]; exact up2_s) (show 0 ≤ ivh1 a0 9 ∧ ivh1 a0 9 ≤ 100 from W6.int t_a0 9) (show ivh1 a0 9 = iv5 a0 9 from fl1.i t_a0 rfl 9) (show iv5 a0 9 = iv4 a0 9 from by rw [pq5]; exact up2_j (by decide)) (show iv4 a0 9 = iv3 a0 9 from by rw [pq4]; exact up2_j (by decide)) (show iv3 a0 9 = iv2 a0 9 from by rw [pq3]; exact up2_j (by decide)) (show iv2 a0 9 = iv1 a0 9 from by rw [pq2]; exact if_neg (ne_ty t_a0 tb89 (by decide))) (show (-2147483648) ≤ ivh1 a0 10 ∧ ivh1 a0 10 ≤ 2147483647 from W6.int t_a0 10) (show ivh1 a0 10 = iv5 a0 10 from fl1.i t_a0 rfl 10) (show iv5 a0 10 = iv4 a0 10 from by rw [pq5]; exact up2_j (by decide)) (show iv4 a0 10 = iv3 a0 10 from by rw [pq4]; exact up2_j (by decide)) (show iv3 a0 10 = x from by rw [pq3]; exact up2_s) (fun ri8 ie3 ie4 ie5 ri9 ie6 ie7 ri10 ie8 ie9 ie10 ie11 ie12 ri11 ie13 ie14 ie15 ie16 => ?_)
  have cq1 : ∀ j : Nat, ((j : Nat) : Int) < mn1 → ivh1 b89 j = iv c19 j := fun j hj => by
    have q1 : ivh1 b89 j = iv5 b89 j := fl1.i tb89 rfl j
    rw [q1, pq5, up2_k (ne_ty tb89 t_a0 (by decide)), pq4, up2_k (ne_ty tb89 t_a0 (by decide)), pq3, up2_k (ne_ty tb89 t_a0 (by decide)), pq2]
    show (if b89 = b89 then _ else _) = _
    rw [if_pos rfl, if_pos ⟨by omega, by omega⟩, show (0 : Int).toNat + (j - (0 : Int).toNat) = j from by show 0 + (j - 0) = j; omega, pq1, up2_k (ne_ty tc19 t_a0 (by decide))]
  have gp9 : GPA_ L cl ln iv rv sk a0 a1 ivh1 x := GPA_.mk hW hS F6 (QT.of hW hS XT.refl F6 rfl rfl rfl rfl rfl) rfl rfl rfl rfl hb89 hc19 (m := mn1) (by omega) (by omega) (by omega) cq1
  refine d_callV (As := []) (rest := []) C hM (G_markEnds (a0 := a0) W6 hS t_a0  ) dX4_collect_53 kV_X4_79 rfl t_a0 rfl rfl (by decide) ck_5 rfl (Nat.le_of_ble_eq_true rfl) ⟨(Nat.le_of_ble_eq_true rfl), (Nat.le_of_ble_eq_true rfl)⟩ hph hph (show 0 + 0 = 0 from rfl) (by decide) (fun rh2 Lh2 clh2 lnh2 ivh2 rvh2 h2 => ?_)
  obtain ⟨rfl, rfl, rfl, rfl, rfl, fl2, W7, exf2⟩ := h2
  have F7 := F6.call hX0 fl2 rfl
  refine c_st (st2 := []) rfl ?_
  refine hv11 (show MEI L cl ln ivh1 rv sk a0 ivh2 (-1) from exf2) (show 0 ≤ ivh2 a0 5 ∧ ivh2 a0 5 ≤ 50 from W7.int t_a0 5) (show ivh2 a0 5 = ivh1 a0 5 from fl2.i t_a0 rfl 5) (show 0 ≤ ivh2 a0 6 ∧ ivh2 a0 6 ≤ 1 from W7.int t_a0 6) (show ivh2 a0 6 = ivh1 a0 6 from fl2.i t_a0 rfl 6) (show 0 ≤ ivh2 a0 9 ∧ ivh2 a0 9 ≤ 100 from W7.int t_a0 9) (show ivh2 a0 9 = ivh1 a0 9 from fl2.i t_a0 rfl 9) (show (-2147483648) ≤ ivh2 a0 10 ∧ ivh2 a0 10 ≤ 2147483647 from W7.int t_a0 10) (show ivh2 a0 10 = ivh1 a0 10 from fl2.i t_a0 rfl 10) (show 0 ≤ ivh2 (sk 11) 2 ∧ ivh2 (sk 11) 2 ≤ 40000 from W7.int tsk11 2) (show ivh2 (sk 11) 2 = ivh1 (sk 11) 2 from fl2.i tsk11 rfl 2) (fun gf2 ri12 ie17 ri13 ie18 ri14 ie19 ri15 ie20 ri16 ie21 => ?_)
  refine c_aload_n (j := 0) (x := a0) C dX4_collect_56 rfl ?_
  refine c_getr (k := 0) C ck_5 dX4_collect_57 w1_229 (by decide) t_a0 rfl rfl (by decide) rfl hce9 ?_
  refine c_st (st2 := [.ref ce9]) rfl ?_
  refine c_iconst C dX4_collect_60 ?_
  have ll3 : 404 ≤ ln ce9 ∧ ln ce9 ≤ 404 := W7.len tce9 rfl
  refine c_zald C dX4_collect_61 tce9 rfl (by omega) (by omega) (by omega) ?_
  have ri17 : 0 ≤ ivh2 ce9 ((0 : Int).toNat) ∧ ivh2 ce9 ((0 : Int).toNat) ≤ 1 := W7.int tce9 ((0 : Int).toNat)
  refine c_if_eq (tgt := 75) C ⟨by omega, by omega⟩ dX4_collect_62 (by decide) (fun c1 => ?_) (fun c1 => ?_)
  · exact c_vret C dX4_collect_75 rfl (by decide) (rom0 hph hph (by decide)) ⟨rfl, hX0, F7, W7, (CLS.none_ gp9 exf2 hce9 (by show ivh2 ce9 (0 : Int).toNat = 0; omega) (by omega) (by omega) (by omega))⟩
  · refine c_aload_n (j := 0) (x := a0) C dX4_collect_65 rfl ?_
    refine c_iload_n (j := 3) C dX4_collect_66 rfl ?_
    refine c_bipush (z := 50) C dX4_collect_67 (by decide) ?_
    obtain ⟨mn2, hmn2, emn2⟩ := mmin_c (x := y) (y := 50) ⟨by omega, by omega⟩ ⟨by decide, by decide⟩
    refine c_mmin (w := iI mn2) C dX4_collect_69 w5_127 w2_129 w1_14 w2_130 (by decide) (rom0 hph hph (by decide)) (Nat.le_of_ble_eq_true rfl) emn2 ?_
    refine d_callV (As := [.int (iI mn2)]) (rest := []) C hM (G_walk (a0 := a0) (x := mn2) W7 hS t_a0 (by omega) (by show mn2 ≤ 50; omega)) dX4_collect_72 kV_X4_82 rfl t_a0 rfl rfl (by decide) ck_5 rfl (Nat.le_of_ble_eq_true rfl) ⟨(Nat.le_of_ble_eq_true rfl), (Nat.le_of_ble_eq_true rfl)⟩ hph hph (show 0 + 0 = 0 from rfl) (by decide) (fun rh3 Lh3 clh3 lnh3 ivh3 rvh3 h3 => ?_)
    obtain ⟨rfl, xl3, fl3, W8, exf3⟩ := h3
    refine hv3 (F7.call hX0 fl3 rfl) (hX0.trans xl3) (xl3.skl hS) (fun F8 X1 sk1 => ?_)
    refine c_st (st2 := []) rfl ?_
    refine hv3 (show WKS L cl ln ivh2 rv sk a0 ivh3 rvh3 mn2 from exf3) (xl3.ty t_a0) (Phi.le W8 sk1) (fun gf3 ty1 pl1 => ?_)
    refine hv4 (show 0 ≤ ivh3 a0 5 ∧ ivh3 a0 5 ≤ 50 from W8.int ty1 5) (show 0 ≤ ivh3 a0 6 ∧ ivh3 a0 6 ≤ 1 from W8.int ty1 6) (show 0 ≤ ivh3 a0 9 ∧ ivh3 a0 9 ≤ 100 from W8.int ty1 9) (show (-2147483648) ≤ ivh3 a0 10 ∧ ivh3 a0 10 ≤ 2147483647 from W8.int ty1 10) (fun ri18 ri19 ri20 ri21 => ?_)
    exact c_vret C dX4_collect_75 rfl (by decide) (rom0 hph pl1 (by decide)) ⟨rfl, X1, F8, W8, (CLS.walk gp9 exf2 (fun a l0 l1 C F n hc => hc.fr W6 hS t_a0 fl2 (QT.of W6 hS XT.refl fl2 rfl rfl rfl rfl rfl) (fl2.i t_a0 rfl 9) (fl2.i t_a0 rfl 10) rfl rfl rfl rfl rfl rfl) hce9 (by show ivh2 ce9 (0 : Int).toNat ≠ 0; omega) (by omega) (by omega) (by omega) exf3 (by omega))⟩
end
section
def LTB (a : Nat → Nat → Int) (l : List Int) : Prop := ∀ (j : Nat) (d : Int), l[j]? = some d → 0 ≤ d → ∀ k : Nat, ((k : Nat) : Int) < a 12 d.toNat → 33 ≤ a 14 (8 * d + ((k : Nat) : Int)).toNat
def PRG (sk ln : Nat → Nat) (iv : Nat → Nat → Int) (rv : Nat → Nat → Option Nat) (iv2 : Nat → Nat → Int) (rv2 : Nat → Nat → Option Nat) (h0 : Nat) (t l m f : Int) : Prop := ∀ v a, TRL sk ln iv rv v a → (∀ j, a 16 j ≤ 4) → (∀ j, a 12 j ≤ 8) → iI (iv h0 14) = iI (v 56) → ∀ sA, rv h0 9 = some sA → ∀ E : List (Option (List Int)), SHT iv rv sA E → (¬ OKG v a E t l m ∧ f = -1 ∧ FKP sk iv rv iv2 rv2) ∨ (OKG v a E t l m ∧ ∃ (xs : List Int) (K : List (List Int)) (mo : Int), rwe E l = some (some xs) ∧ KMQ m.toNat (RDC a (gat0 a t) (gat1 a t) (RR0 xs) (fsn (v 56)) ((xs.length : Nat) : Int) 0 0 0) K mo ∧ f = ((K.length : Nat) : Int) ∧ KLP iv2 rv2 sk (sk 17) K ∧ iv2 (sk 17) 6 = mo ∧ (∀ (k : Nat) (w : List Int), K[k]? = some w → ∀ (j : Nat) (z : Int), w[j]? = some z → 0 ≤ z))
def BOX (iv : Nat → Nat → Int) (rv : Nat → Nat → Option Nat) (sk : Nat → Nat) (q : Nat) (k i f : Int) : Prop := ∀ K : List (List Int), KLP iv rv sk q K → (∃ w z, (0 ≤ k ∧ K[k.toNat]? = some w) ∧ (0 ≤ i ∧ w[i.toNat]? = some z) ∧ f = z) ∨ ((¬ ∃ w z, (0 ≤ k ∧ K[k.toNat]? = some w) ∧ (0 ≤ i ∧ w[i.toNat]? = some z)) ∧ f = -1)
def RGP (iv : Nat → Nat → Int) (rv : Nat → Nat → Option Nat) (sk : Nat → Nat) (k i f : Int) : Prop := ∀ K : List (List Int), KLP iv rv sk (sk 17) K → (∀ (k : Nat) (w : List Int), K[k]? = some w → ∀ (j : Nat) (z : Int), w[j]? = some z → 0 ≤ z) → (∃ w z, (0 ≤ k ∧ K[k.toNat]? = some w) ∧ (0 ≤ i ∧ w[i.toNat]? = some z) ∧ f = z) ∨ ((¬ ∃ w z, (0 ≤ k ∧ K[k.toNat]? = some w) ∧ (0 ≤ i ∧ w[i.toNat]? = some z)) ∧ f = -1)
section GPRD
variable {g0 : Nat} {sk : Nat → Nat} {L L1 L2 : List Nat} {cl ln cl1 ln1 cl2 ln2 : Nat → Nat} {iv iv1 iv2 iv3 : Nat → Nat → Int} {rv rv1 rv2 rv3 : Nat → Nat → Option Nat} {v : Nat → Int} {a : Nat → Nat → Int} {l0 l1 l : List Int} {C : Nat → Int} {F : Int32} {q b h0 sA r eb : Nat} {n p g h d x y z f k i t m u s f2 z1 z2 lx : Int} {ls : List Nat} {K Z : List (List Int)}
theorem mem_fmp {fu : Option Int → List (List Int)} {w : List Int} : ∀ l : List (Option Int), w ∈ fmp fu l → ∃ o ∈ l, w ∈ fu o := by
  intro l
  induction l with
  | nil => intro e; exact absurd e (List.not_mem_nil)
  | cons o l ih =>
    intro e
    have e2 : w ∈ fu o ++ fmp fu l := e
    rcases List.mem_append.mp e2 with e3 | e3
    · exact ⟨o, List.mem_cons_self .., e3⟩
    · obtain ⟨o2, h1, h2⟩ := ih e3
      exact ⟨o2, List.mem_cons_of_mem _ h1, h2⟩
theorem rlt_nn : ∀ (m : Nat), (∀ k : Nat, k < m → 33 ≤ a 14 (8 * d + ((k : Nat) : Int)).toNat) → (h = 1 → 97 ≤ a 14 (8 * d).toNat) → ∀ z, z ∈ rlt a d h m → 0 ≤ z := by
  intro m
  induction m with
  | zero => intro _ _ z e; exact absurd e (List.not_mem_nil)
  | succ m ih =>
    intro hh h9 z e
    have e2 : z ∈ rlt a d h m ++ [a 14 (8 * d + ((m : Nat) : Int)).toNat - (if h = 1 ∧ m = 0 then 32 else 0)] := e
    rcases List.mem_append.mp e2 with e3 | e3
    · exact ih (fun k hk => hh k (by omega)) h9 z e3
    · have e4 := List.mem_singleton.mp e3
      have b := hh m (by omega)
      rw [e4]
      split <;> omega
theorem rdl_nn (hl0 : LTB a l0) (hl1 : LTB a l1) : ∀ (m : Nat) (p g h : Int) (w : List Int), w ∈ rdl a l0 l1 C F n m p g h → ∀ z, z ∈ w → 0 ≤ z := by
  intro m
  induction m with
  | zero => intro p g h w e; exact absurd e (List.not_mem_nil)
  | succ m ih =>
    intro p g h w e z hz
    rw [rdl_s] at e
    by_cases c : p = n
    · rw [if_pos c] at e
      by_cases c2 : h = 1
      · rw [if_pos c2] at e
        exact absurd e (List.not_mem_nil)
      · rw [if_neg c2] at e
        rw [List.mem_singleton.mp e] at hz
        exact absurd hz (List.not_mem_nil)
    · rw [if_neg c] at e
      obtain ⟨o, o1, o2⟩ := mem_fmp _ e
      by_cases my : MYO a C F n p h o
      · rw [cif_t my] at o2
        obtain ⟨u, u1, u2⟩ := List.mem_map.mp o2
        rw [← u2] at hz
        rcases List.mem_append.mp hz with hz | hz
        · cases o with
          | none =>
            have e3 : z ∈ [(32 : Int)] := hz
            rw [List.mem_singleton.mp e3]
            decide
          | some d =>
            refine hv2 (show z ∈ rout a d h from hz) (show MYR a C F n d p h from my) (fun e3 m2 => ?_)
            have dm : ∃ j : Nat, (if g = 0 then l0 else l1)[j]? = some d := by
              rcases List.mem_cons.mp o1 with q1 | q1
              · cases q1
              · obtain ⟨d2, q2, q3⟩ := List.mem_map.mp q1
                cases q3
                exact List.getElem?_of_mem q2
            obtain ⟨j, hj⟩ := dm
            have lt : LTB a (if g = 0 then l0 else l1) := by
              by_cases c3 : g = 0
              · rw [if_pos c3]
                exact hl0
              · rw [if_neg c3]
                exact hl1
            unfold rout at e3
            by_cases hd : 0 ≤ d
            · rw [if_pos hd] at e3
              exact rlt_nn _ (fun k hk => lt j d hj hd k (by omega)) (fun e => (m2.1.2 e).2.1) z e3
            · rw [if_neg hd] at e3
              by_cases r2 : rol d = 2
              · rw [if_pos r2] at e3
                rw [List.mem_singleton.mp e3]
                decide
              · rw [if_neg r2] at e3
                by_cases r3 : rol d = 3
                · rw [if_pos r3] at e3
                  rw [List.mem_singleton.mp e3]
                  decide
                · rw [if_neg r3] at e3
                  exact absurd e3 (List.not_mem_nil)
        · exact ih _ _ _ u u1 z hz
      · rw [cif_f my] at o2
        exact absurd o2 (List.not_mem_nil)
theorem HL.ltb (hl : HL L cl ln iv rv a q l) : LTB a l := fun j d e hd k hk => (hl.ltr (List.mem_of_getElem? e) hd ⟨by omega, hk⟩).1
theorem KMQ.nn {W : Nat} (hk : KMQ W (RDC a l0 l1 C F n p g h) K x) (h0 : LTB a l0) (h1 : LTB a l1) : (∀ (k : Nat) (w : List Int), K[k]? = some w → ∀ (j : Nat) (z : Int), w[j]? = some z → 0 ≤ z) := fun k w e j z ez => by
  have e2 := List.mem_of_getElem? e
  rw [hk.1] at e2
  exact rdl_nn h0 h1 _ _ _ _ w (List.mem_of_mem_take e2) z (List.mem_of_getElem? ez)
theorem PRG.bad (hb : ∀ v a, TRL sk ln iv rv v a → ∀ sA, rv h0 9 = some sA → ∀ E : List (Option (List Int)), SHT iv rv sA E → ¬ OKG v a E t lx m) (hf : f = -1) (hF : FKP sk iv rv iv2 rv2) : PRG sk ln iv rv iv2 rv2 h0 t lx m f := fun v a hR _ _ _ sA e E hE => Or.inl ⟨hb v a hR sA e E hE, hf, hF⟩
theorem PRG.ok (hw : WOX sk ln iv rv t (some b)) (hm : 1 ≤ m ∧ m ≤ 50) (hA : rv h0 9 = some sA) (hx : PRX iv rv sA lx (some r)) (hr1 : iv r 1 ≤ 100) (hg : GLQ sk ln iv rv b L1 cl1 ln1 iv1 rv1 (sk 24) gat0 ∧ GLQ sk ln iv rv b L1 cl1 ln1 iv1 rv1 (sk 25) gat1) (hL : ∀ xs, LNE iv rv r xs → LNE iv1 rv1 r xs) (hz1 : iI (iv h0 14) ^^^ iI (-1) = iI z1) (hz2 : iI 255 &&& iI z1 = iI z2) (hc : CLS L1 cl1 ln1 iv1 rv1 sk (sk 17) r iv2 rv2 z2 m) (hf : f = iv2 (sk 17) 5) (h6 : iv3 (sk 17) 6 = iv2 (sk 17) 6) (hK : ∀ K, KLP iv2 rv2 sk (sk 17) K → KLP iv3 rv3 sk (sk 17) K) : PRG sk ln iv rv iv3 rv3 h0 t lx m f := fun v a hR h16 h12 h14 sA' e E hE => by
  rw [hA] at e
  cases e
  obtain ⟨p1, p2, p3⟩ := hw.smt hR
  obtain ⟨s1, s2⟩ := hx.smt
  obtain ⟨xs, x1, x2⟩ := hE.prs s1 s2
  refine hv3 (x2.1) (hR.nzl h16 p1.1 p1.2) (show ((t.toNat : Nat) : Int) = t from Int.toNat_of_nonneg p1.1) (fun xl nz ti => ?_)
  have g0 := hg.1 v a hR t.toNat (by omega) p2
  have g1 := hg.2 v a hR t.toNat (by omega) p2
  rw [ti] at g0 g1
  obtain ⟨K, mo, k1, k2, k3⟩ := hc a _ _ xs ⟨g0, g1⟩ nz.1 nz.2 h12 (hL xs x2) (by omega) hm
  have ef : iI z2 = fsn (v 56) := by
    unfold fsn
    rw [← h14, hz1, hz2]
  rw [ef] at k1
  exact Or.inr ⟨⟨p3, hm, xs, x1, by omega⟩, xs, K, mo, x1, k1, hf.trans k2.1, hK K k2, h6.trans k3, k1.nn g0.ltb g1.ltb⟩
theorem flt_tk (e : K[m.toNat]? = some l) : flt (K.take (m.toNat + 1)) = flt (K.take m.toNat) ++ l := by
  have lt := gl3 e
  have e2 : K.take (m.toNat + 1) = K.take m.toNat ++ [l] := by
    rw [List.take_add_one, e]
    rfl
  rw [e2, flt_one]
theorem BOX.out (hk : ¬ (0 ≤ k ∧ k < iv q 5)) (hf : f = -1) : BOX iv rv sk q k i f := fun K hK => Or.inr ⟨fun u => by
  obtain ⟨w, z, ⟨u1, u2⟩, _⟩ := u
  refine hv2 (gl3 u2) (hK.1) (fun lt e => ?_)
  exact hk ⟨u1, by omega⟩, hf⟩
theorem BOX.neg (hi : i < 0) (hf : f = -1) : BOX iv rv sk q k i f := fun K _ => Or.inr ⟨(fun u => by
  obtain ⟨w, z, _, u3, _⟩ := u
  omega), hf⟩
theorem BOX.frm (hK : KLP iv rv sk q K) (heb : rv q 3 = some eb) (hk : 0 ≤ k ∧ k < iv q 5) (hy : (k = 0 ∧ y = 0) ∨ (k ≠ 0 ∧ y = iv eb (k - 1).toNat)) : ∃ w, K[k.toNat]? = some w ∧ y = (((flt (K.take k.toNat)).length : Nat) : Int) ∧ iv eb k.toNat = y + ((w.length : Nat) : Int) := by
  obtain ⟨k1, k2, k3, k4⟩ := hK
  have lt : k.toNat < K.length := by omega
  have e := List.getElem?_eq_getElem lt
  have ey : y = (((flt (K.take k.toNat)).length : Nat) : Int) := by
    rcases hy with ⟨h1, h2⟩ | ⟨h1, h2⟩
    · rw [h2, h1]
      rfl
    · have u := k3 eb heb (k - 1).toNat (by omega)
      rw [show (k - 1).toNat + 1 = k.toNat by omega] at u
      rw [h2, u]
  refine ⟨_, e, ey, ?_⟩
  rw [k3 eb heb k.toNat lt, flt_tk (m := k) e, List.length_append, ey]
  push_cast
  rfl
theorem BOX.miss (heb : rv q 3 = some eb) (hk : 0 ≤ k ∧ k < iv q 5) (hy : (k = 0 ∧ y = 0) ∨ (k ≠ 0 ∧ y = iv eb (k - 1).toNat)) (h50 : iv q 5 ≤ 50) (hz : iI (iv eb k.toNat - y) = iI s) (hs : -2147483648 ≤ s ∧ s ≤ 2147483647) (hi : i < 0 ∨ s ≤ i) (hf : f = -1) : BOX iv rv sk q k i f := fun K hK => Or.inr ⟨fun u => by
  obtain ⟨w, z, ⟨u1, u2⟩, u3, u4⟩ := u
  obtain ⟨w', w1, w2, w3⟩ := BOX.frm hK heb hk hy
  rw [u2] at w1
  cases w1
  refine hv2 (gl3 u4) (hK.2.2.2 _ w u2) (fun lt k4 => ?_)
  have e3 := iI_ij hz ⟨by omega, by omega⟩ hs
  omega, hf⟩
theorem BOX.hit (heb : rv q 3 = some eb) (hk : 0 ≤ k ∧ k < iv q 5) (hy : (k = 0 ∧ y = 0) ∨ (k ≠ 0 ∧ y = iv eb (k - 1).toNat)) (h50 : iv q 5 ≤ 50) (hz : iI (iv eb k.toNat - y) = iI s) (hs : -2147483648 ≤ s ∧ s ≤ 2147483647) (hi : 0 ≤ i ∧ i < s) (hx0 : iI (y + i) = iI x) (hxr : -2147483648 ≤ x ∧ x ≤ 2147483647) (hat : ∀ ss, CT iv rv (sk 11) ss → 0 ≤ x → x < iv (sk 11) 2 → f = ss x.toNat) : BOX iv rv sk q k i f := fun K hK => by
  obtain ⟨w, w1, w2, w3⟩ := BOX.frm hK heb hk hy
  refine hv3 (hK.2.2.2 _ w w1) (flt_len K hK.2.2.2) (hK.1) (fun k4 fl kl => ?_)
  have e3 := iI_ij hz ⟨by omega, by omega⟩ hs
  have spl : (flt (K.take k.toNat)).length ≤ (flt K).length := by
    have u : flt K = flt (K.take k.toNat) ++ flt (K.drop k.toNat) := by rw [← flt_app, List.take_append_drop]
    rw [u, List.length_append]
    omega
  have hx : x = y + i := (iI_ij hx0 ⟨by omega, by omega⟩ hxr).symm
  have lt : i.toNat < w.length := by omega
  have e := List.getElem?_eq_getElem lt
  refine Or.inl ⟨w, _, ⟨hk.1, w1⟩, ⟨hi.1, e⟩, ?_⟩
  have ce := hK.2.1
  have c1 := ce.1
  have l1' := gl3 w1
  have sp : flt K = flt (K.take (k.toNat + 1)) ++ flt (K.drop (k.toNat + 1)) := by
    rw [← flt_app, List.take_append_drop]
  have tk := flt_tk (m := k) w1
  have len : (flt K).length = (flt (K.take k.toNat)).length + w.length + (flt (K.drop (k.toNat + 1))).length := by
    rw [sp, tk, List.length_append, List.length_append]
  have v1 := hat _ ce.ct (by omega) (by omega)
  have v2 : (flt K)[x.toNat]? = some w[i.toNat] := by
    rw [sp, tk, List.getElem?_append_left (by rw [List.length_append]; omega), List.getElem?_append_right (by omega), show x.toNat - (flt (K.take k.toNat)).length = i.toNat by omega]
    exact e
  rw [v1]
  show ((flt K)[x.toNat]?).getD 0 = _
  rw [v2]
  rfl
theorem BOX.rgp (hb : BOX iv rv sk (sk 17) k i z) (hf : (z < 0 ∧ f = -1) ∨ (0 ≤ z ∧ f = z)) : RGP iv rv sk k i f := fun K hK hn => by
  rcases hb K hK with ⟨w, y, ⟨u1, u2⟩, ⟨u3, u4⟩, u5⟩ | ⟨u1, u2⟩
  · have nn := hn _ w u2 _ y u4
    exact Or.inl ⟨w, y, ⟨u1, u2⟩, ⟨u3, u4⟩, by omega⟩
  · exact Or.inr ⟨u1, by omega⟩
end GPRD
set_option maxHeartbeats 4000000 in
set_option maxRecDepth 100000 in
theorem G_byteOf {l : Launch} {G : GT} {mi : Nat} {sk : Nat → Nat} {L : List Nat} {cl ln : Nat → Nat} {iv : Nat → Nat → Int} {rv : Nat → Nat → Option Nat}  {a0 : Nat} {i : Int} {j : Int} (hW : WT (g0 G) sk L cl ln iv rv) (hS : SKL sk L cl) (t_a0 : ty L cl a0 17) (h_i : -2147483648 ≤ i ∧ i ≤ 2147483647) (h_j : -2147483648 ≤ j ∧ j ≤ 2147483647)  : Mc l G mi (Phi (g0 G) sk) PHM yX4_byteOf cX4_byteOf 4 (some .int) 1 [.ref a0, .int (iI i), .int (iI j)] L cl ln iv rv 0 (fun v L2 cl2 ln2 iv2 rv2 => ∃ f : Int, v = some (.int (iI f)) ∧ L = L2 ∧ cl = cl2 ∧ ln = ln2 ∧ iv = iv2 ∧ rv = rv2 ∧ (-2147483648 ≤ f ∧ f ≤ 2147483647) ∧ (BOX iv rv sk a0 i j f)) := by
  refine Mc.mk (by decide) (Nat.le_of_ble_eq_true rfl) ?_
  intro p e s m args below meth c A C hM
  refine hv8 (Phi.le hW hS) (show ty L cl (sk 11) 11 from ⟨(hS 11 rfl).1, by rw [(hS 11 rfl).2]; rfl⟩) (show ty L cl (sk 16) 16 from ⟨(hS 16 rfl).1, by rw [(hS 16 rfl).2]; rfl⟩) (show ty L cl (sk 24) 24 from ⟨(hS 24 rfl).1, by rw [(hS 24 rfl).2]; rfl⟩) (show ty L cl (sk 25) 25 from ⟨(hS 25 rfl).1, by rw [(hS 25 rfl).2]; rfl⟩) (show XT L cl ln L cl ln from XT.refl) (show fT [] L cl iv rv iv rv from fT.refl) (show 0 ≤ iv a0 5 ∧ iv a0 5 ≤ 50 from hW.int t_a0 5) (fun hph tsk11 tsk16 tsk24 tsk25 hX0 hF0 ri1 => ?_)
  obtain ⟨eb9, heb9, teb9⟩ := hW.ref t_a0 3 rfl rfl rfl
  refine c_iload_n (j := 1) C dX4_byteOf_0 rfl ?_
  refine c_if_lt (tgt := 12) C ⟨by omega, by omega⟩ dX4_byteOf_1 (by decide) (fun c1 => ?_) (fun c1 => ?_)
  · refine c_iconst C dX4_byteOf_12 ?_
    exact c_iret C dX4_byteOf_13 rfl (by decide) (rom0 hph hph (by decide)) ⟨(-1), rfl, rfl, rfl, rfl, rfl, rfl, ⟨by decide, by decide⟩, (BOX.out (by omega) rfl)⟩
  · refine c_iload_n (j := 1) C dX4_byteOf_4 rfl ?_
    refine c_aload_n (j := 0) (x := a0) C dX4_byteOf_5 rfl ?_
    refine c_get (k := 5) C ck_5 dX4_byteOf_6 w1_234 (by decide) t_a0 rfl rfl (by decide) rfl ?_
    refine c_icmp_lt (tgt := 14) C ⟨by omega, by omega⟩ (r32_c (lo := 0) (hi := 50) ri1.1 ri1.2 (by decide) (by decide)) dX4_byteOf_9 (by decide) (fun c2 => ?_) (fun c2 => ?_)
    · refine c_iload_n (j := 1) C dX4_byteOf_14 rfl ?_
      refine c_if_ne (tgt := 22) C ⟨by omega, by omega⟩ dX4_byteOf_15 (by decide) (fun c3 => ?_) (fun c3 => ?_)
      · refine c_aload_n (j := 0) (x := a0) C dX4_byteOf_22 rfl ?_
        refine c_getr (k := 3) C ck_5 dX4_byteOf_23 w1_232 (by decide) t_a0 rfl rfl (by decide) rfl heb9 ?_
        refine c_st (st2 := [.ref eb9]) rfl ?_
        refine c_iload_n (j := 1) C dX4_byteOf_26 rfl ?_
        refine c_iconst C dX4_byteOf_27 ?_
        refine c_isub C dX4_byteOf_28 ?_
        have ll1 : 50 ≤ ln eb9 ∧ ln eb9 ≤ 50 := hW.len teb9 rfl
        refine c_iald C dX4_byteOf_29 teb9 rfl (by omega) (by omega) (by omega) ?_
        have ri2 : (-2147483648) ≤ iv eb9 ((i - 1).toNat) ∧ iv eb9 ((i - 1).toNat) ≤ 2147483647 := hW.int teb9 ((i - 1).toNat)
        refine c_istore_n (lv2 := [(3, .int (iI (iv eb9 (i - 1).toNat))), (0, .ref a0), (1, .int (iI i)), (2, .int (iI j))]) C dX4_byteOf_30 (by decide) rfl ?_
        refine c_iload_n (j := 3) C dX4_byteOf_31 rfl ?_
        refine c_if_lt (tgt := 47) C ⟨by omega, by omega⟩ dX4_byteOf_32 (by decide) (fun c4 => ?_) (fun c4 => ?_)
        · refine c_iconst C dX4_byteOf_47 ?_
          refine c_goto (tgt := 61) C dX4_byteOf_48 (by decide) ?_
          exact c_iret C dX4_byteOf_61 rfl (by decide) (rom0 hph hph (by decide)) ⟨(-1), rfl, rfl, rfl, rfl, rfl, rfl, ⟨by decide, by decide⟩, (BOX.neg (by omega) rfl)⟩
        · refine c_iload_n (j := 3) C dX4_byteOf_35 rfl ?_
          refine c_aload_n (j := 1) (x := a0) C dX4_byteOf_36 rfl ?_
          refine c_getr (k := 3) C ck_5 dX4_byteOf_37 w1_232 (by decide) t_a0 rfl rfl (by decide) rfl heb9 ?_
          refine c_st (st2 := [.ref eb9, .int (iI j)]) rfl ?_
          refine c_iload_n (j := 2) C dX4_byteOf_40 rfl ?_
          refine c_iald C dX4_byteOf_41 teb9 rfl (by omega) (by omega) (by omega) ?_
          have ri3 : (-2147483648) ≤ iv eb9 i.toNat ∧ iv eb9 i.toNat ≤ 2147483647 := hW.int teb9 i.toNat
          refine c_iload_n (j := 0) C dX4_byteOf_42 rfl ?_
          refine c_isub C dX4_byteOf_43 ?_
          obtain ⟨zz1, hzz1, ezz1⟩ := iI_of (iI ((iv eb9 i.toNat) - (iv eb9 (i - 1).toNat)))
          refine c_st (st2 := [.int (iI zz1), .int (iI j)]) (by rw [ezz1]) ?_
          refine c_icmp_lt (tgt := 51) C ⟨by omega, by omega⟩ ⟨by omega, by omega⟩ dX4_byteOf_44 (by decide) (fun c5 => ?_) (fun c5 => ?_)
          · refine c_aload_n (j := 1) (x := a0) C dX4_byteOf_51 rfl ?_
            obtain ⟨rb1, rq1, trb1⟩ := hW.ref t_a0 4 rfl rfl rfl
            have erb1 := hW.sk trb1 (by decide) rfl
            subst erb1
            refine c_getr (k := 4) C ck_5 dX4_byteOf_52 w1_233 (by decide) t_a0 rfl rfl (by decide) rfl rq1 ?_
            refine c_st (st2 := [.ref (sk 11)]) rfl ?_
            refine c_iload_n (j := 0) C dX4_byteOf_55 rfl ?_
            refine c_iload_n (j := 3) C dX4_byteOf_56 rfl ?_
            refine c_iadd C dX4_byteOf_57 ?_
            obtain ⟨zz2, hzz2, ezz2⟩ := iI_of (iI ((iv eb9 (i - 1).toNat) + j))
            refine c_st (st2 := [.int (iI zz2), .ref (sk 11)]) (by rw [ezz2]) ?_
            have ri4 : 0 ≤ iv (sk 11) 2 ∧ iv (sk 11) 2 ≤ 40000 := hW.int tsk11 2
            refine d_callV (As := [.int (iI zz2)]) (rest := []) C hM (C_at_11 (a0 := (sk 11)) (i := zz2) hW hS tsk11 (by omega) ) dX4_byteOf_58 kV_X4_56 rfl tsk11 rfl rfl (by decide) ck_2 rfl (Nat.le_of_ble_eq_true rfl) ⟨(Nat.le_of_ble_eq_true rfl), (Nat.le_of_ble_eq_true rfl)⟩ hph hph (show 0 + 0 = 0 from rfl) (by decide) (fun rh1 Lh1 clh1 lnh1 ivh1 rvh1 h1 => ?_)
            obtain ⟨f1, rfl, rfl, rfl, rfl, rfl, rfl, rgf1, exf1⟩ := h1
            refine c_st (st2 := [.int (iI f1)]) rfl ?_
            have gf1 : ((0 ≤ zz2 ∧ zz2 < iv (sk 11) 2) ∨ f1 = 0) ∧ ∀ ss, CT iv rv (sk 11) ss → 0 ≤ zz2 → zz2 < iv (sk 11) 2 → f1 = ss zz2.toNat := exf1
            exact c_iret C dX4_byteOf_61 rfl (by decide) (rom0 hph hph (by decide)) ⟨f1, rfl, rfl, rfl, rfl, rfl, rfl, ⟨by omega, by omega⟩, (BOX.hit (y := iv eb9 (i - 1).toNat) heb9 ⟨by omega, by omega⟩ (by omega) (by omega) ezz1 ⟨by omega, by omega⟩ ⟨by omega, by omega⟩ (x := zz2) ezz2 ⟨by omega, by omega⟩ (fun ss hs h1 h2 => gf1.2 ss hs (by omega) (by omega)))⟩
          · refine c_iconst C dX4_byteOf_47 ?_
            refine c_goto (tgt := 61) C dX4_byteOf_48 (by decide) ?_
            exact c_iret C dX4_byteOf_61 rfl (by decide) (rom0 hph hph (by decide)) ⟨(-1), rfl, rfl, rfl, rfl, rfl, rfl, ⟨by decide, by decide⟩, (BOX.miss (y := iv eb9 (i - 1).toNat) heb9 ⟨by omega, by omega⟩ (by omega) (by omega) ezz1 ⟨by omega, by omega⟩ (by omega) rfl)⟩
      · refine c_iconst C dX4_byteOf_18 ?_
        refine c_goto (tgt := 30) C dX4_byteOf_19 (by decide) ?_
        refine c_istore_n (lv2 := [(3, .int (iI 0)), (0, .ref a0), (1, .int (iI i)), (2, .int (iI j))]) C dX4_byteOf_30 (by decide) rfl ?_
        refine c_iload_n (j := 3) C dX4_byteOf_31 rfl ?_
        refine c_if_lt (tgt := 47) C ⟨by omega, by omega⟩ dX4_byteOf_32 (by decide) (fun c6 => ?_) (fun c6 => ?_)
        · refine c_iconst C dX4_byteOf_47 ?_
          refine c_goto (tgt := 61) C dX4_byteOf_48 (by decide) ?_
          exact c_iret C dX4_byteOf_61 rfl (by decide) (rom0 hph hph (by decide)) ⟨(-1), rfl, rfl, rfl, rfl, rfl, rfl, ⟨by decide, by decide⟩, (BOX.neg (by omega) rfl)⟩
        · refine c_iload_n (j := 3) C dX4_byteOf_35 rfl ?_
          refine c_aload_n (j := 1) (x := a0) C dX4_byteOf_36 rfl ?_
          refine c_getr (k := 3) C ck_5 dX4_byteOf_37 w1_232 (by decide) t_a0 rfl rfl (by decide) rfl heb9 ?_
          refine c_st (st2 := [.ref eb9, .int (iI j)]) rfl ?_
          refine c_iload_n (j := 2) C dX4_byteOf_40 rfl ?_
          have ll2 : 50 ≤ ln eb9 ∧ ln eb9 ≤ 50 := hW.len teb9 rfl
          refine c_iald C dX4_byteOf_41 teb9 rfl (by omega) (by omega) (by omega) ?_
          have ri5 : (-2147483648) ≤ iv eb9 i.toNat ∧ iv eb9 i.toNat ≤ 2147483647 := hW.int teb9 i.toNat
          refine c_iload_n (j := 0) C dX4_byteOf_42 rfl ?_
          refine c_isub C dX4_byteOf_43 ?_
          obtain ⟨zz3, hzz3, ezz3⟩ := iI_of (iI ((iv eb9 i.toNat) - 0))
          refine c_st (st2 := [.int (iI zz3), .int (iI j)]) (by rw [ezz3]) ?_
          refine c_icmp_lt (tgt := 51) C ⟨by omega, by omega⟩ ⟨by omega, by omega⟩ dX4_byteOf_44 (by decide) (fun c7 => ?_) (fun c7 => ?_)
          · refine c_aload_n (j := 1) (x := a0) C dX4_byteOf_51 rfl ?_
            obtain ⟨rb2, rq2, trb2⟩ := hW.ref t_a0 4 rfl rfl rfl
            have erb2 := hW.sk trb2 (by decide) rfl
            subst erb2
            refine c_getr (k := 4) C ck_5 dX4_byteOf_52 w1_233 (by decide) t_a0 rfl rfl (by decide) rfl rq2 ?_
            refine c_st (st2 := [.ref (sk 11)]) rfl ?_
            refine c_iload_n (j := 0) C dX4_byteOf_55 rfl ?_
            refine c_iload_n (j := 3) C dX4_byteOf_56 rfl ?_
            refine c_iadd C dX4_byteOf_57 ?_
            obtain ⟨zz4, hzz4, ezz4⟩ := iI_of (iI (0 + j))
            refine c_st (st2 := [.int (iI zz4), .ref (sk 11)]) (by rw [ezz4]) ?_
            have ri6 : 0 ≤ iv (sk 11) 2 ∧ iv (sk 11) 2 ≤ 40000 := hW.int tsk11 2
            refine d_callV (As := [.int (iI zz4)]) (rest := []) C hM (C_at_11 (a0 := (sk 11)) (i := zz4) hW hS tsk11 (by omega) ) dX4_byteOf_58 kV_X4_56 rfl tsk11 rfl rfl (by decide) ck_2 rfl (Nat.le_of_ble_eq_true rfl) ⟨(Nat.le_of_ble_eq_true rfl), (Nat.le_of_ble_eq_true rfl)⟩ hph hph (show 0 + 0 = 0 from rfl) (by decide) (fun rh2 Lh2 clh2 lnh2 ivh2 rvh2 h2 => ?_)
            obtain ⟨f2, rfl, rfl, rfl, rfl, rfl, rfl, rgf2, exf2⟩ := h2
            refine c_st (st2 := [.int (iI f2)]) rfl ?_
            have gf2 : ((0 ≤ zz4 ∧ zz4 < iv (sk 11) 2) ∨ f2 = 0) ∧ ∀ ss, CT iv rv (sk 11) ss → 0 ≤ zz4 → zz4 < iv (sk 11) 2 → f2 = ss zz4.toNat := exf2
            exact c_iret C dX4_byteOf_61 rfl (by decide) (rom0 hph hph (by decide)) ⟨f2, rfl, rfl, rfl, rfl, rfl, rfl, ⟨by omega, by omega⟩, (BOX.hit (y := 0) heb9 ⟨by omega, by omega⟩ (by omega) (by omega) ezz3 ⟨by omega, by omega⟩ ⟨by omega, by omega⟩ (x := zz4) ezz4 ⟨by omega, by omega⟩ (fun ss hs h1 h2 => gf2.2 ss hs (by omega) (by omega)))⟩
          · refine c_iconst C dX4_byteOf_47 ?_
            refine c_goto (tgt := 61) C dX4_byteOf_48 (by decide) ?_
            exact c_iret C dX4_byteOf_61 rfl (by decide) (rom0 hph hph (by decide)) ⟨(-1), rfl, rfl, rfl, rfl, rfl, rfl, ⟨by decide, by decide⟩, (BOX.miss (y := 0) heb9 ⟨by omega, by omega⟩ (by omega) (by omega) ezz3 ⟨by omega, by omega⟩ (by omega) rfl)⟩
    · refine c_iconst C dX4_byteOf_12 ?_
      exact c_iret C dX4_byteOf_13 rfl (by decide) (rom0 hph hph (by decide)) ⟨(-1), rfl, rfl, rfl, rfl, rfl, rfl, ⟨by decide, by decide⟩, (BOX.out (by omega) rfl)⟩
section GPR2
variable {g0 : Nat} {sk : Nat → Nat} {L : List Nat} {cl ln : Nat → Nat} {iv iv1 : Nat → Nat → Int} {rv rv1 : Nat → Nat → Option Nat} {v : Nat → Int} {a : Nat → Nat → Int} {r sA q : Nat} {xs : List Int} {E : List (Option (List Int))} {t l m : Int} {ls : List Nat} {K : List (List Int)}
theorem PRD_nw (hw : WOX sk ln iv rv t none) (hR : TRL sk ln iv rv v a) : ¬ WHL v a t := by
  rcases hw v a hR with ⟨_, q⟩ | ⟨b, q, _⟩
  · exact q
  · cases q
theorem OKG_long (hx : PRX iv rv sA l (some r)) (hE : SHT iv rv sA E) (hr : 100 < iv r 1) : ¬ OKG v a E t l m := fun q => by
  obtain ⟨s1, s2⟩ := hx.smt
  obtain ⟨xs, x1, x2⟩ := hE.prs s1 s2
  obtain ⟨_, _, ys, y1, y2⟩ := q
  rw [x1] at y1
  cases y1
  have := x2.1
  omega
theorem LNE.fq (hl : LNE iv rv r xs) (hW : WT g0 sk L cl ln iv rv) (tr : ty L cl r 19) (hF : fT ls L cl iv rv iv1 rv1) (h1 : ls.contains 19 = false) (h2 : ls.contains 64 = false) : LNE iv1 rv1 r xs := by
  refine ⟨(hF.i tr h1 1).trans hl.1, fun cb hb j x e => ?_⟩
  rw [hF.r tr h1 0] at hb
  obtain ⟨b', w1, tb⟩ := hW.ref tr 0 rfl rfl rfl
  rw [hb] at w1
  cases w1
  rw [hF.i tb h2 j]
  exact hl.2 cb hb j x e
theorem KLP.fq (hk : KLP iv rv sk q K) (hW : WT g0 sk L cl ln iv rv) (tq : ty L cl q 17) (t11 : ty L cl (sk 11) 11) (hF : fT ls L cl iv rv iv1 rv1) (h1 : ls.contains 17 = false) (h2 : ls.contains 11 = false) (h3 : ls.contains 41 = false) (h4 : ls.contains 62 = false) : KLP iv1 rv1 sk q K := hk.cg (hF.i tq h1 5) (fun xs hc => hc.f11 hW t11 hF h2 h3) (hF.r tq h1 3) (fun eb hb j => by
  obtain ⟨b', w1, tb⟩ := hW.ref tq 3 rfl rfl rfl
  rw [hb] at w1
  cases w1
  exact hF.i tb h4 j)
end GPR2
set_option maxHeartbeats 4000000 in
set_option maxRecDepth 100000 in
theorem G_readings {l : Launch} {G : GT} {mi : Nat} {sk : Nat → Nat} {L : List Nat} {cl ln : Nat → Nat} {iv : Nat → Nat → Int} {rv : Nat → Nat → Option Nat}  {a0 : Nat} {i : Int} {j : Int} {n : Int} (hW : WT (g0 G) sk L cl ln iv rv) (hS : SKL sk L cl) (t_a0 : ty L cl a0 1) (h_i : -2147483648 ≤ i ∧ i ≤ 2147483647) (h_j : -2147483648 ≤ j ∧ j ≤ 2147483647) (h_n : -2147483648 ≤ n ∧ n ≤ 2147483647) (hmr : MRK sk cl iv rv) : Mc l G mi (Phi (g0 G) sk) PHM yX11_readings cX11_readings 6 (some .int) 10 [.ref a0, .int (iI i), .int (iI j), .int (iI n)] L cl ln iv rv 0 (fun v L2 cl2 ln2 iv2 rv2 => ∃ f : Int, v = some (.int (iI f)) ∧ XT L cl ln L2 cl2 ln2 ∧ fT [1, 24, 1002, 25, 1003, 6, 36, 7, 37, 17, 63, 59, 60, 61, 62, 11, 41] L cl iv rv iv2 rv2 ∧ WT (g0 G) sk L2 cl2 ln2 iv2 rv2 ∧ (-2147483648 ≤ f ∧ f ≤ 2147483647) ∧ (True) ∧ iv2 a0 11 = iv a0 11 ∧ iv2 a0 12 = iv a0 12 ∧ iv2 a0 13 = iv a0 13 ∧ iv2 a0 14 = iv a0 14 ∧ iv2 a0 15 = iv a0 15 ∧ iv2 a0 16 = iv a0 16 ∧ (PRG sk ln iv rv iv2 rv2 a0 i j n f) ∧ rv2 a0 9 = rv a0 9 ∧ rv2 a0 10 = rv a0 10) := by
  refine Mc.mk (by decide) (Nat.le_of_ble_eq_true rfl) ?_
  intro p e s m args below meth c A C hM
  refine hv22 (Phi.le hW hS) (show ty L cl (sk 2) 2 from ⟨(hS 2 rfl).1, by rw [(hS 2 rfl).2]; rfl⟩) (show ty L cl (sk 3) 3 from ⟨(hS 3 rfl).1, by rw [(hS 3 rfl).2]; rfl⟩) (show ty L cl (sk 4) 4 from ⟨(hS 4 rfl).1, by rw [(hS 4 rfl).2]; rfl⟩) (show ty L cl (sk 5) 5 from ⟨(hS 5 rfl).1, by rw [(hS 5 rfl).2]; rfl⟩) (show ty L cl (sk 6) 6 from ⟨(hS 6 rfl).1, by rw [(hS 6 rfl).2]; rfl⟩) (show ty L cl (sk 7) 7 from ⟨(hS 7 rfl).1, by rw [(hS 7 rfl).2]; rfl⟩) (show ty L cl (sk 8) 8 from ⟨(hS 8 rfl).1, by rw [(hS 8 rfl).2]; rfl⟩) (show ty L cl (sk 9) 9 from ⟨(hS 9 rfl).1, by rw [(hS 9 rfl).2]; rfl⟩) (show ty L cl (sk 10) 10 from ⟨(hS 10 rfl).1, by rw [(hS 10 rfl).2]; rfl⟩) (show ty L cl (sk 13) 13 from ⟨(hS 13 rfl).1, by rw [(hS 13 rfl).2]; rfl⟩) (show ty L cl (sk 14) 14 from ⟨(hS 14 rfl).1, by rw [(hS 14 rfl).2]; rfl⟩) (show ty L cl (sk 15) 15 from ⟨(hS 15 rfl).1, by rw [(hS 15 rfl).2]; rfl⟩) (show ty L cl (sk 16) 16 from ⟨(hS 16 rfl).1, by rw [(hS 16 rfl).2]; rfl⟩) (show ty L cl (sk 17) 17 from ⟨(hS 17 rfl).1, by rw [(hS 17 rfl).2]; rfl⟩) (show ty L cl (sk 22) 22 from ⟨(hS 22 rfl).1, by rw [(hS 22 rfl).2]; rfl⟩) (show ty L cl (sk 23) 23 from ⟨(hS 23 rfl).1, by rw [(hS 23 rfl).2]; rfl⟩) (show ty L cl (sk 24) 24 from ⟨(hS 24 rfl).1, by rw [(hS 24 rfl).2]; rfl⟩) (show ty L cl (sk 25) 25 from ⟨(hS 25 rfl).1, by rw [(hS 25 rfl).2]; rfl⟩) (show ty L cl (sk 11) 11 from ⟨(hS 11 rfl).1, by rw [(hS 11 rfl).2]; rfl⟩) (show XT L cl ln L cl ln from XT.refl) (show fT [1, 24, 1002, 25, 1003, 6, 36, 7, 37, 17, 63, 59, 60, 61, 62, 11, 41] L cl iv rv iv rv from fT.refl) (fun hph tsk2 tsk3 tsk4 tsk5 tsk6 tsk7 tsk8 tsk9 tsk10 tsk13 tsk14 tsk15 tsk16 tsk17 tsk22 tsk23 tsk24 tsk25 tsk11 hX0 hF0 => ?_)
  obtain ⟨sA, hsA, tsA⟩ := hW.ref t_a0 9 rfl rfl rfl
  have ri1 : (-2147483648) ≤ iv a0 14 ∧ iv a0 14 ≤ 2147483647 := hW.int t_a0 14
  refine c_iload_n (j := 3) C dX11_readings_0 rfl ?_
  refine c_iconst C dX11_readings_1 ?_
  refine c_icmp_lt (tgt := 11) C ⟨by omega, by omega⟩ ⟨by decide, by decide⟩ dX11_readings_2 (by decide) (fun c1 => ?_) (fun c1 => ?_)
  · refine c_aload_n (j := 0) (x := a0) C dX11_readings_11 rfl ?_
    refine c_bipush (z := 6) C dX11_readings_12 (by decide) ?_
    refine d_callV (As := [.int (iI 6)]) (rest := []) C hM (C_refuse (a0 := a0) (x := 6) hW hS t_a0 ⟨by decide, by decide⟩ ) dX11_readings_14 kV_X11_102 rfl t_a0 rfl rfl (by decide) ck_12 rfl (Nat.le_of_ble_eq_true rfl) ⟨(Nat.le_of_ble_eq_true rfl), (Nat.le_of_ble_eq_true rfl)⟩ hph hph (show 0 + 0 = 0 from rfl) (by decide) (fun rh1 Lh1 clh1 lnh1 ivh1 rvh1 h1 => ?_)
    obtain ⟨f1, rfl, rfl, rfl, rfl, rfl, fl1, W1, rgf1, exf1, kp11f1, kp12f1, kp13f1, kp14f1, kp15f1, kp16f1⟩ := h1
    refine hv7 (show 1 ≤ iv a0 11 ∧ iv a0 11 ≤ 100 from hW.int t_a0 11) (show 1 ≤ iv a0 12 ∧ iv a0 12 ≤ 50 from hW.int t_a0 12) (show (-2147483648) ≤ iv a0 13 ∧ iv a0 13 ≤ 2147483647 from hW.int t_a0 13) (show (-2147483648) ≤ iv a0 15 ∧ iv a0 15 ≤ 2147483647 from hW.int t_a0 15) (show (-2147483648) ≤ iv a0 16 ∧ iv a0 16 ≤ 2147483647 from hW.int t_a0 16) (hF0.call hX0 fl1 rfl) (MRK.call hmr hW hS XT.refl fl1 rfl rfl) (fun ri2 ri3 ri4 ri5 ri6 F1 mr1 => ?_)
    refine c_st (st2 := [.int (iI f1)]) rfl ?_
    refine hv13 (show ivh1 a0 11 = iv a0 11 from kp11f1) (show ivh1 a0 12 = iv a0 12 from kp12f1) (show ivh1 a0 13 = iv a0 13 from kp13f1) (show ivh1 a0 14 = iv a0 14 from kp14f1) (show ivh1 a0 15 = iv a0 15 from kp15f1) (show ivh1 a0 16 = iv a0 16 from kp16f1) (show f1 = -1 from exf1) (show 1 ≤ ivh1 a0 11 ∧ ivh1 a0 11 ≤ 100 from W1.int t_a0 11) (show 1 ≤ ivh1 a0 12 ∧ ivh1 a0 12 ≤ 50 from W1.int t_a0 12) (show (-2147483648) ≤ ivh1 a0 13 ∧ ivh1 a0 13 ≤ 2147483647 from W1.int t_a0 13) (show (-2147483648) ≤ ivh1 a0 14 ∧ ivh1 a0 14 ≤ 2147483647 from W1.int t_a0 14) (show (-2147483648) ≤ ivh1 a0 15 ∧ ivh1 a0 15 ≤ 2147483647 from W1.int t_a0 15) (show (-2147483648) ≤ ivh1 a0 16 ∧ ivh1 a0 16 ≤ 2147483647 from W1.int t_a0 16) (fun gk11f1 gk12f1 gk13f1 gk14f1 gk15f1 gk16f1 gf1 ri7 ri8 ri9 ri10 ri11 ri12 => ?_)
    exact c_iret C dX11_readings_17 rfl (by decide) (rom0 hph hph (by decide)) ⟨f1, rfl, hX0, F1, W1, ⟨by omega, by omega⟩, trivial, gk11f1, gk12f1, gk13f1, gk14f1, gk15f1, gk16f1, (PRG.bad (fun v a _ _ _ E _ q => by have q2 := q.2.1; omega) (by omega) (FKP.fr hW hS fl1 rfl rfl rfl rfl)), rfl, rfl⟩
  · refine c_iload_n (j := 3) C dX11_readings_5 rfl ?_
    refine c_bipush (z := 50) C dX11_readings_6 (by decide) ?_
    refine c_icmp_le (tgt := 18) C ⟨by omega, by omega⟩ ⟨by decide, by decide⟩ dX11_readings_8 (by decide) (fun c2 => ?_) (fun c2 => ?_)
    · refine c_aload_n (j := 0) (x := a0) C dX11_readings_18 rfl ?_
      obtain ⟨rb1, rq1, trb1⟩ := hW.ref t_a0 4 rfl rfl rfl
      have erb1 := hW.sk trb1 (by decide) rfl
      subst erb1
      refine c_getr (k := 4) C ck_12 dX11_readings_19 w2_48 (by decide) t_a0 rfl rfl (by decide) rfl rq1 ?_
      refine c_st (st2 := [.ref (sk 13)]) rfl ?_
      refine c_iload_n (j := 1) C dX11_readings_22 rfl ?_
      refine d_callV (As := [.int (iI i)]) (rest := []) C hM (G_whole (a0 := (sk 13)) (i := i) hW hS tsk13 (by omega) hmr) dX11_readings_23 kV_X11_231 rfl tsk13 rfl rfl (by decide) ck_11 rfl (Nat.le_of_ble_eq_true rfl) ⟨(Nat.le_of_ble_eq_true rfl), (Nat.le_of_ble_eq_true rfl)⟩ hph hph (show 0 + 0 = 0 from rfl) (by decide) (fun rh2 Lh2 clh2 lnh2 ivh2 rvh2 h2 => ?_)
      obtain ⟨f2, rfl, rfl, rfl, rfl, rfl, rfl, rgf2, exf2⟩ := h2
      refine c_st (st2 := [(va_rf f2)]) rfl ?_
      have gf2 : WOX sk ln iv rv i f2 := exf2
      refine c_astorer (r := f2) (lv2 := [(4, (va_rf f2)), (0, .ref a0), (1, .int (iI i)), (2, .int (iI j)), (3, .int (iI n))]) C dX11_readings_26 (by decide) rfl ?_
      refine c_aloadr (j := 0) (r := f2) C dX11_readings_28 rfl ?_
      refine c_ifnonnull (r := f2) (tgt := 39) C dX11_readings_30 (by decide) (fun ob1 oq1 => ?_) (fun oq1 => ?_)
      · subst oq1
        refine hv2 (rgf2 ob1 rfl) (gf2) (fun tob1 wkob1 => ?_)
        refine c_lv (lv2 := [(4, .ref ob1), (0, .ref a0), (1, .int (iI i)), (2, .int (iI j)), (3, .int (iI n))]) [0, 1, 2, 3, 4] rfl ?_
        refine c_st (st2 := []) rfl ?_
        refine c_aload_n (j := 1) (x := a0) C dX11_readings_39 rfl ?_
        refine c_getr (k := 9) C ck_12 dX11_readings_40 w2_53 (by decide) t_a0 rfl rfl (by decide) rfl hsA ?_
        refine c_st (st2 := [.ref sA]) rfl ?_
        refine c_iload_n (j := 3) C dX11_readings_43 rfl ?_
        refine d_callV (As := [.int (iI j)]) (rest := []) C hM (G_present (a0 := sA) (i := j) hW hS tsA (by omega) ) dX11_readings_44 kV_X11_288 rfl tsA rfl rfl (by decide) ck_8 rfl (Nat.le_of_ble_eq_true rfl) ⟨(Nat.le_of_ble_eq_true rfl), (Nat.le_of_ble_eq_true rfl)⟩ hph hph (show 0 + 0 = 0 from rfl) (by decide) (fun rh3 Lh3 clh3 lnh3 ivh3 rvh3 h3 => ?_)
        obtain ⟨f3, rfl, rfl, rfl, rfl, rfl, rfl, rgf3, exf3⟩ := h3
        refine c_st (st2 := [(va_rf f3)]) rfl ?_
        have gf3 : PRX iv rv sA j f3 := exf3
        refine c_astorer (r := f3) (lv2 := [(5, (va_rf f3)), (4, .ref ob1), (0, .ref a0), (1, .int (iI i)), (2, .int (iI j)), (3, .int (iI n))]) C dX11_readings_47 (by decide) rfl ?_
        refine c_aloadr (j := 0) (r := f3) C dX11_readings_49 rfl ?_
        refine c_ifnonnull (r := f3) (tgt := 67) C dX11_readings_51 (by decide) (fun ob2 oq2 => ?_) (fun oq2 => ?_)
        · subst oq2
          refine hv2 (rgf3 ob2 rfl) (gf3) (fun tob2 gkob2 => ?_)
          refine c_lv (lv2 := [(5, .ref ob2), (4, .ref ob1), (0, .ref a0), (1, .int (iI i)), (2, .int (iI j)), (3, .int (iI n))]) [0, 1, 2, 3, 4, 5] rfl ?_
          refine c_st (st2 := []) rfl ?_
          refine c_aload (j := 0) (x := ob2) C dX11_readings_67 rfl ?_
          have ri13 : 0 ≤ iv ob2 1 ∧ iv ob2 1 ≤ 200 := hW.int tob2 1
          refine c_get (k := 1) C ck_3 dX11_readings_69 w4_53 (by decide) tob2 rfl rfl (by decide) rfl ?_
          refine c_bipush (z := 100) C dX11_readings_72 (by decide) ?_
          refine c_icmp_le (tgt := 84) C (r32_c (lo := 0) (hi := 200) ri13.1 ri13.2 (by decide) (by decide)) ⟨by decide, by decide⟩ dX11_readings_74 (by decide) (fun c3 => ?_) (fun c3 => ?_)
          · refine c_aload_n (j := 2) (x := a0) C dX11_readings_84 rfl ?_
            obtain ⟨rb2, rq2, trb2⟩ := hW.ref t_a0 7 rfl rfl rfl
            have erb2 := hW.sk trb2 (by decide) rfl
            subst erb2
            refine c_getr (k := 7) C ck_12 dX11_readings_85 w2_51 (by decide) t_a0 rfl rfl (by decide) rfl rq2 ?_
            refine c_st (st2 := [.ref (sk 16)]) rfl ?_
            refine c_aload (j := 1) (x := ob1) C dX11_readings_88 rfl ?_
            refine d_callV (As := [.ref ob1]) (rest := []) C hM (G_gather2 (a0 := (sk 16)) (a1 := ob1) hW hS tsk16 tob1  ) dX11_readings_90 kV_X11_331 rfl tsk16 rfl rfl (by decide) ck_4 rfl (Nat.le_of_ble_eq_true rfl) ⟨(Nat.le_of_ble_eq_true rfl), (Nat.le_of_ble_eq_true rfl)⟩ hph hph (show 0 + 0 = 0 from rfl) (by decide) (fun rh4 Lh4 clh4 lnh4 ivh4 rvh4 h4 => ?_)
            obtain ⟨rfl, xl4, fl4, W4, exf4, gaxf4, gbxf4⟩ := h4
            refine hv4 (hF0.call hX0 fl4 rfl) (MRK.call hmr hW hS xl4 fl4 rfl rfl) (hX0.trans xl4) (xl4.skl hS) (fun F2 mr2 X1 sk1 => ?_)
            refine c_st (st2 := []) rfl ?_
            refine c_aload_n (j := 2) (x := a0) C dX11_readings_93 rfl ?_
            have ty1 := xl4.ty t_a0
            obtain ⟨rb3, rq3, trb3⟩ := W4.ref ty1 8 rfl rfl rfl
            have erb3 := W4.sk trb3 (by decide) rfl
            subst erb3
            refine c_getr (k := 8) C ck_12 dX11_readings_94 w2_52 (by decide) ty1 rfl rfl (by decide) rfl rq3 ?_
            refine c_st (st2 := [.ref (sk 17)]) rfl ?_
            refine c_aload (j := 0) (x := ob2) C dX11_readings_97 rfl ?_
            refine c_sipush (z := 255) C dX11_readings_99 (by decide) ?_
            refine c_aload_n (j := 2) (x := a0) C dX11_readings_102 rfl ?_
            refine hv2 (show (-2147483648) ≤ ivh4 a0 14 ∧ ivh4 a0 14 ≤ 2147483647 from W4.int ty1 14) (show ivh4 a0 14 = iv a0 14 from fl4.i t_a0 rfl 14) (fun ri14 ie7 => ?_)
            refine c_get (k := 14) C ck_12 dX11_readings_103 w2_58 (by decide) ty1 rfl rfl (by decide) rfl ?_
            refine c_iconst C dX11_readings_106 ?_
            obtain ⟨zz1, hzz1, ezz1⟩ := iI_of (iI (ivh4 a0 14) ^^^ iI (-1))
            refine c_ixor (w := iI zz1) C dX11_readings_107 ezz1 ?_
            obtain ⟨zz2, hzz2, ezz2⟩ := iI_of (iI 255 &&& iI zz1)
            refine c_iand (w := iI zz2) C dX11_readings_108 ezz2 ?_
            refine c_iload_n (j := 5) C dX11_readings_109 rfl ?_
            refine hv3 (xl4.ty tsk17) (xl4.ty tob2) (Phi.le W4 sk1) (fun ty2 ty3 pl1 => ?_)
            refine d_callV (As := [.ref ob2, .int (iI zz2), .int (iI n)]) (rest := []) C hM (G_collect (a0 := (sk 17)) (a1 := ob2) (x := zz2) (y := n) W4 sk1 ty2 ty3 (by omega) (by omega) ) dX11_readings_110 kV_X11_356 rfl ty2 rfl rfl (by decide) ck_5 rfl (Nat.le_of_ble_eq_true rfl) ⟨(Nat.le_of_ble_eq_true rfl), (Nat.le_of_ble_eq_true rfl)⟩ hph pl1 (show 0 + 0 = 0 from rfl) (by decide) (fun rh5 Lh5 clh5 lnh5 ivh5 rvh5 h5 => ?_)
            obtain ⟨rfl, xl5, fl5, W5, exf5⟩ := h5
            refine hv24 (F2.call X1 fl5 rfl) (MRK.call mr2 W4 sk1 xl5 fl5 rfl rfl) (xl4.ty tsk2) (xl4.ty tsk3) (xl4.ty tsk4) (xl4.ty tsk5) (xl4.ty tsk6) (xl4.ty tsk7) (xl4.ty tsk8) (xl4.ty tsk9) (xl4.ty tsk10) (xl4.ty tsk13) (xl4.ty tsk14) (xl4.ty tsk15) (xl4.ty tsk16) (xl4.ty tsk22) (xl4.ty tsk23) (xl4.ty tsk24) (xl4.ty tsk25) (xl4.ty tsk11) (xl4.ty tsA) (xl4.ty tob1) (X1.trans xl5) (xl5.skl sk1) (fun F3 mr3 ty4 ty5 ty6 ty7 ty8 ty9 ty10 ty11 ty12 ty13 ty14 ty15 ty16 ty17 ty18 ty19 ty20 ty21 ty22 ty23 X2 sk2 => ?_)
            refine c_st (st2 := []) rfl ?_
            refine hv2 (show CLS Lh4 clh4 lnh4 ivh4 rvh4 sk (sk 17) ob2 ivh5 rvh5 zz2 n from exf5) (xl5.ty ty2) (fun gf5 ty24 => ?_)
            refine hv2 (show 0 ≤ ivh5 (sk 17) 5 ∧ ivh5 (sk 17) 5 ≤ 50 from W5.int ty24 5) (show 0 ≤ ivh5 (sk 17) 6 ∧ ivh5 (sk 17) 6 ≤ 1 from W5.int ty24 6) (fun ri15 ri16 => ?_)
            refine c_aload_n (j := 2) (x := a0) C dX11_readings_113 rfl ?_
            refine c_aload_n (j := 2) (x := a0) C dX11_readings_114 rfl ?_
            refine hv2 (xl5.ty ty1) (show rvh5 a0 8 = rvh4 a0 8 from (fl5.r ty1 rfl 8)) (fun ty25 re1 => ?_)
            rw [rq3] at re1
            refine c_getr (k := 8) C ck_12 dX11_readings_115 w2_52 (by decide) ty25 rfl rfl (by decide) rfl re1 ?_
            refine c_st (st2 := [.ref (sk 17), .ref a0]) rfl ?_
            refine c_get (k := 5) C ck_5 dX11_readings_118 w1_235 (by decide) ty24 rfl rfl (by decide) rfl ?_
            have pl2 := Phi.le W5 sk2
            refine d_callV (As := [.int (iI (ivh5 (sk 17) 5))]) (rest := []) C hM (C_done (a0 := a0) (x := ivh5 (sk 17) 5) W5 sk2 ty25 (by omega) ) dX11_readings_121 kV_X11_109 rfl ty25 rfl rfl (by decide) ck_12 rfl (Nat.le_of_ble_eq_true rfl) ⟨(Nat.le_of_ble_eq_true rfl), (Nat.le_of_ble_eq_true rfl)⟩ hph pl2 (show 0 + 0 = 0 from rfl) (by decide) (fun rh6 Lh6 clh6 lnh6 ivh6 rvh6 h6 => ?_)
            obtain ⟨f6, rfl, rfl, rfl, rfl, rfl, fl6, W6, rgf6, exf6, kp11f6, kp12f6, kp13f6, kp14f6, kp15f6, kp16f6⟩ := h6
            refine hv19 (show 1 ≤ ivh5 a0 11 ∧ ivh5 a0 11 ≤ 100 from W5.int ty25 11) (show ivh5 a0 11 = ivh4 a0 11 from fl5.i ty1 rfl 11) (show ivh4 a0 11 = iv a0 11 from fl4.i t_a0 rfl 11) (show 1 ≤ ivh5 a0 12 ∧ ivh5 a0 12 ≤ 50 from W5.int ty25 12) (show ivh5 a0 12 = ivh4 a0 12 from fl5.i ty1 rfl 12) (show ivh4 a0 12 = iv a0 12 from fl4.i t_a0 rfl 12) (show (-2147483648) ≤ ivh5 a0 13 ∧ ivh5 a0 13 ≤ 2147483647 from W5.int ty25 13) (show ivh5 a0 13 = ivh4 a0 13 from fl5.i ty1 rfl 13) (show ivh4 a0 13 = iv a0 13 from fl4.i t_a0 rfl 13) (show (-2147483648) ≤ ivh5 a0 14 ∧ ivh5 a0 14 ≤ 2147483647 from W5.int ty25 14) (show ivh5 a0 14 = ivh4 a0 14 from fl5.i ty1 rfl 14) (show (-2147483648) ≤ ivh5 a0 15 ∧ ivh5 a0 15 ≤ 2147483647 from W5.int ty25 15) (show ivh5 a0 15 = ivh4 a0 15 from fl5.i ty1 rfl 15) (show ivh4 a0 15 = iv a0 15 from fl4.i t_a0 rfl 15) (show (-2147483648) ≤ ivh5 a0 16 ∧ ivh5 a0 16 ≤ 2147483647 from W5.int ty25 16) (show ivh5 a0 16 = ivh4 a0 16 from fl5.i ty1 rfl 16) (show ivh4 a0 16 = iv a0 16 from fl4.i t_a0 rfl 16) (F3.call X2 fl6 rfl) (MRK.call mr3 W5 sk2 XT.refl fl6 rfl rfl) (fun ri17 ie10 ie11 ri18 ie12 ie13 ri19 ie14 ie15 ri20 ie16 ri21 ie17 ie18 ri22 ie19 ie20 F4 mr4 => ?_)
            refine c_st (st2 := [.int (iI f6)]) rfl ?_
            refine hv21 (show ivh6 a0 11 = ivh5 a0 11 from kp11f6) (show ivh6 a0 12 = ivh5 a0 12 from kp12f6) (show ivh6 a0 13 = ivh5 a0 13 from kp13f6) (show ivh6 a0 14 = ivh5 a0 14 from kp14f6) (show ivh6 a0 15 = ivh5 a0 15 from kp15f6) (show ivh6 a0 16 = ivh5 a0 16 from kp16f6) (show f6 = (ivh5 (sk 17) 5) from exf6) (show 1 ≤ ivh6 a0 11 ∧ ivh6 a0 11 ≤ 100 from W6.int ty25 11) (show 1 ≤ ivh6 a0 12 ∧ ivh6 a0 12 ≤ 50 from W6.int ty25 12) (show (-2147483648) ≤ ivh6 a0 13 ∧ ivh6 a0 13 ≤ 2147483647 from W6.int ty25 13) (show (-2147483648) ≤ ivh6 a0 14 ∧ ivh6 a0 14 ≤ 2147483647 from W6.int ty25 14) (show (-2147483648) ≤ ivh6 a0 15 ∧ ivh6 a0 15 ≤ 2147483647 from W6.int ty25 15) (show (-2147483648) ≤ ivh6 a0 16 ∧ ivh6 a0 16 ≤ 2147483647 from W6.int ty25 16) (show 0 ≤ ivh6 (sk 17) 5 ∧ ivh6 (sk 17) 5 ≤ 50 from W6.int ty24 5) (show ivh6 (sk 17) 5 = ivh5 (sk 17) 5 from fl6.i ty24 rfl 5) (show 0 ≤ ivh6 (sk 17) 6 ∧ ivh6 (sk 17) 6 ≤ 1 from W6.int ty24 6) (show ivh6 (sk 17) 6 = ivh5 (sk 17) 6 from fl6.i ty24 rfl 6) (xl5.ty ty3) (show ivh5 ob2 1 = ivh4 ob2 1 from fl5.i ty3 rfl 1) (show ivh4 ob2 1 = iv ob2 1 from fl4.i tob2 rfl 1) (xl5.ty ty21) (fun gk11f6 gk12f6 gk13f6 gk14f6 gk15f6 gk16f6 gf6 ri23 ri24 ri25 ri26 ri27 ri28 ri29 ie27 ri30 ie28 ty26 ie30 ie31 ty27 => ?_)
            refine hv2 (show 0 ≤ ivh6 ob2 1 ∧ ivh6 ob2 1 ≤ 200 from W6.int ty26 1) (show ivh6 ob2 1 = ivh5 ob2 1 from fl6.i ty26 rfl 1) (fun ri31 ie29 => ?_)
            exact c_iret C dX11_readings_124 rfl (by decide) (rom0 hph pl2 (by decide)) ⟨f6, rfl, X2, F4, W6, ⟨by omega, by omega⟩, trivial, (gk11f6.trans (ie10.trans ie11)), (gk12f6.trans (ie12.trans ie13)), (gk13f6.trans (ie14.trans ie15)), (gk14f6.trans (ie16.trans ie7)), (gk15f6.trans (ie17.trans ie18)), (gk16f6.trans (ie19.trans ie20)), (PRG.ok wkob1 ⟨by omega, by omega⟩ hsA gkob2 (by omega) gaxf4 (fun xs hx => hx.fq hW tob2 fl4 rfl rfl) (by rw [show iv a0 14 = ivh4 a0 14 by omega]; exact ezz1) ezz2 exf5 (by omega) (by omega) (fun K hk => hk.fq W5 ty24 ty27 fl6 rfl rfl rfl rfl)), (Eq.trans (show rvh5 a0 9 = rvh4 a0 9 from (fl5.r ty1 rfl 9)) (show rvh4 a0 9 = rv a0 9 from (fl4.r t_a0 rfl 9))), (Eq.trans (show rvh5 a0 10 = rvh4 a0 10 from (fl5.r ty1 rfl 10)) (show rvh4 a0 10 = rv a0 10 from (fl4.r t_a0 rfl 10)))⟩
          · refine c_aload_n (j := 2) (x := a0) C dX11_readings_77 rfl ?_
            refine c_bipush (z := 6) C dX11_readings_78 (by decide) ?_
            refine d_callV (As := [.int (iI 6)]) (rest := []) C hM (C_refuse (a0 := a0) (x := 6) hW hS t_a0 ⟨by decide, by decide⟩ ) dX11_readings_80 kV_X11_102 rfl t_a0 rfl rfl (by decide) ck_12 rfl (Nat.le_of_ble_eq_true rfl) ⟨(Nat.le_of_ble_eq_true rfl), (Nat.le_of_ble_eq_true rfl)⟩ hph hph (show 0 + 0 = 0 from rfl) (by decide) (fun rh7 Lh7 clh7 lnh7 ivh7 rvh7 h7 => ?_)
            obtain ⟨f7, rfl, rfl, rfl, rfl, rfl, fl7, W7, rgf7, exf7, kp11f7, kp12f7, kp13f7, kp14f7, kp15f7, kp16f7⟩ := h7
            refine hv7 (show 1 ≤ iv a0 11 ∧ iv a0 11 ≤ 100 from hW.int t_a0 11) (show 1 ≤ iv a0 12 ∧ iv a0 12 ≤ 50 from hW.int t_a0 12) (show (-2147483648) ≤ iv a0 13 ∧ iv a0 13 ≤ 2147483647 from hW.int t_a0 13) (show (-2147483648) ≤ iv a0 15 ∧ iv a0 15 ≤ 2147483647 from hW.int t_a0 15) (show (-2147483648) ≤ iv a0 16 ∧ iv a0 16 ≤ 2147483647 from hW.int t_a0 16) (hF0.call hX0 fl7 rfl) (MRK.call hmr hW hS XT.refl fl7 rfl rfl) (fun ri32 ri33 ri34 ri35 ri36 F5 mr5 => ?_)
            refine c_st (st2 := [.int (iI f7)]) rfl ?_
            refine hv15 (show ivh7 a0 11 = iv a0 11 from kp11f7) (show ivh7 a0 12 = iv a0 12 from kp12f7) (show ivh7 a0 13 = iv a0 13 from kp13f7) (show ivh7 a0 14 = iv a0 14 from kp14f7) (show ivh7 a0 15 = iv a0 15 from kp15f7) (show ivh7 a0 16 = iv a0 16 from kp16f7) (show f7 = -1 from exf7) (show 1 ≤ ivh7 a0 11 ∧ ivh7 a0 11 ≤ 100 from W7.int t_a0 11) (show 1 ≤ ivh7 a0 12 ∧ ivh7 a0 12 ≤ 50 from W7.int t_a0 12) (show (-2147483648) ≤ ivh7 a0 13 ∧ ivh7 a0 13 ≤ 2147483647 from W7.int t_a0 13) (show (-2147483648) ≤ ivh7 a0 14 ∧ ivh7 a0 14 ≤ 2147483647 from W7.int t_a0 14) (show (-2147483648) ≤ ivh7 a0 15 ∧ ivh7 a0 15 ≤ 2147483647 from W7.int t_a0 15) (show (-2147483648) ≤ ivh7 a0 16 ∧ ivh7 a0 16 ≤ 2147483647 from W7.int t_a0 16) (show 0 ≤ ivh7 ob2 1 ∧ ivh7 ob2 1 ≤ 200 from W7.int tob2 1) (show ivh7 ob2 1 = iv ob2 1 from fl7.i tob2 rfl 1) (fun gk11f7 gk12f7 gk13f7 gk14f7 gk15f7 gk16f7 gf7 ri37 ri38 ri39 ri40 ri41 ri42 ri43 ie38 => ?_)
            exact c_iret C dX11_readings_83 rfl (by decide) (rom0 hph hph (by decide)) ⟨f7, rfl, hX0, F5, W7, ⟨by omega, by omega⟩, trivial, gk11f7, gk12f7, gk13f7, gk14f7, gk15f7, gk16f7, (PRG.bad (fun v a _ sA' e E hE q => by rw [hsA] at e; cases e; exact OKG_long gkob2 hE (by omega) q) (by omega) (FKP.fr hW hS fl7 rfl rfl rfl rfl)), rfl, rfl⟩
        · subst oq2
          refine c_lv (lv2 := [(5, .null), (4, .ref ob1), (0, .ref a0), (1, .int (iI i)), (2, .int (iI j)), (3, .int (iI n))]) [0, 1, 2, 3, 4, 5] rfl ?_
          refine c_st (st2 := []) rfl ?_
          refine c_aload_n (j := 2) (x := a0) C dX11_readings_54 rfl ?_
          refine c_aload_n (j := 2) (x := a0) C dX11_readings_55 rfl ?_
          refine c_getr (k := 9) C ck_12 dX11_readings_56 w2_53 (by decide) t_a0 rfl rfl (by decide) rfl hsA ?_
          refine c_st (st2 := [.ref sA, .ref a0]) rfl ?_
          refine c_iload_n (j := 4) C dX11_readings_59 rfl ?_
          refine d_callV (As := [.int (iI j)]) (rest := [.ref a0]) C hM (C_whyNone (a0 := sA) (i := j) hW hS tsA (by omega) ) dX11_readings_60 kV_X11_292 rfl tsA rfl rfl (by decide) ck_8 rfl (Nat.le_of_ble_eq_true rfl) ⟨(Nat.le_of_ble_eq_true rfl), (Nat.le_of_ble_eq_true rfl)⟩ hph hph (show 0 + 0 = 0 from rfl) (by decide) (fun rh8 Lh8 clh8 lnh8 ivh8 rvh8 h8 => ?_)
          obtain ⟨f8, rfl, rfl, rfl, rfl, rfl, rfl, rgf8, exf8⟩ := h8
          refine c_st (st2 := [.int (iI f8), .ref a0]) rfl ?_
          have gf8 : f8 = 1 ∨ f8 = 2 := exf8
          refine d_callV (As := [.int (iI f8)]) (rest := []) C hM (C_refuse (a0 := a0) (x := f8) hW hS t_a0 (by omega) ) dX11_readings_63 kV_X11_102 rfl t_a0 rfl rfl (by decide) ck_12 rfl (Nat.le_of_ble_eq_true rfl) ⟨(Nat.le_of_ble_eq_true rfl), (Nat.le_of_ble_eq_true rfl)⟩ hph hph (show 0 + 0 = 0 from rfl) (by decide) (fun rh9 Lh9 clh9 lnh9 ivh9 rvh9 h9 => ?_)
          obtain ⟨f9, rfl, rfl, rfl, rfl, rfl, fl9, W9, rgf9, exf9, kp11f9, kp12f9, kp13f9, kp14f9, kp15f9, kp16f9⟩ := h9
          refine hv7 (show 1 ≤ iv a0 11 ∧ iv a0 11 ≤ 100 from hW.int t_a0 11) (show 1 ≤ iv a0 12 ∧ iv a0 12 ≤ 50 from hW.int t_a0 12) (show (-2147483648) ≤ iv a0 13 ∧ iv a0 13 ≤ 2147483647 from hW.int t_a0 13) (show (-2147483648) ≤ iv a0 15 ∧ iv a0 15 ≤ 2147483647 from hW.int t_a0 15) (show (-2147483648) ≤ iv a0 16 ∧ iv a0 16 ≤ 2147483647 from hW.int t_a0 16) (hF0.call hX0 fl9 rfl) (MRK.call hmr hW hS XT.refl fl9 rfl rfl) (fun ri44 ri45 ri46 ri47 ri48 F6 mr6 => ?_)
          refine c_st (st2 := [.int (iI f9)]) rfl ?_
          refine hv13 (show ivh9 a0 11 = iv a0 11 from kp11f9) (show ivh9 a0 12 = iv a0 12 from kp12f9) (show ivh9 a0 13 = iv a0 13 from kp13f9) (show ivh9 a0 14 = iv a0 14 from kp14f9) (show ivh9 a0 15 = iv a0 15 from kp15f9) (show ivh9 a0 16 = iv a0 16 from kp16f9) (show f9 = -1 from exf9) (show 1 ≤ ivh9 a0 11 ∧ ivh9 a0 11 ≤ 100 from W9.int t_a0 11) (show 1 ≤ ivh9 a0 12 ∧ ivh9 a0 12 ≤ 50 from W9.int t_a0 12) (show (-2147483648) ≤ ivh9 a0 13 ∧ ivh9 a0 13 ≤ 2147483647 from W9.int t_a0 13) (show (-2147483648) ≤ ivh9 a0 14 ∧ ivh9 a0 14 ≤ 2147483647 from W9.int t_a0 14) (show (-2147483648) ≤ ivh9 a0 15 ∧ ivh9 a0 15 ≤ 2147483647 from W9.int t_a0 15) (show (-2147483648) ≤ ivh9 a0 16 ∧ ivh9 a0 16 ≤ 2147483647 from W9.int t_a0 16) (fun gk11f9 gk12f9 gk13f9 gk14f9 gk15f9 gk16f9 gf9 ri49 ri50 ri51 ri52 ri53 ri54 => ?_)
          exact c_iret C dX11_readings_66 rfl (by decide) (rom0 hph hph (by decide)) ⟨f9, rfl, hX0, F6, W9, ⟨by omega, by omega⟩, trivial, gk11f9, gk12f9, gk13f9, gk14f9, gk15f9, gk16f9, (PRG.bad (fun v a _ sA' e E hE q => by rw [hsA] at e; cases e; exact gf3.non hE (by obtain ⟨_, _, xs, x1, _⟩ := q; exact ⟨xs, x1⟩)) (by omega) (FKP.fr hW hS fl9 rfl rfl rfl rfl)), rfl, rfl⟩
      · subst oq1
        refine c_lv (lv2 := [(4, .null), (0, .ref a0), (1, .int (iI i)), (2, .int (iI j)), (3, .int (iI n))]) [0, 1, 2, 3, 4] rfl ?_
        refine c_st (st2 := []) rfl ?_
        refine c_aload_n (j := 1) (x := a0) C dX11_readings_33 rfl ?_
        refine c_iconst C dX11_readings_34 ?_
        refine d_callV (As := [.int (iI 3)]) (rest := []) C hM (C_refuse (a0 := a0) (x := 3) hW hS t_a0 ⟨by decide, by decide⟩ ) dX11_readings_35 kV_X11_102 rfl t_a0 rfl rfl (by decide) ck_12 rfl (Nat.le_of_ble_eq_true rfl) ⟨(Nat.le_of_ble_eq_true rfl), (Nat.le_of_ble_eq_true rfl)⟩ hph hph (show 0 + 0 = 0 from rfl) (by decide) (fun rh10 Lh10 clh10 lnh10 ivh10 rvh10 h10 => ?_)
        obtain ⟨f10, rfl, rfl, rfl, rfl, rfl, fl10, W10, rgf10, exf10, kp11f10, kp12f10, kp13f10, kp14f10, kp15f10, kp16f10⟩ := h10
        refine hv7 (show 1 ≤ iv a0 11 ∧ iv a0 11 ≤ 100 from hW.int t_a0 11) (show 1 ≤ iv a0 12 ∧ iv a0 12 ≤ 50 from hW.int t_a0 12) (show (-2147483648) ≤ iv a0 13 ∧ iv a0 13 ≤ 2147483647 from hW.int t_a0 13) (show (-2147483648) ≤ iv a0 15 ∧ iv a0 15 ≤ 2147483647 from hW.int t_a0 15) (show (-2147483648) ≤ iv a0 16 ∧ iv a0 16 ≤ 2147483647 from hW.int t_a0 16) (hF0.call hX0 fl10 rfl) (MRK.call hmr hW hS XT.refl fl10 rfl rfl) (fun ri55 ri56 ri57 ri58 ri59 F7 mr7 => ?_)
        refine c_st (st2 := [.int (iI f10)]) rfl ?_
        refine hv13 (show ivh10 a0 11 = iv a0 11 from kp11f10) (show ivh10 a0 12 = iv a0 12 from kp12f10) (show ivh10 a0 13 = iv a0 13 from kp13f10) (show ivh10 a0 14 = iv a0 14 from kp14f10) (show ivh10 a0 15 = iv a0 15 from kp15f10) (show ivh10 a0 16 = iv a0 16 from kp16f10) (show f10 = -1 from exf10) (show 1 ≤ ivh10 a0 11 ∧ ivh10 a0 11 ≤ 100 from W10.int t_a0 11) (show 1 ≤ ivh10 a0 12 ∧ ivh10 a0 12 ≤ 50 from W10.int t_a0 12) (show (-2147483648) ≤ ivh10 a0 13 ∧ ivh10 a0 13 ≤ 2147483647 from W10.int t_a0 13) (show (-2147483648) ≤ ivh10 a0 14 ∧ ivh10 a0 14 ≤ 2147483647 from W10.int t_a0 14) (show (-2147483648) ≤ ivh10 a0 15 ∧ ivh10 a0 15 ≤ 2147483647 from W10.int t_a0 15) (show (-2147483648) ≤ ivh10 a0 16 ∧ ivh10 a0 16 ≤ 2147483647 from W10.int t_a0 16) (fun gk11f10 gk12f10 gk13f10 gk14f10 gk15f10 gk16f10 gf10 ri60 ri61 ri62 ri63 ri64 ri65 => ?_)
        exact c_iret C dX11_readings_38 rfl (by decide) (rom0 hph hph (by decide)) ⟨f10, rfl, hX0, F7, W10, ⟨by omega, by omega⟩, trivial, gk11f10, gk12f10, gk13f10, gk14f10, gk15f10, gk16f10, (PRG.bad (fun v a hR _ _ E _ q => (PRD_nw gf2 hR) q.1) (by omega) (FKP.fr hW hS fl10 rfl rfl rfl rfl)), rfl, rfl⟩
    · refine c_aload_n (j := 0) (x := a0) C dX11_readings_11 rfl ?_
      refine c_bipush (z := 6) C dX11_readings_12 (by decide) ?_
      refine d_callV (As := [.int (iI 6)]) (rest := []) C hM (C_refuse (a0 := a0) (x := 6) hW hS t_a0 ⟨by decide, by decide⟩ ) dX11_readings_14 kV_X11_102 rfl t_a0 rfl rfl (by decide) ck_12 rfl (Nat.le_of_ble_eq_true rfl) ⟨(Nat.le_of_ble_eq_true rfl), (Nat.le_of_ble_eq_true rfl)⟩ hph hph (show 0 + 0 = 0 from rfl) (by decide) (fun rh11 Lh11 clh11 lnh11 ivh11 rvh11 h11 => ?_)
      obtain ⟨f11, rfl, rfl, rfl, rfl, rfl, fl11, W11, rgf11, exf11, kp11f11, kp12f11, kp13f11, kp14f11, kp15f11, kp16f11⟩ := h11
      refine hv7 (show 1 ≤ iv a0 11 ∧ iv a0 11 ≤ 100 from hW.int t_a0 11) (show 1 ≤ iv a0 12 ∧ iv a0 12 ≤ 50 from hW.int t_a0 12) (show (-2147483648) ≤ iv a0 13 ∧ iv a0 13 ≤ 2147483647 from hW.int t_a0 13) (show (-2147483648) ≤ iv a0 15 ∧ iv a0 15 ≤ 2147483647 from hW.int t_a0 15) (show (-2147483648) ≤ iv a0 16 ∧ iv a0 16 ≤ 2147483647 from hW.int t_a0 16) (hF0.call hX0 fl11 rfl) (MRK.call hmr hW hS XT.refl fl11 rfl rfl) (fun ri66 ri67 ri68 ri69 ri70 F8 mr8 => ?_)
      refine c_st (st2 := [.int (iI f11)]) rfl ?_
      refine hv13 (show ivh11 a0 11 = iv a0 11 from kp11f11) (show ivh11 a0 12 = iv a0 12 from kp12f11) (show ivh11 a0 13 = iv a0 13 from kp13f11) (show ivh11 a0 14 = iv a0 14 from kp14f11) (show ivh11 a0 15 = iv a0 15 from kp15f11) (show ivh11 a0 16 = iv a0 16 from kp16f11) (show f11 = -1 from exf11) (show 1 ≤ ivh11 a0 11 ∧ ivh11 a0 11 ≤ 100 from W11.int t_a0 11) (show 1 ≤ ivh11 a0 12 ∧ ivh11 a0 12 ≤ 50 from W11.int t_a0 12) (show (-2147483648) ≤ ivh11 a0 13 ∧ ivh11 a0 13 ≤ 2147483647 from W11.int t_a0 13) (show (-2147483648) ≤ ivh11 a0 14 ∧ ivh11 a0 14 ≤ 2147483647 from W11.int t_a0 14) (show (-2147483648) ≤ ivh11 a0 15 ∧ ivh11 a0 15 ≤ 2147483647 from W11.int t_a0 15) (show (-2147483648) ≤ ivh11 a0 16 ∧ ivh11 a0 16 ≤ 2147483647 from W11.int t_a0 16) (fun gk11f11 gk12f11 gk13f11 gk14f11 gk15f11 gk16f11 gf11 ri71 ri72 ri73 ri74 ri75 ri76 => ?_)
      exact c_iret C dX11_readings_17 rfl (by decide) (rom0 hph hph (by decide)) ⟨f11, rfl, hX0, F8, W11, ⟨by omega, by omega⟩, trivial, gk11f11, gk12f11, gk13f11, gk14f11, gk15f11, gk16f11, (PRG.bad (fun v a _ _ _ E _ q => by have q2 := q.2.1; omega) (by omega) (FKP.fr hW hS fl11 rfl rfl rfl rfl)), rfl, rfl⟩
set_option maxHeartbeats 4000000 in
set_option maxRecDepth 100000 in
theorem G_reading {l : Launch} {G : GT} {mi : Nat} {sk : Nat → Nat} {L : List Nat} {cl ln : Nat → Nat} {iv : Nat → Nat → Int} {rv : Nat → Nat → Option Nat}  {a0 : Nat} {i : Int} {j : Int} (hW : WT (g0 G) sk L cl ln iv rv) (hS : SKL sk L cl) (t_a0 : ty L cl a0 1) (h_i : -2147483648 ≤ i ∧ i ≤ 2147483647) (h_j : -2147483648 ≤ j ∧ j ≤ 2147483647)  : Mc l G mi (Phi (g0 G) sk) PHM yX11_reading cX11_reading 4 (some .int) 2 [.ref a0, .int (iI i), .int (iI j)] L cl ln iv rv 0 (fun v L2 cl2 ln2 iv2 rv2 => ∃ f : Int, v = some (.int (iI f)) ∧ L = L2 ∧ cl = cl2 ∧ ln = ln2 ∧ rv = rv2 ∧ fT [1] L cl iv rv iv2 rv2 ∧ WT (g0 G) sk L2 cl2 ln2 iv2 rv2 ∧ (-2147483648 ≤ f ∧ f ≤ 2147483647) ∧ (True) ∧ iv2 a0 11 = iv a0 11 ∧ iv2 a0 12 = iv a0 12 ∧ iv2 a0 13 = iv a0 13 ∧ iv2 a0 14 = iv a0 14 ∧ iv2 a0 15 = iv a0 15 ∧ iv2 a0 16 = iv a0 16 ∧ (RGP iv rv sk i j f)) := by
  refine Mc.mk (by decide) (Nat.le_of_ble_eq_true rfl) ?_
  intro p e s m args below meth c A C hM
  refine hv21 (Phi.le hW hS) (show ty L cl (sk 2) 2 from ⟨(hS 2 rfl).1, by rw [(hS 2 rfl).2]; rfl⟩) (show ty L cl (sk 3) 3 from ⟨(hS 3 rfl).1, by rw [(hS 3 rfl).2]; rfl⟩) (show ty L cl (sk 4) 4 from ⟨(hS 4 rfl).1, by rw [(hS 4 rfl).2]; rfl⟩) (show ty L cl (sk 5) 5 from ⟨(hS 5 rfl).1, by rw [(hS 5 rfl).2]; rfl⟩) (show ty L cl (sk 6) 6 from ⟨(hS 6 rfl).1, by rw [(hS 6 rfl).2]; rfl⟩) (show ty L cl (sk 7) 7 from ⟨(hS 7 rfl).1, by rw [(hS 7 rfl).2]; rfl⟩) (show ty L cl (sk 8) 8 from ⟨(hS 8 rfl).1, by rw [(hS 8 rfl).2]; rfl⟩) (show ty L cl (sk 9) 9 from ⟨(hS 9 rfl).1, by rw [(hS 9 rfl).2]; rfl⟩) (show ty L cl (sk 10) 10 from ⟨(hS 10 rfl).1, by rw [(hS 10 rfl).2]; rfl⟩) (show ty L cl (sk 13) 13 from ⟨(hS 13 rfl).1, by rw [(hS 13 rfl).2]; rfl⟩) (show ty L cl (sk 14) 14 from ⟨(hS 14 rfl).1, by rw [(hS 14 rfl).2]; rfl⟩) (show ty L cl (sk 15) 15 from ⟨(hS 15 rfl).1, by rw [(hS 15 rfl).2]; rfl⟩) (show ty L cl (sk 16) 16 from ⟨(hS 16 rfl).1, by rw [(hS 16 rfl).2]; rfl⟩) (show ty L cl (sk 17) 17 from ⟨(hS 17 rfl).1, by rw [(hS 17 rfl).2]; rfl⟩) (show ty L cl (sk 22) 22 from ⟨(hS 22 rfl).1, by rw [(hS 22 rfl).2]; rfl⟩) (show ty L cl (sk 23) 23 from ⟨(hS 23 rfl).1, by rw [(hS 23 rfl).2]; rfl⟩) (show ty L cl (sk 24) 24 from ⟨(hS 24 rfl).1, by rw [(hS 24 rfl).2]; rfl⟩) (show ty L cl (sk 25) 25 from ⟨(hS 25 rfl).1, by rw [(hS 25 rfl).2]; rfl⟩) (show XT L cl ln L cl ln from XT.refl) (show fT [1] L cl iv rv iv rv from fT.refl) (fun hph tsk2 tsk3 tsk4 tsk5 tsk6 tsk7 tsk8 tsk9 tsk10 tsk13 tsk14 tsk15 tsk16 tsk17 tsk22 tsk23 tsk24 tsk25 hX0 hF0 => ?_)
  refine c_aload_n (j := 0) (x := a0) C dX11_reading_0 rfl ?_
  obtain ⟨rb1, rq1, trb1⟩ := hW.ref t_a0 8 rfl rfl rfl
  have erb1 := hW.sk trb1 (by decide) rfl
  subst erb1
  refine c_getr (k := 8) C ck_12 dX11_reading_1 w2_52 (by decide) t_a0 rfl rfl (by decide) rfl rq1 ?_
  refine c_st (st2 := [.ref (sk 17)]) rfl ?_
  refine c_iload_n (j := 1) C dX11_reading_4 rfl ?_
  refine c_iload_n (j := 2) C dX11_reading_5 rfl ?_
  refine d_callV (As := [.int (iI i), .int (iI j)]) (rest := []) C hM (G_byteOf (a0 := (sk 17)) (i := i) (j := j) hW hS tsk17 (by omega) (by omega) ) dX11_reading_6 kV_X11_364 rfl tsk17 rfl rfl (by decide) ck_5 rfl (Nat.le_of_ble_eq_true rfl) ⟨(Nat.le_of_ble_eq_true rfl), (Nat.le_of_ble_eq_true rfl)⟩ hph hph (show 0 + 0 = 0 from rfl) (by decide) (fun rh1 Lh1 clh1 lnh1 ivh1 rvh1 h1 => ?_)
  obtain ⟨f1, rfl, rfl, rfl, rfl, rfl, rfl, rgf1, exf1⟩ := h1
  refine c_st (st2 := [.int (iI f1)]) rfl ?_
  have gf1 : BOX iv rv sk (sk 17) i j f1 := exf1
  refine c_istore_n (lv2 := [(3, .int (iI f1)), (0, .ref a0), (1, .int (iI i)), (2, .int (iI j))]) C dX11_reading_9 (by decide) rfl ?_
  refine c_iload_n (j := 0) C dX11_reading_10 rfl ?_
  refine c_if_ge (tgt := 22) C ⟨by omega, by omega⟩ dX11_reading_11 (by decide) (fun c1 => ?_) (fun c1 => ?_)
  · refine c_aload_n (j := 1) (x := a0) C dX11_reading_22 rfl ?_
    refine c_iload_n (j := 0) C dX11_reading_23 rfl ?_
    refine d_callV (As := [.int (iI f1)]) (rest := []) C hM (C_done (a0 := a0) (x := f1) hW hS t_a0 (by omega) ) dX11_reading_24 kV_X11_109 rfl t_a0 rfl rfl (by decide) ck_12 rfl (Nat.le_of_ble_eq_true rfl) ⟨(Nat.le_of_ble_eq_true rfl), (Nat.le_of_ble_eq_true rfl)⟩ hph hph (show 0 + 0 = 0 from rfl) (by decide) (fun rh2 Lh2 clh2 lnh2 ivh2 rvh2 h2 => ?_)
    obtain ⟨f2, rfl, rfl, rfl, rfl, rfl, fl2, W2, rgf2, exf2, kp11f2, kp12f2, kp13f2, kp14f2, kp15f2, kp16f2⟩ := h2
    refine hv7 (show 1 ≤ iv a0 11 ∧ iv a0 11 ≤ 100 from hW.int t_a0 11) (show 1 ≤ iv a0 12 ∧ iv a0 12 ≤ 50 from hW.int t_a0 12) (show (-2147483648) ≤ iv a0 13 ∧ iv a0 13 ≤ 2147483647 from hW.int t_a0 13) (show (-2147483648) ≤ iv a0 14 ∧ iv a0 14 ≤ 2147483647 from hW.int t_a0 14) (show (-2147483648) ≤ iv a0 15 ∧ iv a0 15 ≤ 2147483647 from hW.int t_a0 15) (show (-2147483648) ≤ iv a0 16 ∧ iv a0 16 ≤ 2147483647 from hW.int t_a0 16) (hF0.call hX0 fl2 rfl) (fun ri1 ri2 ri3 ri4 ri5 ri6 F1 => ?_)
    refine c_st (st2 := [.int (iI f2)]) rfl ?_
    refine hv13 (show ivh2 a0 11 = iv a0 11 from kp11f2) (show ivh2 a0 12 = iv a0 12 from kp12f2) (show ivh2 a0 13 = iv a0 13 from kp13f2) (show ivh2 a0 14 = iv a0 14 from kp14f2) (show ivh2 a0 15 = iv a0 15 from kp15f2) (show ivh2 a0 16 = iv a0 16 from kp16f2) (show f2 = f1 from exf2) (show 1 ≤ ivh2 a0 11 ∧ ivh2 a0 11 ≤ 100 from W2.int t_a0 11) (show 1 ≤ ivh2 a0 12 ∧ ivh2 a0 12 ≤ 50 from W2.int t_a0 12) (show (-2147483648) ≤ ivh2 a0 13 ∧ ivh2 a0 13 ≤ 2147483647 from W2.int t_a0 13) (show (-2147483648) ≤ ivh2 a0 14 ∧ ivh2 a0 14 ≤ 2147483647 from W2.int t_a0 14) (show (-2147483648) ≤ ivh2 a0 15 ∧ ivh2 a0 15 ≤ 2147483647 from W2.int t_a0 15) (show (-2147483648) ≤ ivh2 a0 16 ∧ ivh2 a0 16 ≤ 2147483647 from W2.int t_a0 16) (fun gk11f2 gk12f2 gk13f2 gk14f2 gk15f2 gk16f2 gf2 ri7 ri8 ri9 ri10 ri11 ri12 => ?_)
    exact c_iret C dX11_reading_27 rfl (by decide) (rom0 hph hph (by decide)) ⟨f2, rfl, rfl, rfl, rfl, rfl, F1, W2, ⟨by omega, by omega⟩, trivial, gk11f2, gk12f2, gk13f2, gk14f2, gk15f2, gk16f2, (BOX.rgp gf1 (by omega))⟩
  · refine c_aload_n (j := 1) (x := a0) C dX11_reading_14 rfl ?_
    refine c_iconst C dX11_reading_15 ?_
    refine d_callV (As := [.int (iI 2)]) (rest := []) C hM (C_refuse (a0 := a0) (x := 2) hW hS t_a0 ⟨by decide, by decide⟩ ) dX11_reading_16 kV_X11_102 rfl t_a0 rfl rfl (by decide) ck_12 rfl (Nat.le_of_ble_eq_true rfl) ⟨(Nat.le_of_ble_eq_true rfl), (Nat.le_of_ble_eq_true rfl)⟩ hph hph (show 0 + 0 = 0 from rfl) (by decide) (fun rh3 Lh3 clh3 lnh3 ivh3 rvh3 h3 => ?_)
    obtain ⟨f3, rfl, rfl, rfl, rfl, rfl, fl3, W3, rgf3, exf3, kp11f3, kp12f3, kp13f3, kp14f3, kp15f3, kp16f3⟩ := h3
    refine hv7 (show 1 ≤ iv a0 11 ∧ iv a0 11 ≤ 100 from hW.int t_a0 11) (show 1 ≤ iv a0 12 ∧ iv a0 12 ≤ 50 from hW.int t_a0 12) (show (-2147483648) ≤ iv a0 13 ∧ iv a0 13 ≤ 2147483647 from hW.int t_a0 13) (show (-2147483648) ≤ iv a0 14 ∧ iv a0 14 ≤ 2147483647 from hW.int t_a0 14) (show (-2147483648) ≤ iv a0 15 ∧ iv a0 15 ≤ 2147483647 from hW.int t_a0 15) (show (-2147483648) ≤ iv a0 16 ∧ iv a0 16 ≤ 2147483647 from hW.int t_a0 16) (hF0.call hX0 fl3 rfl) (fun ri13 ri14 ri15 ri16 ri17 ri18 F2 => ?_)
    refine c_st (st2 := [.int (iI f3)]) rfl ?_
    refine hv7 (show ivh3 a0 11 = iv a0 11 from kp11f3) (show ivh3 a0 12 = iv a0 12 from kp12f3) (show ivh3 a0 13 = iv a0 13 from kp13f3) (show ivh3 a0 14 = iv a0 14 from kp14f3) (show ivh3 a0 15 = iv a0 15 from kp15f3) (show ivh3 a0 16 = iv a0 16 from kp16f3) (show f3 = -1 from exf3) (fun gk11f3 gk12f3 gk13f3 gk14f3 gk15f3 gk16f3 gf3 => ?_)
    refine c_goto (tgt := 27) C dX11_reading_19 (by decide) ?_
    refine hv6 (show 1 ≤ ivh3 a0 11 ∧ ivh3 a0 11 ≤ 100 from W3.int t_a0 11) (show 1 ≤ ivh3 a0 12 ∧ ivh3 a0 12 ≤ 50 from W3.int t_a0 12) (show (-2147483648) ≤ ivh3 a0 13 ∧ ivh3 a0 13 ≤ 2147483647 from W3.int t_a0 13) (show (-2147483648) ≤ ivh3 a0 14 ∧ ivh3 a0 14 ≤ 2147483647 from W3.int t_a0 14) (show (-2147483648) ≤ ivh3 a0 15 ∧ ivh3 a0 15 ≤ 2147483647 from W3.int t_a0 15) (show (-2147483648) ≤ ivh3 a0 16 ∧ ivh3 a0 16 ≤ 2147483647 from W3.int t_a0 16) (fun ri19 ri20 ri21 ri22 ri23 ri24 => ?_)
    exact c_iret C dX11_reading_27 rfl (by decide) (rom0 hph hph (by decide)) ⟨f3, rfl, rfl, rfl, rfl, rfl, F2, W3, ⟨by omega, by omega⟩, trivial, gk11f3, gk12f3, gk13f3, gk14f3, gk15f3, gk16f3, (BOX.rgp gf1 (by omega))⟩
end
section
theorem PO2_readings {l : Launch} {G : GT} {mi h0 : Nat} {i : Int} {j : Int} {n : Int} (h_i : -2147483648 ≤ i ∧ i ≤ 2147483647) (h_j : -2147483648 ≤ j ∧ j ≤ 2147483647) (h_n : -2147483648 ≤ n ∧ n ≤ 2147483647) : PressOp l G mi yX11_readings cX11_readings 6 (some .int) 10 [.int (iI i), .int (iI j), .int (iI n)] h0 (fun sk L cl ln iv rv L2 cl2 ln2 iv2 rv2 f => ((PRG sk ln iv rv iv2 rv2 h0 i j n f) ∧ (KSQ h0 iv rv iv2 rv2 ∧ KSC h0 iv rv iv2 rv2 ∧ iv2 h0 15 = iv h0 15 ∧ iv2 h0 16 = iv h0 16 ∧ (iv2 (sk 5) 2 = iv (sk 5) 2 ∧ ∀ ss, CT iv rv (sk 5) ss → CT iv2 rv2 (sk 5) ss) ∧ (iv2 (sk 4) 2 = iv (sk 4) 2 ∧ ∀ ss, CT iv rv (sk 4) ss → CT iv2 rv2 (sk 4) ss) ∧ True)) ∧ (iv2 h0 14 = iv h0 14 ∧ iv2 h0 11 = iv h0 11 ∧ iv2 h0 12 = iv h0 12 ∧ iv2 h0 13 = iv h0 13) ∧ (iv2 (sk 2) 2 = iv (sk 2) 2 ∧ (∀ ss, CT iv rv (sk 2) ss → CT iv2 rv2 (sk 2) ss)) ∧ (iv2 (sk 3) 2 = iv (sk 3) 2 ∧ (∀ tt, CT iv rv (sk 3) tt → CT iv2 rv2 (sk 3) tt)) ∧ PSAME sk iv rv iv2 rv2 ∧ (∃ g, WT g sk L cl ln iv rv ∧ WT g sk L2 cl2 ln2 iv2 rv2) ∧ SKL sk L cl ∧ XT L cl ln L2 cl2 ln2 ∧ (KP L cl (fun _ => False) (fun _ => False) (fun _ => False) (fun _ => False) (fun _ _ => False) iv rv iv2 rv2)) := by
  intro n L cl ln iv rv sk hn hp
  obtain ⟨hW, hS, hm, h23, ht⟩ := hp
  refine hv3 (show ty L cl (sk 23) 23 from ⟨(hS 23 rfl).1, by rw [(hS 23 rfl).2]; rfl⟩) (show ty L cl (sk 2) 2 from ⟨(hS 2 rfl).1, by rw [(hS 2 rfl).2]; rfl⟩) (show ty L cl (sk 3) 3 from ⟨(hS 3 rfl).1, by rw [(hS 3 rfl).2]; rfl⟩) (fun t23 t2 t3 => ?_)
  refine ⟨0, _, by decide, G_readings hW hS ht h_i h_j h_n hm, fun v L2 cl2 ln2 iv2 rv2 h => ?_⟩
  obtain ⟨f, rfl, hX, hF, hW2, rg, ex, kp11, kp12, kp13, kp14, kp15, kp16, prg, kr9, kr10⟩ := h
  exact ⟨f, rfl, by omega, hX, hW2, (MRK.call hm hW hS hX hF rfl rfl), (by have q := hF.i t23 rfl 2; omega), ⟨⟨prg, ⟨(KSQ.fr hW ht hF kr9 kr10 rfl rfl rfl), (KSC.fr hW ht hF kr9 kr10 rfl rfl rfl rfl), kp15, kp16, ⟨hF.i (tysq (t := 5) hS rfl rfl) rfl 2, fun ss hs => CT.fr hs hW (tysq (t := 5) hS rfl rfl) hF rfl rfl rfl rfl rfl⟩, ⟨hF.i (tysq (t := 4) hS rfl rfl) rfl 2, fun ss hs => CT.fr hs hW (tysq (t := 4) hS rfl rfl) hF rfl rfl rfl rfl rfl⟩, trivial⟩⟩, ⟨kp14, kp11, kp12, kp13⟩, ⟨hF.i t2 rfl 2, fun ss hs => CT.fr hs hW t2 hF rfl rfl rfl rfl rfl⟩, ⟨hF.i t3 rfl 2, fun tt ht => CT.fr ht hW t3 hF rfl rfl rfl rfl rfl⟩, (PSAME.fr hW hS hF rfl rfl rfl rfl rfl rfl rfl), ⟨⟨_, hW, hW2⟩, hS, hX, (KP.fr hW hF rfl)⟩⟩⟩
theorem PO2_reading {l : Launch} {G : GT} {mi h0 : Nat} {i : Int} {j : Int} (h_i : -2147483648 ≤ i ∧ i ≤ 2147483647) (h_j : -2147483648 ≤ j ∧ j ≤ 2147483647) : PressOp l G mi yX11_reading cX11_reading 4 (some .int) 2 [.int (iI i), .int (iI j)] h0 (fun sk L cl ln iv rv L2 cl2 ln2 iv2 rv2 f => ((RGP iv rv sk i j f) ∧ (KSQ h0 iv rv iv2 rv2 ∧ KSC h0 iv rv iv2 rv2 ∧ iv2 h0 15 = iv h0 15 ∧ iv2 h0 16 = iv h0 16 ∧ (iv2 (sk 5) 2 = iv (sk 5) 2 ∧ ∀ ss, CT iv rv (sk 5) ss → CT iv2 rv2 (sk 5) ss) ∧ (iv2 (sk 4) 2 = iv (sk 4) 2 ∧ ∀ ss, CT iv rv (sk 4) ss → CT iv2 rv2 (sk 4) ss) ∧ FKP sk iv rv iv2 rv2)) ∧ (iv2 h0 14 = iv h0 14 ∧ iv2 h0 11 = iv h0 11 ∧ iv2 h0 12 = iv h0 12 ∧ iv2 h0 13 = iv h0 13) ∧ (iv2 (sk 2) 2 = iv (sk 2) 2 ∧ (∀ ss, CT iv rv (sk 2) ss → CT iv2 rv2 (sk 2) ss)) ∧ (iv2 (sk 3) 2 = iv (sk 3) 2 ∧ (∀ tt, CT iv rv (sk 3) tt → CT iv2 rv2 (sk 3) tt)) ∧ PSAME sk iv rv iv2 rv2 ∧ (∃ g, WT g sk L cl ln iv rv ∧ WT g sk L2 cl2 ln2 iv2 rv2) ∧ SKL sk L cl ∧ XT L cl ln L2 cl2 ln2 ∧ (KP L cl (fun _ => False) (fun _ => False) (fun _ => False) (fun _ => False) (fun _ _ => False) iv rv iv2 rv2)) := by
  intro n L cl ln iv rv sk hn hp
  obtain ⟨hW, hS, hm, h23, ht⟩ := hp
  refine hv3 (show ty L cl (sk 23) 23 from ⟨(hS 23 rfl).1, by rw [(hS 23 rfl).2]; rfl⟩) (show ty L cl (sk 2) 2 from ⟨(hS 2 rfl).1, by rw [(hS 2 rfl).2]; rfl⟩) (show ty L cl (sk 3) 3 from ⟨(hS 3 rfl).1, by rw [(hS 3 rfl).2]; rfl⟩) (fun t23 t2 t3 => ?_)
  refine ⟨0, _, by decide, G_reading hW hS ht h_i h_j , fun v L2 cl2 ln2 iv2 rv2 h => ?_⟩
  obtain ⟨f, rfl, rfl, rfl, rfl, rfl, hF, hW2, rg, ex, kp11, kp12, kp13, kp14, kp15, kp16, rgp⟩ := h
  exact ⟨f, rfl, by omega, XT.refl, hW2, (MRK.call hm hW hS XT.refl hF rfl rfl), (by have q := hF.i t23 rfl 2; omega), ⟨⟨rgp, ⟨(KSQ.ni hW ht hF rfl), (KSC.fr hW ht hF rfl rfl rfl rfl rfl rfl), kp15, kp16, ⟨hF.i (tysq (t := 5) hS rfl rfl) rfl 2, fun ss hs => CT.fr hs hW (tysq (t := 5) hS rfl rfl) hF rfl rfl rfl rfl rfl⟩, ⟨hF.i (tysq (t := 4) hS rfl rfl) rfl 2, fun ss hs => CT.fr hs hW (tysq (t := 4) hS rfl rfl) hF rfl rfl rfl rfl rfl⟩, (FKP.fr hW hS hF rfl rfl rfl rfl)⟩⟩, ⟨kp14, kp11, kp12, kp13⟩, ⟨hF.i t2 rfl 2, fun ss hs => CT.fr hs hW t2 hF rfl rfl rfl rfl rfl⟩, ⟨hF.i t3 rfl 2, fun tt ht => CT.fr ht hW t3 hF rfl rfl rfl rfl rfl⟩, (PSAME.fr hW hS hF rfl rfl rfl rfl rfl rfl rfl), ⟨⟨_, hW, hW2⟩, hS, XT.refl, (KP.fr hW hF rfl)⟩⟩⟩
theorem MO2_readings {l : Launch} {G : GT} {mm : Nat} {x1 : Int} {x2 : Int} {x3 : Int} (h_x1 : -2147483648 ≤ x1 ∧ x1 ≤ 2147483647) (h_x2 : -2147483648 ≤ x2 ∧ x2 ≤ 2147483647) (h_x3 : -2147483648 ≤ x3 ∧ x3 ≤ 2147483647) : ModelOp l G yX12_readings cX12_readings 5 (some .int) 105 [.int (iI x1), .int (iI x2), .int (iI x3)] mm 0 0 (fun v a v2 a2 f => (((RGX v a v2 a2 x1 x2 x3 f ∧ TBL v a ∧ (∀ j, a 16 j ≤ 4) ∧ (∀ j, a 12 j ≤ 8))) ∧ (v2 36 = v 36 ∧ KSA v a v2 a2 ∧ v2 42 = v 42 ∧ v2 43 = v 43 ∧ (v2 41 = v 41 ∧ a2 40 = a 40) ∧ (v2 52 = v 52 ∧ a2 51 = a 51) ∧ True)) ∧ (v2 56 = v 56 ∧ v2 31 = v 31 ∧ v2 32 = v 32 ∧ v2 33 = v 33) ∧ (v2 3 = v 3 ∧ a2 2 = a 2) ∧ (v2 30 = v 30 ∧ a2 29 = a 29) ∧ TSAME v a v2 a2) := by
  intro n ad ln v a L E hn hV hI
  obtain ⟨hB, hT, hS, hR, h19⟩ := hV
  refine ⟨_, N2_readings (t := x1) (l0 := x2) (n1 := x3) hB hT hR h_x1 h_x2 h_x3 L E hI, fun r L2 E2 h => ?_⟩
  obtain ⟨v2, a2, hI2, f, rfl, hf, hB2, hx⟩ := h
  exact ⟨f, ad, ln, v2, a2, rfl, hI2, ⟨hB2, (hT.fr hf rfl rfl), (hS.fr hf rfl rfl), hx.1, (by have q := hf.1 19 rfl; push_cast; omega)⟩, ⟨⟨⟨hx.2, hT, fun j => (hB.2 16 j).2, fun j => (hB.2 12 j).2⟩, ⟨hf.1 36 rfl, ⟨hf.1 36 rfl, hf.2 34 rfl, hf.2 35 rfl⟩, hf.1 42 rfl, hf.1 43 rfl, ⟨hf.1 41 rfl, hf.2 40 rfl⟩, ⟨hf.1 52 rfl, hf.2 51 rfl⟩, trivial⟩⟩, ⟨hf.1 56 rfl, hf.1 31 rfl, hf.1 32 rfl, hf.1 33 rfl⟩, ⟨hf.1 3 rfl, hf.2 2 rfl⟩, ⟨hf.1 30 rfl, hf.2 29 rfl⟩, ⟨hf.1 4 rfl, hf.2 5 rfl, hf.2 6 rfl, hf.2 7 rfl, hf.2 10 rfl, hf.1 19 rfl, hf.2 18 rfl, hf.2 11 rfl, hf.2 8 rfl, hf.2 9 rfl, hf.2 12 rfl, hf.2 13 rfl, hf.2 14 rfl, hf.2 15 rfl, hf.2 16 rfl, hf.2 17 rfl⟩⟩⟩
theorem MO2_reading {l : Launch} {G : GT} {mm : Nat} {x1 x2 : Int} (h_x1 : -2147483648 ≤ x1 ∧ x1 ≤ 2147483647) (h_x2 : -2147483648 ≤ x2 ∧ x2 ≤ 2147483647) : ModelOp l G yX12_reading cX12_reading 3 (some .int) 2 [.int (iI x1), .int (iI x2)] mm 0 0 (fun v a v2 a2 f => ((RGA v a x1 x2 f) ∧ (v2 36 = v 36 ∧ KSA v a v2 a2 ∧ v2 42 = v 42 ∧ v2 43 = v 43 ∧ (v2 41 = v 41 ∧ a2 40 = a 40) ∧ (v2 52 = v 52 ∧ a2 51 = a 51) ∧ (v2 60 = v 60 ∧ v2 61 = v 61 ∧ a2 58 = a 58 ∧ a2 59 = a 59))) ∧ (v2 56 = v 56 ∧ v2 31 = v 31 ∧ v2 32 = v 32 ∧ v2 33 = v 33) ∧ (v2 3 = v 3 ∧ a2 2 = a 2) ∧ (v2 30 = v 30 ∧ a2 29 = a 29) ∧ TSAME v a v2 a2) := by
  intro n ad ln v a L E hn hV hI
  obtain ⟨hB, hT, hS, hR, h19⟩ := hV
  refine ⟨_, N2_reading (k := x1) (i := x2) hB h_x1 h_x2 L E hI, fun r L2 E2 h => ?_⟩
  obtain ⟨v2, a2, hI2, f, rfl, hf, hB2, hx⟩ := h
  exact ⟨f, ad, ln, v2, a2, rfl, hI2, ⟨hB2, (hT.fr hf rfl rfl), (hS.fr hf rfl rfl), (hR.fr hf rfl), (by have q := hf.1 19 rfl; push_cast; omega)⟩, ⟨⟨hx, ⟨hf.1 36 rfl, ⟨hf.1 36 rfl, hf.2 34 rfl, hf.2 35 rfl⟩, hf.1 42 rfl, hf.1 43 rfl, ⟨hf.1 41 rfl, hf.2 40 rfl⟩, ⟨hf.1 52 rfl, hf.2 51 rfl⟩, ⟨hf.1 60 rfl, hf.1 61 rfl, hf.2 58 rfl, hf.2 59 rfl⟩⟩⟩, ⟨hf.1 56 rfl, hf.1 31 rfl, hf.1 32 rfl, hf.1 33 rfl⟩, ⟨hf.1 3 rfl, hf.2 2 rfl⟩, ⟨hf.1 30 rfl, hf.2 29 rfl⟩, ⟨hf.1 4 rfl, hf.2 5 rfl, hf.2 6 rfl, hf.2 7 rfl, hf.2 10 rfl, hf.1 19 rfl, hf.2 18 rfl, hf.2 11 rfl, hf.2 8 rfl, hf.2 9 rfl, hf.2 12 rfl, hf.2 13 rfl, hf.2 14 rfl, hf.2 15 rfl, hf.2 16 rfl, hf.2 17 rfl⟩⟩⟩
end
section
theorem bit8 {i : Nat} (h : ¬ i < 8) : (255#32 : BitVec 32).getLsbD i = false := by
  rw [show (255#32 : BitVec 32) = BitVec.setWidth 32 (255#8) from by decide, BitVec.getLsbD_setWidth, BitVec.getLsbD_of_ge (255#8) i (by omega), Bool.and_false]
theorem shr8 (x : BitVec 32) (n : Nat) (h : n ≤ 24) : (x >>> n) &&& 255#32 = (x.sshiftRight n) &&& 255#32 := by
  apply BitVec.eq_of_getLsbD_eq
  intro i hi
  rw [BitVec.getLsbD_and, BitVec.getLsbD_and]
  by_cases h8 : i < 8
  · rw [BitVec.getLsbD_ushiftRight, BitVec.getLsbD_sshiftRight]
    have h1 : ¬ (32 ≤ i) := by omega
    have h2 : n + i < 32 := by omega
    simp [h1, h2]
  · rw [bit8 h8, Bool.and_false, Bool.and_false]
theorem byx_k (x : Int) (n : Nat) (hn : n ≤ 24) (s1 : UInt32) (e1 : s1.toBitVec = BitVec.ofNat 32 n) (s2 : Int32) (e2 : s2.toBitVec = BitVec.ofNat 32 n) : ((iI x).toUInt32 >>> s1).toInt32 &&& iI 255 = (iI x >>> s2) &&& iI 255 := by
  refine hv2 (show ∀ m : Nat, m ≤ 24 → (BitVec.ofNat 32 m % 32#32).toNat = m from by decide +kernel) (show ∀ m : Nat, m ≤ 24 → ((BitVec.ofNat 32 m).smod 32#32).toNat = m from by decide +kernel) (fun h1 h2 => ?_)
  have b1 : ((iI x).toUInt32 >>> s1).toInt32.toBitVec = (iI x).toBitVec >>> n := by
    show (iI x).toBitVec >>> (s1.toBitVec % 32#32).toNat = _
    rw [e1, h1 n hn]
  have b2 : (iI x >>> s2).toBitVec = (iI x).toBitVec.sshiftRight n := by
    show (iI x).toBitVec.sshiftRight (s2.toBitVec.smod 32#32).toNat = _
    rw [e2, h2 n hn]
  apply Int32.toBitVec_inj.mp
  rw [Int32.toBitVec_and, Int32.toBitVec_and, b1, b2]
  exact shr8 _ n hn
theorem byx_r (x : Int) : byx x 0 = rby x 0 ∧ byx x 1 = rby x 1 ∧ byx x 2 = rby x 2 ∧ byx x 3 = rby x 3 := by
  refine ⟨?_, ?_, ?_, ?_⟩
  · unfold byx rby; exact congrArg Int32.toInt (byx_k x 24 (by decide) _ (by decide +kernel) _ (by decide +kernel))
  · unfold byx rby; exact congrArg Int32.toInt (byx_k x 16 (by decide) _ (by decide +kernel) _ (by decide +kernel))
  · unfold byx rby; exact congrArg Int32.toInt (byx_k x 8 (by decide) _ (by decide +kernel) _ (by decide +kernel))
  · unfold byx rby; exact congrArg Int32.toInt (byx_k x 0 (by decide) _ (by decide +kernel) _ (by decide +kernel))
theorem rby_4 (x : Int) : (rby x 4 = rby x 0 ∧ rby x 8 = rby x 0 ∧ rby x 12 = rby x 0 ∧ rby x 16 = rby x 0) ∧ (rby x 5 = rby x 1 ∧ rby x 9 = rby x 1 ∧ rby x 13 = rby x 1 ∧ rby x 17 = rby x 1) ∧ (rby x 6 = rby x 2 ∧ rby x 10 = rby x 2 ∧ rby x 14 = rby x 2 ∧ rby x 18 = rby x 2) ∧ (rby x 7 = rby x 3 ∧ rby x 11 = rby x 3 ∧ rby x 15 = rby x 3 ∧ rby x 19 = rby x 3) := by
  have k : ∀ i j : Int, (iI i &&& iI 3) = (iI j &&& iI 3) → rby x i = rby x j := fun i j h => by unfold rby; rw [h]
  exact ⟨⟨k _ _ (by decide), k _ _ (by decide), k _ _ (by decide), k _ _ (by decide)⟩, ⟨k _ _ (by decide), k _ _ (by decide), k _ _ (by decide), k _ _ (by decide)⟩, ⟨k _ _ (by decide), k _ _ (by decide), k _ _ (by decide), k _ _ (by decide)⟩, ⟨k _ _ (by decide), k _ _ (by decide), k _ _ (by decide), k _ _ (by decide)⟩⟩
theorem fd_rfd (ss : Nat → Int) (n : Nat) (x1 x2 x3 x4 x5 : Int) : fd5 ss n x1 x2 x3 x4 x5 = rfd ss n x1 x2 x3 x4 x5 20 := by
  have s0 : bsel ((0 : Nat) : Int) x1 x2 x3 x4 x5 = x1 := by unfold bsel; rw [if_pos (by decide)]
  have r1 : rfd ss n x1 x2 x3 x4 x5 1 = (va_up ss (n + 0) (rby x1 0)) := by
    show va_up (rfd ss n x1 x2 x3 x4 x5 0) (n + 0) (rby (bsel ((0 : Nat) : Int) x1 x2 x3 x4 x5) ((0 : Nat) : Int)) = _
    (rw [s0]) <;> rfl
  have s1 : bsel ((1 : Nat) : Int) x1 x2 x3 x4 x5 = x1 := by unfold bsel; rw [if_pos (by decide)]
  have r2 : rfd ss n x1 x2 x3 x4 x5 2 = (va_up (va_up ss (n + 0) (rby x1 0)) (n + 1) (rby x1 1)) := by
    show va_up (rfd ss n x1 x2 x3 x4 x5 1) (n + 1) (rby (bsel ((1 : Nat) : Int) x1 x2 x3 x4 x5) ((1 : Nat) : Int)) = _
    (rw [s1, r1]) <;> rfl
  have s2 : bsel ((2 : Nat) : Int) x1 x2 x3 x4 x5 = x1 := by unfold bsel; rw [if_pos (by decide)]
  have r3 : rfd ss n x1 x2 x3 x4 x5 3 = (va_up (va_up (va_up ss (n + 0) (rby x1 0)) (n + 1) (rby x1 1)) (n + 2) (rby x1 2)) := by
    show va_up (rfd ss n x1 x2 x3 x4 x5 2) (n + 2) (rby (bsel ((2 : Nat) : Int) x1 x2 x3 x4 x5) ((2 : Nat) : Int)) = _
    (rw [s2, r2]) <;> rfl
  have s3 : bsel ((3 : Nat) : Int) x1 x2 x3 x4 x5 = x1 := by unfold bsel; rw [if_pos (by decide)]
  have r4 : rfd ss n x1 x2 x3 x4 x5 4 = (va_up (va_up (va_up (va_up ss (n + 0) (rby x1 0)) (n + 1) (rby x1 1)) (n + 2) (rby x1 2)) (n + 3) (rby x1 3)) := by
    show va_up (rfd ss n x1 x2 x3 x4 x5 3) (n + 3) (rby (bsel ((3 : Nat) : Int) x1 x2 x3 x4 x5) ((3 : Nat) : Int)) = _
    (rw [s3, r3]) <;> rfl
  have s4 : bsel ((4 : Nat) : Int) x1 x2 x3 x4 x5 = x2 := by unfold bsel; rw [if_neg (by decide), if_pos (by decide)]
  have r5 : rfd ss n x1 x2 x3 x4 x5 5 = (va_up (va_up (va_up (va_up (va_up ss (n + 0) (rby x1 0)) (n + 1) (rby x1 1)) (n + 2) (rby x1 2)) (n + 3) (rby x1 3)) (n + 4) (rby x2 4)) := by
    show va_up (rfd ss n x1 x2 x3 x4 x5 4) (n + 4) (rby (bsel ((4 : Nat) : Int) x1 x2 x3 x4 x5) ((4 : Nat) : Int)) = _
    (rw [s4, r4]) <;> rfl
  have s5 : bsel ((5 : Nat) : Int) x1 x2 x3 x4 x5 = x2 := by unfold bsel; rw [if_neg (by decide), if_pos (by decide)]
  have r6 : rfd ss n x1 x2 x3 x4 x5 6 = (va_up (va_up (va_up (va_up (va_up (va_up ss (n + 0) (rby x1 0)) (n + 1) (rby x1 1)) (n + 2) (rby x1 2)) (n + 3) (rby x1 3)) (n + 4) (rby x2 4)) (n + 5) (rby x2 5)) := by
    show va_up (rfd ss n x1 x2 x3 x4 x5 5) (n + 5) (rby (bsel ((5 : Nat) : Int) x1 x2 x3 x4 x5) ((5 : Nat) : Int)) = _
    (rw [s5, r5]) <;> rfl
  have s6 : bsel ((6 : Nat) : Int) x1 x2 x3 x4 x5 = x2 := by unfold bsel; rw [if_neg (by decide), if_pos (by decide)]
  have r7 : rfd ss n x1 x2 x3 x4 x5 7 = (va_up (va_up (va_up (va_up (va_up (va_up (va_up ss (n + 0) (rby x1 0)) (n + 1) (rby x1 1)) (n + 2) (rby x1 2)) (n + 3) (rby x1 3)) (n + 4) (rby x2 4)) (n + 5) (rby x2 5)) (n + 6) (rby x2 6)) := by
    show va_up (rfd ss n x1 x2 x3 x4 x5 6) (n + 6) (rby (bsel ((6 : Nat) : Int) x1 x2 x3 x4 x5) ((6 : Nat) : Int)) = _
    (rw [s6, r6]) <;> rfl
  have s7 : bsel ((7 : Nat) : Int) x1 x2 x3 x4 x5 = x2 := by unfold bsel; rw [if_neg (by decide), if_pos (by decide)]
  have r8 : rfd ss n x1 x2 x3 x4 x5 8 = (va_up (va_up (va_up (va_up (va_up (va_up (va_up (va_up ss (n + 0) (rby x1 0)) (n + 1) (rby x1 1)) (n + 2) (rby x1 2)) (n + 3) (rby x1 3)) (n + 4) (rby x2 4)) (n + 5) (rby x2 5)) (n + 6) (rby x2 6)) (n + 7) (rby x2 7)) := by
    show va_up (rfd ss n x1 x2 x3 x4 x5 7) (n + 7) (rby (bsel ((7 : Nat) : Int) x1 x2 x3 x4 x5) ((7 : Nat) : Int)) = _
    (rw [s7, r7]) <;> rfl
  have s8 : bsel ((8 : Nat) : Int) x1 x2 x3 x4 x5 = x3 := by unfold bsel; rw [if_neg (by decide), if_neg (by decide), if_pos (by decide)]
  have r9 : rfd ss n x1 x2 x3 x4 x5 9 = (va_up (va_up (va_up (va_up (va_up (va_up (va_up (va_up (va_up ss (n + 0) (rby x1 0)) (n + 1) (rby x1 1)) (n + 2) (rby x1 2)) (n + 3) (rby x1 3)) (n + 4) (rby x2 4)) (n + 5) (rby x2 5)) (n + 6) (rby x2 6)) (n + 7) (rby x2 7)) (n + 8) (rby x3 8)) := by
    show va_up (rfd ss n x1 x2 x3 x4 x5 8) (n + 8) (rby (bsel ((8 : Nat) : Int) x1 x2 x3 x4 x5) ((8 : Nat) : Int)) = _
    (rw [s8, r8]) <;> rfl
  have s9 : bsel ((9 : Nat) : Int) x1 x2 x3 x4 x5 = x3 := by unfold bsel; rw [if_neg (by decide), if_neg (by decide), if_pos (by decide)]
  have r10 : rfd ss n x1 x2 x3 x4 x5 10 = (va_up (va_up (va_up (va_up (va_up (va_up (va_up (va_up (va_up (va_up ss (n + 0) (rby x1 0)) (n + 1) (rby x1 1)) (n + 2) (rby x1 2)) (n + 3) (rby x1 3)) (n + 4) (rby x2 4)) (n + 5) (rby x2 5)) (n + 6) (rby x2 6)) (n + 7) (rby x2 7)) (n + 8) (rby x3 8)) (n + 9) (rby x3 9)) := by
    show va_up (rfd ss n x1 x2 x3 x4 x5 9) (n + 9) (rby (bsel ((9 : Nat) : Int) x1 x2 x3 x4 x5) ((9 : Nat) : Int)) = _
    (rw [s9, r9]) <;> rfl
  have s10 : bsel ((10 : Nat) : Int) x1 x2 x3 x4 x5 = x3 := by unfold bsel; rw [if_neg (by decide), if_neg (by decide), if_pos (by decide)]
  have r11 : rfd ss n x1 x2 x3 x4 x5 11 = (va_up (va_up (va_up (va_up (va_up (va_up (va_up (va_up (va_up (va_up (va_up ss (n + 0) (rby x1 0)) (n + 1) (rby x1 1)) (n + 2) (rby x1 2)) (n + 3) (rby x1 3)) (n + 4) (rby x2 4)) (n + 5) (rby x2 5)) (n + 6) (rby x2 6)) (n + 7) (rby x2 7)) (n + 8) (rby x3 8)) (n + 9) (rby x3 9)) (n + 10) (rby x3 10)) := by
    show va_up (rfd ss n x1 x2 x3 x4 x5 10) (n + 10) (rby (bsel ((10 : Nat) : Int) x1 x2 x3 x4 x5) ((10 : Nat) : Int)) = _
    (rw [s10, r10]) <;> rfl
  have s11 : bsel ((11 : Nat) : Int) x1 x2 x3 x4 x5 = x3 := by unfold bsel; rw [if_neg (by decide), if_neg (by decide), if_pos (by decide)]
  have r12 : rfd ss n x1 x2 x3 x4 x5 12 = (va_up (va_up (va_up (va_up (va_up (va_up (va_up (va_up (va_up (va_up (va_up (va_up ss (n + 0) (rby x1 0)) (n + 1) (rby x1 1)) (n + 2) (rby x1 2)) (n + 3) (rby x1 3)) (n + 4) (rby x2 4)) (n + 5) (rby x2 5)) (n + 6) (rby x2 6)) (n + 7) (rby x2 7)) (n + 8) (rby x3 8)) (n + 9) (rby x3 9)) (n + 10) (rby x3 10)) (n + 11) (rby x3 11)) := by
    show va_up (rfd ss n x1 x2 x3 x4 x5 11) (n + 11) (rby (bsel ((11 : Nat) : Int) x1 x2 x3 x4 x5) ((11 : Nat) : Int)) = _
    (rw [s11, r11]) <;> rfl
  have s12 : bsel ((12 : Nat) : Int) x1 x2 x3 x4 x5 = x4 := by unfold bsel; rw [if_neg (by decide), if_neg (by decide), if_neg (by decide), if_pos (by decide)]
  have r13 : rfd ss n x1 x2 x3 x4 x5 13 = (va_up (va_up (va_up (va_up (va_up (va_up (va_up (va_up (va_up (va_up (va_up (va_up (va_up ss (n + 0) (rby x1 0)) (n + 1) (rby x1 1)) (n + 2) (rby x1 2)) (n + 3) (rby x1 3)) (n + 4) (rby x2 4)) (n + 5) (rby x2 5)) (n + 6) (rby x2 6)) (n + 7) (rby x2 7)) (n + 8) (rby x3 8)) (n + 9) (rby x3 9)) (n + 10) (rby x3 10)) (n + 11) (rby x3 11)) (n + 12) (rby x4 12)) := by
    show va_up (rfd ss n x1 x2 x3 x4 x5 12) (n + 12) (rby (bsel ((12 : Nat) : Int) x1 x2 x3 x4 x5) ((12 : Nat) : Int)) = _
    (rw [s12, r12]) <;> rfl
  have s13 : bsel ((13 : Nat) : Int) x1 x2 x3 x4 x5 = x4 := by unfold bsel; rw [if_neg (by decide), if_neg (by decide), if_neg (by decide), if_pos (by decide)]
  have r14 : rfd ss n x1 x2 x3 x4 x5 14 = (va_up (va_up (va_up (va_up (va_up (va_up (va_up (va_up (va_up (va_up (va_up (va_up (va_up (va_up ss (n + 0) (rby x1 0)) (n + 1) (rby x1 1)) (n + 2) (rby x1 2)) (n + 3) (rby x1 3)) (n + 4) (rby x2 4)) (n + 5) (rby x2 5)) (n + 6) (rby x2 6)) (n + 7) (rby x2 7)) (n + 8) (rby x3 8)) (n + 9) (rby x3 9)) (n + 10) (rby x3 10)) (n + 11) (rby x3 11)) (n + 12) (rby x4 12)) (n + 13) (rby x4 13)) := by
    show va_up (rfd ss n x1 x2 x3 x4 x5 13) (n + 13) (rby (bsel ((13 : Nat) : Int) x1 x2 x3 x4 x5) ((13 : Nat) : Int)) = _
    (rw [s13, r13]) <;> rfl
  have s14 : bsel ((14 : Nat) : Int) x1 x2 x3 x4 x5 = x4 := by unfold bsel; rw [if_neg (by decide), if_neg (by decide), if_neg (by decide), if_pos (by decide)]
  have r15 : rfd ss n x1 x2 x3 x4 x5 15 = (va_up (va_up (va_up (va_up (va_up (va_up (va_up (va_up (va_up (va_up (va_up (va_up (va_up (va_up (va_up ss (n + 0) (rby x1 0)) (n + 1) (rby x1 1)) (n + 2) (rby x1 2)) (n + 3) (rby x1 3)) (n + 4) (rby x2 4)) (n + 5) (rby x2 5)) (n + 6) (rby x2 6)) (n + 7) (rby x2 7)) (n + 8) (rby x3 8)) (n + 9) (rby x3 9)) (n + 10) (rby x3 10)) (n + 11) (rby x3 11)) (n + 12) (rby x4 12)) (n + 13) (rby x4 13)) (n + 14) (rby x4 14)) := by
    show va_up (rfd ss n x1 x2 x3 x4 x5 14) (n + 14) (rby (bsel ((14 : Nat) : Int) x1 x2 x3 x4 x5) ((14 : Nat) : Int)) = _
    (rw [s14, r14]) <;> rfl
  have s15 : bsel ((15 : Nat) : Int) x1 x2 x3 x4 x5 = x4 := by unfold bsel; rw [if_neg (by decide), if_neg (by decide), if_neg (by decide), if_pos (by decide)]
  have r16 : rfd ss n x1 x2 x3 x4 x5 16 = (va_up (va_up (va_up (va_up (va_up (va_up (va_up (va_up (va_up (va_up (va_up (va_up (va_up (va_up (va_up (va_up ss (n + 0) (rby x1 0)) (n + 1) (rby x1 1)) (n + 2) (rby x1 2)) (n + 3) (rby x1 3)) (n + 4) (rby x2 4)) (n + 5) (rby x2 5)) (n + 6) (rby x2 6)) (n + 7) (rby x2 7)) (n + 8) (rby x3 8)) (n + 9) (rby x3 9)) (n + 10) (rby x3 10)) (n + 11) (rby x3 11)) (n + 12) (rby x4 12)) (n + 13) (rby x4 13)) (n + 14) (rby x4 14)) (n + 15) (rby x4 15)) := by
    show va_up (rfd ss n x1 x2 x3 x4 x5 15) (n + 15) (rby (bsel ((15 : Nat) : Int) x1 x2 x3 x4 x5) ((15 : Nat) : Int)) = _
    (rw [s15, r15]) <;> rfl
  have s16 : bsel ((16 : Nat) : Int) x1 x2 x3 x4 x5 = x5 := by unfold bsel; rw [if_neg (by decide), if_neg (by decide), if_neg (by decide), if_neg (by decide)]
  have r17 : rfd ss n x1 x2 x3 x4 x5 17 = (va_up (va_up (va_up (va_up (va_up (va_up (va_up (va_up (va_up (va_up (va_up (va_up (va_up (va_up (va_up (va_up (va_up ss (n + 0) (rby x1 0)) (n + 1) (rby x1 1)) (n + 2) (rby x1 2)) (n + 3) (rby x1 3)) (n + 4) (rby x2 4)) (n + 5) (rby x2 5)) (n + 6) (rby x2 6)) (n + 7) (rby x2 7)) (n + 8) (rby x3 8)) (n + 9) (rby x3 9)) (n + 10) (rby x3 10)) (n + 11) (rby x3 11)) (n + 12) (rby x4 12)) (n + 13) (rby x4 13)) (n + 14) (rby x4 14)) (n + 15) (rby x4 15)) (n + 16) (rby x5 16)) := by
    show va_up (rfd ss n x1 x2 x3 x4 x5 16) (n + 16) (rby (bsel ((16 : Nat) : Int) x1 x2 x3 x4 x5) ((16 : Nat) : Int)) = _
    (rw [s16, r16]) <;> rfl
  have s17 : bsel ((17 : Nat) : Int) x1 x2 x3 x4 x5 = x5 := by unfold bsel; rw [if_neg (by decide), if_neg (by decide), if_neg (by decide), if_neg (by decide)]
  have r18 : rfd ss n x1 x2 x3 x4 x5 18 = (va_up (va_up (va_up (va_up (va_up (va_up (va_up (va_up (va_up (va_up (va_up (va_up (va_up (va_up (va_up (va_up (va_up (va_up ss (n + 0) (rby x1 0)) (n + 1) (rby x1 1)) (n + 2) (rby x1 2)) (n + 3) (rby x1 3)) (n + 4) (rby x2 4)) (n + 5) (rby x2 5)) (n + 6) (rby x2 6)) (n + 7) (rby x2 7)) (n + 8) (rby x3 8)) (n + 9) (rby x3 9)) (n + 10) (rby x3 10)) (n + 11) (rby x3 11)) (n + 12) (rby x4 12)) (n + 13) (rby x4 13)) (n + 14) (rby x4 14)) (n + 15) (rby x4 15)) (n + 16) (rby x5 16)) (n + 17) (rby x5 17)) := by
    show va_up (rfd ss n x1 x2 x3 x4 x5 17) (n + 17) (rby (bsel ((17 : Nat) : Int) x1 x2 x3 x4 x5) ((17 : Nat) : Int)) = _
    (rw [s17, r17]) <;> rfl
  have s18 : bsel ((18 : Nat) : Int) x1 x2 x3 x4 x5 = x5 := by unfold bsel; rw [if_neg (by decide), if_neg (by decide), if_neg (by decide), if_neg (by decide)]
  have r19 : rfd ss n x1 x2 x3 x4 x5 19 = (va_up (va_up (va_up (va_up (va_up (va_up (va_up (va_up (va_up (va_up (va_up (va_up (va_up (va_up (va_up (va_up (va_up (va_up (va_up ss (n + 0) (rby x1 0)) (n + 1) (rby x1 1)) (n + 2) (rby x1 2)) (n + 3) (rby x1 3)) (n + 4) (rby x2 4)) (n + 5) (rby x2 5)) (n + 6) (rby x2 6)) (n + 7) (rby x2 7)) (n + 8) (rby x3 8)) (n + 9) (rby x3 9)) (n + 10) (rby x3 10)) (n + 11) (rby x3 11)) (n + 12) (rby x4 12)) (n + 13) (rby x4 13)) (n + 14) (rby x4 14)) (n + 15) (rby x4 15)) (n + 16) (rby x5 16)) (n + 17) (rby x5 17)) (n + 18) (rby x5 18)) := by
    show va_up (rfd ss n x1 x2 x3 x4 x5 18) (n + 18) (rby (bsel ((18 : Nat) : Int) x1 x2 x3 x4 x5) ((18 : Nat) : Int)) = _
    (rw [s18, r18]) <;> rfl
  have s19 : bsel ((19 : Nat) : Int) x1 x2 x3 x4 x5 = x5 := by unfold bsel; rw [if_neg (by decide), if_neg (by decide), if_neg (by decide), if_neg (by decide)]
  have r20 : rfd ss n x1 x2 x3 x4 x5 20 = (va_up (va_up (va_up (va_up (va_up (va_up (va_up (va_up (va_up (va_up (va_up (va_up (va_up (va_up (va_up (va_up (va_up (va_up (va_up (va_up ss (n + 0) (rby x1 0)) (n + 1) (rby x1 1)) (n + 2) (rby x1 2)) (n + 3) (rby x1 3)) (n + 4) (rby x2 4)) (n + 5) (rby x2 5)) (n + 6) (rby x2 6)) (n + 7) (rby x2 7)) (n + 8) (rby x3 8)) (n + 9) (rby x3 9)) (n + 10) (rby x3 10)) (n + 11) (rby x3 11)) (n + 12) (rby x4 12)) (n + 13) (rby x4 13)) (n + 14) (rby x4 14)) (n + 15) (rby x4 15)) (n + 16) (rby x5 16)) (n + 17) (rby x5 17)) (n + 18) (rby x5 18)) (n + 19) (rby x5 19)) := by
    show va_up (rfd ss n x1 x2 x3 x4 x5 19) (n + 19) (rby (bsel ((19 : Nat) : Int) x1 x2 x3 x4 x5) ((19 : Nat) : Int)) = _
    (rw [s19, r19]) <;> rfl
  obtain ⟨y10, y11, y12, y13⟩ := byx_r x1
  obtain ⟨y20, y21, y22, y23⟩ := byx_r x2
  obtain ⟨y30, y31, y32, y33⟩ := byx_r x3
  obtain ⟨y40, y41, y42, y43⟩ := byx_r x4
  obtain ⟨y50, y51, y52, y53⟩ := byx_r x5
  obtain ⟨⟨f4, _, _, _⟩, ⟨f5, _, _, _⟩, ⟨f6, _, _, _⟩, ⟨f7, _, _, _⟩⟩ := rby_4 x2
  obtain ⟨⟨_, f8, _, _⟩, ⟨_, f9, _, _⟩, ⟨_, f10, _, _⟩, ⟨_, f11, _, _⟩⟩ := rby_4 x3
  obtain ⟨⟨_, _, f12, _⟩, ⟨_, _, f13, _⟩, ⟨_, _, f14, _⟩, ⟨_, _, f15, _⟩⟩ := rby_4 x4
  obtain ⟨⟨_, _, _, f16⟩, ⟨_, _, _, f17⟩, ⟨_, _, _, f18⟩, ⟨_, _, _, f19⟩⟩ := rby_4 x5
  have lh : fd5 ss n x1 x2 x3 x4 x5 = (va_up (va_up (va_up (va_up (va_up (va_up (va_up (va_up (va_up (va_up (va_up (va_up (va_up (va_up (va_up (va_up (va_up (va_up (va_up (va_up ss (n + 0) (byx x1 0)) (n + 1) (byx x1 1)) (n + 2) (byx x1 2)) (n + 3) (byx x1 3)) (n + 4) (byx x2 0)) (n + 5) (byx x2 1)) (n + 6) (byx x2 2)) (n + 7) (byx x2 3)) (n + 8) (byx x3 0)) (n + 9) (byx x3 1)) (n + 10) (byx x3 2)) (n + 11) (byx x3 3)) (n + 12) (byx x4 0)) (n + 13) (byx x4 1)) (n + 14) (byx x4 2)) (n + 15) (byx x4 3)) (n + 16) (byx x5 0)) (n + 17) (byx x5 1)) (n + 18) (byx x5 2)) (n + 19) (byx x5 3)) := rfl
  rw [lh, r20, f4, f5, f6, f7, f8, f9, f10, f11, f12, f13, f14, f15, f16, f17, f18, f19, y10, y11, y12, y13, y20, y21, y22, y23, y30, y31, y32, y33, y40, y41, y42, y43, y50, y51, y52, y53]
def REL (h0 : Nat) (sk : Nat → Nat) (_L : List Nat) (_cl ln : Nat → Nat) (iv : Nat → Nat → Int) (rv : Nat → Nat → Option Nat) (v : Nat → Int) (a : Nat → Nat → Int) : Prop := (iI (iv h0 14) = iI (v 56) ∧ iv h0 11 = v 31 ∧ iv h0 12 = v 32 ∧ iv h0 13 = v 33) ∧ (iv (sk 2) 2 = v 3 ∧ CT iv rv (sk 2) (a 2)) ∧ (iv (sk 3) 2 = v 30 ∧ CT iv rv (sk 3) (a 29)) ∧ TABR sk iv rv v a ∧ (∃ o, RP2 o sk ln iv rv v a) ∧ SEC v a
theorem sec_keep {v v2 : Nat → Int} {a a2 : Nat → Nat → Int} (h : SEC v a) (h4 : v2 4 ≤ v 4) (h6 : a2 6 = a 6) (h9 : a2 9 = a 9) : SEC v2 a2 := fun i hi => by rw [h6, h9]; exact h i (by omega)
theorem sec_same {v v2 : Nat → Int} {a a2 : Nat → Nat → Int} (h : SEC v a) (hq : TSAME v a v2 a2) : SEC v2 a2 := by
  obtain ⟨q4, q5, q6, q7, q10, q19, q18, q11, q8, q9, -⟩ := hq
  exact sec_keep h (Int.le_of_eq q4) q6 q9
theorem sec_new {k s : Int} {v v2 : Nat → Int} {a a2 : Nat → Nat → Int} (h : SEC v a) (h0 : 0 ≤ v 4) (q1 : v2 4 = v 4 + 1) (q3 : a2 6 = va_up (a 6) (v 4).toNat k) (q9 : a2 9 = va_up (a 9) (v 4).toNat s) (hs : k ≠ 5 → s = -1) : SEC v2 a2 := by
  intro i hi
  rw [q3, q9]
  by_cases e : i = (v 4).toNat
  · rw [e, va_up_self, va_up_self]; exact hs
  · rw [va_up_ne _ _ e, va_up_ne _ _ e]; exact h i (by omega)
theorem tbl_sec {x y i : Int} {f2 : Int} {v v2 : Nat → Int} {a a2 : Nat → Nat → Int} (h : SEC v a) (h0 : 0 ≤ v 4) (hq : ((f2 = -1 ∧ TSAME v a v2 a2 ∧ ¬ (0 ≤ x ∧ x ≤ 4 ∧ (y = 6 ∨ y = 8) ∧ v 4 ≠ 30 ∧ (x < 1 ∨ 3 < x ∨ (0 ≤ i ∧ i < v 4 ∧ a 5 i.toNat = 1 ∧ a 6 i.toNat ≤ 3)))) ∨ (f2 = v 4 ∧ (0 ≤ x ∧ x ≤ 4 ∧ (y = 6 ∨ y = 8) ∧ v 4 ≠ 30 ∧ (x < 1 ∨ 3 < x ∨ (0 ≤ i ∧ i < v 4 ∧ a 5 i.toNat = 1 ∧ a 6 i.toNat ≤ 3))) ∧ TNEW x y (if x < 1 ∨ 3 < x then -1 else i) (-1) v a v2 a2))) : SEC v2 a2 := by
  rcases hq with ⟨-, q, -⟩ | ⟨-, -, ⟨q1, q2, q3, q4, q5, q6, q7, q8, q9, -⟩⟩
  · exact sec_same h q
  · exact sec_new h h0 q1 q3 q9 (fun _ => rfl)
theorem joi_sec {i j : Int} {f2 : Int} {v v2 : Nat → Int} {a a2 : Nat → Nat → Int} (h : SEC v a) (h0 : 0 ≤ v 4) (hq : ((f2 = -1 ∧ TSAME v a v2 a2 ∧ ¬ (0 ≤ i ∧ i < v 4 ∧ a 5 i.toNat = 1 ∧ a 6 i.toNat ≤ 3 ∧ 0 ≤ j ∧ j < v 4 ∧ a 5 j.toNat = 1 ∧ a 6 j.toNat ≤ 3 ∧ v 4 ≠ 30)) ∨ (f2 = v 4 ∧ (0 ≤ i ∧ i < v 4 ∧ a 5 i.toNat = 1 ∧ a 6 i.toNat ≤ 3 ∧ 0 ≤ j ∧ j < v 4 ∧ a 5 j.toNat = 1 ∧ a 6 j.toNat ≤ 3 ∧ v 4 ≠ 30) ∧ TNEW 5 (max (a 7 i.toNat) (a 7 j.toNat)) i j v a v2 a2))) : SEC v2 a2 := by
  rcases hq with ⟨-, q, -⟩ | ⟨-, -, ⟨q1, q2, q3, q4, q5, q6, q7, q8, q9, -⟩⟩
  · exact sec_same h q
  · exact sec_new h h0 q1 q3 q9 (fun e => absurd rfl e)
theorem drp_sec {i : Int} {f2 : Int} {v v2 : Nat → Int} {a a2 : Nat → Nat → Int} (h : SEC v a) (h0 : 0 ≤ v 4) (hq : ((f2 = -1 ∧ TSAME v a v2 a2 ∧ ¬ (0 ≤ i ∧ i < v 4 ∧ a 5 i.toNat = 1)) ∨ (f2 = 1 ∧ (0 ≤ i ∧ i < v 4 ∧ a 5 i.toNat = 1) ∧ TDRP i v a v2 a2))) : SEC v2 a2 := by
  rcases hq with ⟨-, q, -⟩ | ⟨-, -, ⟨q4, q5, q6, q7, q10, qs, q11, q8, q9, -⟩⟩
  · exact sec_same h q
  · exact sec_keep h (Int.le_of_eq q4) q6 q9
theorem rul_sec {i x n : Int} {f2 : Int} {v v2 : Nat → Int} {a a2 : Nat → Nat → Int} (h : SEC v a) (h0 : 0 ≤ v 4) (hq : ((f2 = -1 ∧ TSAME v a v2 a2 ∧ ¬ ((0 ≤ i ∧ i < v 4 ∧ a 5 i.toNat = 1 ∧ a 6 i.toNat ≠ 5 ∧ 0 ≤ x ∧ x ≤ 5 ∧ 1 ≤ n ∧ n ≤ 8 ∧ 1 ≤ v 3 - n ∧ v 3 - n ≤ 4 ∧ a 10 i.toNat ≠ 200) ∧ ACL (a 2) n (v 3 - n) (DC (a 7 i.toNat)) ∧ LTK (a 2) n)) ∨ (f2 = a 10 i.toNat ∧ ((0 ≤ i ∧ i < v 4 ∧ a 5 i.toNat = 1 ∧ a 6 i.toNat ≠ 5 ∧ 0 ≤ x ∧ x ≤ 5 ∧ 1 ≤ n ∧ n ≤ 8 ∧ 1 ≤ v 3 - n ∧ v 3 - n ≤ 4 ∧ a 10 i.toNat ≠ 200) ∧ ACL (a 2) n (v 3 - n) (DC (a 7 i.toNat)) ∧ LTK (a 2) n) ∧ TRUL i x n v a v2 a2))) : SEC v2 a2 := by
  rcases hq with ⟨-, q, -⟩ | ⟨-, -, ⟨q4, q5, q6, q7, q10, qs, q11, q8, q9, -⟩⟩
  · exact sec_same h q
  · exact sec_keep h (Int.le_of_eq q4) q6 q9
theorem ind_sec {i x : Int} {f2 : Int} {v v2 : Nat → Int} {a a2 : Nat → Nat → Int} (h : SEC v a) (h0 : 0 ≤ v 4) (hq : ((f2 = -1 ∧ TSAME v a v2 a2 ∧ ¬ ((0 ≤ x ∧ x ≤ 3 ∧ 0 ≤ i ∧ i < v 4 ∧ a 5 i.toNat = 1 ∧ ((x = 0 ∧ a 6 i.toNat ≤ 2) ∨ (x = 1 ∧ a 6 i.toNat = 2) ∨ (x ≠ 0 ∧ x ≠ 1 ∧ a 6 i.toNat = 5)) ∧ v 3 ≤ 4) ∧ ACL (a 2) 0 (v 3) (DC (a 7 i.toNat)) ∧ True)) ∨ (f2 = v 3 ∧ ((0 ≤ x ∧ x ≤ 3 ∧ 0 ≤ i ∧ i < v 4 ∧ a 5 i.toNat = 1 ∧ ((x = 0 ∧ a 6 i.toNat ≤ 2) ∨ (x = 1 ∧ a 6 i.toNat = 2) ∨ (x ≠ 0 ∧ x ≠ 1 ∧ a 6 i.toNat = 5)) ∧ v 3 ≤ 4) ∧ ACL (a 2) 0 (v 3) (DC (a 7 i.toNat)) ∧ True) ∧ TIND i x v a v2 a2))) : SEC v2 a2 := by
  rcases hq with ⟨-, q, -⟩ | ⟨-, -, ⟨⟨q4, q5, q6, -⟩, q11, q8, q9, -⟩⟩
  · exact sec_same h q
  · exact sec_keep h (Int.le_of_eq q4) q6 q9
theorem und_sec  {f2 : Int} {v v2 : Nat → Int} {a a2 : Nat → Nat → Int} (h : SEC v a) (h0 : 0 ≤ v 4) (hq : (∃ ln, STK ln v a) ∧ (∃ ln, STK ln v2 a2) ∧ ((v 19 = 0 ∧ f2 = 0 ∧ TSAME v a v2 a2) ∨ (v 19 ≠ 0 ∧ f2 = 1 ∧ TUND v a v2 a2))) : SEC v2 a2 := by
  rcases hq.2.2 with ⟨-, -, q⟩ | ⟨-, -, ⟨q19, q18, q6, q7, ⟨q8, q9, -⟩, q5⟩⟩
  · exact sec_same h q
  · exact sec_keep h (by rcases q5 with q | q | q | q | q <;> omega) q6 q9
theorem cnd_sec {i r x : Int} {f2 : Int} {v v2 : Nat → Int} {a a2 : Nat → Nat → Int} (h : SEC v a) (h0 : 0 ≤ v 4) (hq : ((f2 = -1 ∧ TSAME v a v2 a2 ∧ ¬ (0 ≤ i ∧ i < v 4 ∧ a 5 i.toNat = 1 ∧ a 6 i.toNat ≠ 5 ∧ 0 ≤ r ∧ r < a 10 i.toNat ∧ 0 ≤ x ∧ x ≤ 5)) ∨ (f2 = a 11 (200 * i + r).toNat ∧ (0 ≤ i ∧ i < v 4 ∧ a 5 i.toNat = 1 ∧ a 6 i.toNat ≠ 5 ∧ 0 ≤ r ∧ r < a 10 i.toNat ∧ 0 ≤ x ∧ x ≤ 5) ∧ TCND i r x v a v2 a2))) : SEC v2 a2 := by
  rcases hq with ⟨-, q, -⟩ | ⟨-, -, ⟨⟨q4, q5, q6, -⟩, q11, q8, q9, -⟩⟩
  · exact sec_same h q
  · exact sec_keep h (Int.le_of_eq q4) q6 q9
section RELS
variable {h0 : Nat} {L L2 : List Nat} {cl ln cl2 ln2 sk : Nat → Nat} {iv iv2 : Nat → Nat → Int} {rv rv2 : Nat → Nat → Option Nat} {v v2 : Nat → Int} {a a2 : Nat → Nat → Int}
theorem fd_keep (hr : iI (iv h0 14) = iI (v 56) ∧ iv h0 11 = v 31 ∧ iv h0 12 = v 32 ∧ iv h0 13 = v 33) (hp : iv2 h0 14 = iv h0 14 ∧ iv2 h0 11 = iv h0 11 ∧ iv2 h0 12 = iv h0 12 ∧ iv2 h0 13 = iv h0 13) (hq : v2 56 = v 56 ∧ v2 31 = v 31 ∧ v2 32 = v 32 ∧ v2 33 = v 33) : iI (iv2 h0 14) = iI (v2 56) ∧ iv2 h0 11 = v2 31 ∧ iv2 h0 12 = v2 32 ∧ iv2 h0 13 = v2 33 := ⟨by rw [hp.1, hq.1]; exact hr.1, by have h1 := hr.2; have h2 := hp.2; have h3 := hq.2; omega⟩
theorem tx_keep (hr : iv (sk 3) 2 = v 30 ∧ CT iv rv (sk 3) (a 29)) (hp : iv2 (sk 3) 2 = iv (sk 3) 2 ∧ (∀ tt, CT iv rv (sk 3) tt → CT iv2 rv2 (sk 3) tt)) (hq : v2 30 = v 30 ∧ a2 29 = a 29) : iv2 (sk 3) 2 = v2 30 ∧ CT iv2 rv2 (sk 3) (a2 29) := ⟨by have h1 := hr.1; have h2 := hp.1; have h3 := hq.1; omega, by rw [hq.2]; exact hp.2 _ hr.2⟩
theorem tp_keep (hr : iv (sk 2) 2 = v 3 ∧ CT iv rv (sk 2) (a 2)) (hp : (iv2 (sk 2) 2 = iv (sk 2) 2 ∧ (∀ ss, CT iv rv (sk 2) ss → CT iv2 rv2 (sk 2) ss))) (hq : (v2 3 = v 3 ∧ a2 2 = a 2)) : iv2 (sk 2) 2 = v2 3 ∧ CT iv2 rv2 (sk 2) (a2 2) := ⟨by omega, by rw [hq.2]; exact hp.2 _ hr.2⟩
theorem rel_keep {P1 P2 : Prop} (hr : REL h0 sk L cl ln iv rv v a) (hp : P1 ∧ (iv2 h0 14 = iv h0 14 ∧ iv2 h0 11 = iv h0 11 ∧ iv2 h0 12 = iv h0 12 ∧ iv2 h0 13 = iv h0 13) ∧ ((iv2 (sk 2) 2 = iv (sk 2) 2 ∧ (∀ ss, CT iv rv (sk 2) ss → CT iv2 rv2 (sk 2) ss))) ∧ (iv2 (sk 3) 2 = iv (sk 3) 2 ∧ (∀ tt, CT iv rv (sk 3) tt → CT iv2 rv2 (sk 3) tt)) ∧ (PSAME sk iv rv iv2 rv2) ∧ (∃ g, WT g sk L cl ln iv rv ∧ WT g sk L2 cl2 ln2 iv2 rv2) ∧ SKL sk L cl ∧ XT L cl ln L2 cl2 ln2 ∧ (KP L cl (fun _ => False) (fun _ => False) (fun _ => False) (fun _ => False) (fun _ _ => False) iv rv iv2 rv2)) (hq : P2 ∧ (v2 56 = v 56 ∧ v2 31 = v 31 ∧ v2 32 = v 32 ∧ v2 33 = v 33) ∧ ((v2 3 = v 3 ∧ a2 2 = a 2)) ∧ (v2 30 = v 30 ∧ a2 29 = a 29) ∧ (TSAME v a v2 a2)) : REL h0 sk L2 cl2 ln2 iv2 rv2 v2 a2 := ⟨fd_keep hr.1 hp.2.1 hq.2.1, tp_keep hr.2.1 hp.2.2.1 hq.2.2.1, tx_keep hr.2.2.1 hp.2.2.2.1 hq.2.2.2.1, tab_same hr.2.2.2.1 hp.2.2.2.2.1 hq.2.2.2.2, rps_same ⟨hr.2.2.2.1, hr.2.2.2.2.1⟩ hp.2.2.2.2 hq.2.2.2.2, sec_same hr.2.2.2.2.2 hq.2.2.2.2⟩
theorem rel_zero {P1 P2 : Prop} (hr : REL h0 sk L cl ln iv rv v a) (hp : P1 ∧ (iv2 h0 14 = iv h0 14 ∧ iv2 h0 11 = iv h0 11 ∧ iv2 h0 12 = iv h0 12 ∧ iv2 h0 13 = iv h0 13) ∧ (iv2 (sk 2) 2 = 0) ∧ (iv2 (sk 3) 2 = iv (sk 3) 2 ∧ (∀ tt, CT iv rv (sk 3) tt → CT iv2 rv2 (sk 3) tt)) ∧ (PSAME sk iv rv iv2 rv2) ∧ (∃ g, WT g sk L cl ln iv rv ∧ WT g sk L2 cl2 ln2 iv2 rv2) ∧ SKL sk L cl ∧ XT L cl ln L2 cl2 ln2 ∧ (KP L cl (fun _ => False) (fun _ => False) (fun _ => False) (fun _ => False) (fun _ _ => False) iv rv iv2 rv2)) (hq : P2 ∧ (v2 56 = v 56 ∧ v2 31 = v 31 ∧ v2 32 = v 32 ∧ v2 33 = v 33) ∧ (v2 3 = 0) ∧ (v2 30 = v 30 ∧ a2 29 = a 29) ∧ (TSAME v a v2 a2)) : REL h0 sk L2 cl2 ln2 iv2 rv2 v2 a2 := ⟨fd_keep hr.1 hp.2.1 hq.2.1, ⟨by have h2 := hp.2.2.1; have h3 := hq.2.2.1; omega, CT.zero hp.2.2.1⟩, tx_keep hr.2.2.1 hp.2.2.2.1 hq.2.2.2.1, tab_same hr.2.2.2.1 hp.2.2.2.2.1 hq.2.2.2.2, rps_same ⟨hr.2.2.2.1, hr.2.2.2.2.1⟩ hp.2.2.2.2 hq.2.2.2.2, sec_same hr.2.2.2.2.2 hq.2.2.2.2⟩
theorem rel_feed {P1 P2 : Prop} {x1 x2 x3 x4 x5 f1 f2 : Int} (hr : REL h0 sk L cl ln iv rv v a) (hp : P1 ∧ (iv2 h0 14 = iv h0 14 ∧ iv2 h0 11 = iv h0 11 ∧ iv2 h0 12 = iv h0 12 ∧ iv2 h0 13 = iv h0 13) ∧ (((f1 = -1 ∧ 3000 < iv (sk 2) 2 + 20 ∧ iv2 (sk 2) 2 = iv (sk 2) 2) ∨ (f1 = iv2 (sk 2) 2 ∧ iv2 (sk 2) 2 = iv (sk 2) 2 + 20 ∧ iv (sk 2) 2 ≤ 2980)) ∧ ∀ ss, CT iv rv (sk 2) ss → (iv (sk 2) 2 ≤ 2980 → CT iv2 rv2 (sk 2) (fd5 ss (iv (sk 2) 2).toNat x1 x2 x3 x4 x5)) ∧ (2980 < iv (sk 2) 2 → CT iv2 rv2 (sk 2) ss)) ∧ (iv2 (sk 3) 2 = iv (sk 3) 2 ∧ (∀ tt, CT iv rv (sk 3) tt → CT iv2 rv2 (sk 3) tt)) ∧ (PSAME sk iv rv iv2 rv2) ∧ (∃ g, WT g sk L cl ln iv rv ∧ WT g sk L2 cl2 ln2 iv2 rv2) ∧ SKL sk L cl ∧ XT L cl ln L2 cl2 ln2 ∧ (KP L cl (fun _ => False) (fun _ => False) (fun _ => False) (fun _ => False) (fun _ _ => False) iv rv iv2 rv2)) (hq : P2 ∧ (v2 56 = v 56 ∧ v2 31 = v 31 ∧ v2 32 = v 32 ∧ v2 33 = v 33) ∧ ((f2 = -1 ∧ v2 3 = v 3 ∧ 2980 < v 3 ∧ a2 2 = a 2) ∨ (f2 = v 3 + 20 ∧ v2 3 = v 3 + 20 ∧ v 3 ≤ 2980 ∧ a2 2 = rfd (a 2) (v 3).toNat x1 x2 x3 x4 x5 20)) ∧ (v2 30 = v 30 ∧ a2 29 = a 29) ∧ (TSAME v a v2 a2)) : REL h0 sk L2 cl2 ln2 iv2 rv2 v2 a2 := by
  refine ⟨fd_keep hr.1 hp.2.1 hq.2.1, ?_, tx_keep hr.2.2.1 hp.2.2.2.1 hq.2.2.2.1, tab_same hr.2.2.2.1 hp.2.2.2.2.1 hq.2.2.2.2, rps_same ⟨hr.2.2.2.1, hr.2.2.2.2.1⟩ hp.2.2.2.2 hq.2.2.2.2, sec_same hr.2.2.2.2.2 hq.2.2.2.2⟩
  have h1 := hr.2.1.1; have h2 := hp.2.2.1.1; have h4 := hp.2.2.1.2 _ hr.2.1.2
  rcases hq.2.2.1 with ⟨g1, g2, g3, g4⟩ | ⟨g1, g2, g3, g4⟩
  · exact ⟨by omega, by rw [g4]; exact h4.2 (by omega)⟩
  · refine ⟨by omega, ?_⟩
    have h5 := h4.1 (by omega)
    rw [h1, fd_rfd] at h5
    rw [g4]; exact h5
theorem rel_end {n : Int} {P1 P2 : Prop} {f1 f2 : Int} (hr : REL h0 sk L cl ln iv rv v a) (hp : P1 ∧ (iv2 h0 14 = iv h0 14 ∧ iv2 h0 11 = iv h0 11 ∧ iv2 h0 12 = iv h0 12 ∧ iv2 h0 13 = iv h0 13) ∧ (((f1 = -1 ∧ iv2 (sk 2) 2 = iv (sk 2) 2 ∧ (n < 0 ∨ iv (sk 2) 2 < n)) ∨ (f1 = n ∧ iv2 (sk 2) 2 = n ∧ 0 ≤ n ∧ n ≤ iv (sk 2) 2)) ∧ (∀ ss, CT iv rv (sk 2) ss → CT iv2 rv2 (sk 2) ss)) ∧ (iv2 (sk 3) 2 = iv (sk 3) 2 ∧ (∀ tt, CT iv rv (sk 3) tt → CT iv2 rv2 (sk 3) tt)) ∧ (PSAME sk iv rv iv2 rv2) ∧ (∃ g, WT g sk L cl ln iv rv ∧ WT g sk L2 cl2 ln2 iv2 rv2) ∧ SKL sk L cl ∧ XT L cl ln L2 cl2 ln2 ∧ (KP L cl (fun _ => False) (fun _ => False) (fun _ => False) (fun _ => False) (fun _ _ => False) iv rv iv2 rv2)) (hq : P2 ∧ (v2 56 = v 56 ∧ v2 31 = v 31 ∧ v2 32 = v 32 ∧ v2 33 = v 33) ∧ (((f2 = -1 ∧ v2 3 = v 3 ∧ (n < 0 ∨ v 3 < n)) ∨ (f2 = n ∧ v2 3 = n ∧ 0 ≤ n ∧ n ≤ v 3)) ∧ a2 2 = a 2) ∧ (v2 30 = v 30 ∧ a2 29 = a 29) ∧ (TSAME v a v2 a2)) : REL h0 sk L2 cl2 ln2 iv2 rv2 v2 a2 := ⟨fd_keep hr.1 hp.2.1 hq.2.1, ⟨by have h1 := hr.2.1.1; have h2 := hp.2.2.1.1; have h3 := hq.2.2.1.1; omega, by rw [hq.2.2.1.2]; exact hp.2.2.1.2 _ hr.2.1.2⟩, tx_keep hr.2.2.1 hp.2.2.2.1 hq.2.2.2.1, tab_same hr.2.2.2.1 hp.2.2.2.2.1 hq.2.2.2.2, rps_same ⟨hr.2.2.2.1, hr.2.2.2.2.1⟩ hp.2.2.2.2 hq.2.2.2.2, sec_same hr.2.2.2.2.2 hq.2.2.2.2⟩
theorem tx_both {f1 f2 : Int} (hr : REL h0 sk L cl ln iv rv v a) (hp : (∀ ss, CT iv rv (sk 2) ss → ((f1 = -1 ∧ iv2 (sk 3) 2 = iv (sk 3) 2 ∧ ¬ (TOK ss (iv (sk 2) 2) ∧ iv (sk 3) 2 + iv (sk 2) 2 ≤ 500)) ∨ (f1 = iv2 (sk 3) 2 ∧ TOK ss (iv (sk 2) 2) ∧ iv (sk 3) 2 + iv (sk 2) 2 ≤ 500 ∧ ((iv (sk 2) 2 = 0 ∧ iv2 (sk 3) 2 = 0) ∨ (iv (sk 2) 2 ≠ 0 ∧ iv2 (sk 3) 2 = iv (sk 3) 2 + iv (sk 2) 2))))) ∧ (∀ ss tt, CT iv rv (sk 2) ss → CT iv rv (sk 3) tt → (f1 = -1 → CT iv2 rv2 (sk 3) tt) ∧ (f1 ≠ -1 → CT iv2 rv2 (sk 3) (apd tt (iv (sk 3) 2).toNat ss)))) (hq : (((f2 = -1 ∧ v2 30 = v 30 ∧ ¬ (TOK (a 2) (v 3) ∧ v 30 + v 3 ≤ 500)) ∨ (f2 = v2 30 ∧ TOK (a 2) (v 3) ∧ v 30 + v 3 ≤ 500 ∧ ((v 3 = 0 ∧ v2 30 = 0) ∨ (v 3 ≠ 0 ∧ v2 30 = v 30 + v 3))))) ∧ TXR v a v2 a2 f2) : f1 = f2 ∧ iv2 (sk 3) 2 = v2 30 ∧ CT iv2 rv2 (sk 3) (a2 29) := by
  have h1 := hr.2.1.1; have h2 := hr.2.2.1.1
  have k1 := hp.2 _ _ hr.2.1.2 hr.2.2.1.2
  rw [h2] at k1
  rcases hp.1 _ hr.2.1.2 with ⟨p1, p2, p3⟩ | ⟨p1, p2, p3, p4⟩ <;> rcases hq.1 with ⟨q1, q2, q3⟩ | ⟨q1, q2, q3, q4⟩
  · exact ⟨by omega, by omega, by rw [hq.2.1 q1]; exact k1.1 p1⟩
  · rw [h1, h2] at p3; exact absurd ⟨q2, q3⟩ p3
  · rw [h1, h2] at p3; rw [h1] at p2; exact absurd ⟨p2, p3⟩ q3
  · have e : iv2 (sk 3) 2 = v2 30 := by omega
    refine ⟨by omega, e, fun b hb j hj => ?_⟩
    by_cases c : f1 = -1
    · omega
    · by_cases c2 : f2 = -1
      · omega
      · rw [k1.2 c b hb j hj, hq.2.2 c2 j (by omega)]
theorem rel_text {P1 P2 : Prop} {f1 f2 : Int} (hr : REL h0 sk L cl ln iv rv v a) (hp : P1 ∧ (iv2 h0 14 = iv h0 14 ∧ iv2 h0 11 = iv h0 11 ∧ iv2 h0 12 = iv h0 12 ∧ iv2 h0 13 = iv h0 13) ∧ (iv2 (sk 2) 2 = 0) ∧ ((∀ ss, CT iv rv (sk 2) ss → ((f1 = -1 ∧ iv2 (sk 3) 2 = iv (sk 3) 2 ∧ ¬ (TOK ss (iv (sk 2) 2) ∧ iv (sk 3) 2 + iv (sk 2) 2 ≤ 500)) ∨ (f1 = iv2 (sk 3) 2 ∧ TOK ss (iv (sk 2) 2) ∧ iv (sk 3) 2 + iv (sk 2) 2 ≤ 500 ∧ ((iv (sk 2) 2 = 0 ∧ iv2 (sk 3) 2 = 0) ∨ (iv (sk 2) 2 ≠ 0 ∧ iv2 (sk 3) 2 = iv (sk 3) 2 + iv (sk 2) 2))))) ∧ (∀ ss tt, CT iv rv (sk 2) ss → CT iv rv (sk 3) tt → (f1 = -1 → CT iv2 rv2 (sk 3) tt) ∧ (f1 ≠ -1 → CT iv2 rv2 (sk 3) (apd tt (iv (sk 3) 2).toNat ss)))) ∧ (PSAME sk iv rv iv2 rv2) ∧ (∃ g, WT g sk L cl ln iv rv ∧ WT g sk L2 cl2 ln2 iv2 rv2) ∧ SKL sk L cl ∧ XT L cl ln L2 cl2 ln2 ∧ (KP L cl (fun _ => False) (fun _ => False) (fun _ => False) (fun _ => False) (fun _ _ => False) iv rv iv2 rv2)) (hq : P2 ∧ (v2 56 = v 56 ∧ v2 31 = v 31 ∧ v2 32 = v 32 ∧ v2 33 = v 33) ∧ (v2 3 = 0) ∧ ((((f2 = -1 ∧ v2 30 = v 30 ∧ ¬ (TOK (a 2) (v 3) ∧ v 30 + v 3 ≤ 500)) ∨ (f2 = v2 30 ∧ TOK (a 2) (v 3) ∧ v 30 + v 3 ≤ 500 ∧ ((v 3 = 0 ∧ v2 30 = 0) ∨ (v 3 ≠ 0 ∧ v2 30 = v 30 + v 3))))) ∧ TXR v a v2 a2 f2) ∧ (TSAME v a v2 a2)) : REL h0 sk L2 cl2 ln2 iv2 rv2 v2 a2 := ⟨fd_keep hr.1 hp.2.1 hq.2.1, ⟨by have h2 := hp.2.2.1; have h3 := hq.2.2.1; omega, CT.zero hp.2.2.1⟩, (tx_both hr hp.2.2.2.1 hq.2.2.2.1).2, tab_same hr.2.2.2.1 hp.2.2.2.2.1 hq.2.2.2.2, rps_same ⟨hr.2.2.2.1, hr.2.2.2.2.1⟩ hp.2.2.2.2 hq.2.2.2.2, sec_same hr.2.2.2.2.2 hq.2.2.2.2⟩
theorem rel_failed {i x : Int} {P1 P2 : Prop} {f1 f2 : Int} (hr : REL h0 sk L cl ln iv rv v a) (hp : P1 ∧ ((((i < 0 ∨ 7 < i) ∧ f1 = -1 ∧ iv2 h0 14 = iv h0 14) ∨ (0 ≤ i ∧ i ≤ 7 ∧ iI (iv2 h0 14) = fdv (iI (iv h0 14)) i x ∧ iI f1 = bcn (iI (iv2 h0 14)))) ∧ iv2 h0 11 = iv h0 11 ∧ iv2 h0 12 = iv h0 12 ∧ iv2 h0 13 = iv h0 13) ∧ ((iv2 (sk 2) 2 = iv (sk 2) 2 ∧ (∀ ss, CT iv rv (sk 2) ss → CT iv2 rv2 (sk 2) ss))) ∧ (iv2 (sk 3) 2 = iv (sk 3) 2 ∧ (∀ tt, CT iv rv (sk 3) tt → CT iv2 rv2 (sk 3) tt)) ∧ (PSAME sk iv rv iv2 rv2) ∧ (∃ g, WT g sk L cl ln iv rv ∧ WT g sk L2 cl2 ln2 iv2 rv2) ∧ SKL sk L cl ∧ XT L cl ln L2 cl2 ln2 ∧ (KP L cl (fun _ => False) (fun _ => False) (fun _ => False) (fun _ => False) (fun _ _ => False) iv rv iv2 rv2)) (hq : P2 ∧ ((((i < 0 ∨ 7 < i) ∧ f2 = -1 ∧ v2 56 = v 56) ∨ (0 ≤ i ∧ i ≤ 7 ∧ iI (v2 56) = fdv (iI (v 56)) i x ∧ iI f2 = bcn (iI (v2 56)))) ∧ v2 31 = v 31 ∧ v2 32 = v 32 ∧ v2 33 = v 33) ∧ ((v2 3 = v 3 ∧ a2 2 = a 2)) ∧ (v2 30 = v 30 ∧ a2 29 = a 29) ∧ (TSAME v a v2 a2)) : REL h0 sk L2 cl2 ln2 iv2 rv2 v2 a2 := by
  refine ⟨⟨?_, by have h1 := hr.1.2; have h2 := hp.2.1.2; have h3 := hq.2.1.2; omega⟩, tp_keep hr.2.1 hp.2.2.1 hq.2.2.1, tx_keep hr.2.2.1 hp.2.2.2.1 hq.2.2.2.1, tab_same hr.2.2.2.1 hp.2.2.2.2.1 hq.2.2.2.2, rps_same ⟨hr.2.2.2.1, hr.2.2.2.2.1⟩ hp.2.2.2.2 hq.2.2.2.2, sec_same hr.2.2.2.2.2 hq.2.2.2.2⟩
  have r1 := hr.1.1
  rcases hp.2.1.1 with ⟨p1, p2, p3⟩ | ⟨p1, p2, p3, p4⟩ <;> rcases hq.2.1.1 with ⟨q1, q2, q3⟩ | ⟨q1, q2, q3, q4⟩
  · rw [p3, q3]; exact r1
  · exact absurd p1 (by omega)
  · exact absurd q1 (by omega)
  · rw [p3, q3, r1]
theorem rel_measure {x y h : Int} {f1 f2 : Int} (hr : REL h0 sk L cl ln iv rv v a) (hp : ((f1 = 1 ∧ 1 ≤ x ∧ x ≤ 100 ∧ 1 ≤ y ∧ y ≤ 50 ∧ 1 ≤ h ∧ h ≤ 255) ∨ (f1 = -1 ∧ ¬ (1 ≤ x ∧ x ≤ 100 ∧ 1 ≤ y ∧ y ≤ 50 ∧ 1 ≤ h ∧ h ≤ 255))) ∧ (iv2 h0 14 = iv h0 14 ∧ ((f1 = 1 ∧ iv2 h0 11 = x ∧ iv2 h0 12 = y ∧ iv2 h0 13 = h) ∨ (f1 = -1 ∧ iv2 h0 11 = iv h0 11 ∧ iv2 h0 12 = iv h0 12 ∧ iv2 h0 13 = iv h0 13))) ∧ (iv2 (sk 2) 2 = iv (sk 2) 2 ∧ (∀ ss, CT iv rv (sk 2) ss → CT iv2 rv2 (sk 2) ss)) ∧ (iv2 (sk 3) 2 = iv (sk 3) 2 ∧ (∀ tt, CT iv rv (sk 3) tt → CT iv2 rv2 (sk 3) tt)) ∧ (PSAME sk iv rv iv2 rv2) ∧ (∃ g, WT g sk L cl ln iv rv ∧ WT g sk L2 cl2 ln2 iv2 rv2) ∧ SKL sk L cl ∧ XT L cl ln L2 cl2 ln2 ∧ (KP L cl (fun _ => False) (fun _ => False) (fun _ => False) (fun _ => False) (fun _ _ => False) iv rv iv2 rv2)) (hq : ((f2 = 1 ∧ 1 ≤ x ∧ x ≤ 100 ∧ 1 ≤ y ∧ y ≤ 50 ∧ 1 ≤ h ∧ h ≤ 255) ∨ (f2 = -1 ∧ ¬ (1 ≤ x ∧ x ≤ 100 ∧ 1 ≤ y ∧ y ≤ 50 ∧ 1 ≤ h ∧ h ≤ 255))) ∧ (v2 56 = v 56 ∧ ((f2 = 1 ∧ v2 31 = x ∧ v2 32 = y ∧ v2 33 = h) ∨ (f2 = -1 ∧ v2 31 = v 31 ∧ v2 32 = v 32 ∧ v2 33 = v 33))) ∧ (v2 3 = v 3 ∧ a2 2 = a 2) ∧ (v2 30 = v 30 ∧ a2 29 = a 29) ∧ (TSAME v a v2 a2)) : REL h0 sk L2 cl2 ln2 iv2 rv2 v2 a2 := by
  refine ⟨⟨by rw [hp.2.1.1, hq.2.1.1]; exact hr.1.1, ?_⟩, tp_keep hr.2.1 hp.2.2.1 hq.2.2.1, tx_keep hr.2.2.1 hp.2.2.2.1 hq.2.2.2.1, tab_same hr.2.2.2.1 hp.2.2.2.2.1 hq.2.2.2.2, rps_same ⟨hr.2.2.2.1, hr.2.2.2.2.1⟩ hp.2.2.2.2 hq.2.2.2.2, sec_same hr.2.2.2.2.2 hq.2.2.2.2⟩
  have h1 := hp.1; have h2 := hq.1; have h3 := hp.2.1.2; have h4 := hq.2.1.2; have h5 := hr.1.2
  clear hr hp hq
  omega
theorem rel_table {x y i : Int} {P1 P2 : Prop} {f1 f2 : Int} (hr : REL h0 sk L cl ln iv rv v a) (hp : P1 ∧ (iv2 h0 14 = iv h0 14 ∧ iv2 h0 11 = iv h0 11 ∧ iv2 h0 12 = iv h0 12 ∧ iv2 h0 13 = iv h0 13) ∧ ((iv2 (sk 2) 2 = iv (sk 2) 2 ∧ (∀ ss, CT iv rv (sk 2) ss → CT iv2 rv2 (sk 2) ss))) ∧ (iv2 (sk 3) 2 = iv (sk 3) 2 ∧ (∀ tt, CT iv rv (sk 3) tt → CT iv2 rv2 (sk 3) tt)) ∧ (PTBL x y i f1 sk iv rv iv2 rv2) ∧ (∃ g, WT g sk L cl ln iv rv ∧ WT g sk L2 cl2 ln2 iv2 rv2) ∧ SKL sk L cl ∧ XT L cl ln L2 cl2 ln2 ∧ ((f1 = -1 ∧ KP L cl (fun _ => False) (fun _ => False) (fun _ => False) (fun _ => False) (fun _ _ => False) iv rv iv2 rv2) ∨ (f1 ≠ -1 ∧ KP L cl (fun _ => False) (fun _ => False) (fun _ => False) (fun _ => False) (fun _ _ => False) iv rv iv2 rv2 ∧ ∃ b, (((x < 1 ∨ 3 < x) ∧ b = none) ∨ ((1 ≤ x ∧ x ≤ 3) ∧ ∃ t, ALV sk iv rv i t ∧ b = some t)) ∧ KNW L sk b none iv iv2 rv2))) (hq : P2 ∧ (v2 56 = v 56 ∧ v2 31 = v 31 ∧ v2 32 = v 32 ∧ v2 33 = v 33) ∧ ((v2 3 = v 3 ∧ a2 2 = a 2)) ∧ (v2 30 = v 30 ∧ a2 29 = a 29) ∧ (((f2 = -1 ∧ TSAME v a v2 a2 ∧ ¬ (0 ≤ x ∧ x ≤ 4 ∧ (y = 6 ∨ y = 8) ∧ v 4 ≠ 30 ∧ (x < 1 ∨ 3 < x ∨ (0 ≤ i ∧ i < v 4 ∧ a 5 i.toNat = 1 ∧ a 6 i.toNat ≤ 3)))) ∨ (f2 = v 4 ∧ (0 ≤ x ∧ x ≤ 4 ∧ (y = 6 ∨ y = 8) ∧ v 4 ≠ 30 ∧ (x < 1 ∨ 3 < x ∨ (0 ≤ i ∧ i < v 4 ∧ a 5 i.toNat = 1 ∧ a 6 i.toNat ≤ 3))) ∧ TNEW x y (if x < 1 ∨ 3 < x then -1 else i) (-1) v a v2 a2)))) : REL h0 sk L2 cl2 ln2 iv2 rv2 v2 a2 := ⟨fd_keep hr.1 hp.2.1 hq.2.1, tp_keep hr.2.1 hp.2.2.1 hq.2.2.1, tx_keep hr.2.2.1 hp.2.2.2.1 hq.2.2.2.1, (tbl_both hr.2.2.2.1 hp.2.2.2.2.1 hq.2.2.2.2).2, tbl_rp hr.2.2.2.1 hr.2.2.2.2.1 hp.2.2.2.2.1 hp.2.2.2.2.2 hq.2.2.2.2, tbl_sec hr.2.2.2.2.2 hr.2.2.2.1.2.2.2.2.2.1.1 hq.2.2.2.2⟩
theorem rel_join {i j : Int} {P1 P2 : Prop} {f1 f2 : Int} (hr : REL h0 sk L cl ln iv rv v a) (hp : P1 ∧ (iv2 h0 14 = iv h0 14 ∧ iv2 h0 11 = iv h0 11 ∧ iv2 h0 12 = iv h0 12 ∧ iv2 h0 13 = iv h0 13) ∧ ((iv2 (sk 2) 2 = iv (sk 2) 2 ∧ (∀ ss, CT iv rv (sk 2) ss → CT iv2 rv2 (sk 2) ss))) ∧ (iv2 (sk 3) 2 = iv (sk 3) 2 ∧ (∀ tt, CT iv rv (sk 3) tt → CT iv2 rv2 (sk 3) tt)) ∧ (PJOI i j f1 sk iv rv iv2 rv2) ∧ (∃ g, WT g sk L cl ln iv rv ∧ WT g sk L2 cl2 ln2 iv2 rv2) ∧ SKL sk L cl ∧ XT L cl ln L2 cl2 ln2 ∧ ((f1 = -1 ∧ KP L cl (fun _ => False) (fun _ => False) (fun _ => False) (fun _ => False) (fun _ _ => False) iv rv iv2 rv2) ∨ (f1 ≠ -1 ∧ KP L cl (fun _ => False) (fun _ => False) (fun _ => False) (fun _ => False) (fun _ _ => False) iv rv iv2 rv2 ∧ ∃ t u, ALV sk iv rv i t ∧ ALV sk iv rv j u ∧ KNW L sk (some t) (some u) iv iv2 rv2))) (hq : P2 ∧ (v2 56 = v 56 ∧ v2 31 = v 31 ∧ v2 32 = v 32 ∧ v2 33 = v 33) ∧ ((v2 3 = v 3 ∧ a2 2 = a 2)) ∧ (v2 30 = v 30 ∧ a2 29 = a 29) ∧ (((f2 = -1 ∧ TSAME v a v2 a2 ∧ ¬ (0 ≤ i ∧ i < v 4 ∧ a 5 i.toNat = 1 ∧ a 6 i.toNat ≤ 3 ∧ 0 ≤ j ∧ j < v 4 ∧ a 5 j.toNat = 1 ∧ a 6 j.toNat ≤ 3 ∧ v 4 ≠ 30)) ∨ (f2 = v 4 ∧ (0 ≤ i ∧ i < v 4 ∧ a 5 i.toNat = 1 ∧ a 6 i.toNat ≤ 3 ∧ 0 ≤ j ∧ j < v 4 ∧ a 5 j.toNat = 1 ∧ a 6 j.toNat ≤ 3 ∧ v 4 ≠ 30) ∧ TNEW 5 (max (a 7 i.toNat) (a 7 j.toNat)) i j v a v2 a2)))) : REL h0 sk L2 cl2 ln2 iv2 rv2 v2 a2 := ⟨fd_keep hr.1 hp.2.1 hq.2.1, tp_keep hr.2.1 hp.2.2.1 hq.2.2.1, tx_keep hr.2.2.1 hp.2.2.2.1 hq.2.2.2.1, (joi_both hr.2.2.2.1 hp.2.2.2.2.1 hq.2.2.2.2).2, joi_rp hr.2.2.2.1 hr.2.2.2.2.1 hp.2.2.2.2.1 hp.2.2.2.2.2 hq.2.2.2.2, joi_sec hr.2.2.2.2.2 hr.2.2.2.1.2.2.2.2.2.1.1 hq.2.2.2.2⟩
theorem rel_drop {i : Int} {P1 P2 : Prop} {f1 f2 : Int} (hr : REL h0 sk L cl ln iv rv v a) (hp : P1 ∧ (iv2 h0 14 = iv h0 14 ∧ iv2 h0 11 = iv h0 11 ∧ iv2 h0 12 = iv h0 12 ∧ iv2 h0 13 = iv h0 13) ∧ ((iv2 (sk 2) 2 = iv (sk 2) 2 ∧ (∀ ss, CT iv rv (sk 2) ss → CT iv2 rv2 (sk 2) ss))) ∧ (iv2 (sk 3) 2 = iv (sk 3) 2 ∧ (∀ tt, CT iv rv (sk 3) tt → CT iv2 rv2 (sk 3) tt)) ∧ (PDRP i f1 sk iv rv iv2 rv2) ∧ (∃ g, WT g sk L cl ln iv rv ∧ WT g sk L2 cl2 ln2 iv2 rv2) ∧ SKL sk L cl ∧ XT L cl ln L2 cl2 ln2 ∧ (KP L cl (fun _ => False) (fun _ => False) (fun _ => False) (fun _ => False) (fun _ _ => False) iv rv iv2 rv2)) (hq : P2 ∧ (v2 56 = v 56 ∧ v2 31 = v 31 ∧ v2 32 = v 32 ∧ v2 33 = v 33) ∧ ((v2 3 = v 3 ∧ a2 2 = a 2)) ∧ (v2 30 = v 30 ∧ a2 29 = a 29) ∧ (((f2 = -1 ∧ TSAME v a v2 a2 ∧ ¬ (0 ≤ i ∧ i < v 4 ∧ a 5 i.toNat = 1)) ∨ (f2 = 1 ∧ (0 ≤ i ∧ i < v 4 ∧ a 5 i.toNat = 1) ∧ TDRP i v a v2 a2)))) : REL h0 sk L2 cl2 ln2 iv2 rv2 v2 a2 := ⟨fd_keep hr.1 hp.2.1 hq.2.1, tp_keep hr.2.1 hp.2.2.1 hq.2.2.1, tx_keep hr.2.2.1 hp.2.2.2.1 hq.2.2.2.1, (drp_both hr.2.2.2.1 hp.2.2.2.2.1 hq.2.2.2.2).2, drp_rp hr.2.2.2.1 hr.2.2.2.2.1 hp.2.2.2.2.1 hp.2.2.2.2.2 hq.2.2.2.2, drp_sec hr.2.2.2.2.2 hr.2.2.2.1.2.2.2.2.2.1.1 hq.2.2.2.2⟩
theorem rel_rule {i x n : Int} {P1 P2 : Prop} {f1 f2 : Int} (hr : REL h0 sk L cl ln iv rv v a) (hp : P1 ∧ (iv2 h0 14 = iv h0 14 ∧ iv2 h0 11 = iv h0 11 ∧ iv2 h0 12 = iv h0 12 ∧ iv2 h0 13 = iv h0 13) ∧ (iv2 (sk 2) 2 = 0) ∧ (iv2 (sk 3) 2 = iv (sk 3) 2 ∧ (∀ tt, CT iv rv (sk 3) tt → CT iv2 rv2 (sk 3) tt)) ∧ (PRUL i x n f1 sk iv rv iv2 rv2) ∧ (∃ g, WT g sk L cl ln iv rv ∧ WT g sk L2 cl2 ln2 iv2 rv2) ∧ SKL sk L cl ∧ XT L cl ln L2 cl2 ln2 ∧ (KRU L cl sk iv rv L2 cl2 ln2 iv2 rv2 i x n f1)) (hq : P2 ∧ (v2 56 = v 56 ∧ v2 31 = v 31 ∧ v2 32 = v 32 ∧ v2 33 = v 33) ∧ (v2 3 = 0) ∧ (v2 30 = v 30 ∧ a2 29 = a 29) ∧ (((f2 = -1 ∧ TSAME v a v2 a2 ∧ ¬ ((0 ≤ i ∧ i < v 4 ∧ a 5 i.toNat = 1 ∧ a 6 i.toNat ≠ 5 ∧ 0 ≤ x ∧ x ≤ 5 ∧ 1 ≤ n ∧ n ≤ 8 ∧ 1 ≤ v 3 - n ∧ v 3 - n ≤ 4 ∧ a 10 i.toNat ≠ 200) ∧ ACL (a 2) n (v 3 - n) (DC (a 7 i.toNat)) ∧ LTK (a 2) n)) ∨ (f2 = a 10 i.toNat ∧ ((0 ≤ i ∧ i < v 4 ∧ a 5 i.toNat = 1 ∧ a 6 i.toNat ≠ 5 ∧ 0 ≤ x ∧ x ≤ 5 ∧ 1 ≤ n ∧ n ≤ 8 ∧ 1 ≤ v 3 - n ∧ v 3 - n ≤ 4 ∧ a 10 i.toNat ≠ 200) ∧ ACL (a 2) n (v 3 - n) (DC (a 7 i.toNat)) ∧ LTK (a 2) n) ∧ TRUL i x n v a v2 a2)))) : REL h0 sk L2 cl2 ln2 iv2 rv2 v2 a2 := ⟨fd_keep hr.1 hp.2.1 hq.2.1, ⟨by have h2 := hp.2.2.1; have h3 := hq.2.2.1; omega, CT.zero hp.2.2.1⟩, tx_keep hr.2.2.1 hp.2.2.2.1 hq.2.2.2.1, (rul_both hr.2.2.2.1 hr.2.1.1 hr.2.1.2 hp.2.2.2.2.1 hq.2.2.2.2).2, rul_rp hr.2.2.2.1 hr.2.2.2.2.1 hr.2.1.1 hr.2.1.2 hp.2.2.2.2.1 hp.2.2.2.2.2 hq.2.2.2.2, rul_sec hr.2.2.2.2.2 hr.2.2.2.1.2.2.2.2.2.1.1 hq.2.2.2.2⟩
theorem rel_indicator {i x : Int} {P1 P2 : Prop} {f1 f2 : Int} (hr : REL h0 sk L cl ln iv rv v a) (hp : P1 ∧ (iv2 h0 14 = iv h0 14 ∧ iv2 h0 11 = iv h0 11 ∧ iv2 h0 12 = iv h0 12 ∧ iv2 h0 13 = iv h0 13) ∧ (iv2 (sk 2) 2 = 0) ∧ (iv2 (sk 3) 2 = iv (sk 3) 2 ∧ (∀ tt, CT iv rv (sk 3) tt → CT iv2 rv2 (sk 3) tt)) ∧ (PIND i x f1 sk iv rv iv2 rv2) ∧ (∃ g, WT g sk L cl ln iv rv ∧ WT g sk L2 cl2 ln2 iv2 rv2) ∧ SKL sk L cl ∧ XT L cl ln L2 cl2 ln2 ∧ (KIN L cl sk iv rv L2 cl2 ln2 iv2 rv2 i x f1)) (hq : P2 ∧ (v2 56 = v 56 ∧ v2 31 = v 31 ∧ v2 32 = v 32 ∧ v2 33 = v 33) ∧ (v2 3 = 0) ∧ (v2 30 = v 30 ∧ a2 29 = a 29) ∧ (((f2 = -1 ∧ TSAME v a v2 a2 ∧ ¬ ((0 ≤ x ∧ x ≤ 3 ∧ 0 ≤ i ∧ i < v 4 ∧ a 5 i.toNat = 1 ∧ ((x = 0 ∧ a 6 i.toNat ≤ 2) ∨ (x = 1 ∧ a 6 i.toNat = 2) ∨ (x ≠ 0 ∧ x ≠ 1 ∧ a 6 i.toNat = 5)) ∧ v 3 ≤ 4) ∧ ACL (a 2) 0 (v 3) (DC (a 7 i.toNat)) ∧ True)) ∨ (f2 = v 3 ∧ ((0 ≤ x ∧ x ≤ 3 ∧ 0 ≤ i ∧ i < v 4 ∧ a 5 i.toNat = 1 ∧ ((x = 0 ∧ a 6 i.toNat ≤ 2) ∨ (x = 1 ∧ a 6 i.toNat = 2) ∨ (x ≠ 0 ∧ x ≠ 1 ∧ a 6 i.toNat = 5)) ∧ v 3 ≤ 4) ∧ ACL (a 2) 0 (v 3) (DC (a 7 i.toNat)) ∧ True) ∧ TIND i x v a v2 a2)))) : REL h0 sk L2 cl2 ln2 iv2 rv2 v2 a2 := ⟨fd_keep hr.1 hp.2.1 hq.2.1, ⟨by have h2 := hp.2.2.1; have h3 := hq.2.2.1; omega, CT.zero hp.2.2.1⟩, tx_keep hr.2.2.1 hp.2.2.2.1 hq.2.2.2.1, (ind_both hr.2.2.2.1 hr.2.1.1 hr.2.1.2 hp.2.2.2.2.1 hq.2.2.2.2).2, ind_rp hr.2.2.2.1 hr.2.2.2.2.1 hr.2.1.1 hr.2.1.2 hp.2.2.2.2.1 hp.2.2.2.2.2 hq.2.2.2.2, ind_sec hr.2.2.2.2.2 hr.2.2.2.1.2.2.2.2.2.1.1 hq.2.2.2.2⟩
theorem rel_undo  {P1 P2 : Prop} {f1 f2 : Int} (hr : REL h0 sk L cl ln iv rv v a) (hp : P1 ∧ (iv2 h0 14 = iv h0 14 ∧ iv2 h0 11 = iv h0 11 ∧ iv2 h0 12 = iv h0 12 ∧ iv2 h0 13 = iv h0 13) ∧ ((iv2 (sk 2) 2 = iv (sk 2) 2 ∧ (∀ ss, CT iv rv (sk 2) ss → CT iv2 rv2 (sk 2) ss))) ∧ (iv2 (sk 3) 2 = iv (sk 3) 2 ∧ (∀ tt, CT iv rv (sk 3) tt → CT iv2 rv2 (sk 3) tt)) ∧ (PUNX f1 sk iv rv iv2 rv2) ∧ (∃ g, WT g sk L cl ln iv rv ∧ WT g sk L2 cl2 ln2 iv2 rv2) ∧ SKL sk L cl ∧ XT L cl ln L2 cl2 ln2 ∧ ((f1 = 0 ∧ KP L cl (fun _ => False) (fun _ => False) (fun _ => False) (fun _ => False) (fun _ _ => False) iv rv iv2 rv2) ∨ (f1 = 1 ∧ ∃ ch, el rv (sk 23) (iv (sk 23) 2 - 1).toNat = some ch ∧ UKP L cl ch iv rv iv2 rv2))) (hq : P2 ∧ (v2 56 = v 56 ∧ v2 31 = v 31 ∧ v2 32 = v 32 ∧ v2 33 = v 33) ∧ ((v2 3 = v 3 ∧ a2 2 = a 2)) ∧ (v2 30 = v 30 ∧ a2 29 = a 29) ∧ ((∃ ln, STK ln v a) ∧ (∃ ln, STK ln v2 a2) ∧ ((v 19 = 0 ∧ f2 = 0 ∧ TSAME v a v2 a2) ∨ (v 19 ≠ 0 ∧ f2 = 1 ∧ TUND v a v2 a2)))) : REL h0 sk L2 cl2 ln2 iv2 rv2 v2 a2 := ⟨fd_keep hr.1 hp.2.1 hq.2.1, tp_keep hr.2.1 hp.2.2.1 hq.2.2.1, tx_keep hr.2.2.1 hp.2.2.2.1 hq.2.2.2.1, (und_both hr.2.2.2.1 hp.2.2.2.2.1 hq.2.2.2.2).2, und_rp hr.2.2.2.1 hr.2.2.2.2.1 hp.2.2.2.2.1 hp.2.2.2.2.2 hq.2.2.2.2, und_sec hr.2.2.2.2.2 hr.2.2.2.1.2.2.2.2.2.1.1 hq.2.2.2.2⟩
theorem rel_condition {i r x : Int} {P1 P2 : Prop} {f1 f2 : Int} (hr : REL h0 sk L cl ln iv rv v a) (hp : P1 ∧ (iv2 h0 14 = iv h0 14 ∧ iv2 h0 11 = iv h0 11 ∧ iv2 h0 12 = iv h0 12 ∧ iv2 h0 13 = iv h0 13) ∧ ((iv2 (sk 2) 2 = iv (sk 2) 2 ∧ (∀ ss, CT iv rv (sk 2) ss → CT iv2 rv2 (sk 2) ss))) ∧ (iv2 (sk 3) 2 = iv (sk 3) 2 ∧ (∀ tt, CT iv rv (sk 3) tt → CT iv2 rv2 (sk 3) tt)) ∧ (PCND i r x f1 sk iv rv iv2 rv2) ∧ (∃ g, WT g sk L cl ln iv rv ∧ WT g sk L2 cl2 ln2 iv2 rv2) ∧ SKL sk L cl ∧ XT L cl ln L2 cl2 ln2 ∧ (KCN L cl sk iv rv iv2 rv2 i r x f1)) (hq : P2 ∧ (v2 56 = v 56 ∧ v2 31 = v 31 ∧ v2 32 = v 32 ∧ v2 33 = v 33) ∧ ((v2 3 = v 3 ∧ a2 2 = a 2)) ∧ (v2 30 = v 30 ∧ a2 29 = a 29) ∧ (((f2 = -1 ∧ TSAME v a v2 a2 ∧ ¬ (0 ≤ i ∧ i < v 4 ∧ a 5 i.toNat = 1 ∧ a 6 i.toNat ≠ 5 ∧ 0 ≤ r ∧ r < a 10 i.toNat ∧ 0 ≤ x ∧ x ≤ 5)) ∨ (f2 = a 11 (200 * i + r).toNat ∧ (0 ≤ i ∧ i < v 4 ∧ a 5 i.toNat = 1 ∧ a 6 i.toNat ≠ 5 ∧ 0 ≤ r ∧ r < a 10 i.toNat ∧ 0 ≤ x ∧ x ≤ 5) ∧ TCND i r x v a v2 a2)))) : REL h0 sk L2 cl2 ln2 iv2 rv2 v2 a2 := ⟨fd_keep hr.1 hp.2.1 hq.2.1, tp_keep hr.2.1 hp.2.2.1 hq.2.2.1, tx_keep hr.2.2.1 hp.2.2.2.1 hq.2.2.2.1, cnd_both hr.2.2.2.1 hp.2.2.2.2.1 hq.2.2.2.2, (cnd_rp hr.2.2.2.1 hr.2.2.2.2.1 hp.2.2.2.2.1 hp.2.2.2.2.2 hq.2.2.2.2).2, cnd_sec hr.2.2.2.2.2 hr.2.2.2.1.2.2.2.2.2.1.1 hq.2.2.2.2⟩
end RELS
section RLSS
variable {h0 : Nat} {L L2 : List Nat} {cl ln cl2 ln2 sk : Nat → Nat} {iv iv2 : Nat → Nat → Int} {rv rv2 : Nat → Nat → Option Nat} {v v2 : Nat → Int} {a a2 : Nat → Nat → Int}
end RLSS
def SHB (h0 : Nat) (iv : Nat → Nat → Int) (rv : Nat → Nat → Option Nat) (v : Nat → Int) (a : Nat → Nat → Int) : Prop := ∃ sA sB E, rv h0 9 = some sA ∧ rv h0 10 = some sB ∧ LNK rv sB sA ∧ SHT iv rv sA E ∧ SHA v a E
def RLC (h0 : Nat) (sk : Nat → Nat) (L : List Nat) (cl ln : Nat → Nat) (iv : Nat → Nat → Int) (rv : Nat → Nat → Option Nat) (v : Nat → Int) (a : Nat → Nat → Int) : Prop := REL h0 sk L cl ln iv rv v a ∧ (iv h0 15 = v 42 ∧ iI (iv h0 16) = iI (v 43)) ∧ SHB h0 iv rv v a
section RLCS
variable {h0 : Nat} {L L2 : List Nat} {cl ln cl2 ln2 sk : Nat → Nat} {iv iv2 : Nat → Nat → Int} {rv rv2 : Nat → Nat → Option Nat} {v v2 : Nat → Int} {a a2 : Nat → Nat → Int}
theorem shb_keep (hr : SHB h0 iv rv v a) (hp : KSC h0 iv rv iv2 rv2) (hq : KSA v a v2 a2) : SHB h0 iv2 rv2 v2 a2 := by
  obtain ⟨sA, sB, E, q1, q2, q3, q4, q5⟩ := hr
  obtain ⟨p1, p2, p3, p4⟩ := hp sA sB q1 q2 q3
  exact ⟨sA, sB, E, p1, p2, p3, q4.sam p4, q5.cg hq⟩
theorem tch_both {A : Int → List (Option (List Int)) → List (Option (List Int)) → Prop} {f1 f2 : Int} (hu : ∀ f g E E1 E2, A f E E1 → A g E E2 → f = g ∧ E1 = E2) (hr : SHB h0 iv rv v a) (hp : TCH iv rv iv2 h0 (A f1) ∧ rv2 = rv) (hq : ∀ E, SHA v a E → ∃ E2, A f2 E E2 ∧ SHA v2 a2 E2) : f1 = f2 ∧ SHB h0 iv2 rv2 v2 a2 := by
  obtain ⟨sA, sB, E, q1, q2, q3, q4, q5⟩ := hr
  obtain ⟨E1, p1, p2⟩ := hp.1 sA sB q1 q2 q3 E q4
  obtain ⟨E2, r1, r2⟩ := hq E q5
  obtain ⟨e1, e2⟩ := hu f1 f2 E E1 E2 p1 r1
  subst e2
  rw [hp.2]
  exact ⟨e1, sA, sB, E1, q1, q2, q3, p2, r2⟩
theorem lose_both {i f1 f2 : Int} (hr : SHB h0 iv rv v a) (hp : TCH iv rv iv2 h0 (fun E E2 => LOSX E i f1 E2) ∧ rv2 = rv) (hq : LSA v a v2 a2 i f2) : f1 = f2 ∧ SHB h0 iv2 rv2 v2 a2 := tch_both (A := fun f E E2 => LOSX E i f E2) (fun _ _ _ _ _ g1 g2 => LOSX.uni g1 g2) hr hp hq
theorem cut_both {i n f1 f2 : Int} (hr : SHB h0 iv rv v a) (hp : TCH iv rv iv2 h0 (fun E E2 => CUTX E i n f1 E2) ∧ rv2 = rv) (hq : CTA v a v2 a2 i n f2) : f1 = f2 ∧ SHB h0 iv2 rv2 v2 a2 := tch_both (A := fun f E E2 => CUTX E i n f E2) (fun _ _ _ _ _ g1 g2 => CUTX.uni g1 g2) hr hp hq
theorem copyRow_both {q w u x n f1 f2 : Int} (hr : SHB h0 iv rv v a) (hp : TCH iv rv iv2 h0 (fun E E2 => CPRX E q w u x n f1 E2) ∧ rv2 = rv) (hq : CRA v a v2 a2 q w u x n f2) : f1 = f2 ∧ SHB h0 iv2 rv2 v2 a2 := tch_both (A := fun f E E2 => CPRX E q w u x n f E2) (fun _ _ _ _ _ g1 g2 => CPRX.uni g1 g2) hr hp hq
theorem copyLines_both {q u n f1 f2 : Int} (h15 : iv h0 15 = v 42) (hr : SHB h0 iv rv v a) (hp : TCH iv rv iv2 h0 (fun E E2 => CPLX E q u n (iv h0 15) f1 E2 (iv2 h0 15)) ∧ rv2 = rv) (hq : CPA v a v2 a2 q u n f2) : f1 = f2 ∧ iv2 h0 15 = v2 42 ∧ SHB h0 iv2 rv2 v2 a2 := by
  obtain ⟨sA, sB, E, q1, q2, q3, q4, q5⟩ := hr
  obtain ⟨E1, p1, p2⟩ := hp.1 sA sB q1 q2 q3 E q4
  obtain ⟨E2, r1, r2⟩ := hq E q5
  have p3 : CPLX E q u n (iv h0 15) f1 E1 (iv2 h0 15) := p1
  rw [h15] at p3
  obtain ⟨e1, e2, e3⟩ := CPLX.uni p3 r1
  subst e2
  rw [hp.2]
  exact ⟨e1, e3, sA, sB, E1, q1, q2, q3, p2, r2⟩
theorem setc_both {i f1 f2 : Int} (hr : RLC h0 sk L cl ln iv rv v a) (hp : PSX sk ln iv rv iv2 rv2 h0 (iv h0 11) (iv h0 13) i f1) (hq : SETX v a v2 a2 i f2 ∧ TBL v a ∧ ∀ j, a 10 j ≤ 200) : f1 = f2 ∧ SHB h0 iv2 rv2 v2 a2 := by
  obtain ⟨hr, _, sA, sB, E, q1, q2, q3, q4, q5⟩ := hr
  obtain ⟨hX, hT, h10⟩ := hq
  have ph : PHY sk ln iv rv sA sB (iv h0 11) (iv h0 13) v a := ⟨⟨hr.2.2.2.1, hr.2.2.2.2.1, hT, hr.2.2.2.2.2⟩, h10, hr.2.2.1, ⟨hr.1.2.1, hr.1.2.2.2⟩, q3⟩
  rcases hp sA sB q1 q2 v a ph with ⟨n1, n2, n3, n4⟩ | ⟨D, d1, d2, d3, d4, d5⟩ <;> rcases hX with ⟨m1, m2⟩ | ⟨D2, e1, e2⟩
  · exact ⟨n1.1.trans m1.1.symm, sA, sB, E, n2, n3, n4.1, q4.sam n4.2.1, q5.cg m2⟩
  · exact (SETN.no n1 e1).elim
  · exact (SETN.no m1 d1).elim
  · obtain ⟨u1, u2⟩ := SETD.uni hT d1 e1
    subst u2
    have gm : ∀ (l : Nat) (x : Option (List Int)), (D.map some)[l]? = some x → ∃ xs, x = some xs ∧ D[l]? = some xs := fun l x e => by
      rw [List.getElem?_map] at e
      cases hd : D[l]? with
      | none => rw [hd] at e; cases e
      | some xs => rw [hd] at e; cases e; exact ⟨xs, rfl, rfl⟩
    refine ⟨u1, sB, sA, D.map some, d2, d3, d4, ⟨by rw [List.length_map]; exact d5.1, fun l x e => ?_⟩, by rw [List.length_map]; exact e2.1, fun l x e => ?_⟩
    · obtain ⟨xs, g1, g2⟩ := gm l x e
      obtain ⟨rb, r, k1, k2, k3, k4⟩ := d5.2 l xs g2
      exact ⟨rb, r, k1, k2, Or.inr ⟨xs, g1, k3, k4⟩⟩
    · obtain ⟨xs, g1, g2⟩ := gm l x e
      obtain ⟨k1, k2⟩ := e2.2 l xs g2
      exact Or.inr ⟨xs, g1, k1, k2⟩
theorem emboss_both {i n f1 f2 : Int} (h16 : iI (iv h0 16) = iI (v 43)) (h11 : iv h0 11 = v 31) (hr : SHB h0 iv rv v a) (hp : EPX iv rv iv2 h0 i n (iv h0 11) f1) (hq : EMA v a v2 i n f2) : iI f1 = iI f2 ∧ iI (iv2 h0 16) = iI (v2 43) := by
  obtain ⟨sA, sB, E, q1, q2, q3, q4, q5⟩ := hr
  have p := hp sA q1 E q4
  rw [h16, h11] at p
  exact EMBX.uni p (hq E q5)
theorem shb_zero (hz : SHZ h0 iv rv) (h36 : v 36 = 0) : SHB h0 iv rv v a := by
  obtain ⟨sA, sB, q1, q2, q3, q4⟩ := hz.mk h36
  exact ⟨sA, sB, [], q1, q2, q3, ⟨by rw [q4, h36]; rfl, fun l x e => by simp at e⟩, by rw [h36]; rfl, fun l x e => by simp at e⟩
end RLCS
section RLHS
variable {h0 : Nat} {L L2 : List Nat} {cl ln cl2 ln2 sk : Nat → Nat} {iv iv2 : Nat → Nat → Int} {rv rv2 : Nat → Nat → Option Nat} {v v2 : Nat → Int} {a a2 : Nat → Nat → Int}
end RLHS
section RLBS
variable {h0 : Nat} {L L2 : List Nat} {cl ln cl2 ln2 sk : Nat → Nat} {iv iv2 : Nat → Nat → Int} {rv rv2 : Nat → Nat → Option Nat} {v v2 : Nat → Int} {a a2 : Nat → Nat → Int}
end RLBS
def FNQ (sk : Nat → Nat) (iv : Nat → Nat → Int) (rv : Nat → Nat → Option Nat) (v : Nat → Int) (a : Nat → Nat → Int) : Prop := ∃ K : List (List Int), KLQ v a K ∧ v 61 = iv (sk 17) 6 ∧ KLP iv rv sk (sk 17) K ∧ (∀ (k : Nat) (w : List Int), K[k]? = some w → ∀ (j : Nat) (z : Int), w[j]? = some z → 0 ≤ z)
def RLF (h0 : Nat) (sk : Nat → Nat) (L : List Nat) (cl ln : Nat → Nat) (iv : Nat → Nat → Int) (rv : Nat → Nat → Option Nat) (v : Nat → Int) (a : Nat → Nat → Int) : Prop := RLC h0 sk L cl ln iv rv v a ∧ FNQ sk iv rv v a
section RLFS
variable {h0 : Nat} {L L2 : List Nat} {cl ln cl2 ln2 sk : Nat → Nat} {iv iv2 : Nat → Nat → Int} {rv rv2 : Nat → Nat → Option Nat} {v v2 : Nat → Int} {a a2 : Nat → Nat → Int}
theorem KLP.fkp {K : List (List Int)} (hk : KLP iv rv sk (sk 17) K) (hp : FKP sk iv rv iv2 rv2) : KLP iv2 rv2 sk (sk 17) K := by
  obtain ⟨p1, p2, p3, p4, p5⟩ := hp
  refine hk.cg (by rw [p1]) (fun xs hc => ?_) (by rw [p2]) (fun eb hb j => by rw [p5 eb hb])
  have w := p4 _ hc.ct
  refine ⟨p3.trans hc.1, fun b hb j x e => ?_⟩
  have lt := gl3 e
  rw [w b hb j (by have := hc.1; omega)]
  show (xs[j]?).getD 0 = x
  rw [e]
  rfl
theorem fnq_keep (hr : FNQ sk iv rv v a) (hp : FKP sk iv rv iv2 rv2) (hq : v2 60 = v 60 ∧ v2 61 = v 61 ∧ a2 58 = a 58 ∧ a2 59 = a 59) : FNQ sk iv2 rv2 v2 a2 := by
  obtain ⟨K, ⟨k1, k2⟩, k3, k4, k5⟩ := hr
  obtain ⟨q1, q2, q3, q4⟩ := hq
  refine ⟨K, ⟨q1.trans k1, fun k w e => by rw [q3, q4]; exact k2 k w e⟩, ?_, k4.fkp hp, k5⟩
  rw [q2, hp.1]
  exact k3
theorem rdgs_both {t l m f1 f2 : Int} (hr : RLF h0 sk L cl ln iv rv v a) (hp : PRG sk ln iv rv iv2 rv2 h0 t l m f1) (hq : RGX v a v2 a2 t l m f2 ∧ TBL v a ∧ (∀ j, a 16 j ≤ 4) ∧ (∀ j, a 12 j ≤ 8)) : f1 = f2 ∧ FNQ sk iv2 rv2 v2 a2 := by
  obtain ⟨⟨hr, _, sA, sB, E, q1, q2, q3, q4, q5⟩, hf⟩ := hr
  obtain ⟨g1, hT, h16, h12⟩ := hq
  have tr : TRL sk ln iv rv v a := ⟨hr.2.2.2.1, hr.2.2.2.2.1, hT, hr.2.2.2.2.2⟩
  rcases hp v a tr h16 h12 hr.1.1 sA q1 E q4 with ⟨p1, p2, p3⟩ | ⟨p1, xs, K, mo, p2, p3, p4, p5, p6, p7⟩ <;> rcases g1 E q5 with ⟨g2, g3, g4⟩ | ⟨g2, g3⟩
  · exact ⟨p2.trans g3.symm, fnq_keep hf p3 g4⟩
  · exact absurd g2 p1
  · exact absurd p1 g2
  · have wt := WHL.tr p1.1
    have nz := tr.nzl h16 wt.1 wt.2.1
    obtain ⟨ys, K2, m2, c1, c2, c3, c4, c5⟩ := g3 nz.1.1 nz.1.2
    rw [p2] at c1
    cases c1
    obtain ⟨e1, e2⟩ := KMQ.uni p3 c2
    subst e1
    exact ⟨p4.trans c3.symm, K, c4, by rw [c5, p6, e2], p5, p7⟩
theorem eqf_reading {k i f1 f2 : Int} (hr : RLF h0 sk L cl ln iv rv v a) (hp : RGP iv rv sk k i f1) (hq : RGA v a k i f2) : iI f1 = iI f2 := by
  obtain ⟨_, K, ⟨k1, k2⟩, _, k4, k5⟩ := hr
  rcases hp K k4 k5 with ⟨w, z, ⟨u1, u2⟩, ⟨u3, u4⟩, u5⟩ | ⟨u1, u2⟩ <;> rcases hq with ⟨g1, g2, g3⟩ | ⟨g1, g2⟩
  · have c := (k2 _ w u2).2.2 _ z u4
    rw [u5, g3, show (808 * k + i).toNat = 808 * k.toNat + i.toNat by omega, c]
  · exfalso
    refine hv3 (gl3 u2) (gl3 u4) ((k2 _ w u2).1) (fun l1 l2 c => ?_)
    exact g1 ⟨⟨u1, by omega⟩, u3, by omega⟩
  · exfalso
    have lt : k.toNat < K.length := by omega
    have e := List.getElem?_eq_getElem lt
    have c := (k2 _ _ e).1
    have lt2 : i.toNat < (K[k.toNat]).length := by omega
    exact u1 ⟨_, _, ⟨g1.1, e⟩, g2.1, List.getElem?_eq_getElem lt2⟩
  · rw [u2, g2]
theorem fnq_zero (h5 : iv (sk 17) 5 = 0) (h6 : iv (sk 17) 6 = 0) (h11 : iv (sk 11) 2 = 0) (h60 : v 60 = 0) (h61 : v 61 = 0) : FNQ sk iv rv v a := ⟨[], ⟨by rw [h60]; rfl, fun k w e => by simp at e⟩, by rw [h61, h6], KLP.nil h5 h11, fun k w e => by simp at e⟩
end RLFS
end
