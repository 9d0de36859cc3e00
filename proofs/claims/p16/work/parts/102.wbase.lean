def ilo (T k : Nat) : Int := match T with
  | 1 => (match k with | 11 => 1 | 12 => 1 | _ => (-2147483648))
  | 2 => (match k with | 0 => 3000 | 2 => 0 | _ => (-2147483648))
  | 3 => (match k with | 0 => 500 | 2 => 0 | _ => (-2147483648))
  | 4 => (match k with | 0 => 4000 | 2 => 0 | _ => (-2147483648))
  | 5 => (match k with | 0 => 200 | 2 => 0 | _ => (-2147483648))
  | 6 => (match k with | 0 => 6003 | 2 => 0 | _ => (-2147483648))
  | 7 => (match k with | 0 => 6003 | 2 => 0 | _ => (-2147483648))
  | 8 => (match k with | 0 => 40200 | 2 => 0 | _ => (-2147483648))
  | 9 => (match k with | 0 => 40200 | 2 => 0 | _ => (-2147483648))
  | 10 => (match k with | 0 => 4001 | 2 => 0 | _ => (-2147483648))
  | 11 => (match k with | 0 => 40000 | 2 => 0 | _ => (-2147483648))
  | 12 => (match k with | 0 => 200 | 2 => 0 | _ => (-2147483648))
  | 14 => (match k with | 1 => 0 | 2 => 0 | 5 => 0 | 7 => 0 | _ => (-2147483648))
  | 15 => (match k with | 4 => 0 | 5 => 0 | 7 => 0 | 10 => 0 | 11 => 0 | _ => (-2147483648))
  | 17 => (match k with | 5 => 0 | 6 => 0 | 9 => 0 | _ => (-2147483648))
  | 18 => (match k with | 1 => 0 | _ => (-2147483648))
  | 19 => (match k with | 1 => 0 | 2 => 0 | _ => (-2147483648))
  | 20 => (match k with | 3 => 0 | _ => (-2147483648))
  | 21 => (match k with | 3 => 0 | _ => (-2147483648))
  | 22 => (match k with | 2 => 0 | _ => (-2147483648))
  | 23 => (match k with | 2 => 0 | _ => (-2147483648))
  | 24 => (match k with | 2 => 0 | _ => (-2147483648))
  | 25 => (match k with | 2 => 0 | _ => (-2147483648))
  | 26 => (match k with | 2 => 0 | _ => (-2147483648))
  | 52 => 0
  | 56 => 0
  | 58 => 0
  | 59 => 0
  | 100 => (match k with | 7 => 0 | _ => (-2147483648))
  | _ => (-2147483648)
def ihi (T k : Nat) : Int := match T with
  | 1 => (match k with | 11 => 100 | 12 => 50 | _ => 2147483647)
  | 2 => (match k with | 0 => 3000 | 2 => 3000 | _ => 2147483647)
  | 3 => (match k with | 0 => 500 | 2 => 500 | _ => 2147483647)
  | 4 => (match k with | 0 => 4000 | 2 => 4000 | _ => 2147483647)
  | 5 => (match k with | 0 => 200 | 2 => 200 | _ => 2147483647)
  | 6 => (match k with | 0 => 6003 | 2 => 6003 | _ => 2147483647)
  | 7 => (match k with | 0 => 6003 | 2 => 6003 | _ => 2147483647)
  | 8 => (match k with | 0 => 40200 | 2 => 40200 | _ => 2147483647)
  | 9 => (match k with | 0 => 40200 | 2 => 40200 | _ => 2147483647)
  | 10 => (match k with | 0 => 4001 | 2 => 4001 | _ => 2147483647)
  | 11 => (match k with | 0 => 40000 | 2 => 40000 | _ => 2147483647)
  | 12 => (match k with | 0 => 200 | 2 => 200 | _ => 2147483647)
  | 14 => (match k with | 1 => 1 | 2 => 1 | 5 => 126 | 7 => 6 | _ => 2147483647)
  | 15 => (match k with | 4 => 500 | 5 => 1 | 7 => 100000 | 10 => 500 | 11 => 500 | _ => 2147483647)
  | 17 => (match k with | 5 => 50 | 6 => 1 | 9 => 100 | _ => 2147483647)
  | 18 => (match k with | 1 => 200 | _ => 2147483647)
  | 19 => (match k with | 1 => 200 | 2 => 1 | _ => 2147483647)
  | 20 => (match k with | 3 => 5 | _ => 2147483647)
  | 21 => (match k with | 3 => 5 | _ => 2147483647)
  | 22 => (match k with | 2 => 30 | _ => 2147483647)
  | 23 => (match k with | 2 => 512 | _ => 2147483647)
  | 24 => (match k with | 2 => 6003 | _ => 2147483647)
  | 25 => (match k with | 2 => 6003 | _ => 2147483647)
  | 26 => (match k with | 2 => 200 | _ => 2147483647)
  | 52 => 1
  | 56 => 1
  | 58 => 125
  | 59 => 1
  | 100 => (match k with | 7 => 1 | _ => 2147483647)
  | _ => 2147483647
def tgt (T k : Nat) : Nat := match T with
  | 1 => (match k with | 0 => 2 | 1 => 3 | 2 => 4 | 3 => 5 | 4 => 13 | 5 => 14 | 6 => 15 | 7 => 16 | 8 => 17 | 9 => 18 | 10 => 18 | _ => 0)
  | 2 => (match k with | 1 => 32 | _ => 0)
  | 3 => (match k with | 1 => 33 | _ => 0)
  | 4 => (match k with | 1 => 34 | _ => 0)
  | 5 => (match k with | 1 => 35 | _ => 0)
  | 6 => (match k with | 1 => 36 | _ => 0)
  | 7 => (match k with | 1 => 37 | _ => 0)
  | 8 => (match k with | 1 => 38 | _ => 0)
  | 9 => (match k with | 1 => 39 | _ => 0)
  | 10 => (match k with | 1 => 40 | _ => 0)
  | 11 => (match k with | 1 => 41 | _ => 0)
  | 12 => (match k with | 1 => 42 | _ => 0)
  | 13 => (match k with | 0 => 22 | 1 => 23 | _ => 0)
  | 14 => (match k with | 3 => 56 | 4 => 57 | 6 => 58 | _ => 0)
  | 15 => (match k with | 0 => 50 | 1 => 51 | 2 => 52 | 3 => 53 | 6 => 54 | 8 => 55 | _ => 0)
  | 16 => (match k with | 0 => 24 | 1 => 25 | 2 => 6 | 3 => 7 | 4 => 8 | 5 => 9 | 6 => 10 | _ => 0)
  | 17 => (match k with | 0 => 59 | 1 => 60 | 2 => 61 | 3 => 62 | 4 => 11 | 7 => 16 | 8 => 63 | _ => 0)
  | 18 => (match k with | 0 => 67 | _ => 0)
  | 19 => (match k with | 0 => 64 | _ => 0)
  | 20 => (match k with | 1 => 65 | 2 => 66 | _ => 0)
  | 21 => (match k with | 1 => 100 | 2 => 20 | _ => 0)
  | 22 => (match k with | 1 => 1000 | _ => 0)
  | 23 => (match k with | 1 => 1001 | _ => 0)
  | 24 => (match k with | 1 => 1002 | _ => 0)
  | 25 => (match k with | 1 => 1003 | _ => 0)
  | 26 => (match k with | 1 => 1004 | _ => 0)
  | 67 => 19
  | 68 => 20
  | 100 => (match k with | 2 => 100 | 3 => 100 | 4 => 26 | 5 => 12 | 6 => 68 | _ => 0)
  | 1000 => 100
  | 1001 => 21
  | 1002 => 20
  | 1003 => 20
  | 1004 => 20
  | _ => 0
def nul (T k : Nat) : Bool := match T with
  | 1 => !([0, 1, 2, 3, 4, 5, 6, 7, 8, 9, 10] : List Nat).contains k
  | 2 => !([1] : List Nat).contains k
  | 3 => !([1] : List Nat).contains k
  | 4 => !([1] : List Nat).contains k
  | 5 => !([1] : List Nat).contains k
  | 6 => !([1] : List Nat).contains k
  | 7 => !([1] : List Nat).contains k
  | 8 => !([1] : List Nat).contains k
  | 9 => !([1] : List Nat).contains k
  | 10 => !([1] : List Nat).contains k
  | 11 => !([1] : List Nat).contains k
  | 12 => !([1] : List Nat).contains k
  | 13 => !([0, 1] : List Nat).contains k
  | 14 => !([3, 4, 6] : List Nat).contains k
  | 15 => !([0, 1, 2, 3, 6, 8] : List Nat).contains k
  | 16 => !([0, 1, 2, 3, 4, 5, 6] : List Nat).contains k
  | 17 => !([0, 1, 2, 3, 4, 7, 8] : List Nat).contains k
  | 18 => !([0] : List Nat).contains k
  | 19 => !([0] : List Nat).contains k
  | 20 => !([1, 2] : List Nat).contains k
  | 21 => !([1] : List Nat).contains k
  | 22 => !([1] : List Nat).contains k
  | 23 => !([1] : List Nat).contains k
  | 24 => !([1] : List Nat).contains k
  | 25 => !([1] : List Nat).contains k
  | 26 => !([1] : List Nat).contains k
  | 100 => !([4, 5, 6] : List Nat).contains k
  | _ => true
def llo (T : Nat) : Nat := match T with
  | 32 => 16
  | 33 => 16
  | 34 => 16
  | 35 => 16
  | 36 => 16
  | 37 => 16
  | 38 => 16
  | 39 => 16
  | 40 => 16
  | 41 => 16
  | 42 => 16
  | 50 => 500
  | 51 => 500
  | 52 => 500
  | 53 => 500
  | 54 => 200
  | 55 => 5
  | 56 => 126
  | 57 => 126
  | 58 => 6
  | 59 => 404
  | 60 => 101
  | 61 => 101
  | 62 => 50
  | 63 => 100
  | 64 => 200
  | 65 => 0
  | 66 => 1
  | 67 => 200
  | 68 => 4
  | 1000 => 10
  | 1001 => 10
  | 1002 => 10
  | 1003 => 10
  | 1004 => 10
  | _ => 0
def lhi (T : Nat) : Nat := match T with
  | 32 => 6000
  | 33 => 1000
  | 34 => 8000
  | 35 => 400
  | 36 => 12006
  | 37 => 12006
  | 38 => 80400
  | 39 => 80400
  | 40 => 8002
  | 41 => 80000
  | 42 => 400
  | 50 => 500
  | 51 => 500
  | 52 => 500
  | 53 => 500
  | 54 => 200
  | 55 => 5
  | 56 => 126
  | 57 => 126
  | 58 => 6
  | 59 => 404
  | 60 => 101
  | 61 => 101
  | 62 => 50
  | 63 => 100
  | 64 => 200
  | 65 => 8
  | 66 => 4
  | 67 => 200
  | 68 => 4
  | 1000 => 60
  | 1001 => 1200
  | 1002 => 9100
  | 1003 => 9100
  | 1004 => 400
  | _ => 0
def raw (T : Nat) : Bool := decide (200 ≤ T) && decide (T < 1000)
def lst (T : Nat) : Bool := decide (22 ≤ T) && decide (T ≤ 26)
def szd (T : Nat) : Bool := (decide (2 ≤ T) && decide (T ≤ 12)) || lst T
def arr (T : Nat) : Bool := (decide (30 ≤ T) && decide (T < 100)) || decide (1000 ≤ T)
def uq (t : Nat) : Bool := ([1, 2, 3, 4, 5, 6, 7, 8, 9, 10, 11, 13, 14, 15, 16, 17, 18, 28, 22, 23, 24, 25, 67, 69] : List Nat).contains t
def pot (T : Nat) : Bool := ([2, 3, 4, 5, 6, 7, 8, 9, 10, 11, 24, 25, 67] : List Nat).contains T
theorem lst_szd {T : Nat} (h : lst T = true) : szd T = true := by unfold szd; rw [h]; simp
theorem bt_list {a r : Nat} (h : r < 5) : bt (1000 + 5 * a + r) = 1000 + r := by unfold bt; rw [if_neg (by omega), if_neg (by omega), if_neg (by omega)]; omega
theorem tgt_list {T : Nat} (h : lst T = true) : tgt T 1 = 1000 + (T - 22) := by
  unfold lst at h
  simp only [Bool.and_eq_true, decide_eq_true_eq] at h
  have : T = 22 ∨ T = 23 ∨ T = 24 ∨ T = 25 ∨ T = 26 := by omega
  rcases this with rfl | rfl | rfl | rfl | rfl <;> rfl
def rkx (cl : Nat → Nat) (a k b : Nat) : Prop := (bt (cl a) = 100 → k < 4 → cl b < cl a) ∧ (lst (bt (cl a)) = true → k = 1 → cl b = 1000 + 5 * a + (bt (cl a) - 22))
def rok (L : List Nat) (cl : Nat → Nat) (g a k : Nat) (r : Option Nat) : Prop := raw (bt (cl a)) = false → (r = none → nul (bt (cl a)) k = true) ∧ ∀ b, r = some b → (b ∈ L ∧ bt (cl b) = tgt (bt (cl a)) k ∧ rkx cl a k b) ∨ (b = g ∧ lst (bt (cl a)) = true ∧ k = 1)
def WT (g : Nat) (sk : Nat → Nat) (L : List Nat) (cl ln : Nat → Nat) (iv : Nat → Nat → Int) (rv : Nat → Nat → Option Nat) : Prop :=
  (∀ a ∈ L, ∀ k, ilo (bt (cl a)) k ≤ iv a k ∧ iv a k ≤ ihi (bt (cl a)) k) ∧
  (∀ a ∈ L, ∀ k, rok L cl g a k (rv a k)) ∧
  (∀ a ∈ L, arr (bt (cl a)) = true → llo (bt (cl a)) ≤ ln a ∧ ln a ≤ lhi (bt (cl a))) ∧
  (∀ a ∈ L, szd (bt (cl a)) = true → ∀ b, rv a 1 = some b → (b = g ∧ iv a 2 = 0) ∨ (b ∈ L ∧ iv a 2 ≤ ((ln b : Nat) : Int))) ∧
  (∀ a ∈ L, lst (bt (cl a)) = true → ∀ b, rv a 1 = some b → ∀ i : Nat, (i : Int) < iv a 2 → rv b i ≠ none) ∧
  (∀ a ∈ L, uq (cl a) = true → a = sk (cl a)) ∧ g ∉ L
def SKL (sk : Nat → Nat) (L : List Nat) (cl : Nat → Nat) : Prop := ∀ t, uq t = true → sk t ∈ L ∧ cl (sk t) = t
section WTS
variable {g : Nat} {sk : Nat → Nat} {L : List Nat} {cl ln : Nat → Nat} {iv : Nat → Nat → Int} {rv : Nat → Nat → Option Nat} {a b T k : Nat} {z : Int}
theorem WT.int (h : WT g sk L cl ln iv rv) (ha : ty L cl a T) (k : Nat) : ilo T k ≤ iv a k ∧ iv a k ≤ ihi T k := by have q := h.1 a ha.1 k; rw [ha.2] at q; exact q
theorem opt_n {o : Option Nat} {P : Prop} {Q : Nat → Prop} (h : (o = none ∧ P) ∨ ∃ b, o = some b ∧ Q b) : ∃ o2, o = o2 ∧ ∀ b, o2 = some b → Q b := ⟨o, rfl, fun b e => by
  rcases h with ⟨e1, _⟩ | ⟨b2, e1, q⟩
  · rw [e1] at e
    cases e
  · rw [e1] at e
    cases e
    exact q⟩
theorem WT.opt (h : WT g sk L cl ln iv rv) (ha : ty L cl a T) (k : Nat) (hr : raw T = false) (hl : (lst T && k == 1) = false) : (rv a k = none ∧ nul T k = true) ∨ ∃ b, rv a k = some b ∧ ty L cl b (tgt T k) := by
  have q := h.2.1 a ha.1 k (by rw [ha.2]; exact hr)
  rw [ha.2] at q
  cases e : rv a k with
  | none => exact Or.inl ⟨rfl, q.1 e⟩
  | some b =>
    rcases q.2 b e with w | w
    · exact Or.inr ⟨b, rfl, w.1, w.2.1⟩
    · rw [w.2.1, w.2.2] at hl; cases hl
theorem WT.ref (h : WT g sk L cl ln iv rv) (ha : ty L cl a T) (k : Nat) (hr : raw T = false) (hl : (lst T && k == 1) = false) (hn : nul T k = false) : ∃ b, rv a k = some b ∧ ty L cl b (tgt T k) := by
  rcases h.opt ha k hr hl with w | w
  · rw [hn] at w; cases w.2
  · exact w
theorem WT.rank (h : WT g sk L cl ln iv rv) (ha : ty L cl a 100) (hk : k < 4) (hb : rv a k = some b) : cl b < cl a := by
  rcases (h.2.1 a ha.1 k (by rw [ha.2]; rfl)).2 b hb with w | w
  · exact w.2.2.1 ha.2 hk
  · rw [ha.2] at w; cases w.2.1
theorem WT.len (h : WT g sk L cl ln iv rv) (ha : ty L cl a T) (hA : arr T = true) : llo T ≤ ln a ∧ ln a ≤ lhi T := by have q := h.2.2.1 a ha.1 (by rw [ha.2]; exact hA); rw [ha.2] at q; exact q
theorem WT.isz (h : WT g sk L cl ln iv rv) (ha : ty L cl a T) (hs : szd T = true) (hl : lst T = false) (hb : rv a 1 = some b) : iv a 2 ≤ ((ln b : Nat) : Int) := by
  rcases h.2.2.2.1 a ha.1 (by rw [ha.2]; exact hs) b hb with w | w
  · rcases (h.2.1 a ha.1 1 (by rw [ha.2]; unfold szd at hs; rw [hl] at hs; unfold raw; simp at hs ⊢; omega)).2 b hb with q | q
    · exact absurd q.1 (by rw [w.1]; exact h.2.2.2.2.2.2)
    · rw [ha.2, hl] at q; cases q.2.1
  · exact w.2
theorem ne_ty {T2 : Nat} (ha : ty L cl a T) (hb : ty L cl b T2) (h : T ≠ T2) : a ≠ b := fun e => h (by rw [← ha.2, ← hb.2, e])
theorem WT.puti {iv2 : Nat → Nat → Int} (h : WT g sk L cl ln iv rv) (he : iv2 = up2 iv a k z) (ha : ty L cl a T) (hz : ilo T k ≤ z ∧ z ≤ ihi T k) (hx : (szd T && k == 2) = false) : WT g sk L cl ln iv2 rv := by
  subst he
  obtain ⟨h1, h2, h3, h4, h5, h6⟩ := h
  have key : ∀ w, szd (bt (cl w)) = true → up2 iv a k z w 2 = iv w 2 := by
    intro w hw
    by_cases e : w = a
    · subst e
      rw [ha.2] at hw
      rw [hw] at hx
      refine up2_j (fun q => ?_)
      subst q; cases hx
    · exact up2_k e
  refine ⟨fun w hw j => ?_, h2, h3, fun w hw hs => ?_, fun w hw hs => ?_, h6⟩
  · by_cases e : w = a
    · subst e
      by_cases ej : j = k
      · subst ej; rw [up2_s, ha.2]; exact hz
      · rw [up2_j ej]; exact h1 w hw j
    · rw [up2_k e]; exact h1 w hw j
  · rw [key w hs]; exact h4 w hw hs
  · rw [key w (lst_szd hs)]; exact h5 w hw hs
theorem WT.putsz {iv2 : Nat → Nat → Int} (h : WT g sk L cl ln iv rv) (he : iv2 = up2 iv a 2 z) (ha : ty L cl a T) (hz : ilo T 2 ≤ z ∧ z ≤ ihi T 2) (hs : ∀ b, rv a 1 = some b → (b = g ∧ z = 0) ∨ (b ∈ L ∧ z ≤ ((ln b : Nat) : Int))) (hn : lst T = true → ∀ b, rv a 1 = some b → ∀ i : Nat, (i : Int) < z → rv b i ≠ none) : WT g sk L cl ln iv2 rv := by
  subst he
  obtain ⟨h1, h2, h3, h4, h5, h6⟩ := h
  refine ⟨fun w hw j => ?_, h2, h3, fun w hw hq => ?_, fun w hw hq => ?_, h6⟩
  · by_cases e : w = a
    · subst e
      by_cases ej : j = 2
      · subst ej; rw [up2_s, ha.2]; exact hz
      · rw [up2_j ej]; exact h1 w hw j
    · rw [up2_k e]; exact h1 w hw j
  · by_cases e : w = a
    · subst e; rw [up2_s]; exact hs
    · rw [up2_k e]; exact h4 w hw hq
  · by_cases e : w = a
    · subst e; rw [up2_s]; rw [ha.2] at hq; exact hn hq
    · rw [up2_k e]; exact h5 w hw hq
theorem WT.isz_put {iv2 : Nat → Nat → Int} (h : WT g sk L cl ln iv rv) (he : iv2 = up2 iv a 2 z) (ha : ty L cl a T) (hz : ilo T 2 ≤ z ∧ z ≤ ihi T 2) (hl : lst T = false) (hr : raw T = false) (hb : rv a 1 = some b) (hs : z ≤ ((ln b : Nat) : Int)) : WT g sk L cl ln iv2 rv := by
  refine h.putsz he ha hz (fun b2 hb2 => ?_) (fun q => by rw [hl] at q; cases q)
  rw [hb] at hb2; cases hb2
  rcases (h.2.1 a ha.1 1 (by rw [ha.2]; exact hr)).2 b hb with q | q
  · exact Or.inr ⟨q.1, hs⟩
  · rw [ha.2, hl] at q; cases q.2.1
theorem WT.putr {rv2 : Nat → Nat → Option Nat} {x : Option Nat} (h : WT g sk L cl ln iv rv) (he : rv2 = upr rv a k x) (ha : ty L cl a T) (hr : rok L cl g a k x) (hx : (szd T && k == 1) = false) (hT : T < 1000) : WT g sk L cl ln iv rv2 := by
  subst he
  obtain ⟨h1, h2, h3, h4, h5, h6⟩ := h
  have key : ∀ w, szd (bt (cl w)) = true → upr rv a k x w 1 = rv w 1 := by
    intro w hw
    by_cases e : w = a
    · subst e
      rw [ha.2] at hw
      rw [hw] at hx
      refine upr_j (fun q => ?_)
      subst q; cases hx
    · rw [upr_a e]
  refine ⟨h1, fun w hw j => ?_, h3, fun w hw hs => ?_, fun w hw hs b hb i hi => ?_, h6⟩
  · by_cases e : w = a
    · subst e
      by_cases ej : j = k
      · subst ej; rw [upr_s]; exact hr
      · rw [upr_j ej]; exact h2 w hw j
    · rw [upr_a e]; exact h2 w hw j
  · rw [key w hs]; exact h4 w hw hs
  · rw [key w (lst_szd hs)] at hb
    have hba : b ≠ a := by
      intro e
      subst e
      rcases (h2 w hw 1 (by unfold raw; unfold lst at hs; simp at hs ⊢; omega)).2 b hb with q | q
      · rw [ha.2, tgt_list hs] at q; omega
      · exact h6.2 (q.1 ▸ ha.1)
    rw [upr_a hba]
    exact h5 w hw hs b hb i hi
end WTS
def XT (L : List Nat) (cl ln : Nat → Nat) (L2 : List Nat) (cl2 ln2 : Nat → Nat) : Prop := ∀ a ∈ L, a ∈ L2 ∧ cl2 a = cl a ∧ ln2 a = ln a
def fT (ls : List Nat) (L : List Nat) (cl : Nat → Nat) (iv : Nat → Nat → Int) (rv : Nat → Nat → Option Nat) (iv2 : Nat → Nat → Int) (rv2 : Nat → Nat → Option Nat) : Prop := ∀ b ∈ L, ls.contains (bt (cl b)) = false → iv2 b = iv b ∧ rv2 b = rv b
section XTS
variable {ls : List Nat} {g : Nat} {sk : Nat → Nat} {L L2 L3 : List Nat} {cl ln cl2 ln2 cl3 ln3 : Nat → Nat} {iv iv2 iv3 : Nat → Nat → Int} {rv rv2 rv3 : Nat → Nat → Option Nat} {a b T k : Nat} {z : Int}
theorem XT.refl : XT L cl ln L cl ln := fun _ h => ⟨h, rfl, rfl⟩
theorem XT.trans (h1 : XT L cl ln L2 cl2 ln2) (h2 : XT L2 cl2 ln2 L3 cl3 ln3) : XT L cl ln L3 cl3 ln3 := fun a h => ⟨(h2 a (h1 a h).1).1, (h2 a (h1 a h).1).2.1.trans (h1 a h).2.1, (h2 a (h1 a h).1).2.2.trans (h1 a h).2.2⟩
theorem XT.ty (h : XT L cl ln L2 cl2 ln2) (ha : ty L cl a T) : ty L2 cl2 a T := ⟨(h a ha.1).1, by rw [(h a ha.1).2.1]; exact ha.2⟩
theorem XT.skl (h : XT L cl ln L2 cl2 ln2) (hs : SKL sk L cl) : SKL sk L2 cl2 := fun t ht => ⟨(h _ (hs t ht).1).1, ((h _ (hs t ht).1).2.1).trans (hs t ht).2⟩
theorem fT.refl : fT ls L cl iv rv iv rv := fun _ _ _ => ⟨rfl, rfl⟩
theorem fT.puti (h : fT ls L cl iv rv iv2 rv2) (hX : XT L cl ln L2 cl2 ln2) (he : iv3 = up2 iv2 a k z) (ha : ty L2 cl2 a T) (hc : ls.contains T = true) : fT ls L cl iv rv iv3 rv2 := by
  intro b hb hq
  refine ⟨?_, (h b hb hq).2⟩
  rw [he, upi_a (fun e => ?_)]
  · exact (h b hb hq).1
  · subst e; rw [← (hX b hb).2.1, ha.2, hc] at hq; cases hq
theorem fT.putr {x : Option Nat} (h : fT ls L cl iv rv iv2 rv2) (hX : XT L cl ln L2 cl2 ln2) (he : rv3 = upr rv2 a k x) (ha : ty L2 cl2 a T) (hc : ls.contains T = true) : fT ls L cl iv rv iv2 rv3 := by
  intro b hb hq
  refine ⟨(h b hb hq).1, ?_⟩
  rw [he, upr_a (fun e => ?_)]
  · exact (h b hb hq).2
  · subst e; rw [← (hX b hb).2.1, ha.2, hc] at hq; cases hq
theorem fT.call {ls2 : List Nat} (h : fT ls L cl iv rv iv2 rv2) (hX : XT L cl ln L2 cl2 ln2) (h2 : fT ls2 L2 cl2 iv2 rv2 iv3 rv3) (hs : ls2.all (fun j => ls.contains j) = true) : fT ls L cl iv rv iv3 rv3 := by
  intro b hb hq
  have q2 := h2 b (hX b hb).1 (by rw [(hX b hb).2.1]; exact con_sub hs hq)
  exact ⟨q2.1.trans (h b hb hq).1, q2.2.trans (h b hb hq).2⟩
theorem fT.i (h : fT ls L cl iv rv iv2 rv2) (ha : ty L cl a T) (hc : ls.contains T = false) (k : Nat) : iv2 a k = iv a k := congrFun (h a ha.1 (by rw [ha.2]; exact hc)).1 k
theorem fT.r (h : fT ls L cl iv rv iv2 rv2) (ha : ty L cl a T) (hc : ls.contains T = false) (k : Nat) : rv2 a k = rv a k := congrFun (h a ha.1 (by rw [ha.2]; exact hc)).2 k
end XTS
def cap (g : Nat) (ln : Nat → Nat) (rv : Nat → Nat → Option Nat) (a : Nat) : Nat := match rv a 1 with
  | some b => if b = g then 0 else ln b
  | none => 0
def nn (f : Nat → Option Nat) : Nat → Nat
  | 0 => 0
  | n + 1 => nn f n + (if (f n).isSome = true then 1 else 0)
def Phi (g : Nat) (sk : Nat → Nat) : PF := fun ln rv => 3 * (cap g ln rv (sk 2) + cap g ln rv (sk 3) + cap g ln rv (sk 4) + cap g ln rv (sk 5) + cap g ln rv (sk 6) + cap g ln rv (sk 7) + cap g ln rv (sk 8) + cap g ln rv (sk 9) + cap g ln rv (sk 10) + cap g ln rv (sk 11)) + 8 * (cap g ln rv (sk 24) + cap g ln rv (sk 25)) + 240 * (nn (rv (sk 67)) 200 + nn (rv (sk 69)) 200)
abbrev PHM : Nat := 1110000
theorem nn_le (f : Nat → Option Nat) : ∀ n, nn f n ≤ n := by
  intro n
  induction n with
  | zero => exact Nat.le_refl _
  | succ n ih => unfold nn; split <;> omega
theorem cap_le {g : Nat} {sk : Nat → Nat} {L : List Nat} {cl ln : Nat → Nat} {iv : Nat → Nat → Int} {rv : Nat → Nat → Option Nat} {t m : Nat} (h : WT g sk L cl ln iv rv) (hS : SKL sk L cl) (hu : uq t = true) (hb : bt t = t) (hr : raw t = false) (ha : arr (tgt t 1) = true) (hl : lhi (tgt t 1) = m) : cap g ln rv (sk t) ≤ m := by
  obtain ⟨q1, q2⟩ := hS t hu
  unfold cap
  split
  · rename_i b e
    split
    · exact Nat.zero_le _
    · rename_i hg
      have w := (h.2.1 _ q1 1 (by rw [q2, hb]; exact hr)).2 b e
      rw [q2, hb] at w
      rcases w with w | w
      · have l2 := (h.len (T := tgt t 1) ⟨w.1, w.2.1⟩ ha).2
        rw [hl] at l2; exact l2
      · exact absurd w.1 hg
  · exact Nat.zero_le _
theorem Phi.le {g : Nat} {sk : Nat → Nat} {L : List Nat} {cl ln : Nat → Nat} {iv : Nat → Nat → Int} {rv : Nat → Nat → Option Nat} (h : WT g sk L cl ln iv rv) (hS : SKL sk L cl) : Phi g sk ln rv ≤ PHM := by
  refine hv14 (cap_le (t := 2) (m := 6000) h hS rfl rfl rfl rfl rfl) (cap_le (t := 3) (m := 1000) h hS rfl rfl rfl rfl rfl) (cap_le (t := 4) (m := 8000) h hS rfl rfl rfl rfl rfl) (cap_le (t := 5) (m := 400) h hS rfl rfl rfl rfl rfl) (cap_le (t := 6) (m := 12006) h hS rfl rfl rfl rfl rfl) (cap_le (t := 7) (m := 12006) h hS rfl rfl rfl rfl rfl) (cap_le (t := 8) (m := 80400) h hS rfl rfl rfl rfl rfl) (cap_le (t := 9) (m := 80400) h hS rfl rfl rfl rfl rfl) (cap_le (t := 10) (m := 8002) h hS rfl rfl rfl rfl rfl) (cap_le (t := 11) (m := 80000) h hS rfl rfl rfl rfl rfl) (cap_le (t := 24) (m := 9100) h hS rfl rfl rfl rfl rfl) (cap_le (t := 25) (m := 9100) h hS rfl rfl rfl rfl rfl) (nn_le (rv (sk 67)) 200) (nn_le (rv (sk 69)) 200) (fun c2 c3 c4 c5 c6 c7 c8 c9 c10 c11 c24 c25 n1 n2 => ?_)
  unfold Phi
  show _ ≤ 1110000
  omega
theorem Phi.congr {g : Nat} {sk : Nat → Nat} {ln ln2 : Nat → Nat} {rv rv2 : Nat → Nat → Option Nat} (h : ∀ t, uq t = true → pot (bt t) = true → rv2 (sk t) = rv (sk t)) (hl : ∀ t b, uq t = true → pot (bt t) = true → szd t = true → rv (sk t) 1 = some b → b ≠ g → ln2 b = ln b) : Phi g sk ln2 rv2 = Phi g sk ln rv := by
  have hc : ∀ t, uq t = true → pot (bt t) = true → szd t = true → cap g ln2 rv2 (sk t) = cap g ln rv (sk t) := by
    intro t ht hp hs
    unfold cap
    rw [h t ht hp]
    split
    · rename_i b e
      split
      · rfl
      · rename_i hg; exact hl t b ht hp hs e hg
    · rfl
  unfold Phi
  rw [hc 2 rfl rfl rfl, hc 3 rfl rfl rfl, hc 4 rfl rfl rfl, hc 5 rfl rfl rfl, hc 6 rfl rfl rfl, hc 7 rfl rfl rfl, hc 8 rfl rfl rfl, hc 9 rfl rfl rfl, hc 10 rfl rfl rfl, hc 11 rfl rfl rfl, hc 24 rfl rfl rfl, hc 25 rfl rfl rfl, h 67 rfl rfl, h 69 rfl rfl]
theorem Phi.putr {g : Nat} {sk : Nat → Nat} {L : List Nat} {cl ln : Nat → Nat} {rv rv2 : Nat → Nat → Option Nat} {a k T : Nat} {x : Option Nat} (hS : SKL sk L cl) (he : rv2 = upr rv a k x) (ha : ty L cl a T) (hp : pot T = false) : Phi g sk ln rv2 = Phi g sk ln rv := by
  refine Phi.congr (fun t ht hq => ?_) (fun _ _ _ _ _ _ _ => rfl)
  rw [he, upr_a (fun e => ?_)]
  rw [← ha.2, ← e, (hS t ht).2, hq] at hp; cases hp
