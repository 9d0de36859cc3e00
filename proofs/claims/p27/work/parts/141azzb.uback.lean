section
section UBAC
variable {h : Nat} {sk : Nat → Nat} {L L1 L3 : List Nat} {cl ln cl1 ln1 cl3 ln3 : Nat → Nat} {iv iv1 iv2 iv3 iv4 : Nat → Nat → Int} {rv rv1 rv2 rv3 rv4 : Nat → Nat → Option Nat} {a : Nat → Nat → Int} {s cb : Nat} {k x f f1 f2 q u : Int} {l0 l1 : List Int} {R W : Nat → Int} {ls : List Nat}
theorem LTW.fx (hl : LTW iv rv s W q u) (hW : WT h sk L cl ln iv rv) (ts : ty L cl s 15) (hF : fT ls L cl iv rv iv1 rv1) (c1 : ls.contains 15 = false) (c2 : ls.contains 50 = false) : LTW iv1 rv1 s W q u := fun lb hb j h1 h2 => by
  rw [hF.r ts c1 0] at hb
  obtain ⟨b', w1, tb⟩ := hW.ref ts 0 rfl rfl rfl
  rw [hb] at w1
  cases w1
  rw [hF.i tb c2]
  exact hl lb hb j h1 h2
end UBAC
end
section
def LTB (a : Nat → Nat → Int) (l : List Int) : Prop := ∀ (j : Nat) (d : Int), l[j]? = some d → 0 ≤ d → ∀ k : Nat, ((k : Nat) : Int) < a 12 d.toNat → 33 ≤ a 14 (8 * d + ((k : Nat) : Int)).toNat
section GPRD
variable {g0 : Nat} {sk : Nat → Nat} {L L1 L2 : List Nat} {cl ln cl1 ln1 cl2 ln2 : Nat → Nat} {iv iv1 iv2 iv3 : Nat → Nat → Int} {rv rv1 rv2 rv3 : Nat → Nat → Option Nat} {v : Nat → Int} {a : Nat → Nat → Int} {l0 l1 l : List Int} {C : Nat → Int} {F : Int32} {q b h0 sA r eb : Nat} {n p g h d x y z f k i t m u s f2 z1 z2 lx : Int} {ls : List Nat} {K Z : List (List Int)}
theorem mem_fmp {fu : Option Int → List (List Int)} {w : List Int} : ∀ l : List (Option Int), w ∈ fmp fu l → ∃ o ∈ l, w ∈ fu o := by
  intro l
  induction l with
  | nil => intro e; exact absurd e (List.not_mem_nil)
  | cons o l ih =>
    intro e
    have e2 : w ∈ fu o ++ fmp fu l := e
    rcases List.mem_append.mp e2 with e3 | e3
    · exact ⟨o, List.mem_cons_self .., e3⟩
    · obtain ⟨o2, h1, h2⟩ := ih e3
      exact ⟨o2, List.mem_cons_of_mem _ h1, h2⟩
theorem rlt_nn : ∀ (m : Nat), (∀ k : Nat, k < m → 33 ≤ a 14 (8 * d + ((k : Nat) : Int)).toNat) → (h = 1 → 97 ≤ a 14 (8 * d).toNat) → ∀ z, z ∈ rlt a d h m → 0 ≤ z := by
  intro m
  induction m with
  | zero => intro _ _ z e; exact absurd e (List.not_mem_nil)
  | succ m ih =>
    intro hh h9 z e
    have e2 : z ∈ rlt a d h m ++ [a 14 (8 * d + ((m : Nat) : Int)).toNat - (if h = 1 ∧ m = 0 then 32 else 0)] := e
    rcases List.mem_append.mp e2 with e3 | e3
    · exact ih (fun k hk => hh k (by omega)) h9 z e3
    · have e4 := List.mem_singleton.mp e3
      have b := hh m (by omega)
      rw [e4]
      split <;> omega
theorem rdl_nn (hl0 : LTB a l0) (hl1 : LTB a l1) : ∀ (m : Nat) (p g h : Int) (w : List Int), w ∈ rdl a l0 l1 C F n m p g h → ∀ z, z ∈ w → 0 ≤ z := by
  intro m
  induction m with
  | zero => intro p g h w e; exact absurd e (List.not_mem_nil)
  | succ m ih =>
    intro p g h w e z hz
    rw [rdl_s] at e
    by_cases c : p = n
    · rw [if_pos c] at e
      by_cases c2 : h = 1
      · rw [if_pos c2] at e
        exact absurd e (List.not_mem_nil)
      · rw [if_neg c2] at e
        rw [List.mem_singleton.mp e] at hz
        exact absurd hz (List.not_mem_nil)
    · rw [if_neg c] at e
      obtain ⟨o, o1, o2⟩ := mem_fmp _ e
      by_cases my : MYO a C F n p h o
      · rw [cif_t my] at o2
        obtain ⟨u, u1, u2⟩ := List.mem_map.mp o2
        rw [← u2] at hz
        rcases List.mem_append.mp hz with hz | hz
        · cases o with
          | none =>
            have e3 : z ∈ [(32 : Int)] := hz
            rw [List.mem_singleton.mp e3]
            decide
          | some d =>
            refine hv2 (show z ∈ rout a d h from hz) (show MYR a C F n d p h from my) (fun e3 m2 => ?_)
            have dm : ∃ j : Nat, (if g = 0 then l0 else l1)[j]? = some d := by
              rcases List.mem_cons.mp o1 with q1 | q1
              · cases q1
              · obtain ⟨d2, q2, q3⟩ := List.mem_map.mp q1
                cases q3
                exact List.getElem?_of_mem q2
            obtain ⟨j, hj⟩ := dm
            have lt : LTB a (if g = 0 then l0 else l1) := by
              by_cases c3 : g = 0
              · rw [if_pos c3]
                exact hl0
              · rw [if_neg c3]
                exact hl1
            unfold rout at e3
            by_cases hd : 0 ≤ d
            · rw [if_pos hd] at e3
              exact rlt_nn _ (fun k hk => lt j d hj hd k (by omega)) (fun e => (m2.1.2 e).2.1) z e3
            · rw [if_neg hd] at e3
              by_cases r2 : rol d = 2
              · rw [if_pos r2] at e3
                rw [List.mem_singleton.mp e3]
                decide
              · rw [if_neg r2] at e3
                by_cases r3 : rol d = 3
                · rw [if_pos r3] at e3
                  rw [List.mem_singleton.mp e3]
                  decide
                · rw [if_neg r3] at e3
                  exact absurd e3 (List.not_mem_nil)
        · exact ih _ _ _ u u1 z hz
      · rw [cif_f my] at o2
        exact absurd o2 (List.not_mem_nil)
theorem KMQ.nn {W : Nat} (hk : KMQ W (RDC a l0 l1 C F n p g h) K x) (h0 : LTB a l0) (h1 : LTB a l1) : (∀ (k : Nat) (w : List Int), K[k]? = some w → ∀ (j : Nat) (z : Int), w[j]? = some z → 0 ≤ z) := fun k w e j z ez => by
  have e2 := List.mem_of_getElem? e
  rw [hk.1] at e2
  exact rdl_nn h0 h1 _ _ _ _ w (List.mem_of_mem_take e2) z (List.mem_of_getElem? ez)
end GPRD
section GPR2
variable {g0 : Nat} {sk : Nat → Nat} {L : List Nat} {cl ln : Nat → Nat} {iv iv1 : Nat → Nat → Int} {rv rv1 : Nat → Nat → Option Nat} {v : Nat → Int} {a : Nat → Nat → Int} {r sA q : Nat} {xs : List Int} {E : List (Option (List Int))} {t l m : Int} {ls : List Nat} {K : List (List Int)}
end GPR2
end
section
theorem bit8 {i : Nat} (h : ¬ i < 8) : (255#32 : BitVec 32).getLsbD i = false := by
  rw [show (255#32 : BitVec 32) = BitVec.setWidth 32 (255#8) from by decide, BitVec.getLsbD_setWidth, BitVec.getLsbD_of_ge (255#8) i (by omega), Bool.and_false]
theorem shr8 (x : BitVec 32) (n : Nat) (h : n ≤ 24) : (x >>> n) &&& 255#32 = (x.sshiftRight n) &&& 255#32 := by
  apply BitVec.eq_of_getLsbD_eq
  intro i hi
  rw [BitVec.getLsbD_and, BitVec.getLsbD_and]
  by_cases h8 : i < 8
  · rw [BitVec.getLsbD_ushiftRight, BitVec.getLsbD_sshiftRight]
    have h1 : ¬ (32 ≤ i) := by omega
    have h2 : n + i < 32 := by omega
    simp [h1, h2]
  · rw [bit8 h8, Bool.and_false, Bool.and_false]
theorem byx_k (x : Int) (n : Nat) (hn : n ≤ 24) (s1 : UInt32) (e1 : s1.toBitVec = BitVec.ofNat 32 n) (s2 : Int32) (e2 : s2.toBitVec = BitVec.ofNat 32 n) : ((iI x).toUInt32 >>> s1).toInt32 &&& iI 255 = (iI x >>> s2) &&& iI 255 := by
  refine hv2 (show ∀ m : Nat, m ≤ 24 → (BitVec.ofNat 32 m % 32#32).toNat = m from by decide +kernel) (show ∀ m : Nat, m ≤ 24 → ((BitVec.ofNat 32 m).smod 32#32).toNat = m from by decide +kernel) (fun h1 h2 => ?_)
  have b1 : ((iI x).toUInt32 >>> s1).toInt32.toBitVec = (iI x).toBitVec >>> n := by
    show (iI x).toBitVec >>> (s1.toBitVec % 32#32).toNat = _
    rw [e1, h1 n hn]
  have b2 : (iI x >>> s2).toBitVec = (iI x).toBitVec.sshiftRight n := by
    show (iI x).toBitVec.sshiftRight (s2.toBitVec.smod 32#32).toNat = _
    rw [e2, h2 n hn]
  apply Int32.toBitVec_inj.mp
  rw [Int32.toBitVec_and, Int32.toBitVec_and, b1, b2]
  exact shr8 _ n hn
theorem byx_r (x : Int) : byx x 0 = rby x 0 ∧ byx x 1 = rby x 1 ∧ byx x 2 = rby x 2 ∧ byx x 3 = rby x 3 := by
  refine ⟨?_, ?_, ?_, ?_⟩
  · unfold byx rby; exact congrArg Int32.toInt (byx_k x 24 (by decide) _ (by decide +kernel) _ (by decide +kernel))
  · unfold byx rby; exact congrArg Int32.toInt (byx_k x 16 (by decide) _ (by decide +kernel) _ (by decide +kernel))
  · unfold byx rby; exact congrArg Int32.toInt (byx_k x 8 (by decide) _ (by decide +kernel) _ (by decide +kernel))
  · unfold byx rby; exact congrArg Int32.toInt (byx_k x 0 (by decide) _ (by decide +kernel) _ (by decide +kernel))
theorem rby_4 (x : Int) : (rby x 4 = rby x 0 ∧ rby x 8 = rby x 0 ∧ rby x 12 = rby x 0 ∧ rby x 16 = rby x 0) ∧ (rby x 5 = rby x 1 ∧ rby x 9 = rby x 1 ∧ rby x 13 = rby x 1 ∧ rby x 17 = rby x 1) ∧ (rby x 6 = rby x 2 ∧ rby x 10 = rby x 2 ∧ rby x 14 = rby x 2 ∧ rby x 18 = rby x 2) ∧ (rby x 7 = rby x 3 ∧ rby x 11 = rby x 3 ∧ rby x 15 = rby x 3 ∧ rby x 19 = rby x 3) := by
  have k : ∀ i j : Int, (iI i &&& iI 3) = (iI j &&& iI 3) → rby x i = rby x j := fun i j h => by unfold rby; rw [h]
  exact ⟨⟨k _ _ (by decide), k _ _ (by decide), k _ _ (by decide), k _ _ (by decide)⟩, ⟨k _ _ (by decide), k _ _ (by decide), k _ _ (by decide), k _ _ (by decide)⟩, ⟨k _ _ (by decide), k _ _ (by decide), k _ _ (by decide), k _ _ (by decide)⟩, ⟨k _ _ (by decide), k _ _ (by decide), k _ _ (by decide), k _ _ (by decide)⟩⟩
theorem fd_rfd (ss : Nat → Int) (n : Nat) (x1 x2 x3 x4 x5 : Int) : fd5 ss n x1 x2 x3 x4 x5 = rfd ss n x1 x2 x3 x4 x5 20 := by
  have s0 : bsel ((0 : Nat) : Int) x1 x2 x3 x4 x5 = x1 := by unfold bsel; rw [if_pos (by decide)]
  have r1 : rfd ss n x1 x2 x3 x4 x5 1 = (va_up ss (n + 0) (rby x1 0)) := by
    show va_up (rfd ss n x1 x2 x3 x4 x5 0) (n + 0) (rby (bsel ((0 : Nat) : Int) x1 x2 x3 x4 x5) ((0 : Nat) : Int)) = _
    (rw [s0]) <;> rfl
  have s1 : bsel ((1 : Nat) : Int) x1 x2 x3 x4 x5 = x1 := by unfold bsel; rw [if_pos (by decide)]
  have r2 : rfd ss n x1 x2 x3 x4 x5 2 = (va_up (va_up ss (n + 0) (rby x1 0)) (n + 1) (rby x1 1)) := by
    show va_up (rfd ss n x1 x2 x3 x4 x5 1) (n + 1) (rby (bsel ((1 : Nat) : Int) x1 x2 x3 x4 x5) ((1 : Nat) : Int)) = _
    (rw [s1, r1]) <;> rfl
  have s2 : bsel ((2 : Nat) : Int) x1 x2 x3 x4 x5 = x1 := by unfold bsel; rw [if_pos (by decide)]
  have r3 : rfd ss n x1 x2 x3 x4 x5 3 = (va_up (va_up (va_up ss (n + 0) (rby x1 0)) (n + 1) (rby x1 1)) (n + 2) (rby x1 2)) := by
    show va_up (rfd ss n x1 x2 x3 x4 x5 2) (n + 2) (rby (bsel ((2 : Nat) : Int) x1 x2 x3 x4 x5) ((2 : Nat) : Int)) = _
    (rw [s2, r2]) <;> rfl
  have s3 : bsel ((3 : Nat) : Int) x1 x2 x3 x4 x5 = x1 := by unfold bsel; rw [if_pos (by decide)]
  have r4 : rfd ss n x1 x2 x3 x4 x5 4 = (va_up (va_up (va_up (va_up ss (n + 0) (rby x1 0)) (n + 1) (rby x1 1)) (n + 2) (rby x1 2)) (n + 3) (rby x1 3)) := by
    show va_up (rfd ss n x1 x2 x3 x4 x5 3) (n + 3) (rby (bsel ((3 : Nat) : Int) x1 x2 x3 x4 x5) ((3 : Nat) : Int)) = _
    (rw [s3, r3]) <;> rfl
  have s4 : bsel ((4 : Nat) : Int) x1 x2 x3 x4 x5 = x2 := by unfold bsel; rw [if_neg (by decide), if_pos (by decide)]
  have r5 : rfd ss n x1 x2 x3 x4 x5 5 = (va_up (va_up (va_up (va_up (va_up ss (n + 0) (rby x1 0)) (n + 1) (rby x1 1)) (n + 2) (rby x1 2)) (n + 3) (rby x1 3)) (n + 4) (rby x2 4)) := by
    show va_up (rfd ss n x1 x2 x3 x4 x5 4) (n + 4) (rby (bsel ((4 : Nat) : Int) x1 x2 x3 x4 x5) ((4 : Nat) : Int)) = _
    (rw [s4, r4]) <;> rfl
  have s5 : bsel ((5 : Nat) : Int) x1 x2 x3 x4 x5 = x2 := by unfold bsel; rw [if_neg (by decide), if_pos (by decide)]
  have r6 : rfd ss n x1 x2 x3 x4 x5 6 = (va_up (va_up (va_up (va_up (va_up (va_up ss (n + 0) (rby x1 0)) (n + 1) (rby x1 1)) (n + 2) (rby x1 2)) (n + 3) (rby x1 3)) (n + 4) (rby x2 4)) (n + 5) (rby x2 5)) := by
    show va_up (rfd ss n x1 x2 x3 x4 x5 5) (n + 5) (rby (bsel ((5 : Nat) : Int) x1 x2 x3 x4 x5) ((5 : Nat) : Int)) = _
    (rw [s5, r5]) <;> rfl
  have s6 : bsel ((6 : Nat) : Int) x1 x2 x3 x4 x5 = x2 := by unfold bsel; rw [if_neg (by decide), if_pos (by decide)]
  have r7 : rfd ss n x1 x2 x3 x4 x5 7 = (va_up (va_up (va_up (va_up (va_up (va_up (va_up ss (n + 0) (rby x1 0)) (n + 1) (rby x1 1)) (n + 2) (rby x1 2)) (n + 3) (rby x1 3)) (n + 4) (rby x2 4)) (n + 5) (rby x2 5)) (n + 6) (rby x2 6)) := by
    show va_up (rfd ss n x1 x2 x3 x4 x5 6) (n + 6) (rby (bsel ((6 : Nat) : Int) x1 x2 x3 x4 x5) ((6 : Nat) : Int)) = _
    (rw [s6, r6]) <;> rfl
  have s7 : bsel ((7 : Nat) : Int) x1 x2 x3 x4 x5 = x2 := by unfold bsel; rw [if_neg (by decide), if_pos (by decide)]
  have r8 : rfd ss n x1 x2 x3 x4 x5 8 = (va_up (va_up (va_up (va_up (va_up (va_up (va_up (va_up ss (n + 0) (rby x1 0)) (n + 1) (rby x1 1)) (n + 2) (rby x1 2)) (n + 3) (rby x1 3)) (n + 4) (rby x2 4)) (n + 5) (rby x2 5)) (n + 6) (rby x2 6)) (n + 7) (rby x2 7)) := by
    show va_up (rfd ss n x1 x2 x3 x4 x5 7) (n + 7) (rby (bsel ((7 : Nat) : Int) x1 x2 x3 x4 x5) ((7 : Nat) : Int)) = _
    (rw [s7, r7]) <;> rfl
  have s8 : bsel ((8 : Nat) : Int) x1 x2 x3 x4 x5 = x3 := by unfold bsel; rw [if_neg (by decide), if_neg (by decide), if_pos (by decide)]
  have r9 : rfd ss n x1 x2 x3 x4 x5 9 = (va_up (va_up (va_up (va_up (va_up (va_up (va_up (va_up (va_up ss (n + 0) (rby x1 0)) (n + 1) (rby x1 1)) (n + 2) (rby x1 2)) (n + 3) (rby x1 3)) (n + 4) (rby x2 4)) (n + 5) (rby x2 5)) (n + 6) (rby x2 6)) (n + 7) (rby x2 7)) (n + 8) (rby x3 8)) := by
    show va_up (rfd ss n x1 x2 x3 x4 x5 8) (n + 8) (rby (bsel ((8 : Nat) : Int) x1 x2 x3 x4 x5) ((8 : Nat) : Int)) = _
    (rw [s8, r8]) <;> rfl
  have s9 : bsel ((9 : Nat) : Int) x1 x2 x3 x4 x5 = x3 := by unfold bsel; rw [if_neg (by decide), if_neg (by decide), if_pos (by decide)]
  have r10 : rfd ss n x1 x2 x3 x4 x5 10 = (va_up (va_up (va_up (va_up (va_up (va_up (va_up (va_up (va_up (va_up ss (n + 0) (rby x1 0)) (n + 1) (rby x1 1)) (n + 2) (rby x1 2)) (n + 3) (rby x1 3)) (n + 4) (rby x2 4)) (n + 5) (rby x2 5)) (n + 6) (rby x2 6)) (n + 7) (rby x2 7)) (n + 8) (rby x3 8)) (n + 9) (rby x3 9)) := by
    show va_up (rfd ss n x1 x2 x3 x4 x5 9) (n + 9) (rby (bsel ((9 : Nat) : Int) x1 x2 x3 x4 x5) ((9 : Nat) : Int)) = _
    (rw [s9, r9]) <;> rfl
  have s10 : bsel ((10 : Nat) : Int) x1 x2 x3 x4 x5 = x3 := by unfold bsel; rw [if_neg (by decide), if_neg (by decide), if_pos (by decide)]
  have r11 : rfd ss n x1 x2 x3 x4 x5 11 = (va_up (va_up (va_up (va_up (va_up (va_up (va_up (va_up (va_up (va_up (va_up ss (n + 0) (rby x1 0)) (n + 1) (rby x1 1)) (n + 2) (rby x1 2)) (n + 3) (rby x1 3)) (n + 4) (rby x2 4)) (n + 5) (rby x2 5)) (n + 6) (rby x2 6)) (n + 7) (rby x2 7)) (n + 8) (rby x3 8)) (n + 9) (rby x3 9)) (n + 10) (rby x3 10)) := by
    show va_up (rfd ss n x1 x2 x3 x4 x5 10) (n + 10) (rby (bsel ((10 : Nat) : Int) x1 x2 x3 x4 x5) ((10 : Nat) : Int)) = _
    (rw [s10, r10]) <;> rfl
  have s11 : bsel ((11 : Nat) : Int) x1 x2 x3 x4 x5 = x3 := by unfold bsel; rw [if_neg (by decide), if_neg (by decide), if_pos (by decide)]
  have r12 : rfd ss n x1 x2 x3 x4 x5 12 = (va_up (va_up (va_up (va_up (va_up (va_up (va_up (va_up (va_up (va_up (va_up (va_up ss (n + 0) (rby x1 0)) (n + 1) (rby x1 1)) (n + 2) (rby x1 2)) (n + 3) (rby x1 3)) (n + 4) (rby x2 4)) (n + 5) (rby x2 5)) (n + 6) (rby x2 6)) (n + 7) (rby x2 7)) (n + 8) (rby x3 8)) (n + 9) (rby x3 9)) (n + 10) (rby x3 10)) (n + 11) (rby x3 11)) := by
    show va_up (rfd ss n x1 x2 x3 x4 x5 11) (n + 11) (rby (bsel ((11 : Nat) : Int) x1 x2 x3 x4 x5) ((11 : Nat) : Int)) = _
    (rw [s11, r11]) <;> rfl
  have s12 : bsel ((12 : Nat) : Int) x1 x2 x3 x4 x5 = x4 := by unfold bsel; rw [if_neg (by decide), if_neg (by decide), if_neg (by decide), if_pos (by decide)]
  have r13 : rfd ss n x1 x2 x3 x4 x5 13 = (va_up (va_up (va_up (va_up (va_up (va_up (va_up (va_up (va_up (va_up (va_up (va_up (va_up ss (n + 0) (rby x1 0)) (n + 1) (rby x1 1)) (n + 2) (rby x1 2)) (n + 3) (rby x1 3)) (n + 4) (rby x2 4)) (n + 5) (rby x2 5)) (n + 6) (rby x2 6)) (n + 7) (rby x2 7)) (n + 8) (rby x3 8)) (n + 9) (rby x3 9)) (n + 10) (rby x3 10)) (n + 11) (rby x3 11)) (n + 12) (rby x4 12)) := by
    show va_up (rfd ss n x1 x2 x3 x4 x5 12) (n + 12) (rby (bsel ((12 : Nat) : Int) x1 x2 x3 x4 x5) ((12 : Nat) : Int)) = _
    (rw [s12, r12]) <;> rfl
  have s13 : bsel ((13 : Nat) : Int) x1 x2 x3 x4 x5 = x4 := by unfold bsel; rw [if_neg (by decide), if_neg (by decide), if_neg (by decide), if_pos (by decide)]
  have r14 : rfd ss n x1 x2 x3 x4 x5 14 = (va_up (va_up (va_up (va_up (va_up (va_up (va_up (va_up (va_up (va_up (va_up (va_up (va_up (va_up ss (n + 0) (rby x1 0)) (n + 1) (rby x1 1)) (n + 2) (rby x1 2)) (n + 3) (rby x1 3)) (n + 4) (rby x2 4)) (n + 5) (rby x2 5)) (n + 6) (rby x2 6)) (n + 7) (rby x2 7)) (n + 8) (rby x3 8)) (n + 9) (rby x3 9)) (n + 10) (rby x3 10)) (n + 11) (rby x3 11)) (n + 12) (rby x4 12)) (n + 13) (rby x4 13)) := by
    show va_up (rfd ss n x1 x2 x3 x4 x5 13) (n + 13) (rby (bsel ((13 : Nat) : Int) x1 x2 x3 x4 x5) ((13 : Nat) : Int)) = _
    (rw [s13, r13]) <;> rfl
  have s14 : bsel ((14 : Nat) : Int) x1 x2 x3 x4 x5 = x4 := by unfold bsel; rw [if_neg (by decide), if_neg (by decide), if_neg (by decide), if_pos (by decide)]
  have r15 : rfd ss n x1 x2 x3 x4 x5 15 = (va_up (va_up (va_up (va_up (va_up (va_up (va_up (va_up (va_up (va_up (va_up (va_up (va_up (va_up (va_up ss (n + 0) (rby x1 0)) (n + 1) (rby x1 1)) (n + 2) (rby x1 2)) (n + 3) (rby x1 3)) (n + 4) (rby x2 4)) (n + 5) (rby x2 5)) (n + 6) (rby x2 6)) (n + 7) (rby x2 7)) (n + 8) (rby x3 8)) (n + 9) (rby x3 9)) (n + 10) (rby x3 10)) (n + 11) (rby x3 11)) (n + 12) (rby x4 12)) (n + 13) (rby x4 13)) (n + 14) (rby x4 14)) := by
    show va_up (rfd ss n x1 x2 x3 x4 x5 14) (n + 14) (rby (bsel ((14 : Nat) : Int) x1 x2 x3 x4 x5) ((14 : Nat) : Int)) = _
    (rw [s14, r14]) <;> rfl
  have s15 : bsel ((15 : Nat) : Int) x1 x2 x3 x4 x5 = x4 := by unfold bsel; rw [if_neg (by decide), if_neg (by decide), if_neg (by decide), if_pos (by decide)]
  have r16 : rfd ss n x1 x2 x3 x4 x5 16 = (va_up (va_up (va_up (va_up (va_up (va_up (va_up (va_up (va_up (va_up (va_up (va_up (va_up (va_up (va_up (va_up ss (n + 0) (rby x1 0)) (n + 1) (rby x1 1)) (n + 2) (rby x1 2)) (n + 3) (rby x1 3)) (n + 4) (rby x2 4)) (n + 5) (rby x2 5)) (n + 6) (rby x2 6)) (n + 7) (rby x2 7)) (n + 8) (rby x3 8)) (n + 9) (rby x3 9)) (n + 10) (rby x3 10)) (n + 11) (rby x3 11)) (n + 12) (rby x4 12)) (n + 13) (rby x4 13)) (n + 14) (rby x4 14)) (n + 15) (rby x4 15)) := by
    show va_up (rfd ss n x1 x2 x3 x4 x5 15) (n + 15) (rby (bsel ((15 : Nat) : Int) x1 x2 x3 x4 x5) ((15 : Nat) : Int)) = _
    (rw [s15, r15]) <;> rfl
  have s16 : bsel ((16 : Nat) : Int) x1 x2 x3 x4 x5 = x5 := by unfold bsel; rw [if_neg (by decide), if_neg (by decide), if_neg (by decide), if_neg (by decide)]
  have r17 : rfd ss n x1 x2 x3 x4 x5 17 = (va_up (va_up (va_up (va_up (va_up (va_up (va_up (va_up (va_up (va_up (va_up (va_up (va_up (va_up (va_up (va_up (va_up ss (n + 0) (rby x1 0)) (n + 1) (rby x1 1)) (n + 2) (rby x1 2)) (n + 3) (rby x1 3)) (n + 4) (rby x2 4)) (n + 5) (rby x2 5)) (n + 6) (rby x2 6)) (n + 7) (rby x2 7)) (n + 8) (rby x3 8)) (n + 9) (rby x3 9)) (n + 10) (rby x3 10)) (n + 11) (rby x3 11)) (n + 12) (rby x4 12)) (n + 13) (rby x4 13)) (n + 14) (rby x4 14)) (n + 15) (rby x4 15)) (n + 16) (rby x5 16)) := by
    show va_up (rfd ss n x1 x2 x3 x4 x5 16) (n + 16) (rby (bsel ((16 : Nat) : Int) x1 x2 x3 x4 x5) ((16 : Nat) : Int)) = _
    (rw [s16, r16]) <;> rfl
  have s17 : bsel ((17 : Nat) : Int) x1 x2 x3 x4 x5 = x5 := by unfold bsel; rw [if_neg (by decide), if_neg (by decide), if_neg (by decide), if_neg (by decide)]
  have r18 : rfd ss n x1 x2 x3 x4 x5 18 = (va_up (va_up (va_up (va_up (va_up (va_up (va_up (va_up (va_up (va_up (va_up (va_up (va_up (va_up (va_up (va_up (va_up (va_up ss (n + 0) (rby x1 0)) (n + 1) (rby x1 1)) (n + 2) (rby x1 2)) (n + 3) (rby x1 3)) (n + 4) (rby x2 4)) (n + 5) (rby x2 5)) (n + 6) (rby x2 6)) (n + 7) (rby x2 7)) (n + 8) (rby x3 8)) (n + 9) (rby x3 9)) (n + 10) (rby x3 10)) (n + 11) (rby x3 11)) (n + 12) (rby x4 12)) (n + 13) (rby x4 13)) (n + 14) (rby x4 14)) (n + 15) (rby x4 15)) (n + 16) (rby x5 16)) (n + 17) (rby x5 17)) := by
    show va_up (rfd ss n x1 x2 x3 x4 x5 17) (n + 17) (rby (bsel ((17 : Nat) : Int) x1 x2 x3 x4 x5) ((17 : Nat) : Int)) = _
    (rw [s17, r17]) <;> rfl
  have s18 : bsel ((18 : Nat) : Int) x1 x2 x3 x4 x5 = x5 := by unfold bsel; rw [if_neg (by decide), if_neg (by decide), if_neg (by decide), if_neg (by decide)]
  have r19 : rfd ss n x1 x2 x3 x4 x5 19 = (va_up (va_up (va_up (va_up (va_up (va_up (va_up (va_up (va_up (va_up (va_up (va_up (va_up (va_up (va_up (va_up (va_up (va_up (va_up ss (n + 0) (rby x1 0)) (n + 1) (rby x1 1)) (n + 2) (rby x1 2)) (n + 3) (rby x1 3)) (n + 4) (rby x2 4)) (n + 5) (rby x2 5)) (n + 6) (rby x2 6)) (n + 7) (rby x2 7)) (n + 8) (rby x3 8)) (n + 9) (rby x3 9)) (n + 10) (rby x3 10)) (n + 11) (rby x3 11)) (n + 12) (rby x4 12)) (n + 13) (rby x4 13)) (n + 14) (rby x4 14)) (n + 15) (rby x4 15)) (n + 16) (rby x5 16)) (n + 17) (rby x5 17)) (n + 18) (rby x5 18)) := by
    show va_up (rfd ss n x1 x2 x3 x4 x5 18) (n + 18) (rby (bsel ((18 : Nat) : Int) x1 x2 x3 x4 x5) ((18 : Nat) : Int)) = _
    (rw [s18, r18]) <;> rfl
  have s19 : bsel ((19 : Nat) : Int) x1 x2 x3 x4 x5 = x5 := by unfold bsel; rw [if_neg (by decide), if_neg (by decide), if_neg (by decide), if_neg (by decide)]
  have r20 : rfd ss n x1 x2 x3 x4 x5 20 = (va_up (va_up (va_up (va_up (va_up (va_up (va_up (va_up (va_up (va_up (va_up (va_up (va_up (va_up (va_up (va_up (va_up (va_up (va_up (va_up ss (n + 0) (rby x1 0)) (n + 1) (rby x1 1)) (n + 2) (rby x1 2)) (n + 3) (rby x1 3)) (n + 4) (rby x2 4)) (n + 5) (rby x2 5)) (n + 6) (rby x2 6)) (n + 7) (rby x2 7)) (n + 8) (rby x3 8)) (n + 9) (rby x3 9)) (n + 10) (rby x3 10)) (n + 11) (rby x3 11)) (n + 12) (rby x4 12)) (n + 13) (rby x4 13)) (n + 14) (rby x4 14)) (n + 15) (rby x4 15)) (n + 16) (rby x5 16)) (n + 17) (rby x5 17)) (n + 18) (rby x5 18)) (n + 19) (rby x5 19)) := by
    show va_up (rfd ss n x1 x2 x3 x4 x5 19) (n + 19) (rby (bsel ((19 : Nat) : Int) x1 x2 x3 x4 x5) ((19 : Nat) : Int)) = _
    (rw [s19, r19]) <;> rfl
  obtain ⟨y10, y11, y12, y13⟩ := byx_r x1
  obtain ⟨y20, y21, y22, y23⟩ := byx_r x2
  obtain ⟨y30, y31, y32, y33⟩ := byx_r x3
  obtain ⟨y40, y41, y42, y43⟩ := byx_r x4
  obtain ⟨y50, y51, y52, y53⟩ := byx_r x5
  obtain ⟨⟨f4, _, _, _⟩, ⟨f5, _, _, _⟩, ⟨f6, _, _, _⟩, ⟨f7, _, _, _⟩⟩ := rby_4 x2
  obtain ⟨⟨_, f8, _, _⟩, ⟨_, f9, _, _⟩, ⟨_, f10, _, _⟩, ⟨_, f11, _, _⟩⟩ := rby_4 x3
  obtain ⟨⟨_, _, f12, _⟩, ⟨_, _, f13, _⟩, ⟨_, _, f14, _⟩, ⟨_, _, f15, _⟩⟩ := rby_4 x4
  obtain ⟨⟨_, _, _, f16⟩, ⟨_, _, _, f17⟩, ⟨_, _, _, f18⟩, ⟨_, _, _, f19⟩⟩ := rby_4 x5
  have lh : fd5 ss n x1 x2 x3 x4 x5 = (va_up (va_up (va_up (va_up (va_up (va_up (va_up (va_up (va_up (va_up (va_up (va_up (va_up (va_up (va_up (va_up (va_up (va_up (va_up (va_up ss (n + 0) (byx x1 0)) (n + 1) (byx x1 1)) (n + 2) (byx x1 2)) (n + 3) (byx x1 3)) (n + 4) (byx x2 0)) (n + 5) (byx x2 1)) (n + 6) (byx x2 2)) (n + 7) (byx x2 3)) (n + 8) (byx x3 0)) (n + 9) (byx x3 1)) (n + 10) (byx x3 2)) (n + 11) (byx x3 3)) (n + 12) (byx x4 0)) (n + 13) (byx x4 1)) (n + 14) (byx x4 2)) (n + 15) (byx x4 3)) (n + 16) (byx x5 0)) (n + 17) (byx x5 1)) (n + 18) (byx x5 2)) (n + 19) (byx x5 3)) := rfl
  rw [lh, r20, f4, f5, f6, f7, f8, f9, f10, f11, f12, f13, f14, f15, f16, f17, f18, f19, y10, y11, y12, y13, y20, y21, y22, y23, y30, y31, y32, y33, y40, y41, y42, y43, y50, y51, y52, y53]
def REL (h0 : Nat) (sk : Nat → Nat) (_L : List Nat) (_cl ln : Nat → Nat) (iv : Nat → Nat → Int) (rv : Nat → Nat → Option Nat) (v : Nat → Int) (a : Nat → Nat → Int) : Prop := (iI (iv h0 14) = iI (v 56) ∧ iv h0 11 = v 31 ∧ iv h0 12 = v 32 ∧ iv h0 13 = v 33) ∧ (iv (sk 2) 2 = v 3 ∧ CT iv rv (sk 2) (a 2)) ∧ (iv (sk 3) 2 = v 30 ∧ CT iv rv (sk 3) (a 29)) ∧ TABR sk iv rv v a ∧ (∃ o, RP2 o sk ln iv rv v a) ∧ SEC v a
theorem sec_keep {v v2 : Nat → Int} {a a2 : Nat → Nat → Int} (h : SEC v a) (h4 : v2 4 ≤ v 4) (h6 : a2 6 = a 6) (h9 : a2 9 = a 9) : SEC v2 a2 := fun i hi => by rw [h6, h9]; exact h i (by omega)
theorem sec_same {v v2 : Nat → Int} {a a2 : Nat → Nat → Int} (h : SEC v a) (hq : TSAME v a v2 a2) : SEC v2 a2 := by
  obtain ⟨q4, q5, q6, q7, q10, q19, q18, q11, q8, q9, -⟩ := hq
  exact sec_keep h (Int.le_of_eq q4) q6 q9
theorem sec_new {k s : Int} {v v2 : Nat → Int} {a a2 : Nat → Nat → Int} (h : SEC v a) (h0 : 0 ≤ v 4) (q1 : v2 4 = v 4 + 1) (q3 : a2 6 = va_up (a 6) (v 4).toNat k) (q9 : a2 9 = va_up (a 9) (v 4).toNat s) (hs : k ≠ 5 → s = -1) : SEC v2 a2 := by
  intro i hi
  rw [q3, q9]
  by_cases e : i = (v 4).toNat
  · rw [e, va_up_self, va_up_self]; exact hs
  · rw [va_up_ne _ _ e, va_up_ne _ _ e]; exact h i (by omega)
theorem tbl_sec {x y i : Int} {f2 : Int} {v v2 : Nat → Int} {a a2 : Nat → Nat → Int} (h : SEC v a) (h0 : 0 ≤ v 4) (hq : ((f2 = -1 ∧ TSAME v a v2 a2 ∧ ¬ (0 ≤ x ∧ x ≤ 4 ∧ (y = 6 ∨ y = 8) ∧ v 4 ≠ 30 ∧ (x < 1 ∨ 3 < x ∨ (0 ≤ i ∧ i < v 4 ∧ a 5 i.toNat = 1 ∧ a 6 i.toNat ≤ 3)))) ∨ (f2 = v 4 ∧ (0 ≤ x ∧ x ≤ 4 ∧ (y = 6 ∨ y = 8) ∧ v 4 ≠ 30 ∧ (x < 1 ∨ 3 < x ∨ (0 ≤ i ∧ i < v 4 ∧ a 5 i.toNat = 1 ∧ a 6 i.toNat ≤ 3))) ∧ TNEW x y (if x < 1 ∨ 3 < x then -1 else i) (-1) v a v2 a2))) : SEC v2 a2 := by
  rcases hq with ⟨-, q, -⟩ | ⟨-, -, ⟨q1, q2, q3, q4, q5, q6, q7, q8, q9, -⟩⟩
  · exact sec_same h q
  · exact sec_new h h0 q1 q3 q9 (fun _ => rfl)
theorem joi_sec {i j : Int} {f2 : Int} {v v2 : Nat → Int} {a a2 : Nat → Nat → Int} (h : SEC v a) (h0 : 0 ≤ v 4) (hq : ((f2 = -1 ∧ TSAME v a v2 a2 ∧ ¬ (0 ≤ i ∧ i < v 4 ∧ a 5 i.toNat = 1 ∧ a 6 i.toNat ≤ 3 ∧ 0 ≤ j ∧ j < v 4 ∧ a 5 j.toNat = 1 ∧ a 6 j.toNat ≤ 3 ∧ v 4 ≠ 30)) ∨ (f2 = v 4 ∧ (0 ≤ i ∧ i < v 4 ∧ a 5 i.toNat = 1 ∧ a 6 i.toNat ≤ 3 ∧ 0 ≤ j ∧ j < v 4 ∧ a 5 j.toNat = 1 ∧ a 6 j.toNat ≤ 3 ∧ v 4 ≠ 30) ∧ TNEW 5 (max (a 7 i.toNat) (a 7 j.toNat)) i j v a v2 a2))) : SEC v2 a2 := by
  rcases hq with ⟨-, q, -⟩ | ⟨-, -, ⟨q1, q2, q3, q4, q5, q6, q7, q8, q9, -⟩⟩
  · exact sec_same h q
  · exact sec_new h h0 q1 q3 q9 (fun e => absurd rfl e)
theorem drp_sec {i : Int} {f2 : Int} {v v2 : Nat → Int} {a a2 : Nat → Nat → Int} (h : SEC v a) (h0 : 0 ≤ v 4) (hq : ((f2 = -1 ∧ TSAME v a v2 a2 ∧ ¬ (0 ≤ i ∧ i < v 4 ∧ a 5 i.toNat = 1)) ∨ (f2 = 1 ∧ (0 ≤ i ∧ i < v 4 ∧ a 5 i.toNat = 1) ∧ TDRP i v a v2 a2))) : SEC v2 a2 := by
  rcases hq with ⟨-, q, -⟩ | ⟨-, -, ⟨q4, q5, q6, q7, q10, qs, q11, q8, q9, -⟩⟩
  · exact sec_same h q
  · exact sec_keep h (Int.le_of_eq q4) q6 q9
theorem rul_sec {i x n : Int} {f2 : Int} {v v2 : Nat → Int} {a a2 : Nat → Nat → Int} (h : SEC v a) (h0 : 0 ≤ v 4) (hq : ((f2 = -1 ∧ TSAME v a v2 a2 ∧ ¬ ((0 ≤ i ∧ i < v 4 ∧ a 5 i.toNat = 1 ∧ a 6 i.toNat ≠ 5 ∧ 0 ≤ x ∧ x ≤ 5 ∧ 1 ≤ n ∧ n ≤ 8 ∧ 1 ≤ v 3 - n ∧ v 3 - n ≤ 4 ∧ a 10 i.toNat ≠ 200) ∧ ACL (a 2) n (v 3 - n) (DC (a 7 i.toNat)) ∧ LTK (a 2) n)) ∨ (f2 = a 10 i.toNat ∧ ((0 ≤ i ∧ i < v 4 ∧ a 5 i.toNat = 1 ∧ a 6 i.toNat ≠ 5 ∧ 0 ≤ x ∧ x ≤ 5 ∧ 1 ≤ n ∧ n ≤ 8 ∧ 1 ≤ v 3 - n ∧ v 3 - n ≤ 4 ∧ a 10 i.toNat ≠ 200) ∧ ACL (a 2) n (v 3 - n) (DC (a 7 i.toNat)) ∧ LTK (a 2) n) ∧ TRUL i x n v a v2 a2))) : SEC v2 a2 := by
  rcases hq with ⟨-, q, -⟩ | ⟨-, -, ⟨q4, q5, q6, q7, q10, qs, q11, q8, q9, -⟩⟩
  · exact sec_same h q
  · exact sec_keep h (Int.le_of_eq q4) q6 q9
theorem ind_sec {i x : Int} {f2 : Int} {v v2 : Nat → Int} {a a2 : Nat → Nat → Int} (h : SEC v a) (h0 : 0 ≤ v 4) (hq : ((f2 = -1 ∧ TSAME v a v2 a2 ∧ ¬ ((0 ≤ x ∧ x ≤ 3 ∧ 0 ≤ i ∧ i < v 4 ∧ a 5 i.toNat = 1 ∧ ((x = 0 ∧ a 6 i.toNat ≤ 2) ∨ (x = 1 ∧ a 6 i.toNat = 2) ∨ (x ≠ 0 ∧ x ≠ 1 ∧ a 6 i.toNat = 5)) ∧ v 3 ≤ 4) ∧ ACL (a 2) 0 (v 3) (DC (a 7 i.toNat)) ∧ True)) ∨ (f2 = v 3 ∧ ((0 ≤ x ∧ x ≤ 3 ∧ 0 ≤ i ∧ i < v 4 ∧ a 5 i.toNat = 1 ∧ ((x = 0 ∧ a 6 i.toNat ≤ 2) ∨ (x = 1 ∧ a 6 i.toNat = 2) ∨ (x ≠ 0 ∧ x ≠ 1 ∧ a 6 i.toNat = 5)) ∧ v 3 ≤ 4) ∧ ACL (a 2) 0 (v 3) (DC (a 7 i.toNat)) ∧ True) ∧ TIND i x v a v2 a2))) : SEC v2 a2 := by
  rcases hq with ⟨-, q, -⟩ | ⟨-, -, ⟨⟨q4, q5, q6, -⟩, q11, q8, q9, -⟩⟩
  · exact sec_same h q
  · exact sec_keep h (Int.le_of_eq q4) q6 q9
theorem und_sec  {f2 : Int} {v v2 : Nat → Int} {a a2 : Nat → Nat → Int} (h : SEC v a) (h0 : 0 ≤ v 4) (hq : (∃ ln, STK ln v a) ∧ (∃ ln, STK ln v2 a2) ∧ ((v 19 = 0 ∧ f2 = 0 ∧ TSAME v a v2 a2) ∨ (v 19 ≠ 0 ∧ f2 = 1 ∧ TUND v a v2 a2))) : SEC v2 a2 := by
  rcases hq.2.2 with ⟨-, -, q⟩ | ⟨-, -, ⟨q19, q18, q6, q7, ⟨q8, q9, -⟩, q5⟩⟩
  · exact sec_same h q
  · exact sec_keep h (by rcases q5 with q | q | q | q | q <;> omega) q6 q9
theorem cnd_sec {i r x : Int} {f2 : Int} {v v2 : Nat → Int} {a a2 : Nat → Nat → Int} (h : SEC v a) (h0 : 0 ≤ v 4) (hq : ((f2 = -1 ∧ TSAME v a v2 a2 ∧ ¬ (0 ≤ i ∧ i < v 4 ∧ a 5 i.toNat = 1 ∧ a 6 i.toNat ≠ 5 ∧ 0 ≤ r ∧ r < a 10 i.toNat ∧ 0 ≤ x ∧ x ≤ 5)) ∨ (f2 = a 11 (200 * i + r).toNat ∧ (0 ≤ i ∧ i < v 4 ∧ a 5 i.toNat = 1 ∧ a 6 i.toNat ≠ 5 ∧ 0 ≤ r ∧ r < a 10 i.toNat ∧ 0 ≤ x ∧ x ≤ 5) ∧ TCND i r x v a v2 a2))) : SEC v2 a2 := by
  rcases hq with ⟨-, q, -⟩ | ⟨-, -, ⟨⟨q4, q5, q6, -⟩, q11, q8, q9, -⟩⟩
  · exact sec_same h q
  · exact sec_keep h (Int.le_of_eq q4) q6 q9
section RELS
variable {h0 : Nat} {L L2 : List Nat} {cl ln cl2 ln2 sk : Nat → Nat} {iv iv2 : Nat → Nat → Int} {rv rv2 : Nat → Nat → Option Nat} {v v2 : Nat → Int} {a a2 : Nat → Nat → Int}
theorem fd_keep (hr : iI (iv h0 14) = iI (v 56) ∧ iv h0 11 = v 31 ∧ iv h0 12 = v 32 ∧ iv h0 13 = v 33) (hp : iv2 h0 14 = iv h0 14 ∧ iv2 h0 11 = iv h0 11 ∧ iv2 h0 12 = iv h0 12 ∧ iv2 h0 13 = iv h0 13) (hq : v2 56 = v 56 ∧ v2 31 = v 31 ∧ v2 32 = v 32 ∧ v2 33 = v 33) : iI (iv2 h0 14) = iI (v2 56) ∧ iv2 h0 11 = v2 31 ∧ iv2 h0 12 = v2 32 ∧ iv2 h0 13 = v2 33 := ⟨by rw [hp.1, hq.1]; exact hr.1, by have h1 := hr.2; have h2 := hp.2; have h3 := hq.2; omega⟩
theorem tx_keep (hr : iv (sk 3) 2 = v 30 ∧ CT iv rv (sk 3) (a 29)) (hp : iv2 (sk 3) 2 = iv (sk 3) 2 ∧ (∀ tt, CT iv rv (sk 3) tt → CT iv2 rv2 (sk 3) tt)) (hq : v2 30 = v 30 ∧ a2 29 = a 29) : iv2 (sk 3) 2 = v2 30 ∧ CT iv2 rv2 (sk 3) (a2 29) := ⟨by have h1 := hr.1; have h2 := hp.1; have h3 := hq.1; omega, by rw [hq.2]; exact hp.2 _ hr.2⟩
theorem tp_keep (hr : iv (sk 2) 2 = v 3 ∧ CT iv rv (sk 2) (a 2)) (hp : (iv2 (sk 2) 2 = iv (sk 2) 2 ∧ (∀ ss, CT iv rv (sk 2) ss → CT iv2 rv2 (sk 2) ss))) (hq : (v2 3 = v 3 ∧ a2 2 = a 2)) : iv2 (sk 2) 2 = v2 3 ∧ CT iv2 rv2 (sk 2) (a2 2) := ⟨by omega, by rw [hq.2]; exact hp.2 _ hr.2⟩
theorem rel_keep {P1 P2 : Prop} (hr : REL h0 sk L cl ln iv rv v a) (hp : P1 ∧ (iv2 h0 14 = iv h0 14 ∧ iv2 h0 11 = iv h0 11 ∧ iv2 h0 12 = iv h0 12 ∧ iv2 h0 13 = iv h0 13) ∧ ((iv2 (sk 2) 2 = iv (sk 2) 2 ∧ (∀ ss, CT iv rv (sk 2) ss → CT iv2 rv2 (sk 2) ss))) ∧ (iv2 (sk 3) 2 = iv (sk 3) 2 ∧ (∀ tt, CT iv rv (sk 3) tt → CT iv2 rv2 (sk 3) tt)) ∧ (PSAME sk iv rv iv2 rv2) ∧ (∃ g, WT g sk L cl ln iv rv ∧ WT g sk L2 cl2 ln2 iv2 rv2) ∧ SKL sk L cl ∧ XT L cl ln L2 cl2 ln2 ∧ (KP L cl (fun _ => False) (fun _ => False) (fun _ => False) (fun _ => False) (fun _ _ => False) iv rv iv2 rv2)) (hq : P2 ∧ (v2 56 = v 56 ∧ v2 31 = v 31 ∧ v2 32 = v 32 ∧ v2 33 = v 33) ∧ ((v2 3 = v 3 ∧ a2 2 = a 2)) ∧ (v2 30 = v 30 ∧ a2 29 = a 29) ∧ (TSAME v a v2 a2)) : REL h0 sk L2 cl2 ln2 iv2 rv2 v2 a2 := ⟨fd_keep hr.1 hp.2.1 hq.2.1, tp_keep hr.2.1 hp.2.2.1 hq.2.2.1, tx_keep hr.2.2.1 hp.2.2.2.1 hq.2.2.2.1, tab_same hr.2.2.2.1 hp.2.2.2.2.1 hq.2.2.2.2, rps_same ⟨hr.2.2.2.1, hr.2.2.2.2.1⟩ hp.2.2.2.2 hq.2.2.2.2, sec_same hr.2.2.2.2.2 hq.2.2.2.2⟩
theorem rel_zero {P1 P2 : Prop} (hr : REL h0 sk L cl ln iv rv v a) (hp : P1 ∧ (iv2 h0 14 = iv h0 14 ∧ iv2 h0 11 = iv h0 11 ∧ iv2 h0 12 = iv h0 12 ∧ iv2 h0 13 = iv h0 13) ∧ (iv2 (sk 2) 2 = 0) ∧ (iv2 (sk 3) 2 = iv (sk 3) 2 ∧ (∀ tt, CT iv rv (sk 3) tt → CT iv2 rv2 (sk 3) tt)) ∧ (PSAME sk iv rv iv2 rv2) ∧ (∃ g, WT g sk L cl ln iv rv ∧ WT g sk L2 cl2 ln2 iv2 rv2) ∧ SKL sk L cl ∧ XT L cl ln L2 cl2 ln2 ∧ (KP L cl (fun _ => False) (fun _ => False) (fun _ => False) (fun _ => False) (fun _ _ => False) iv rv iv2 rv2)) (hq : P2 ∧ (v2 56 = v 56 ∧ v2 31 = v 31 ∧ v2 32 = v 32 ∧ v2 33 = v 33) ∧ (v2 3 = 0) ∧ (v2 30 = v 30 ∧ a2 29 = a 29) ∧ (TSAME v a v2 a2)) : REL h0 sk L2 cl2 ln2 iv2 rv2 v2 a2 := ⟨fd_keep hr.1 hp.2.1 hq.2.1, ⟨by have h2 := hp.2.2.1; have h3 := hq.2.2.1; omega, CT.zero hp.2.2.1⟩, tx_keep hr.2.2.1 hp.2.2.2.1 hq.2.2.2.1, tab_same hr.2.2.2.1 hp.2.2.2.2.1 hq.2.2.2.2, rps_same ⟨hr.2.2.2.1, hr.2.2.2.2.1⟩ hp.2.2.2.2 hq.2.2.2.2, sec_same hr.2.2.2.2.2 hq.2.2.2.2⟩
theorem rel_feed {P1 P2 : Prop} {x1 x2 x3 x4 x5 f1 f2 : Int} (hr : REL h0 sk L cl ln iv rv v a) (hp : P1 ∧ (iv2 h0 14 = iv h0 14 ∧ iv2 h0 11 = iv h0 11 ∧ iv2 h0 12 = iv h0 12 ∧ iv2 h0 13 = iv h0 13) ∧ (((f1 = -1 ∧ 3000 < iv (sk 2) 2 + 20 ∧ iv2 (sk 2) 2 = iv (sk 2) 2) ∨ (f1 = iv2 (sk 2) 2 ∧ iv2 (sk 2) 2 = iv (sk 2) 2 + 20 ∧ iv (sk 2) 2 ≤ 2980)) ∧ ∀ ss, CT iv rv (sk 2) ss → (iv (sk 2) 2 ≤ 2980 → CT iv2 rv2 (sk 2) (fd5 ss (iv (sk 2) 2).toNat x1 x2 x3 x4 x5)) ∧ (2980 < iv (sk 2) 2 → CT iv2 rv2 (sk 2) ss)) ∧ (iv2 (sk 3) 2 = iv (sk 3) 2 ∧ (∀ tt, CT iv rv (sk 3) tt → CT iv2 rv2 (sk 3) tt)) ∧ (PSAME sk iv rv iv2 rv2) ∧ (∃ g, WT g sk L cl ln iv rv ∧ WT g sk L2 cl2 ln2 iv2 rv2) ∧ SKL sk L cl ∧ XT L cl ln L2 cl2 ln2 ∧ (KP L cl (fun _ => False) (fun _ => False) (fun _ => False) (fun _ => False) (fun _ _ => False) iv rv iv2 rv2)) (hq : P2 ∧ (v2 56 = v 56 ∧ v2 31 = v 31 ∧ v2 32 = v 32 ∧ v2 33 = v 33) ∧ ((f2 = -1 ∧ v2 3 = v 3 ∧ 2980 < v 3 ∧ a2 2 = a 2) ∨ (f2 = v 3 + 20 ∧ v2 3 = v 3 + 20 ∧ v 3 ≤ 2980 ∧ a2 2 = rfd (a 2) (v 3).toNat x1 x2 x3 x4 x5 20)) ∧ (v2 30 = v 30 ∧ a2 29 = a 29) ∧ (TSAME v a v2 a2)) : REL h0 sk L2 cl2 ln2 iv2 rv2 v2 a2 := by
  refine ⟨fd_keep hr.1 hp.2.1 hq.2.1, ?_, tx_keep hr.2.2.1 hp.2.2.2.1 hq.2.2.2.1, tab_same hr.2.2.2.1 hp.2.2.2.2.1 hq.2.2.2.2, rps_same ⟨hr.2.2.2.1, hr.2.2.2.2.1⟩ hp.2.2.2.2 hq.2.2.2.2, sec_same hr.2.2.2.2.2 hq.2.2.2.2⟩
  have h1 := hr.2.1.1; have h2 := hp.2.2.1.1; have h4 := hp.2.2.1.2 _ hr.2.1.2
  rcases hq.2.2.1 with ⟨g1, g2, g3, g4⟩ | ⟨g1, g2, g3, g4⟩
  · exact ⟨by omega, by rw [g4]; exact h4.2 (by omega)⟩
  · refine ⟨by omega, ?_⟩
    have h5 := h4.1 (by omega)
    rw [h1, fd_rfd] at h5
    rw [g4]; exact h5
theorem rel_end {n : Int} {P1 P2 : Prop} {f1 f2 : Int} (hr : REL h0 sk L cl ln iv rv v a) (hp : P1 ∧ (iv2 h0 14 = iv h0 14 ∧ iv2 h0 11 = iv h0 11 ∧ iv2 h0 12 = iv h0 12 ∧ iv2 h0 13 = iv h0 13) ∧ (((f1 = -1 ∧ iv2 (sk 2) 2 = iv (sk 2) 2 ∧ (n < 0 ∨ iv (sk 2) 2 < n)) ∨ (f1 = n ∧ iv2 (sk 2) 2 = n ∧ 0 ≤ n ∧ n ≤ iv (sk 2) 2)) ∧ (∀ ss, CT iv rv (sk 2) ss → CT iv2 rv2 (sk 2) ss)) ∧ (iv2 (sk 3) 2 = iv (sk 3) 2 ∧ (∀ tt, CT iv rv (sk 3) tt → CT iv2 rv2 (sk 3) tt)) ∧ (PSAME sk iv rv iv2 rv2) ∧ (∃ g, WT g sk L cl ln iv rv ∧ WT g sk L2 cl2 ln2 iv2 rv2) ∧ SKL sk L cl ∧ XT L cl ln L2 cl2 ln2 ∧ (KP L cl (fun _ => False) (fun _ => False) (fun _ => False) (fun _ => False) (fun _ _ => False) iv rv iv2 rv2)) (hq : P2 ∧ (v2 56 = v 56 ∧ v2 31 = v 31 ∧ v2 32 = v 32 ∧ v2 33 = v 33) ∧ (((f2 = -1 ∧ v2 3 = v 3 ∧ (n < 0 ∨ v 3 < n)) ∨ (f2 = n ∧ v2 3 = n ∧ 0 ≤ n ∧ n ≤ v 3)) ∧ a2 2 = a 2) ∧ (v2 30 = v 30 ∧ a2 29 = a 29) ∧ (TSAME v a v2 a2)) : REL h0 sk L2 cl2 ln2 iv2 rv2 v2 a2 := ⟨fd_keep hr.1 hp.2.1 hq.2.1, ⟨by have h1 := hr.2.1.1; have h2 := hp.2.2.1.1; have h3 := hq.2.2.1.1; omega, by rw [hq.2.2.1.2]; exact hp.2.2.1.2 _ hr.2.1.2⟩, tx_keep hr.2.2.1 hp.2.2.2.1 hq.2.2.2.1, tab_same hr.2.2.2.1 hp.2.2.2.2.1 hq.2.2.2.2, rps_same ⟨hr.2.2.2.1, hr.2.2.2.2.1⟩ hp.2.2.2.2 hq.2.2.2.2, sec_same hr.2.2.2.2.2 hq.2.2.2.2⟩
theorem tx_both {f1 f2 : Int} (hr : REL h0 sk L cl ln iv rv v a) (hp : (∀ ss, CT iv rv (sk 2) ss → ((f1 = -1 ∧ iv2 (sk 3) 2 = iv (sk 3) 2 ∧ ¬ (TOK ss (iv (sk 2) 2) ∧ iv (sk 3) 2 + iv (sk 2) 2 ≤ 500)) ∨ (f1 = iv2 (sk 3) 2 ∧ TOK ss (iv (sk 2) 2) ∧ iv (sk 3) 2 + iv (sk 2) 2 ≤ 500 ∧ ((iv (sk 2) 2 = 0 ∧ iv2 (sk 3) 2 = 0) ∨ (iv (sk 2) 2 ≠ 0 ∧ iv2 (sk 3) 2 = iv (sk 3) 2 + iv (sk 2) 2))))) ∧ (∀ ss tt, CT iv rv (sk 2) ss → CT iv rv (sk 3) tt → (f1 = -1 → CT iv2 rv2 (sk 3) tt) ∧ (f1 ≠ -1 → CT iv2 rv2 (sk 3) (apd tt (iv (sk 3) 2).toNat ss)))) (hq : (((f2 = -1 ∧ v2 30 = v 30 ∧ ¬ (TOK (a 2) (v 3) ∧ v 30 + v 3 ≤ 500)) ∨ (f2 = v2 30 ∧ TOK (a 2) (v 3) ∧ v 30 + v 3 ≤ 500 ∧ ((v 3 = 0 ∧ v2 30 = 0) ∨ (v 3 ≠ 0 ∧ v2 30 = v 30 + v 3))))) ∧ TXR v a v2 a2 f2) : f1 = f2 ∧ iv2 (sk 3) 2 = v2 30 ∧ CT iv2 rv2 (sk 3) (a2 29) := by
  have h1 := hr.2.1.1; have h2 := hr.2.2.1.1
  have k1 := hp.2 _ _ hr.2.1.2 hr.2.2.1.2
  rw [h2] at k1
  rcases hp.1 _ hr.2.1.2 with ⟨p1, p2, p3⟩ | ⟨p1, p2, p3, p4⟩ <;> rcases hq.1 with ⟨q1, q2, q3⟩ | ⟨q1, q2, q3, q4⟩
  · exact ⟨by omega, by omega, by rw [hq.2.1 q1]; exact k1.1 p1⟩
  · rw [h1, h2] at p3; exact absurd ⟨q2, q3⟩ p3
  · rw [h1, h2] at p3; rw [h1] at p2; exact absurd ⟨p2, p3⟩ q3
  · have e : iv2 (sk 3) 2 = v2 30 := by omega
    refine ⟨by omega, e, fun b hb j hj => ?_⟩
    by_cases c : f1 = -1
    · omega
    · by_cases c2 : f2 = -1
      · omega
      · rw [k1.2 c b hb j hj, hq.2.2 c2 j (by omega)]
theorem rel_text {P1 P2 : Prop} {f1 f2 : Int} (hr : REL h0 sk L cl ln iv rv v a) (hp : P1 ∧ (iv2 h0 14 = iv h0 14 ∧ iv2 h0 11 = iv h0 11 ∧ iv2 h0 12 = iv h0 12 ∧ iv2 h0 13 = iv h0 13) ∧ (iv2 (sk 2) 2 = 0) ∧ ((∀ ss, CT iv rv (sk 2) ss → ((f1 = -1 ∧ iv2 (sk 3) 2 = iv (sk 3) 2 ∧ ¬ (TOK ss (iv (sk 2) 2) ∧ iv (sk 3) 2 + iv (sk 2) 2 ≤ 500)) ∨ (f1 = iv2 (sk 3) 2 ∧ TOK ss (iv (sk 2) 2) ∧ iv (sk 3) 2 + iv (sk 2) 2 ≤ 500 ∧ ((iv (sk 2) 2 = 0 ∧ iv2 (sk 3) 2 = 0) ∨ (iv (sk 2) 2 ≠ 0 ∧ iv2 (sk 3) 2 = iv (sk 3) 2 + iv (sk 2) 2))))) ∧ (∀ ss tt, CT iv rv (sk 2) ss → CT iv rv (sk 3) tt → (f1 = -1 → CT iv2 rv2 (sk 3) tt) ∧ (f1 ≠ -1 → CT iv2 rv2 (sk 3) (apd tt (iv (sk 3) 2).toNat ss)))) ∧ (PSAME sk iv rv iv2 rv2) ∧ (∃ g, WT g sk L cl ln iv rv ∧ WT g sk L2 cl2 ln2 iv2 rv2) ∧ SKL sk L cl ∧ XT L cl ln L2 cl2 ln2 ∧ (KP L cl (fun _ => False) (fun _ => False) (fun _ => False) (fun _ => False) (fun _ _ => False) iv rv iv2 rv2)) (hq : P2 ∧ (v2 56 = v 56 ∧ v2 31 = v 31 ∧ v2 32 = v 32 ∧ v2 33 = v 33) ∧ (v2 3 = 0) ∧ ((((f2 = -1 ∧ v2 30 = v 30 ∧ ¬ (TOK (a 2) (v 3) ∧ v 30 + v 3 ≤ 500)) ∨ (f2 = v2 30 ∧ TOK (a 2) (v 3) ∧ v 30 + v 3 ≤ 500 ∧ ((v 3 = 0 ∧ v2 30 = 0) ∨ (v 3 ≠ 0 ∧ v2 30 = v 30 + v 3))))) ∧ TXR v a v2 a2 f2) ∧ (TSAME v a v2 a2)) : REL h0 sk L2 cl2 ln2 iv2 rv2 v2 a2 := ⟨fd_keep hr.1 hp.2.1 hq.2.1, ⟨by have h2 := hp.2.2.1; have h3 := hq.2.2.1; omega, CT.zero hp.2.2.1⟩, (tx_both hr hp.2.2.2.1 hq.2.2.2.1).2, tab_same hr.2.2.2.1 hp.2.2.2.2.1 hq.2.2.2.2, rps_same ⟨hr.2.2.2.1, hr.2.2.2.2.1⟩ hp.2.2.2.2 hq.2.2.2.2, sec_same hr.2.2.2.2.2 hq.2.2.2.2⟩
theorem rel_failed {i x : Int} {P1 P2 : Prop} {f1 f2 : Int} (hr : REL h0 sk L cl ln iv rv v a) (hp : P1 ∧ ((((i < 0 ∨ 7 < i) ∧ f1 = -1 ∧ iv2 h0 14 = iv h0 14) ∨ (0 ≤ i ∧ i ≤ 7 ∧ iI (iv2 h0 14) = fdv (iI (iv h0 14)) i x ∧ iI f1 = bcn (iI (iv2 h0 14)))) ∧ iv2 h0 11 = iv h0 11 ∧ iv2 h0 12 = iv h0 12 ∧ iv2 h0 13 = iv h0 13) ∧ ((iv2 (sk 2) 2 = iv (sk 2) 2 ∧ (∀ ss, CT iv rv (sk 2) ss → CT iv2 rv2 (sk 2) ss))) ∧ (iv2 (sk 3) 2 = iv (sk 3) 2 ∧ (∀ tt, CT iv rv (sk 3) tt → CT iv2 rv2 (sk 3) tt)) ∧ (PSAME sk iv rv iv2 rv2) ∧ (∃ g, WT g sk L cl ln iv rv ∧ WT g sk L2 cl2 ln2 iv2 rv2) ∧ SKL sk L cl ∧ XT L cl ln L2 cl2 ln2 ∧ (KP L cl (fun _ => False) (fun _ => False) (fun _ => False) (fun _ => False) (fun _ _ => False) iv rv iv2 rv2)) (hq : P2 ∧ ((((i < 0 ∨ 7 < i) ∧ f2 = -1 ∧ v2 56 = v 56) ∨ (0 ≤ i ∧ i ≤ 7 ∧ iI (v2 56) = fdv (iI (v 56)) i x ∧ iI f2 = bcn (iI (v2 56)))) ∧ v2 31 = v 31 ∧ v2 32 = v 32 ∧ v2 33 = v 33) ∧ ((v2 3 = v 3 ∧ a2 2 = a 2)) ∧ (v2 30 = v 30 ∧ a2 29 = a 29) ∧ (TSAME v a v2 a2)) : REL h0 sk L2 cl2 ln2 iv2 rv2 v2 a2 := by
  refine ⟨⟨?_, by have h1 := hr.1.2; have h2 := hp.2.1.2; have h3 := hq.2.1.2; omega⟩, tp_keep hr.2.1 hp.2.2.1 hq.2.2.1, tx_keep hr.2.2.1 hp.2.2.2.1 hq.2.2.2.1, tab_same hr.2.2.2.1 hp.2.2.2.2.1 hq.2.2.2.2, rps_same ⟨hr.2.2.2.1, hr.2.2.2.2.1⟩ hp.2.2.2.2 hq.2.2.2.2, sec_same hr.2.2.2.2.2 hq.2.2.2.2⟩
  have r1 := hr.1.1
  rcases hp.2.1.1 with ⟨p1, p2, p3⟩ | ⟨p1, p2, p3, p4⟩ <;> rcases hq.2.1.1 with ⟨q1, q2, q3⟩ | ⟨q1, q2, q3, q4⟩
  · rw [p3, q3]; exact r1
  · exact absurd p1 (by omega)
  · exact absurd q1 (by omega)
  · rw [p3, q3, r1]
theorem rel_measure {x y h : Int} {f1 f2 : Int} (hr : REL h0 sk L cl ln iv rv v a) (hp : ((f1 = 1 ∧ 1 ≤ x ∧ x ≤ 100 ∧ 1 ≤ y ∧ y ≤ 50 ∧ 1 ≤ h ∧ h ≤ 255) ∨ (f1 = -1 ∧ ¬ (1 ≤ x ∧ x ≤ 100 ∧ 1 ≤ y ∧ y ≤ 50 ∧ 1 ≤ h ∧ h ≤ 255))) ∧ (iv2 h0 14 = iv h0 14 ∧ ((f1 = 1 ∧ iv2 h0 11 = x ∧ iv2 h0 12 = y ∧ iv2 h0 13 = h) ∨ (f1 = -1 ∧ iv2 h0 11 = iv h0 11 ∧ iv2 h0 12 = iv h0 12 ∧ iv2 h0 13 = iv h0 13))) ∧ (iv2 (sk 2) 2 = iv (sk 2) 2 ∧ (∀ ss, CT iv rv (sk 2) ss → CT iv2 rv2 (sk 2) ss)) ∧ (iv2 (sk 3) 2 = iv (sk 3) 2 ∧ (∀ tt, CT iv rv (sk 3) tt → CT iv2 rv2 (sk 3) tt)) ∧ (PSAME sk iv rv iv2 rv2) ∧ (∃ g, WT g sk L cl ln iv rv ∧ WT g sk L2 cl2 ln2 iv2 rv2) ∧ SKL sk L cl ∧ XT L cl ln L2 cl2 ln2 ∧ (KP L cl (fun _ => False) (fun _ => False) (fun _ => False) (fun _ => False) (fun _ _ => False) iv rv iv2 rv2)) (hq : ((f2 = 1 ∧ 1 ≤ x ∧ x ≤ 100 ∧ 1 ≤ y ∧ y ≤ 50 ∧ 1 ≤ h ∧ h ≤ 255) ∨ (f2 = -1 ∧ ¬ (1 ≤ x ∧ x ≤ 100 ∧ 1 ≤ y ∧ y ≤ 50 ∧ 1 ≤ h ∧ h ≤ 255))) ∧ (v2 56 = v 56 ∧ ((f2 = 1 ∧ v2 31 = x ∧ v2 32 = y ∧ v2 33 = h) ∨ (f2 = -1 ∧ v2 31 = v 31 ∧ v2 32 = v 32 ∧ v2 33 = v 33))) ∧ (v2 3 = v 3 ∧ a2 2 = a 2) ∧ (v2 30 = v 30 ∧ a2 29 = a 29) ∧ (TSAME v a v2 a2)) : REL h0 sk L2 cl2 ln2 iv2 rv2 v2 a2 := by
  refine ⟨⟨by rw [hp.2.1.1, hq.2.1.1]; exact hr.1.1, ?_⟩, tp_keep hr.2.1 hp.2.2.1 hq.2.2.1, tx_keep hr.2.2.1 hp.2.2.2.1 hq.2.2.2.1, tab_same hr.2.2.2.1 hp.2.2.2.2.1 hq.2.2.2.2, rps_same ⟨hr.2.2.2.1, hr.2.2.2.2.1⟩ hp.2.2.2.2 hq.2.2.2.2, sec_same hr.2.2.2.2.2 hq.2.2.2.2⟩
  have h1 := hp.1; have h2 := hq.1; have h3 := hp.2.1.2; have h4 := hq.2.1.2; have h5 := hr.1.2
  clear hr hp hq
  omega
theorem rel_table {x y i : Int} {P1 P2 : Prop} {f1 f2 : Int} (hr : REL h0 sk L cl ln iv rv v a) (hp : P1 ∧ (iv2 h0 14 = iv h0 14 ∧ iv2 h0 11 = iv h0 11 ∧ iv2 h0 12 = iv h0 12 ∧ iv2 h0 13 = iv h0 13) ∧ ((iv2 (sk 2) 2 = iv (sk 2) 2 ∧ (∀ ss, CT iv rv (sk 2) ss → CT iv2 rv2 (sk 2) ss))) ∧ (iv2 (sk 3) 2 = iv (sk 3) 2 ∧ (∀ tt, CT iv rv (sk 3) tt → CT iv2 rv2 (sk 3) tt)) ∧ (PTBL x y i f1 sk iv rv iv2 rv2) ∧ (∃ g, WT g sk L cl ln iv rv ∧ WT g sk L2 cl2 ln2 iv2 rv2) ∧ SKL sk L cl ∧ XT L cl ln L2 cl2 ln2 ∧ ((f1 = -1 ∧ KP L cl (fun _ => False) (fun _ => False) (fun _ => False) (fun _ => False) (fun _ _ => False) iv rv iv2 rv2) ∨ (f1 ≠ -1 ∧ KP L cl (fun _ => False) (fun _ => False) (fun _ => False) (fun _ => False) (fun _ _ => False) iv rv iv2 rv2 ∧ ∃ b, (((x < 1 ∨ 3 < x) ∧ b = none) ∨ ((1 ≤ x ∧ x ≤ 3) ∧ ∃ t, ALV sk iv rv i t ∧ b = some t)) ∧ KNW L sk b none iv iv2 rv2))) (hq : P2 ∧ (v2 56 = v 56 ∧ v2 31 = v 31 ∧ v2 32 = v 32 ∧ v2 33 = v 33) ∧ ((v2 3 = v 3 ∧ a2 2 = a 2)) ∧ (v2 30 = v 30 ∧ a2 29 = a 29) ∧ (((f2 = -1 ∧ TSAME v a v2 a2 ∧ ¬ (0 ≤ x ∧ x ≤ 4 ∧ (y = 6 ∨ y = 8) ∧ v 4 ≠ 30 ∧ (x < 1 ∨ 3 < x ∨ (0 ≤ i ∧ i < v 4 ∧ a 5 i.toNat = 1 ∧ a 6 i.toNat ≤ 3)))) ∨ (f2 = v 4 ∧ (0 ≤ x ∧ x ≤ 4 ∧ (y = 6 ∨ y = 8) ∧ v 4 ≠ 30 ∧ (x < 1 ∨ 3 < x ∨ (0 ≤ i ∧ i < v 4 ∧ a 5 i.toNat = 1 ∧ a 6 i.toNat ≤ 3))) ∧ TNEW x y (if x < 1 ∨ 3 < x then -1 else i) (-1) v a v2 a2)))) : REL h0 sk L2 cl2 ln2 iv2 rv2 v2 a2 := ⟨fd_keep hr.1 hp.2.1 hq.2.1, tp_keep hr.2.1 hp.2.2.1 hq.2.2.1, tx_keep hr.2.2.1 hp.2.2.2.1 hq.2.2.2.1, (tbl_both hr.2.2.2.1 hp.2.2.2.2.1 hq.2.2.2.2).2, tbl_rp hr.2.2.2.1 hr.2.2.2.2.1 hp.2.2.2.2.1 hp.2.2.2.2.2 hq.2.2.2.2, tbl_sec hr.2.2.2.2.2 hr.2.2.2.1.2.2.2.2.2.1.1 hq.2.2.2.2⟩
theorem rel_join {i j : Int} {P1 P2 : Prop} {f1 f2 : Int} (hr : REL h0 sk L cl ln iv rv v a) (hp : P1 ∧ (iv2 h0 14 = iv h0 14 ∧ iv2 h0 11 = iv h0 11 ∧ iv2 h0 12 = iv h0 12 ∧ iv2 h0 13 = iv h0 13) ∧ ((iv2 (sk 2) 2 = iv (sk 2) 2 ∧ (∀ ss, CT iv rv (sk 2) ss → CT iv2 rv2 (sk 2) ss))) ∧ (iv2 (sk 3) 2 = iv (sk 3) 2 ∧ (∀ tt, CT iv rv (sk 3) tt → CT iv2 rv2 (sk 3) tt)) ∧ (PJOI i j f1 sk iv rv iv2 rv2) ∧ (∃ g, WT g sk L cl ln iv rv ∧ WT g sk L2 cl2 ln2 iv2 rv2) ∧ SKL sk L cl ∧ XT L cl ln L2 cl2 ln2 ∧ ((f1 = -1 ∧ KP L cl (fun _ => False) (fun _ => False) (fun _ => False) (fun _ => False) (fun _ _ => False) iv rv iv2 rv2) ∨ (f1 ≠ -1 ∧ KP L cl (fun _ => False) (fun _ => False) (fun _ => False) (fun _ => False) (fun _ _ => False) iv rv iv2 rv2 ∧ ∃ t u, ALV sk iv rv i t ∧ ALV sk iv rv j u ∧ KNW L sk (some t) (some u) iv iv2 rv2))) (hq : P2 ∧ (v2 56 = v 56 ∧ v2 31 = v 31 ∧ v2 32 = v 32 ∧ v2 33 = v 33) ∧ ((v2 3 = v 3 ∧ a2 2 = a 2)) ∧ (v2 30 = v 30 ∧ a2 29 = a 29) ∧ (((f2 = -1 ∧ TSAME v a v2 a2 ∧ ¬ (0 ≤ i ∧ i < v 4 ∧ a 5 i.toNat = 1 ∧ a 6 i.toNat ≤ 3 ∧ 0 ≤ j ∧ j < v 4 ∧ a 5 j.toNat = 1 ∧ a 6 j.toNat ≤ 3 ∧ v 4 ≠ 30)) ∨ (f2 = v 4 ∧ (0 ≤ i ∧ i < v 4 ∧ a 5 i.toNat = 1 ∧ a 6 i.toNat ≤ 3 ∧ 0 ≤ j ∧ j < v 4 ∧ a 5 j.toNat = 1 ∧ a 6 j.toNat ≤ 3 ∧ v 4 ≠ 30) ∧ TNEW 5 (max (a 7 i.toNat) (a 7 j.toNat)) i j v a v2 a2)))) : REL h0 sk L2 cl2 ln2 iv2 rv2 v2 a2 := ⟨fd_keep hr.1 hp.2.1 hq.2.1, tp_keep hr.2.1 hp.2.2.1 hq.2.2.1, tx_keep hr.2.2.1 hp.2.2.2.1 hq.2.2.2.1, (joi_both hr.2.2.2.1 hp.2.2.2.2.1 hq.2.2.2.2).2, joi_rp hr.2.2.2.1 hr.2.2.2.2.1 hp.2.2.2.2.1 hp.2.2.2.2.2 hq.2.2.2.2, joi_sec hr.2.2.2.2.2 hr.2.2.2.1.2.2.2.2.2.1.1 hq.2.2.2.2⟩
theorem rel_drop {i : Int} {P1 P2 : Prop} {f1 f2 : Int} (hr : REL h0 sk L cl ln iv rv v a) (hp : P1 ∧ (iv2 h0 14 = iv h0 14 ∧ iv2 h0 11 = iv h0 11 ∧ iv2 h0 12 = iv h0 12 ∧ iv2 h0 13 = iv h0 13) ∧ ((iv2 (sk 2) 2 = iv (sk 2) 2 ∧ (∀ ss, CT iv rv (sk 2) ss → CT iv2 rv2 (sk 2) ss))) ∧ (iv2 (sk 3) 2 = iv (sk 3) 2 ∧ (∀ tt, CT iv rv (sk 3) tt → CT iv2 rv2 (sk 3) tt)) ∧ (PDRP i f1 sk iv rv iv2 rv2) ∧ (∃ g, WT g sk L cl ln iv rv ∧ WT g sk L2 cl2 ln2 iv2 rv2) ∧ SKL sk L cl ∧ XT L cl ln L2 cl2 ln2 ∧ (KP L cl (fun _ => False) (fun _ => False) (fun _ => False) (fun _ => False) (fun _ _ => False) iv rv iv2 rv2)) (hq : P2 ∧ (v2 56 = v 56 ∧ v2 31 = v 31 ∧ v2 32 = v 32 ∧ v2 33 = v 33) ∧ ((v2 3 = v 3 ∧ a2 2 = a 2)) ∧ (v2 30 = v 30 ∧ a2 29 = a 29) ∧ (((f2 = -1 ∧ TSAME v a v2 a2 ∧ ¬ (0 ≤ i ∧ i < v 4 ∧ a 5 i.toNat = 1)) ∨ (f2 = 1 ∧ (0 ≤ i ∧ i < v 4 ∧ a 5 i.toNat = 1) ∧ TDRP i v a v2 a2)))) : REL h0 sk L2 cl2 ln2 iv2 rv2 v2 a2 := ⟨fd_keep hr.1 hp.2.1 hq.2.1, tp_keep hr.2.1 hp.2.2.1 hq.2.2.1, tx_keep hr.2.2.1 hp.2.2.2.1 hq.2.2.2.1, (drp_both hr.2.2.2.1 hp.2.2.2.2.1 hq.2.2.2.2).2, drp_rp hr.2.2.2.1 hr.2.2.2.2.1 hp.2.2.2.2.1 hp.2.2.2.2.2 hq.2.2.2.2, drp_sec hr.2.2.2.2.2 hr.2.2.2.1.2.2.2.2.2.1.1 hq.2.2.2.2⟩
theorem rel_rule {i x n : Int} {P1 P2 : Prop} {f1 f2 : Int} (hr : REL h0 sk L cl ln iv rv v a) (hp : P1 ∧ (iv2 h0 14 = iv h0 14 ∧ iv2 h0 11 = iv h0 11 ∧ iv2 h0 12 = iv h0 12 ∧ iv2 h0 13 = iv h0 13) ∧ (iv2 (sk 2) 2 = 0) ∧ (iv2 (sk 3) 2 = iv (sk 3) 2 ∧ (∀ tt, CT iv rv (sk 3) tt → CT iv2 rv2 (sk 3) tt)) ∧ (PRUL i x n f1 sk iv rv iv2 rv2) ∧ (∃ g, WT g sk L cl ln iv rv ∧ WT g sk L2 cl2 ln2 iv2 rv2) ∧ SKL sk L cl ∧ XT L cl ln L2 cl2 ln2 ∧ (KRU L cl sk iv rv L2 cl2 ln2 iv2 rv2 i x n f1)) (hq : P2 ∧ (v2 56 = v 56 ∧ v2 31 = v 31 ∧ v2 32 = v 32 ∧ v2 33 = v 33) ∧ (v2 3 = 0) ∧ (v2 30 = v 30 ∧ a2 29 = a 29) ∧ (((f2 = -1 ∧ TSAME v a v2 a2 ∧ ¬ ((0 ≤ i ∧ i < v 4 ∧ a 5 i.toNat = 1 ∧ a 6 i.toNat ≠ 5 ∧ 0 ≤ x ∧ x ≤ 5 ∧ 1 ≤ n ∧ n ≤ 8 ∧ 1 ≤ v 3 - n ∧ v 3 - n ≤ 4 ∧ a 10 i.toNat ≠ 200) ∧ ACL (a 2) n (v 3 - n) (DC (a 7 i.toNat)) ∧ LTK (a 2) n)) ∨ (f2 = a 10 i.toNat ∧ ((0 ≤ i ∧ i < v 4 ∧ a 5 i.toNat = 1 ∧ a 6 i.toNat ≠ 5 ∧ 0 ≤ x ∧ x ≤ 5 ∧ 1 ≤ n ∧ n ≤ 8 ∧ 1 ≤ v 3 - n ∧ v 3 - n ≤ 4 ∧ a 10 i.toNat ≠ 200) ∧ ACL (a 2) n (v 3 - n) (DC (a 7 i.toNat)) ∧ LTK (a 2) n) ∧ TRUL i x n v a v2 a2)))) : REL h0 sk L2 cl2 ln2 iv2 rv2 v2 a2 := ⟨fd_keep hr.1 hp.2.1 hq.2.1, ⟨by have h2 := hp.2.2.1; have h3 := hq.2.2.1; omega, CT.zero hp.2.2.1⟩, tx_keep hr.2.2.1 hp.2.2.2.1 hq.2.2.2.1, (rul_both hr.2.2.2.1 hr.2.1.1 hr.2.1.2 hp.2.2.2.2.1 hq.2.2.2.2).2, rul_rp hr.2.2.2.1 hr.2.2.2.2.1 hr.2.1.1 hr.2.1.2 hp.2.2.2.2.1 hp.2.2.2.2.2 hq.2.2.2.2, rul_sec hr.2.2.2.2.2 hr.2.2.2.1.2.2.2.2.2.1.1 hq.2.2.2.2⟩
theorem rel_indicator {i x : Int} {P1 P2 : Prop} {f1 f2 : Int} (hr : REL h0 sk L cl ln iv rv v a) (hp : P1 ∧ (iv2 h0 14 = iv h0 14 ∧ iv2 h0 11 = iv h0 11 ∧ iv2 h0 12 = iv h0 12 ∧ iv2 h0 13 = iv h0 13) ∧ (iv2 (sk 2) 2 = 0) ∧ (iv2 (sk 3) 2 = iv (sk 3) 2 ∧ (∀ tt, CT iv rv (sk 3) tt → CT iv2 rv2 (sk 3) tt)) ∧ (PIND i x f1 sk iv rv iv2 rv2) ∧ (∃ g, WT g sk L cl ln iv rv ∧ WT g sk L2 cl2 ln2 iv2 rv2) ∧ SKL sk L cl ∧ XT L cl ln L2 cl2 ln2 ∧ (KIN L cl sk iv rv L2 cl2 ln2 iv2 rv2 i x f1)) (hq : P2 ∧ (v2 56 = v 56 ∧ v2 31 = v 31 ∧ v2 32 = v 32 ∧ v2 33 = v 33) ∧ (v2 3 = 0) ∧ (v2 30 = v 30 ∧ a2 29 = a 29) ∧ (((f2 = -1 ∧ TSAME v a v2 a2 ∧ ¬ ((0 ≤ x ∧ x ≤ 3 ∧ 0 ≤ i ∧ i < v 4 ∧ a 5 i.toNat = 1 ∧ ((x = 0 ∧ a 6 i.toNat ≤ 2) ∨ (x = 1 ∧ a 6 i.toNat = 2) ∨ (x ≠ 0 ∧ x ≠ 1 ∧ a 6 i.toNat = 5)) ∧ v 3 ≤ 4) ∧ ACL (a 2) 0 (v 3) (DC (a 7 i.toNat)) ∧ True)) ∨ (f2 = v 3 ∧ ((0 ≤ x ∧ x ≤ 3 ∧ 0 ≤ i ∧ i < v 4 ∧ a 5 i.toNat = 1 ∧ ((x = 0 ∧ a 6 i.toNat ≤ 2) ∨ (x = 1 ∧ a 6 i.toNat = 2) ∨ (x ≠ 0 ∧ x ≠ 1 ∧ a 6 i.toNat = 5)) ∧ v 3 ≤ 4) ∧ ACL (a 2) 0 (v 3) (DC (a 7 i.toNat)) ∧ True) ∧ TIND i x v a v2 a2)))) : REL h0 sk L2 cl2 ln2 iv2 rv2 v2 a2 := ⟨fd_keep hr.1 hp.2.1 hq.2.1, ⟨by have h2 := hp.2.2.1; have h3 := hq.2.2.1; omega, CT.zero hp.2.2.1⟩, tx_keep hr.2.2.1 hp.2.2.2.1 hq.2.2.2.1, (ind_both hr.2.2.2.1 hr.2.1.1 hr.2.1.2 hp.2.2.2.2.1 hq.2.2.2.2).2, ind_rp hr.2.2.2.1 hr.2.2.2.2.1 hr.2.1.1 hr.2.1.2 hp.2.2.2.2.1 hp.2.2.2.2.2 hq.2.2.2.2, ind_sec hr.2.2.2.2.2 hr.2.2.2.1.2.2.2.2.2.1.1 hq.2.2.2.2⟩
theorem rel_undo  {P1 P2 : Prop} {f1 f2 : Int} (hr : REL h0 sk L cl ln iv rv v a) (hp : P1 ∧ (iv2 h0 14 = iv h0 14 ∧ iv2 h0 11 = iv h0 11 ∧ iv2 h0 12 = iv h0 12 ∧ iv2 h0 13 = iv h0 13) ∧ ((iv2 (sk 2) 2 = iv (sk 2) 2 ∧ (∀ ss, CT iv rv (sk 2) ss → CT iv2 rv2 (sk 2) ss))) ∧ (iv2 (sk 3) 2 = iv (sk 3) 2 ∧ (∀ tt, CT iv rv (sk 3) tt → CT iv2 rv2 (sk 3) tt)) ∧ (PUNX f1 sk iv rv iv2 rv2) ∧ (∃ g, WT g sk L cl ln iv rv ∧ WT g sk L2 cl2 ln2 iv2 rv2) ∧ SKL sk L cl ∧ XT L cl ln L2 cl2 ln2 ∧ ((f1 = 0 ∧ KP L cl (fun _ => False) (fun _ => False) (fun _ => False) (fun _ => False) (fun _ _ => False) iv rv iv2 rv2) ∨ (f1 = 1 ∧ ∃ ch, el rv (sk 23) (iv (sk 23) 2 - 1).toNat = some ch ∧ UKP L cl ch iv rv iv2 rv2))) (hq : P2 ∧ (v2 56 = v 56 ∧ v2 31 = v 31 ∧ v2 32 = v 32 ∧ v2 33 = v 33) ∧ ((v2 3 = v 3 ∧ a2 2 = a 2)) ∧ (v2 30 = v 30 ∧ a2 29 = a 29) ∧ ((∃ ln, STK ln v a) ∧ (∃ ln, STK ln v2 a2) ∧ ((v 19 = 0 ∧ f2 = 0 ∧ TSAME v a v2 a2) ∨ (v 19 ≠ 0 ∧ f2 = 1 ∧ TUND v a v2 a2)))) : REL h0 sk L2 cl2 ln2 iv2 rv2 v2 a2 := ⟨fd_keep hr.1 hp.2.1 hq.2.1, tp_keep hr.2.1 hp.2.2.1 hq.2.2.1, tx_keep hr.2.2.1 hp.2.2.2.1 hq.2.2.2.1, (und_both hr.2.2.2.1 hp.2.2.2.2.1 hq.2.2.2.2).2, und_rp hr.2.2.2.1 hr.2.2.2.2.1 hp.2.2.2.2.1 hp.2.2.2.2.2 hq.2.2.2.2, und_sec hr.2.2.2.2.2 hr.2.2.2.1.2.2.2.2.2.1.1 hq.2.2.2.2⟩
theorem rel_condition {i r x : Int} {P1 P2 : Prop} {f1 f2 : Int} (hr : REL h0 sk L cl ln iv rv v a) (hp : P1 ∧ (iv2 h0 14 = iv h0 14 ∧ iv2 h0 11 = iv h0 11 ∧ iv2 h0 12 = iv h0 12 ∧ iv2 h0 13 = iv h0 13) ∧ ((iv2 (sk 2) 2 = iv (sk 2) 2 ∧ (∀ ss, CT iv rv (sk 2) ss → CT iv2 rv2 (sk 2) ss))) ∧ (iv2 (sk 3) 2 = iv (sk 3) 2 ∧ (∀ tt, CT iv rv (sk 3) tt → CT iv2 rv2 (sk 3) tt)) ∧ (PCND i r x f1 sk iv rv iv2 rv2) ∧ (∃ g, WT g sk L cl ln iv rv ∧ WT g sk L2 cl2 ln2 iv2 rv2) ∧ SKL sk L cl ∧ XT L cl ln L2 cl2 ln2 ∧ (KCN L cl sk iv rv iv2 rv2 i r x f1)) (hq : P2 ∧ (v2 56 = v 56 ∧ v2 31 = v 31 ∧ v2 32 = v 32 ∧ v2 33 = v 33) ∧ ((v2 3 = v 3 ∧ a2 2 = a 2)) ∧ (v2 30 = v 30 ∧ a2 29 = a 29) ∧ (((f2 = -1 ∧ TSAME v a v2 a2 ∧ ¬ (0 ≤ i ∧ i < v 4 ∧ a 5 i.toNat = 1 ∧ a 6 i.toNat ≠ 5 ∧ 0 ≤ r ∧ r < a 10 i.toNat ∧ 0 ≤ x ∧ x ≤ 5)) ∨ (f2 = a 11 (200 * i + r).toNat ∧ (0 ≤ i ∧ i < v 4 ∧ a 5 i.toNat = 1 ∧ a 6 i.toNat ≠ 5 ∧ 0 ≤ r ∧ r < a 10 i.toNat ∧ 0 ≤ x ∧ x ≤ 5) ∧ TCND i r x v a v2 a2)))) : REL h0 sk L2 cl2 ln2 iv2 rv2 v2 a2 := ⟨fd_keep hr.1 hp.2.1 hq.2.1, tp_keep hr.2.1 hp.2.2.1 hq.2.2.1, tx_keep hr.2.2.1 hp.2.2.2.1 hq.2.2.2.1, cnd_both hr.2.2.2.1 hp.2.2.2.2.1 hq.2.2.2.2, (cnd_rp hr.2.2.2.1 hr.2.2.2.2.1 hp.2.2.2.2.1 hp.2.2.2.2.2 hq.2.2.2.2).2, cnd_sec hr.2.2.2.2.2 hr.2.2.2.1.2.2.2.2.2.1.1 hq.2.2.2.2⟩
end RELS
section RLSS
variable {h0 : Nat} {L L2 : List Nat} {cl ln cl2 ln2 sk : Nat → Nat} {iv iv2 : Nat → Nat → Int} {rv rv2 : Nat → Nat → Option Nat} {v v2 : Nat → Int} {a a2 : Nat → Nat → Int}
end RLSS
def SHB (h0 : Nat) (iv : Nat → Nat → Int) (rv : Nat → Nat → Option Nat) (v : Nat → Int) (a : Nat → Nat → Int) : Prop := ∃ sA sB E, rv h0 9 = some sA ∧ rv h0 10 = some sB ∧ LNK rv sB sA ∧ SHT iv rv sA E ∧ SHA v a E
def RLC (h0 : Nat) (sk : Nat → Nat) (L : List Nat) (cl ln : Nat → Nat) (iv : Nat → Nat → Int) (rv : Nat → Nat → Option Nat) (v : Nat → Int) (a : Nat → Nat → Int) : Prop := REL h0 sk L cl ln iv rv v a ∧ (iv h0 15 = v 42 ∧ iI (iv h0 16) = iI (v 43)) ∧ SHB h0 iv rv v a
section RLCS
variable {h0 : Nat} {L L2 : List Nat} {cl ln cl2 ln2 sk : Nat → Nat} {iv iv2 : Nat → Nat → Int} {rv rv2 : Nat → Nat → Option Nat} {v v2 : Nat → Int} {a a2 : Nat → Nat → Int}
theorem shb_keep (hr : SHB h0 iv rv v a) (hp : KSC h0 iv rv iv2 rv2) (hq : KSA v a v2 a2) : SHB h0 iv2 rv2 v2 a2 := by
  obtain ⟨sA, sB, E, q1, q2, q3, q4, q5⟩ := hr
  obtain ⟨p1, p2, p3, p4⟩ := hp sA sB q1 q2 q3
  exact ⟨sA, sB, E, p1, p2, p3, q4.sam p4, q5.cg hq⟩
theorem tch_both {A : Int → List (Option (List Int)) → List (Option (List Int)) → Prop} {f1 f2 : Int} (hu : ∀ f g E E1 E2, A f E E1 → A g E E2 → f = g ∧ E1 = E2) (hr : SHB h0 iv rv v a) (hp : TCH iv rv iv2 h0 (A f1) ∧ rv2 = rv) (hq : ∀ E, SHA v a E → ∃ E2, A f2 E E2 ∧ SHA v2 a2 E2) : f1 = f2 ∧ SHB h0 iv2 rv2 v2 a2 := by
  obtain ⟨sA, sB, E, q1, q2, q3, q4, q5⟩ := hr
  obtain ⟨E1, p1, p2⟩ := hp.1 sA sB q1 q2 q3 E q4
  obtain ⟨E2, r1, r2⟩ := hq E q5
  obtain ⟨e1, e2⟩ := hu f1 f2 E E1 E2 p1 r1
  subst e2
  rw [hp.2]
  exact ⟨e1, sA, sB, E1, q1, q2, q3, p2, r2⟩
theorem lose_both {i f1 f2 : Int} (hr : SHB h0 iv rv v a) (hp : TCH iv rv iv2 h0 (fun E E2 => LOSX E i f1 E2) ∧ rv2 = rv) (hq : LSA v a v2 a2 i f2) : f1 = f2 ∧ SHB h0 iv2 rv2 v2 a2 := tch_both (A := fun f E E2 => LOSX E i f E2) (fun _ _ _ _ _ g1 g2 => LOSX.uni g1 g2) hr hp hq
theorem cut_both {i n f1 f2 : Int} (hr : SHB h0 iv rv v a) (hp : TCH iv rv iv2 h0 (fun E E2 => CUTX E i n f1 E2) ∧ rv2 = rv) (hq : CTA v a v2 a2 i n f2) : f1 = f2 ∧ SHB h0 iv2 rv2 v2 a2 := tch_both (A := fun f E E2 => CUTX E i n f E2) (fun _ _ _ _ _ g1 g2 => CUTX.uni g1 g2) hr hp hq
theorem copyRow_both {q w u x n f1 f2 : Int} (hr : SHB h0 iv rv v a) (hp : TCH iv rv iv2 h0 (fun E E2 => CPRX E q w u x n f1 E2) ∧ rv2 = rv) (hq : CRA v a v2 a2 q w u x n f2) : f1 = f2 ∧ SHB h0 iv2 rv2 v2 a2 := tch_both (A := fun f E E2 => CPRX E q w u x n f E2) (fun _ _ _ _ _ g1 g2 => CPRX.uni g1 g2) hr hp hq
theorem copyLines_both {q u n f1 f2 : Int} (h15 : iv h0 15 = v 42) (hr : SHB h0 iv rv v a) (hp : TCH iv rv iv2 h0 (fun E E2 => CPLX E q u n (iv h0 15) f1 E2 (iv2 h0 15)) ∧ rv2 = rv) (hq : CPA v a v2 a2 q u n f2) : f1 = f2 ∧ iv2 h0 15 = v2 42 ∧ SHB h0 iv2 rv2 v2 a2 := by
  obtain ⟨sA, sB, E, q1, q2, q3, q4, q5⟩ := hr
  obtain ⟨E1, p1, p2⟩ := hp.1 sA sB q1 q2 q3 E q4
  obtain ⟨E2, r1, r2⟩ := hq E q5
  have p3 : CPLX E q u n (iv h0 15) f1 E1 (iv2 h0 15) := p1
  rw [h15] at p3
  obtain ⟨e1, e2, e3⟩ := CPLX.uni p3 r1
  subst e2
  rw [hp.2]
  exact ⟨e1, e3, sA, sB, E1, q1, q2, q3, p2, r2⟩
theorem setc_both {i f1 f2 : Int} (hr : RLC h0 sk L cl ln iv rv v a) (hp : PSX sk ln iv rv iv2 rv2 h0 (iv h0 11) (iv h0 13) i f1) (hq : SETX v a v2 a2 i f2 ∧ TBL v a ∧ ∀ j, a 10 j ≤ 200) : f1 = f2 ∧ SHB h0 iv2 rv2 v2 a2 := by
  obtain ⟨hr, _, sA, sB, E, q1, q2, q3, q4, q5⟩ := hr
  obtain ⟨hX, hT, h10⟩ := hq
  have ph : PHY sk ln iv rv sA sB (iv h0 11) (iv h0 13) v a := ⟨⟨hr.2.2.2.1, hr.2.2.2.2.1, hT, hr.2.2.2.2.2⟩, h10, hr.2.2.1, ⟨hr.1.2.1, hr.1.2.2.2⟩, q3⟩
  rcases hp sA sB q1 q2 v a ph with ⟨n1, n2, n3, n4⟩ | ⟨D, d1, d2, d3, d4, d5⟩ <;> rcases hX with ⟨m1, m2⟩ | ⟨D2, e1, e2⟩
  · exact ⟨n1.1.trans m1.1.symm, sA, sB, E, n2, n3, n4.1, q4.sam n4.2.1, q5.cg m2⟩
  · exact (SETN.no n1 e1).elim
  · exact (SETN.no m1 d1).elim
  · obtain ⟨u1, u2⟩ := SETD.uni hT d1 e1
    subst u2
    have gm : ∀ (l : Nat) (x : Option (List Int)), (D.map some)[l]? = some x → ∃ xs, x = some xs ∧ D[l]? = some xs := fun l x e => by
      rw [List.getElem?_map] at e
      cases hd : D[l]? with
      | none => rw [hd] at e; cases e
      | some xs => rw [hd] at e; cases e; exact ⟨xs, rfl, rfl⟩
    refine ⟨u1, sB, sA, D.map some, d2, d3, d4, ⟨by rw [List.length_map]; exact d5.1, fun l x e => ?_⟩, by rw [List.length_map]; exact e2.1, fun l x e => ?_⟩
    · obtain ⟨xs, g1, g2⟩ := gm l x e
      obtain ⟨rb, r, k1, k2, k3, k4⟩ := d5.2 l xs g2
      exact ⟨rb, r, k1, k2, Or.inr ⟨xs, g1, k3, k4⟩⟩
    · obtain ⟨xs, g1, g2⟩ := gm l x e
      obtain ⟨k1, k2⟩ := e2.2 l xs g2
      exact Or.inr ⟨xs, g1, k1, k2⟩
theorem emboss_both {i n f1 f2 : Int} (h16 : iI (iv h0 16) = iI (v 43)) (h11 : iv h0 11 = v 31) (hr : SHB h0 iv rv v a) (hp : EPX iv rv iv2 h0 i n (iv h0 11) f1) (hq : EMA v a v2 i n f2) : iI f1 = iI f2 ∧ iI (iv2 h0 16) = iI (v2 43) := by
  obtain ⟨sA, sB, E, q1, q2, q3, q4, q5⟩ := hr
  have p := hp sA q1 E q4
  rw [h16, h11] at p
  exact EMBX.uni p (hq E q5)
theorem eqc_read {t x n f1 f2 : Int} (hr : RLC h0 sk L cl ln iv rv v a) (hp : PRD sk ln iv rv iv2 rv2 h0 (iv h0 13) t x n f1) (hq : RDR v a v2 a2 t x n f2 ∧ TBL v a ∧ (∀ j, a 16 j ≤ 4) ∧ v 36 ≤ 200) : iI f1 = iI f2 := by
  obtain ⟨hr, _, sA, sB, E, q1, q2, q3, q4, q5⟩ := hr
  obtain ⟨g1, hT, h16, h36⟩ := hq
  have tr : TRL sk ln iv rv v a := ⟨hr.2.2.2.1, hr.2.2.2.2.1, hT, hr.2.2.2.2.2⟩
  have hl : E.length ≤ 200 := by have := q5.1; omega
  rcases hp v a tr hr.1.2.2.2 h16 sA q1 E q4 hl with ⟨p1, p2, _⟩ | ⟨p1, bs, p2, _⟩ <;> rcases g1 E q5 with ⟨g2, g3, _⟩ | ⟨g2, g3⟩
  · rw [p2, g3]
  · exact absurd g2 p1
  · exact absurd p1 g2
  · have wt := WHL.tr p1.1
    have nz := tr.nzl h16 wt.1 wt.2.1
    obtain ⟨cs, c1, c2⟩ := g3 nz.1.1 nz.1.2
    rw [(RDA.uni nz.1.1 nz.1.2 p2 c1).1]
theorem shb_zero (hz : SHZ h0 iv rv) (h36 : v 36 = 0) : SHB h0 iv rv v a := by
  obtain ⟨sA, sB, q1, q2, q3, q4⟩ := hz.mk h36
  exact ⟨sA, sB, [], q1, q2, q3, ⟨by rw [q4, h36]; rfl, fun l x e => by simp at e⟩, by rw [h36]; rfl, fun l x e => by simp at e⟩
end RLCS
section RLHS
variable {h0 : Nat} {L L2 : List Nat} {cl ln cl2 ln2 sk : Nat → Nat} {iv iv2 : Nat → Nat → Int} {rv rv2 : Nat → Nat → Option Nat} {v v2 : Nat → Int} {a a2 : Nat → Nat → Int}
end RLHS
section RLBS
variable {h0 : Nat} {L L2 : List Nat} {cl ln cl2 ln2 sk : Nat → Nat} {iv iv2 : Nat → Nat → Int} {rv rv2 : Nat → Nat → Option Nat} {v v2 : Nat → Int} {a a2 : Nat → Nat → Int}
end RLBS
section RLFS
variable {h0 : Nat} {L L2 : List Nat} {cl ln cl2 ln2 sk : Nat → Nat} {iv iv2 : Nat → Nat → Int} {rv rv2 : Nat → Nat → Option Nat} {v v2 : Nat → Int} {a a2 : Nat → Nat → Int}
end RLFS
end
