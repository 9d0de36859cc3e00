def shc (k b : Nat → Int) : Nat → Int → Prop
  | 0, _ => False
  | n + 1, t => 0 ≤ t ∧ (k t.toNat = 3 ∨ shc k b n (b t.toNat))
def SHC (a : Nat → Nat → Int) (t : Int) : Prop := shc (a 6) (a 8) 31 t
def SHE (f : Int) (a : Nat → Nat → Int) (t : Int) : Prop := f = 1 ↔ SHC a t
def SHI (a : Nat → Nat → Int) (t g b : Int) : Prop := SHC a t ↔ (g = 1 ∨ SHC a b)
def PFX (a : Nat → Nat → Int) (d e : Int) : Prop := rlen a d ≤ rlen a e ∧ ∀ k : Int, 0 ≤ k → k < rlen a d → dcl a d k = dcl a e k
def PFA (a : Nat → Nat → Int) (x y : Int) : Prop := a 46 x.toNat ≤ a 46 y.toNat ∧ ∀ k : Int, 0 ≤ k → k < a 46 x.toNat → rcl a x k = rcl a y k
def RDL (a : Nat → Nat → Int) (l : List Int) (h : Int) : Prop := ∀ (i : Nat) (d : Int), l[i]? = some d → dcl a d (rlen a d - 1) ≠ h ∧ ∀ (j : Nat) (e : Int), j < i → l[j]? = some e → ¬ PFX a d e ∧ ¬ PFX a e d
def RDI (v : Nat → Int) (a : Nat → Nat → Int) (b x y : Int) : Prop := ∀ z : Int, b ≤ z → z < y → ¬ PFA a x z ∧ ¬ PFA a z x
def RDO (v : Nat → Int) (a : Nat → Nat → Int) (b x : Int) : Prop := ∀ z : Int, b ≤ z → z < x → rcl a z (a 46 z.toNat - 1) ≠ v 33 ∧ RDI v a b z z
def RDE (f : Int) (v : Nat → Int) (a : Nat → Nat → Int) (q : Int) : Prop := f = 1 ↔ RDO v a (6008 * q) (6008 * q + a 47 q.toNat)
def JOK (v : Nat → Int) (a : Nat → Nat → Int) (t : Int) : Prop := ¬ (SHC a t ∨ (a 6 t.toNat = 5 ∧ SHC a (a 9 t.toNat))) ∧ RDL a (gat0 a t) (v 33) ∧ RDL a (gat1 a t) (v 33)
def JDG (v : Nat → Int) (a : Nat → Nat → Int) (t f : Int) : Prop := (¬ (WHL v a t ∧ a 6 t.toNat ≠ 4) ∧ f = -1) ∨ ((WHL v a t ∧ a 6 t.toNat ≠ 4) ∧ ((JOK v a t ∧ f = 1) ∨ (¬ JOK v a t ∧ f = 0)))
section JUDS
variable {v v2 : Nat → Int} {a a1 a2 : Nat → Nat → Int} {q x y z t b d e f f1 f2 g k h : Int} {n : Nat} {l : List Int}
theorem shc_s {r b : Nat → Int} (n : Nat) (t : Int) : shc r b (n + 1) t = (0 ≤ t ∧ (r t.toNat = 3 ∨ shc r b n (b t.toNat))) := rfl
theorem shc_fuel {r b : Nat → Int} {V : Int} (hb : ∀ t : Int, 0 ≤ t → t < V → b t.toNat < t) : ∀ (n m : Nat) (t : Int), t < V → t < (n : Int) → t < (m : Int) → (shc r b n t ↔ shc r b m t) := by
  intro n
  induction n with
  | zero =>
    intro m t h1 h2 h3
    cases m with
    | zero => exact Iff.rfl
    | succ m => rw [shc_s]; exact ⟨fun h => False.elim h, fun h => absurd h.1 (by omega)⟩
  | succ n ih =>
    intro m t h1 h2 h3
    cases m with
    | zero => rw [shc_s]; exact ⟨fun h => absurd h.1 (by omega), fun h => False.elim h⟩
    | succ m =>
      rw [shc_s, shc_s]
      refine ⟨fun h => ?_, fun h => ?_⟩
      · have h4 := hb t h.1 h1
        exact ⟨h.1, h.2.imp id (ih m (b t.toNat) (by omega) (by omega) (by omega)).mp⟩
      · have h4 := hb t h.1 h1
        exact ⟨h.1, h.2.imp id (ih m (b t.toNat) (by omega) (by omega) (by omega)).mpr⟩
theorem SHC.s (h : TBL v a) (h30 : v 4 ≤ 30) (h0 : 0 ≤ t) (h4 : t < v 4) : SHC a t ↔ (a 6 t.toNat = 3 ∨ SHC a (a 8 t.toNat)) := by
  have h8 := h.b8 t h0 h4
  have e := shc_fuel (r := a 6) h.b8 30 31 (a 8 t.toNat) (by omega) (by omega) (by omega)
  show shc (a 6) (a 8) (30 + 1) t ↔ (a 6 t.toNat = 3 ∨ shc (a 6) (a 8) 31 (a 8 t.toNat))
  rw [← e, shc_s]
  exact ⟨fun h => h.2, fun h => ⟨h0, h⟩⟩
theorem SHC.no0 (h0 : t < 0) : ¬ SHC a t := fun h => absurd h.1 (by omega)
theorem SHI.init : SHI a t 0 t := ⟨Or.inr, fun h => h.resolve_left (by decide)⟩
theorem SHI.zero (h : SHI a t g b) (hT : TBL v a) (h30 : v 4 ≤ 30) (h0 : 0 ≤ b) (h4 : b < v 4) (e : g ≠ 1) (e2 : a 6 b.toNat ≠ 3) : SHI a t 0 (a 8 b.toNat) := by
  have g1 := SHC.s hT h30 h0 h4
  refine ⟨fun w => Or.inr ?_, fun w => h.mpr (Or.inr (g1.mpr (Or.inr (w.resolve_left (by decide)))))⟩
  exact (g1.mp ((h.mp w).resolve_left e)).resolve_left e2
theorem SHI.fin (h : SHI a t g b) (hb : b < 0) : SHE g a t := ⟨fun w => h.mpr (Or.inl w), fun w => (h.mp w).resolve_right (SHC.no0 hb)⟩
theorem PFA.of (hA : ALK f a x y) (hf : 0 ≤ f ∧ f ≤ a 46 x.toNat ∧ f ≤ a 46 y.toNat) : (f = a 46 x.toNat ↔ PFA a x y) ∧ (f = a 46 y.toNat ↔ PFA a y x) := by
  refine ⟨⟨fun w => ⟨by omega, fun k k0 k1 => hA.1 k k0 (by omega)⟩, fun w => ?_⟩, ⟨fun w => ⟨by omega, fun k k0 k1 => (hA.1 k k0 (by omega)).symm⟩, fun w => ?_⟩⟩
  · by_cases e : f = a 46 x.toNat
    · exact e
    · have w1 := w.1
      exact absurd (w.2 f hf.1 (by omega)) (hA.2 (by omega) (by omega))
  · by_cases e : f = a 46 y.toNat
    · exact e
    · have w1 := w.1
      exact absurd (w.2 f hf.1 (by omega)).symm (hA.2 (by omega) (by omega))
theorem RDI.zero : RDI v a b x b := fun z h1 h2 => absurd h1 (by omega)
theorem RDI.step (h : RDI v a b x y) (hA : ALK f a x y) (hf : 0 ≤ f ∧ f ≤ a 46 x.toNat ∧ f ≤ a 46 y.toNat) (e1 : f ≠ a 46 x.toNat) (e2 : f ≠ a 46 y.toNat) : RDI v a b x (y + 1) := fun z h1 h2 => by
  by_cases w : z < y
  · exact h z h1 w
  · have e : z = y := by omega
    subst e
    have g := PFA.of hA hf
    exact ⟨fun w => e1 (g.1.mpr w), fun w => e2 (g.2.mpr w)⟩
theorem RDO.zero : RDO v a b b := fun z h1 h2 => absurd h1 (by omega)
theorem RDO.step (h : RDO v a b x) (h1 : rcl a x (a 46 x.toNat - 1) ≠ v 33) (h2 : RDI v a b x x) : RDO v a b (x + 1) := fun z g1 g2 => by
  by_cases w : z < x
  · exact h z g1 w
  · have e : z = x := by omega
    subst e
    exact ⟨h1, h2⟩
theorem RDE.yes (h : RDO v a (6008 * q) x) (hx : 6008 * q + a 47 q.toNat ≤ x) : RDE 1 v a q := ⟨fun _ z h1 h2 => h z h1 (by omega), fun _ => rfl⟩
theorem RDE.no1 (h1 : 6008 * q ≤ x) (h2 : x < 6008 * q + a 47 q.toNat) (h : rcl a x (a 46 x.toNat - 1) = v 33) : RDE 0 v a q := ⟨fun w => absurd w (by decide), fun w => absurd h (w x h1 h2).1⟩
theorem RDE.no2 (h1 : 6008 * q ≤ x) (h2 : x < 6008 * q + a 47 q.toNat) (h3 : 6008 * q ≤ y) (h4 : y < x) (hA : ALK f a x y) (hf : 0 ≤ f ∧ f ≤ a 46 x.toNat ∧ f ≤ a 46 y.toNat) (e : f = a 46 x.toNat ∨ f = a 46 y.toNat) : RDE 0 v a q := ⟨fun w => absurd w (by decide), fun w => by
  have g := (w x h1 h2).2 y h3 h4
  have p := PFA.of hA hf
  rcases e with e | e
  · exact absurd (p.1.mp e) g.1
  · exact absurd (p.2.mp e) g.2⟩
theorem rent.pf {x y : Int} (hx : rent a a2 x d) (hy : rent a a2 y e) (h15 : a2 15 = a 15) (h17 : a2 17 = a 17) : PFA a2 x y ↔ PFX a d e := by
  have g1 := hx.rc1 h15 h17
  have g2 := hy.rc1 h15 h17
  unfold PFA PFX
  rw [g1.1, g2.1]
  constructor
  · exact fun w => ⟨w.1, fun k k0 k1 => by rw [← g1.2, ← g2.2]; exact w.2 k k0 k1⟩
  · exact fun w => ⟨w.1, fun k k0 k1 => by rw [g1.2, g2.2]; exact w.2 k k0 k1⟩
theorem HLD.rd (h : HLD a a2 q l) (h15 : a2 15 = a 15) (h17 : a2 17 = a 17) (hq : 0 ≤ q) (h33 : v2 33 = v 33) : RDO v2 a2 (6008 * q) (6008 * q + a2 47 q.toNat) ↔ RDL a l (v 33) := by
  obtain ⟨g1, g2, g3⟩ := h
  constructor
  · intro w i d hd
    have lt := gl_lt hd
    have r1 := g3 i d hd
    obtain ⟨w1, w2⟩ := w (6008 * q + i) (by omega) (by omega)
    have c := r1.rc1 h15 h17
    rw [c.1, c.2, h33] at w1
    refine ⟨w1, fun j e hj he => ?_⟩
    have r2 := g3 j e he
    obtain ⟨p1, p2⟩ := w2 (6008 * q + j) (by omega) (by omega)
    exact ⟨fun n => p1 ((r1.pf r2 h15 h17).mpr n), fun n => p2 ((r2.pf r1 h15 h17).mpr n)⟩
  · intro w z z1 z2
    have lt : (z - 6008 * q).toNat < l.length := by omega
    have e1 : z = 6008 * q + (((z - 6008 * q).toNat : Nat) : Int) := by omega
    obtain ⟨d, hd⟩ : ∃ d, l[(z - 6008 * q).toNat]? = some d := ⟨_, List.getElem?_eq_getElem lt⟩
    have r1 := g3 _ d hd
    rw [← e1] at r1
    obtain ⟨w1, w2⟩ := w _ d hd
    have c := r1.rc1 h15 h17
    refine ⟨by rw [c.1, c.2, h33]; exact w1, fun y y1 y2 => ?_⟩
    have lt2 : (y - 6008 * q).toNat < l.length := by omega
    have e2 : y = 6008 * q + (((y - 6008 * q).toNat : Nat) : Int) := by omega
    obtain ⟨e, he⟩ : ∃ e, l[(y - 6008 * q).toNat]? = some e := ⟨_, List.getElem?_eq_getElem lt2⟩
    have r2 := g3 _ e he
    rw [← e2] at r2
    obtain ⟨p1, p2⟩ := w2 _ e (by omega) he
    exact ⟨fun n => p1 ((r1.pf r2 h15 h17).mp n), fun n => p2 ((r2.pf r1 h15 h17).mp n)⟩
theorem JDG.uni (h : JDG v a t f1) (h2 : JDG v a t f2) : f1 = f2 := by
  rcases h with ⟨p1, p2⟩ | ⟨p1, p2⟩
  · rcases h2 with ⟨q1, q2⟩ | ⟨q1, _⟩
    · omega
    · exact absurd q1 p1
  · rcases h2 with ⟨q1, _⟩ | ⟨_, q2⟩
    · exact absurd p1 q1
    · rcases p2 with ⟨p3, p4⟩ | ⟨p3, p4⟩
      · rcases q2 with ⟨q3, q4⟩ | ⟨q3, q4⟩
        · omega
        · exact absurd p3 q3
      · rcases q2 with ⟨q3, q4⟩ | ⟨q3, q4⟩
        · exact absurd q3 p3
        · omega
theorem JDG.no (h : ¬ (WHL v a t ∧ a 6 t.toNat ≠ 4)) (hf : f = -1) : JDG v a t f := Or.inl ⟨h, hf⟩
theorem JDG.sh (h : WHL v a t ∧ a 6 t.toNat ≠ 4) (hs : SHC a t ∨ (a 6 t.toNat = 5 ∧ SHC a (a 9 t.toNat))) (hf : f = 0) : JDG v a t f := Or.inr ⟨h, Or.inr ⟨fun w => w.1 hs, hf⟩⟩
theorem JDG.ok (h : WHL v a t ∧ a 6 t.toNat ≠ 4) (hs : ¬ (SHC a t ∨ (a 6 t.toNat = 5 ∧ SHC a (a 9 t.toNat)))) (hG : GAT a a2 t) (h15 : a2 15 = a 15) (h17 : a2 17 = a 17) (h33 : v2 33 = v 33) (hr : RDE f1 v2 a2 0) (hr2 : RDE f2 v2 a2 1) (e : f1 = 1) (e2 : f2 = 1) (hf : f = 1) : JDG v a t f := Or.inr ⟨h, Or.inl ⟨⟨hs, (hG.1.rd h15 h17 (by decide) h33).mp (hr.mp e), (hG.2.rd h15 h17 (by decide) h33).mp (hr2.mp e2)⟩, hf⟩⟩
def SHG (g : Int) (a : Nat → Nat → Int) (t : Int) : Prop := g = 1 ↔ (SHC a t ∨ (a 6 t.toNat = 5 ∧ SHC a (a 9 t.toNat)))
theorem SHG.p (h : SHE f a t) (h5 : a 6 t.toNat ≠ 5) : SHG f a t := ⟨fun w => Or.inl (h.mp w), fun w => h.mpr (w.resolve_right (fun q => h5 q.1))⟩
theorem SHG.c (hT : TBL v a) (h30 : v 4 ≤ 30) (h0 : 0 ≤ t) (h4 : t < v 4) (h5 : a 6 t.toNat = 5) (h : SHE f a (a 8 t.toNat)) (h2 : SHE f2 a (a 9 t.toNat)) (e : f ≠ 1) (e2 : f2 ≠ 1) : SHG 0 a t := ⟨fun w => absurd w (by decide), fun w => by
  rcases w with w | w
  · rcases (SHC.s hT h30 h0 h4).mp w with q | q
    · omega
    · exact absurd (h.mpr q) e
  · exact absurd (h2.mpr w.2) e2⟩
end JUDS
set_option maxHeartbeats 4000000 in
set_option maxRecDepth 100000 in
theorem N_measure {l : Launch} {G : GT} {h0 : Nat} {ad ln : Nat → Nat} {v : Nat → Int} {a : Nat → Nat → Int}  {w1 h1 y1 : Int} (hB : BX v a) (hw1 : -2147483648 ≤ w1 ∧ w1 ≤ 2147483647) (hh1 : -2147483648 ≤ h1 ∧ h1 ≤ 2147483647) (hy1 : -2147483648 ≤ y1 ∧ y1 ≤ 2147483647) : Mm l G yX12_measure cX12_measure 4 (some .int) 1 [.int (iI w1), .int (iI h1), .int (iI y1)] h0 ad ln v a 0 0 (fun r v2 a2 => ∃ f : Int, r = some (.int (iI f)) ∧ fr [0, 1, 31, 32, 33] [] v a v2 a2 ∧ BX v2 a2 ∧ (((f = 1 ∧ 1 ≤ w1 ∧ w1 ≤ 100 ∧ 1 ≤ h1 ∧ h1 ≤ 50 ∧ 1 ≤ y1 ∧ y1 ≤ 255) ∨ (f = -1 ∧ ¬ (1 ≤ w1 ∧ w1 ≤ 100 ∧ 1 ≤ h1 ∧ h1 ≤ 50 ∧ 1 ≤ y1 ∧ y1 ≤ 255))) ∧ ((f = 1 ∧ v2 31 = w1 ∧ v2 32 = h1 ∧ v2 33 = y1) ∨ (f = -1 ∧ v2 31 = v 31 ∧ v2 32 = v 32 ∧ v2 33 = v 33)))) := by
  refine Mm.mk (by decide) (Nat.le_of_ble_eq_true rfl) ?_
  intro p e s m args below meth c A C
  have fp0 : fr [0, 1, 31, 32, 33] [] v a v a := fr.refl
  refine m_iload_n (j := 1) C dX12_measure_0 rfl ?_
  refine m_iconst C dX12_measure_1 ?_
  refine m_bipush (z := 100) C dX12_measure_2 (by decide) ?_
  refine m_callS (As := [.int (iI w1), .int (iI 1), .int (iI 100)]) (rest := []) C (fun L E => s_isIn (iI w1) (iI 1) (iI 100)) dX12_measure_4 kS_X12_174 rfl rfl (Nat.le_of_ble_eq_true rfl) ⟨Nat.le_of_ble_eq_true rfl, Nat.le_of_ble_eq_true rfl⟩ ⟨Nat.le_of_ble_eq_true rfl, Nat.le_of_ble_eq_true rfl⟩ ?_
  rcases inn_c (x := w1) (lo := 1) (hi := 100) ⟨by omega, by omega⟩ ⟨by decide, by decide⟩ ⟨by decide, by decide⟩ with ⟨h1a, h1b, h1e⟩ | ⟨h1a, h1e⟩
  · refine m_st (st2 := [.int (iI 1)]) (by rw [h1e]) ?_
    refine m_if_eq (tgt := 31) C ⟨by decide, by decide⟩ dX12_measure_7 (by decide) (fun z => absurd z (by omega)) (fun _ => ?_)
    refine m_iload_n (j := 2) C dX12_measure_10 rfl ?_
    refine m_iconst C dX12_measure_11 ?_
    refine m_bipush (z := 50) C dX12_measure_12 (by decide) ?_
    refine m_callS (As := [.int (iI h1), .int (iI 1), .int (iI 50)]) (rest := []) C (fun L E => s_isIn (iI h1) (iI 1) (iI 50)) dX12_measure_14 kS_X12_174 rfl rfl (Nat.le_of_ble_eq_true rfl) ⟨Nat.le_of_ble_eq_true rfl, Nat.le_of_ble_eq_true rfl⟩ ⟨Nat.le_of_ble_eq_true rfl, Nat.le_of_ble_eq_true rfl⟩ ?_
    rcases inn_c (x := h1) (lo := 1) (hi := 50) ⟨by omega, by omega⟩ ⟨by decide, by decide⟩ ⟨by decide, by decide⟩ with ⟨h2a, h2b, h2e⟩ | ⟨h2a, h2e⟩
    · refine m_st (st2 := [.int (iI 1)]) (by rw [h2e]) ?_
      refine m_if_eq (tgt := 31) C ⟨by decide, by decide⟩ dX12_measure_17 (by decide) (fun z => absurd z (by omega)) (fun _ => ?_)
      refine m_iload_n (j := 3) C dX12_measure_20 rfl ?_
      refine m_iconst C dX12_measure_21 ?_
      refine m_sipush (z := 255) C dX12_measure_22 (by decide) ?_
      refine m_callS (As := [.int (iI y1), .int (iI 1), .int (iI 255)]) (rest := []) C (fun L E => s_isIn (iI y1) (iI 1) (iI 255)) dX12_measure_25 kS_X12_174 rfl rfl (Nat.le_of_ble_eq_true rfl) ⟨Nat.le_of_ble_eq_true rfl, Nat.le_of_ble_eq_true rfl⟩ ⟨Nat.le_of_ble_eq_true rfl, Nat.le_of_ble_eq_true rfl⟩ ?_
      rcases inn_c (x := y1) (lo := 1) (hi := 255) ⟨by omega, by omega⟩ ⟨by decide, by decide⟩ ⟨by decide, by decide⟩ with ⟨h3a, h3b, h3e⟩ | ⟨h3a, h3e⟩
      · refine m_st (st2 := [.int (iI 1)]) (by rw [h3e]) ?_
        refine m_if_ne (tgt := 38) C ⟨by decide, by decide⟩ dX12_measure_28 (by decide) (fun _ => ?_) (fun z => absurd z (by omega))
        refine m_aload_n (j := 0) C dX12_measure_38 rfl ?_
        refine m_iload_n (j := 1) C dX12_measure_39 rfl ?_
        refine m_put (k := 31) (z := w1) C dX12_measure_40 w6_90 (by decide) rfl rfl rfl ?_
        have bq1 : BX (va_up v 31 w1) a := hB.put (k := 31) (z := w1) (show 1 ≤ w1 ∧ w1 ≤ 100 by omega)
        have fq1 := fp0.put (k := 31) (z := w1) rfl
        refine m_aload_n (j := 0) C dX12_measure_43 rfl ?_
        refine m_iload_n (j := 2) C dX12_measure_44 rfl ?_
        refine m_put (k := 32) (z := h1) C dX12_measure_45 w6_91 (by decide) rfl rfl rfl ?_
        have bq2 : BX (va_up (va_up v 31 w1) 32 h1) a := bq1.put (k := 32) (z := h1) (show 1 ≤ h1 ∧ h1 ≤ 50 by omega)
        have fq2 := fq1.put (k := 32) (z := h1) rfl
        refine m_aload_n (j := 0) C dX12_measure_48 rfl ?_
        refine m_iload_n (j := 3) C dX12_measure_49 rfl ?_
        refine m_put (k := 33) (z := y1) C dX12_measure_50 w6_92 (by decide) rfl rfl rfl ?_
        have bq3 : BX (va_up (va_up (va_up v 31 w1) 32 h1) 33 y1) a := bq2.put (k := 33) (z := y1) (show (-2147483648) ≤ y1 ∧ y1 ≤ 2147483647 by omega)
        have fq3 := fq2.put (k := 33) (z := y1) rfl
        refine m_aload_n (j := 0) C dX12_measure_53 rfl ?_
        refine m_iconst C dX12_measure_54 ?_
        refine m_call (mc2 := 0) (ms2 := 0) (As := [.int (iI 1)]) (rest := []) C (B_fine (x := 1) bq3 (by show -2147483648 ≤ (1 : Int) ∧ (1 : Int) ≤ 2147483647; omega)) dX12_measure_55 kV_X12_158 rfl ck_13 rfl (Nat.le_of_ble_eq_true rfl) ⟨Nat.le_of_ble_eq_true rfl, Nat.le_of_ble_eq_true rfl⟩ ⟨Nat.le_of_ble_eq_true rfl, Nat.le_of_ble_eq_true rfl⟩ (fun rh4 vh4 ah4 h4 => ?_)
        obtain ⟨f1, rfl, fn1, bn1, ex1⟩ := h4
        have fq4 := fq3.call fn1 rfl rfl
        have gf1 : f1 = (1 : Int) := ex1
        refine m_st (st2 := [.int (iI f1)]) rfl ?_
        have rv1 : 1 ≤ vh4 31 ∧ vh4 31 ≤ 100 := bn1.1 31
        have ve1 : vh4 31 = w1 := fn1.1 31 rfl
        have rv2 : 1 ≤ vh4 32 ∧ vh4 32 ≤ 50 := bn1.1 32
        have ve2 : vh4 32 = h1 := fn1.1 32 rfl
        have rv3 : (-2147483648) ≤ vh4 33 ∧ vh4 33 ≤ 2147483647 := bn1.1 33
        have ve3 : vh4 33 = y1 := fn1.1 33 rfl
        exact m_iret C dX12_measure_58 rfl (Nat.le_of_ble_eq_true rfl) (Nat.le_of_ble_eq_true rfl) ⟨f1, rfl, fq4, bn1, ⟨by omega, by show (f1 = 1 ∧ (vh4 31) = w1 ∧ (vh4 32) = h1 ∧ (vh4 33) = y1) ∨ (f1 = -1 ∧ (vh4 31) = (v 31) ∧ (vh4 32) = (v 32) ∧ (vh4 33) = (v 33)); omega⟩⟩
      · refine m_st (st2 := [.int (iI 0)]) (by rw [h3e]) ?_
        refine m_if_ne (tgt := 38) C ⟨by decide, by decide⟩ dX12_measure_28 (by decide) (fun z => absurd z (by omega)) (fun _ => ?_)
        refine m_aload_n (j := 0) C dX12_measure_31 rfl ?_
        refine m_bipush (z := 6) C dX12_measure_32 (by decide) ?_
        refine m_call (mc2 := 0) (ms2 := 0) (As := [.int (iI 6)]) (rest := []) C (B_bad (x := 6) hB (by show -2147483648 ≤ (6 : Int) ∧ (6 : Int) ≤ 2147483647; omega)) dX12_measure_34 kV_X12_154 rfl ck_13 rfl (Nat.le_of_ble_eq_true rfl) ⟨Nat.le_of_ble_eq_true rfl, Nat.le_of_ble_eq_true rfl⟩ ⟨Nat.le_of_ble_eq_true rfl, Nat.le_of_ble_eq_true rfl⟩ (fun rh5 vh5 ah5 h5 => ?_)
        obtain ⟨f2, rfl, fn2, bn2, ex2⟩ := h5
        have fq5 := fp0.call fn2 rfl rfl
        have gf2 : f2 = -1 := ex2
        refine m_st (st2 := [.int (iI f2)]) rfl ?_
        have rv4 : 1 ≤ vh5 31 ∧ vh5 31 ≤ 100 := bn2.1 31
        have ve4 : vh5 31 = v 31 := fn2.1 31 rfl
        have rv5 : 1 ≤ vh5 32 ∧ vh5 32 ≤ 50 := bn2.1 32
        have ve5 : vh5 32 = v 32 := fn2.1 32 rfl
        have rv6 : (-2147483648) ≤ vh5 33 ∧ vh5 33 ≤ 2147483647 := bn2.1 33
        have ve6 : vh5 33 = v 33 := fn2.1 33 rfl
        exact m_iret C dX12_measure_37 rfl (Nat.le_of_ble_eq_true rfl) (Nat.le_of_ble_eq_true rfl) ⟨f2, rfl, fq5, bn2, ⟨by omega, by show (f2 = 1 ∧ (vh5 31) = w1 ∧ (vh5 32) = h1 ∧ (vh5 33) = y1) ∨ (f2 = -1 ∧ (vh5 31) = (v 31) ∧ (vh5 32) = (v 32) ∧ (vh5 33) = (v 33)); omega⟩⟩
    · refine m_st (st2 := [.int (iI 0)]) (by rw [h2e]) ?_
      refine m_if_eq (tgt := 31) C ⟨by decide, by decide⟩ dX12_measure_17 (by decide) (fun _ => ?_) (fun z => absurd z (by omega))
      refine m_aload_n (j := 0) C dX12_measure_31 rfl ?_
      refine m_bipush (z := 6) C dX12_measure_32 (by decide) ?_
      refine m_call (mc2 := 0) (ms2 := 0) (As := [.int (iI 6)]) (rest := []) C (B_bad (x := 6) hB (by show -2147483648 ≤ (6 : Int) ∧ (6 : Int) ≤ 2147483647; omega)) dX12_measure_34 kV_X12_154 rfl ck_13 rfl (Nat.le_of_ble_eq_true rfl) ⟨Nat.le_of_ble_eq_true rfl, Nat.le_of_ble_eq_true rfl⟩ ⟨Nat.le_of_ble_eq_true rfl, Nat.le_of_ble_eq_true rfl⟩ (fun rh6 vh6 ah6 h6 => ?_)
      obtain ⟨f3, rfl, fn3, bn3, ex3⟩ := h6
      have fq6 := fp0.call fn3 rfl rfl
      have gf3 : f3 = -1 := ex3
      refine m_st (st2 := [.int (iI f3)]) rfl ?_
      have rv7 : 1 ≤ vh6 31 ∧ vh6 31 ≤ 100 := bn3.1 31
      have ve7 : vh6 31 = v 31 := fn3.1 31 rfl
      have rv8 : 1 ≤ vh6 32 ∧ vh6 32 ≤ 50 := bn3.1 32
      have ve8 : vh6 32 = v 32 := fn3.1 32 rfl
      have rv9 : (-2147483648) ≤ vh6 33 ∧ vh6 33 ≤ 2147483647 := bn3.1 33
      have ve9 : vh6 33 = v 33 := fn3.1 33 rfl
      exact m_iret C dX12_measure_37 rfl (Nat.le_of_ble_eq_true rfl) (Nat.le_of_ble_eq_true rfl) ⟨f3, rfl, fq6, bn3, ⟨by omega, by show (f3 = 1 ∧ (vh6 31) = w1 ∧ (vh6 32) = h1 ∧ (vh6 33) = y1) ∨ (f3 = -1 ∧ (vh6 31) = (v 31) ∧ (vh6 32) = (v 32) ∧ (vh6 33) = (v 33)); omega⟩⟩
  · refine m_st (st2 := [.int (iI 0)]) (by rw [h1e]) ?_
    refine m_if_eq (tgt := 31) C ⟨by decide, by decide⟩ dX12_measure_7 (by decide) (fun _ => ?_) (fun z => absurd z (by omega))
    refine m_aload_n (j := 0) C dX12_measure_31 rfl ?_
    refine m_bipush (z := 6) C dX12_measure_32 (by decide) ?_
    refine m_call (mc2 := 0) (ms2 := 0) (As := [.int (iI 6)]) (rest := []) C (B_bad (x := 6) hB (by show -2147483648 ≤ (6 : Int) ∧ (6 : Int) ≤ 2147483647; omega)) dX12_measure_34 kV_X12_154 rfl ck_13 rfl (Nat.le_of_ble_eq_true rfl) ⟨Nat.le_of_ble_eq_true rfl, Nat.le_of_ble_eq_true rfl⟩ ⟨Nat.le_of_ble_eq_true rfl, Nat.le_of_ble_eq_true rfl⟩ (fun rh7 vh7 ah7 h7 => ?_)
    obtain ⟨f4, rfl, fn4, bn4, ex4⟩ := h7
    have fq7 := fp0.call fn4 rfl rfl
    have gf4 : f4 = -1 := ex4
    refine m_st (st2 := [.int (iI f4)]) rfl ?_
    have rv10 : 1 ≤ vh7 31 ∧ vh7 31 ≤ 100 := bn4.1 31
    have ve10 : vh7 31 = v 31 := fn4.1 31 rfl
    have rv11 : 1 ≤ vh7 32 ∧ vh7 32 ≤ 50 := bn4.1 32
    have ve11 : vh7 32 = v 32 := fn4.1 32 rfl
    have rv12 : (-2147483648) ≤ vh7 33 ∧ vh7 33 ≤ 2147483647 := bn4.1 33
    have ve12 : vh7 33 = v 33 := fn4.1 33 rfl
    exact m_iret C dX12_measure_37 rfl (Nat.le_of_ble_eq_true rfl) (Nat.le_of_ble_eq_true rfl) ⟨f4, rfl, fq7, bn4, ⟨by omega, by show (f4 = 1 ∧ (vh7 31) = w1 ∧ (vh7 32) = h1 ∧ (vh7 33) = y1) ∨ (f4 = -1 ∧ (vh7 31) = (v 31) ∧ (vh7 32) = (v 32) ∧ (vh7 33) = (v 33)); omega⟩⟩
