def shc (k b : Nat → Int) : Nat → Int → Prop
  | 0, _ => False
  | n + 1, t => 0 ≤ t ∧ (k t.toNat = 3 ∨ shc k b n (b t.toNat))
def SHC (a : Nat → Nat → Int) (t : Int) : Prop := shc (a 6) (a 8) 31 t
def SHE (f : Int) (a : Nat → Nat → Int) (t : Int) : Prop := f = 1 ↔ SHC a t
def SHI (a : Nat → Nat → Int) (t g b : Int) : Prop := SHC a t ↔ (g = 1 ∨ SHC a b)
def PFX (a : Nat → Nat → Int) (d e : Int) : Prop := rlen a d ≤ rlen a e ∧ ∀ k : Int, 0 ≤ k → k < rlen a d → dcl a d k = dcl a e k
def PFA (a : Nat → Nat → Int) (x y : Int) : Prop := a 46 x.toNat ≤ a 46 y.toNat ∧ ∀ k : Int, 0 ≤ k → k < a 46 x.toNat → rcl a x k = rcl a y k
def RDL (a : Nat → Nat → Int) (l : List Int) (h : Int) : Prop := ∀ (i : Nat) (d : Int), l[i]? = some d → dcl a d (rlen a d - 1) ≠ h ∧ ∀ (j : Nat) (e : Int), j < i → l[j]? = some e → ¬ PFX a d e ∧ ¬ PFX a e d
def RDI (v : Nat → Int) (a : Nat → Nat → Int) (b x y : Int) : Prop := ∀ z : Int, b ≤ z → z < y → ¬ PFA a x z ∧ ¬ PFA a z x
def RDO (v : Nat → Int) (a : Nat → Nat → Int) (b x : Int) : Prop := ∀ z : Int, b ≤ z → z < x → rcl a z (a 46 z.toNat - 1) ≠ v 33 ∧ RDI v a b z z
def RDE (f : Int) (v : Nat → Int) (a : Nat → Nat → Int) (q : Int) : Prop := f = 1 ↔ RDO v a (6008 * q) (6008 * q + a 47 q.toNat)
def JOK (v : Nat → Int) (a : Nat → Nat → Int) (t : Int) : Prop := ¬ (SHC a t ∨ (a 6 t.toNat = 5 ∧ SHC a (a 9 t.toNat))) ∧ RDL a (gat0 a t) (v 33) ∧ RDL a (gat1 a t) (v 33)
def JDG (v : Nat → Int) (a : Nat → Nat → Int) (t f : Int) : Prop := (¬ (WHL v a t ∧ a 6 t.toNat ≠ 4) ∧ f = -1) ∨ ((WHL v a t ∧ a 6 t.toNat ≠ 4) ∧ ((JOK v a t ∧ f = 1) ∨ (¬ JOK v a t ∧ f = 0)))
section JUDS
variable {v v2 : Nat → Int} {a a1 a2 : Nat → Nat → Int} {q x y z t b d e f f1 f2 g k h : Int} {n : Nat} {l : List Int}
theorem shc_s {r b : Nat → Int} (n : Nat) (t : Int) : shc r b (n + 1) t = (0 ≤ t ∧ (r t.toNat = 3 ∨ shc r b n (b t.toNat))) := rfl
theorem shc_fuel {r b : Nat → Int} {V : Int} (hb : ∀ t : Int, 0 ≤ t → t < V → b t.toNat < t) : ∀ (n m : Nat) (t : Int), t < V → t < (n : Int) → t < (m : Int) → (shc r b n t ↔ shc r b m t) := by
  intro n
  induction n with
  | zero =>
    intro m t h1 h2 h3
    cases m with
    | zero => exact Iff.rfl
    | succ m => rw [shc_s]; exact ⟨fun h => False.elim h, fun h => absurd h.1 (by omega)⟩
  | succ n ih =>
    intro m t h1 h2 h3
    cases m with
    | zero => rw [shc_s]; exact ⟨fun h => absurd h.1 (by omega), fun h => False.elim h⟩
    | succ m =>
      rw [shc_s, shc_s]
      refine ⟨fun h => ?_, fun h => ?_⟩
      · have h4 := hb t h.1 h1
        exact ⟨h.1, h.2.imp id (ih m (b t.toNat) (by omega) (by omega) (by omega)).mp⟩
      · have h4 := hb t h.1 h1
        exact ⟨h.1, h.2.imp id (ih m (b t.toNat) (by omega) (by omega) (by omega)).mpr⟩
theorem SHC.s (h : TBL v a) (h30 : v 4 ≤ 30) (h0 : 0 ≤ t) (h4 : t < v 4) : SHC a t ↔ (a 6 t.toNat = 3 ∨ SHC a (a 8 t.toNat)) := by
  have h8 := h.b8 t h0 h4
  have e := shc_fuel (r := a 6) h.b8 30 31 (a 8 t.toNat) (by omega) (by omega) (by omega)
  show shc (a 6) (a 8) (30 + 1) t ↔ (a 6 t.toNat = 3 ∨ shc (a 6) (a 8) 31 (a 8 t.toNat))
  rw [← e, shc_s]
  exact ⟨fun h => h.2, fun h => ⟨h0, h⟩⟩
theorem SHC.no0 (h0 : t < 0) : ¬ SHC a t := fun h => absurd h.1 (by omega)
theorem SHI.init : SHI a t 0 t := ⟨Or.inr, fun h => h.resolve_left (by decide)⟩
theorem SHI.one (h : SHI a t g b) (hT : TBL v a) (h30 : v 4 ≤ 30) (h0 : 0 ≤ b) (h4 : b < v 4) (e : g = 1 ∨ a 6 b.toNat = 3) : SHI a t 1 (a 8 b.toNat) := by
  have g1 := SHC.s hT h30 h0 h4
  refine ⟨fun _ => Or.inl rfl, fun _ => h.mpr ?_⟩
  rcases e with e | e
  · exact Or.inl e
  · exact Or.inr (g1.mpr (Or.inl e))
theorem SHI.zero (h : SHI a t g b) (hT : TBL v a) (h30 : v 4 ≤ 30) (h0 : 0 ≤ b) (h4 : b < v 4) (e : g ≠ 1) (e2 : a 6 b.toNat ≠ 3) : SHI a t 0 (a 8 b.toNat) := by
  have g1 := SHC.s hT h30 h0 h4
  refine ⟨fun w => Or.inr ?_, fun w => h.mpr (Or.inr (g1.mpr (Or.inr (w.resolve_left (by decide)))))⟩
  exact (g1.mp ((h.mp w).resolve_left e)).resolve_left e2
theorem SHI.fin (h : SHI a t g b) (hb : b < 0) : SHE g a t := ⟨fun w => h.mpr (Or.inl w), fun w => (h.mp w).resolve_right (SHC.no0 hb)⟩
theorem PFA.of (hA : ALK f a x y) (hf : 0 ≤ f ∧ f ≤ a 46 x.toNat ∧ f ≤ a 46 y.toNat) : (f = a 46 x.toNat ↔ PFA a x y) ∧ (f = a 46 y.toNat ↔ PFA a y x) := by
  refine ⟨⟨fun w => ⟨by omega, fun k k0 k1 => hA.1 k k0 (by omega)⟩, fun w => ?_⟩, ⟨fun w => ⟨by omega, fun k k0 k1 => (hA.1 k k0 (by omega)).symm⟩, fun w => ?_⟩⟩
  · by_cases e : f = a 46 x.toNat
    · exact e
    · have w1 := w.1
      exact absurd (w.2 f hf.1 (by omega)) (hA.2 (by omega) (by omega))
  · by_cases e : f = a 46 y.toNat
    · exact e
    · have w1 := w.1
      exact absurd (w.2 f hf.1 (by omega)).symm (hA.2 (by omega) (by omega))
theorem RDI.zero : RDI v a b x b := fun z h1 h2 => absurd h1 (by omega)
theorem RDI.step (h : RDI v a b x y) (hA : ALK f a x y) (hf : 0 ≤ f ∧ f ≤ a 46 x.toNat ∧ f ≤ a 46 y.toNat) (e1 : f ≠ a 46 x.toNat) (e2 : f ≠ a 46 y.toNat) : RDI v a b x (y + 1) := fun z h1 h2 => by
  by_cases w : z < y
  · exact h z h1 w
  · have e : z = y := by omega
    subst e
    have g := PFA.of hA hf
    exact ⟨fun w => e1 (g.1.mpr w), fun w => e2 (g.2.mpr w)⟩
theorem RDO.zero : RDO v a b b := fun z h1 h2 => absurd h1 (by omega)
theorem RDO.step (h : RDO v a b x) (h1 : rcl a x (a 46 x.toNat - 1) ≠ v 33) (h2 : RDI v a b x x) : RDO v a b (x + 1) := fun z g1 g2 => by
  by_cases w : z < x
  · exact h z g1 w
  · have e : z = x := by omega
    subst e
    exact ⟨h1, h2⟩
theorem RDE.yes (h : RDO v a (6008 * q) x) (hx : 6008 * q + a 47 q.toNat ≤ x) : RDE 1 v a q := ⟨fun _ z h1 h2 => h z h1 (by omega), fun _ => rfl⟩
theorem RDE.no1 (h1 : 6008 * q ≤ x) (h2 : x < 6008 * q + a 47 q.toNat) (h : rcl a x (a 46 x.toNat - 1) = v 33) : RDE 0 v a q := ⟨fun w => absurd w (by decide), fun w => absurd h (w x h1 h2).1⟩
theorem RDE.no2 (h1 : 6008 * q ≤ x) (h2 : x < 6008 * q + a 47 q.toNat) (h3 : 6008 * q ≤ y) (h4 : y < x) (hA : ALK f a x y) (hf : 0 ≤ f ∧ f ≤ a 46 x.toNat ∧ f ≤ a 46 y.toNat) (e : f = a 46 x.toNat ∨ f = a 46 y.toNat) : RDE 0 v a q := ⟨fun w => absurd w (by decide), fun w => by
  have g := (w x h1 h2).2 y h3 h4
  have p := PFA.of hA hf
  rcases e with e | e
  · exact absurd (p.1.mp e) g.1
  · exact absurd (p.2.mp e) g.2⟩
theorem rent.pf {x y : Int} (hx : rent a a2 x d) (hy : rent a a2 y e) (h15 : a2 15 = a 15) (h17 : a2 17 = a 17) : PFA a2 x y ↔ PFX a d e := by
  have g1 := hx.rc1 h15 h17
  have g2 := hy.rc1 h15 h17
  unfold PFA PFX
  rw [g1.1, g2.1]
  constructor
  · exact fun w => ⟨w.1, fun k k0 k1 => by rw [← g1.2, ← g2.2]; exact w.2 k k0 k1⟩
  · exact fun w => ⟨w.1, fun k k0 k1 => by rw [g1.2, g2.2]; exact w.2 k k0 k1⟩
theorem HLD.rd (h : HLD a a2 q l) (h15 : a2 15 = a 15) (h17 : a2 17 = a 17) (hq : 0 ≤ q) (h33 : v2 33 = v 33) : RDO v2 a2 (6008 * q) (6008 * q + a2 47 q.toNat) ↔ RDL a l (v 33) := by
  obtain ⟨g1, g2, g3⟩ := h
  constructor
  · intro w i d hd
    have lt := gl_lt hd
    have r1 := g3 i d hd
    obtain ⟨w1, w2⟩ := w (6008 * q + i) (by omega) (by omega)
    have c := r1.rc1 h15 h17
    rw [c.1, c.2, h33] at w1
    refine ⟨w1, fun j e hj he => ?_⟩
    have r2 := g3 j e he
    obtain ⟨p1, p2⟩ := w2 (6008 * q + j) (by omega) (by omega)
    exact ⟨fun n => p1 ((r1.pf r2 h15 h17).mpr n), fun n => p2 ((r2.pf r1 h15 h17).mpr n)⟩
  · intro w z z1 z2
    have lt : (z - 6008 * q).toNat < l.length := by omega
    have e1 : z = 6008 * q + (((z - 6008 * q).toNat : Nat) : Int) := by omega
    obtain ⟨d, hd⟩ : ∃ d, l[(z - 6008 * q).toNat]? = some d := ⟨_, List.getElem?_eq_getElem lt⟩
    have r1 := g3 _ d hd
    rw [← e1] at r1
    obtain ⟨w1, w2⟩ := w _ d hd
    have c := r1.rc1 h15 h17
    refine ⟨by rw [c.1, c.2, h33]; exact w1, fun y y1 y2 => ?_⟩
    have lt2 : (y - 6008 * q).toNat < l.length := by omega
    have e2 : y = 6008 * q + (((y - 6008 * q).toNat : Nat) : Int) := by omega
    obtain ⟨e, he⟩ : ∃ e, l[(y - 6008 * q).toNat]? = some e := ⟨_, List.getElem?_eq_getElem lt2⟩
    have r2 := g3 _ e he
    rw [← e2] at r2
    obtain ⟨p1, p2⟩ := w2 _ e (by omega) he
    exact ⟨fun n => p1 ((r1.pf r2 h15 h17).mp n), fun n => p2 ((r2.pf r1 h15 h17).mp n)⟩
theorem JDG.uni (h : JDG v a t f1) (h2 : JDG v a t f2) : f1 = f2 := by
  rcases h with ⟨p1, p2⟩ | ⟨p1, p2⟩
  · rcases h2 with ⟨q1, q2⟩ | ⟨q1, _⟩
    · omega
    · exact absurd q1 p1
  · rcases h2 with ⟨q1, _⟩ | ⟨_, q2⟩
    · exact absurd p1 q1
    · rcases p2 with ⟨p3, p4⟩ | ⟨p3, p4⟩
      · rcases q2 with ⟨q3, q4⟩ | ⟨q3, q4⟩
        · omega
        · exact absurd p3 q3
      · rcases q2 with ⟨q3, q4⟩ | ⟨q3, q4⟩
        · exact absurd q3 p3
        · omega
theorem JDG.no (h : ¬ (WHL v a t ∧ a 6 t.toNat ≠ 4)) (hf : f = -1) : JDG v a t f := Or.inl ⟨h, hf⟩
theorem JDG.sh (h : WHL v a t ∧ a 6 t.toNat ≠ 4) (hs : SHC a t ∨ (a 6 t.toNat = 5 ∧ SHC a (a 9 t.toNat))) (hf : f = 0) : JDG v a t f := Or.inr ⟨h, Or.inr ⟨fun w => w.1 hs, hf⟩⟩
theorem JDG.r0 (h : WHL v a t ∧ a 6 t.toNat ≠ 4) (hG : GAT a a2 t) (h15 : a2 15 = a 15) (h17 : a2 17 = a 17) (h33 : v2 33 = v 33) (hr : RDE f1 v2 a2 0) (e : f1 ≠ 1) (hf : f = 0) : JDG v a t f := Or.inr ⟨h, Or.inr ⟨fun w => e (hr.mpr ((hG.1.rd h15 h17 (by decide) h33).mpr w.2.1)), hf⟩⟩
theorem JDG.r1 (h : WHL v a t ∧ a 6 t.toNat ≠ 4) (hG : GAT a a2 t) (h15 : a2 15 = a 15) (h17 : a2 17 = a 17) (h33 : v2 33 = v 33) (hr : RDE f1 v2 a2 1) (e : f1 ≠ 1) (hf : f = 0) : JDG v a t f := Or.inr ⟨h, Or.inr ⟨fun w => e (hr.mpr ((hG.2.rd h15 h17 (by decide) h33).mpr w.2.2)), hf⟩⟩
theorem JDG.ok (h : WHL v a t ∧ a 6 t.toNat ≠ 4) (hs : ¬ (SHC a t ∨ (a 6 t.toNat = 5 ∧ SHC a (a 9 t.toNat)))) (hG : GAT a a2 t) (h15 : a2 15 = a 15) (h17 : a2 17 = a 17) (h33 : v2 33 = v 33) (hr : RDE f1 v2 a2 0) (hr2 : RDE f2 v2 a2 1) (e : f1 = 1) (e2 : f2 = 1) (hf : f = 1) : JDG v a t f := Or.inr ⟨h, Or.inl ⟨⟨hs, (hG.1.rd h15 h17 (by decide) h33).mp (hr.mp e), (hG.2.rd h15 h17 (by decide) h33).mp (hr2.mp e2)⟩, hf⟩⟩
def SHG (g : Int) (a : Nat → Nat → Int) (t : Int) : Prop := g = 1 ↔ (SHC a t ∨ (a 6 t.toNat = 5 ∧ SHC a (a 9 t.toNat)))
theorem SHG.p (h : SHE f a t) (h5 : a 6 t.toNat ≠ 5) : SHG f a t := ⟨fun w => Or.inl (h.mp w), fun w => h.mpr (w.resolve_right (fun q => h5 q.1))⟩
theorem SHG.ga (hT : TBL v a) (h30 : v 4 ≤ 30) (h0 : 0 ≤ t) (h4 : t < v 4) (h5 : a 6 t.toNat = 5) (h : SHE f a (a 8 t.toNat)) (e : f = 1) : SHG 1 a t := ⟨fun _ => Or.inl ((SHC.s hT h30 h0 h4).mpr (Or.inr (h.mp e))), fun _ => rfl⟩
theorem SHG.gb (h5 : a 6 t.toNat = 5) (h : SHE f a (a 9 t.toNat)) (e : f = 1) : SHG 1 a t := ⟨fun _ => Or.inr ⟨h5, h.mp e⟩, fun _ => rfl⟩
theorem SHG.c (hT : TBL v a) (h30 : v 4 ≤ 30) (h0 : 0 ≤ t) (h4 : t < v 4) (h5 : a 6 t.toNat = 5) (h : SHE f a (a 8 t.toNat)) (h2 : SHE f2 a (a 9 t.toNat)) (e : f ≠ 1) (e2 : f2 ≠ 1) : SHG 0 a t := ⟨fun w => absurd w (by decide), fun w => by
  rcases w with w | w
  · rcases (SHC.s hT h30 h0 h4).mp w with q | q
    · omega
    · exact absurd (h.mpr q) e
  · exact absurd (h2.mpr w.2) e2⟩
end JUDS
set_option maxHeartbeats 4000000 in
set_option maxRecDepth 100000 in
theorem E_isShort {l : Launch} {G : GT} {h0 : Nat} {ad ln : Nat → Nat} {v : Nat → Int} {a : Nat → Nat → Int}  {t : Int} (hB : BX v a) (hT : TBL v a) (ht : -1 ≤ t ∧ t < v 4) : Mm l G yX12_isShort cX12_isShort 4 (some .boolean) 0 [.int (iI t)] h0 ad ln v a 0 0 (fun r v2 a2 => ∃ f : Int, r = some (.int (iI f)) ∧ fr [] [] v a v2 a2 ∧ BX v2 a2 ∧ ((f = 0 ∨ f = 1) ∧ SHE f a t)) := by
  refine Mm.mk (by decide) (Nat.le_of_ble_eq_true rfl) ?_
  intro p e s m args below meth c A C
  have h30 : 0 ≤ v 4 ∧ v 4 ≤ 30 := hB.1 4
  have fp0 : fr [] [] v a v a := fr.refl
  refine m_iconst C dX12_isShort_0 ?_
  refine m_istore_n (lv2 := [(2, .int (iI 0)), (0, .ref h0), (1, .int (iI t))]) C dX12_isShort_1 (by decide) rfl ?_
  refine m_iload_n (j := 2) C dX12_isShort_2 rfl ?_
  refine m_istore_n (lv2 := [(3, .int (iI t)), (2, .int (iI 0)), (0, .ref h0), (1, .int (iI t))]) C dX12_isShort_3 (by decide) rfl ?_
  have Lp1 : ∀ (nn : Nat) (g b1 : Int) (vb1 : Nat → Int) (ab1 : Nat → Nat → Int), b1 + 1 < (nn : Int) → BX vb1 ab1 → fr [] [] v a vb1 ab1 → (g = 0 ∨ g = 1) → (-1 ≤ b1 ∧ b1 ≤ t) → (SHI a t g b1) → mw p l e (rmq 0 0 0) s m args below meth c G A 4 (MQ below (Qm G A (fun rq Lq Eq => ∃ (vq : Nat → Int) (aq : Nat → Nat → Int), mI G h0 ad ln vq aq Lq Eq ∧ (fun r v2 a2 => ∃ f : Int, r = some (.int (iI f)) ∧ fr [] [] v a v2 a2 ∧ BX v2 a2 ∧ ((f = 0 ∨ f = 1) ∧ SHE f a t)) rq vq aq)) args s 0 0 A) h0 ad ln vb1 ab1 0 0 4 [(2, .int (iI g)), (3, .int (iI b1)), (0, .ref h0), (1, .int (iI t))] [] := by
    intro nn
    induction nn with
    | zero =>
      intro g b1 vb1 ab1 hm bxb1 fpb1 hg hb hs
      exact absurd hm (by omega)
    | succ nn ih1 =>
      intro g b1 vb1 ab1 hm bxb1 fpb1 hg hb hs
      refine m_iload_n (j := 1) C dX12_isShort_4 rfl ?_
      refine m_if_lt (tgt := 38) C ⟨by omega, by omega⟩ dX12_isShort_5 (by decide) (fun c1 => ?_) (fun c1 => ?_)
      · refine m_iload_n (j := 0) C dX12_isShort_38 rfl ?_
        exact m_zret C dX12_isShort_39 rfl (by omega) (Nat.le_of_ble_eq_true rfl) (Nat.le_of_ble_eq_true rfl) ⟨g, rfl, fpb1, bxb1, ⟨by omega, hs.fin (by omega)⟩⟩
      · have ht0 := hT.1 b1 (by omega) (by omega)
        refine m_iload_n (j := 0) C dX12_isShort_8 rfl ?_
        refine m_if_ne (tgt := 22) C ⟨by omega, by omega⟩ dX12_isShort_9 (by decide) (fun c2 => ?_) (fun c2 => ?_)
        · refine m_iconst C dX12_isShort_22 ?_
          refine m_goto (tgt := 27) C dX12_isShort_23 (by decide) ?_
          refine m_istore_n (lv2 := [(2, .int (iI 1)), (3, .int (iI b1)), (0, .ref h0), (1, .int (iI t))]) C dX12_isShort_27 (by decide) rfl ?_
          refine m_aload_n (j := 2) C dX12_isShort_28 rfl ?_
          refine m_geta (k := 8) C dX12_isShort_29 w6_67 (by decide) rfl ?_
          refine m_iload_n (j := 1) C dX12_isShort_32 rfl ?_
          refine m_ald (k := 8) C dX12_isShort_33 rfl rfl (by decide) (by omega) (by show _ < ((_ : Nat) : Int); simp only [mlen]; omega) (by decide) ?_
          have ra1 : (-1) ≤ ab1 8 b1.toNat ∧ ab1 8 b1.toNat ≤ 29 := bxb1.2 8 (b1.toNat)
          have ae1 : ab1 8 (b1.toNat) = a 8 (b1.toNat) := congrFun (fpb1.2 8 rfl) (b1.toNat)
          refine m_st (st2 := [.int (iI (a 8 b1.toNat))]) (congrArg (fun z => Value.int (iI z) :: []) (congrFun (fpb1.2 8 rfl) (b1.toNat))) ?_
          refine m_istore_n (lv2 := [(3, .int (iI (a 8 b1.toNat))), (2, .int (iI 1)), (0, .ref h0), (1, .int (iI t))]) C dX12_isShort_34 (by decide) rfl ?_
          refine m_goto (tgt := 4) C dX12_isShort_35 (by decide) ?_
          refine m_lv (lv2 := [(2, .int (iI 1)), (3, .int (iI (a 8 b1.toNat))), (0, .ref h0), (1, .int (iI t))]) [1, 0, 2, 3] rfl ?_
          exact ih1  1 (a 8 b1.toNat) _ _ (by omega) bxb1 fpb1 (by omega) (by omega) (hs.one hT (by omega) (by omega) (by omega) (by omega))
        · refine m_aload_n (j := 2) C dX12_isShort_12 rfl ?_
          refine m_geta (k := 6) C dX12_isShort_13 w6_65 (by decide) rfl ?_
          refine m_iload_n (j := 1) C dX12_isShort_16 rfl ?_
          refine m_ald (k := 6) C dX12_isShort_17 rfl rfl (by decide) (by omega) (by show _ < ((_ : Nat) : Int); simp only [mlen]; omega) (by decide) ?_
          have ra2 : 0 ≤ ab1 6 b1.toNat ∧ ab1 6 b1.toNat ≤ 5 := bxb1.2 6 (b1.toNat)
          have ae2 : ab1 6 (b1.toNat) = a 6 (b1.toNat) := congrFun (fpb1.2 6 rfl) (b1.toNat)
          refine m_st (st2 := [.int (iI (a 6 b1.toNat))]) (congrArg (fun z => Value.int (iI z) :: []) (congrFun (fpb1.2 6 rfl) (b1.toNat))) ?_
          refine m_iconst C dX12_isShort_18 ?_
          refine m_icmp_ne (tgt := 26) C ⟨by omega, by omega⟩ ⟨by decide, by decide⟩ dX12_isShort_19 (by decide) (fun c3 => ?_) (fun c3 => ?_)
          · refine m_iconst C dX12_isShort_26 ?_
            refine m_istore_n (lv2 := [(2, .int (iI 0)), (3, .int (iI b1)), (0, .ref h0), (1, .int (iI t))]) C dX12_isShort_27 (by decide) rfl ?_
            refine m_aload_n (j := 2) C dX12_isShort_28 rfl ?_
            refine m_geta (k := 8) C dX12_isShort_29 w6_67 (by decide) rfl ?_
            refine m_iload_n (j := 1) C dX12_isShort_32 rfl ?_
            refine m_ald (k := 8) C dX12_isShort_33 rfl rfl (by decide) (by omega) (by show _ < ((_ : Nat) : Int); simp only [mlen]; omega) (by decide) ?_
            have ra3 : (-1) ≤ ab1 8 b1.toNat ∧ ab1 8 b1.toNat ≤ 29 := bxb1.2 8 (b1.toNat)
            have ae3 : ab1 8 (b1.toNat) = a 8 (b1.toNat) := congrFun (fpb1.2 8 rfl) (b1.toNat)
            refine m_st (st2 := [.int (iI (a 8 b1.toNat))]) (congrArg (fun z => Value.int (iI z) :: []) (congrFun (fpb1.2 8 rfl) (b1.toNat))) ?_
            refine m_istore_n (lv2 := [(3, .int (iI (a 8 b1.toNat))), (2, .int (iI 0)), (0, .ref h0), (1, .int (iI t))]) C dX12_isShort_34 (by decide) rfl ?_
            refine m_goto (tgt := 4) C dX12_isShort_35 (by decide) ?_
            refine m_lv (lv2 := [(2, .int (iI 0)), (3, .int (iI (a 8 b1.toNat))), (0, .ref h0), (1, .int (iI t))]) [1, 0, 2, 3] rfl ?_
            exact ih1  0 (a 8 b1.toNat) _ _ (by omega) bxb1 fpb1 (by omega) (by omega) (hs.zero hT (by omega) (by omega) (by omega) (by omega) (by omega))
          · refine m_iconst C dX12_isShort_22 ?_
            refine m_goto (tgt := 27) C dX12_isShort_23 (by decide) ?_
            refine m_istore_n (lv2 := [(2, .int (iI 1)), (3, .int (iI b1)), (0, .ref h0), (1, .int (iI t))]) C dX12_isShort_27 (by decide) rfl ?_
            refine m_aload_n (j := 2) C dX12_isShort_28 rfl ?_
            refine m_geta (k := 8) C dX12_isShort_29 w6_67 (by decide) rfl ?_
            refine m_iload_n (j := 1) C dX12_isShort_32 rfl ?_
            refine m_ald (k := 8) C dX12_isShort_33 rfl rfl (by decide) (by omega) (by show _ < ((_ : Nat) : Int); simp only [mlen]; omega) (by decide) ?_
            have ra4 : (-1) ≤ ab1 8 b1.toNat ∧ ab1 8 b1.toNat ≤ 29 := bxb1.2 8 (b1.toNat)
            have ae4 : ab1 8 (b1.toNat) = a 8 (b1.toNat) := congrFun (fpb1.2 8 rfl) (b1.toNat)
            refine m_st (st2 := [.int (iI (a 8 b1.toNat))]) (congrArg (fun z => Value.int (iI z) :: []) (congrFun (fpb1.2 8 rfl) (b1.toNat))) ?_
            refine m_istore_n (lv2 := [(3, .int (iI (a 8 b1.toNat))), (2, .int (iI 1)), (0, .ref h0), (1, .int (iI t))]) C dX12_isShort_34 (by decide) rfl ?_
            refine m_goto (tgt := 4) C dX12_isShort_35 (by decide) ?_
            refine m_lv (lv2 := [(2, .int (iI 1)), (3, .int (iI (a 8 b1.toNat))), (0, .ref h0), (1, .int (iI t))]) [1, 0, 2, 3] rfl ?_
            exact ih1  1 (a 8 b1.toNat) _ _ (by omega) bxb1 fpb1 (by omega) (by omega) (hs.one hT (by omega) (by omega) (by omega) (by omega))
  refine m_lv (lv2 := [(2, .int (iI 0)), (3, .int (iI t)), (0, .ref h0), (1, .int (iI t))]) [1, 0, 2, 3] rfl ?_
  exact Lp1 32 0 t _ _ (by omega) hB fp0 (by omega) (by omega) SHI.init
set_option maxHeartbeats 4000000 in
set_option maxRecDepth 100000 in
theorem E_isReadable {l : Launch} {G : GT} {h0 : Nat} {ad ln : Nat → Nat} {v : Nat → Int} {a : Nat → Nat → Int}  {q : Int} (hB : BX v a) (hW : RWS a) (hq : q = 0 ∨ q = 1) : Mm l G yX12_isReadable cX12_isReadable 6 (some .boolean) 2 [.int (iI q)] h0 ad ln v a 0 0 (fun r v2 a2 => ∃ f : Int, r = some (.int (iI f)) ∧ fr [] [] v a v2 a2 ∧ BX v2 a2 ∧ ((f = 0 ∨ f = 1) ∧ RDE f v a q)) := by
  refine Mm.mk (by decide) (Nat.le_of_ble_eq_true rfl) ?_
  intro p e s m args below meth c A C
  have r47 := (hW q hq).1
  have fp0 : fr [] [] v a v a := fr.refl
  refine m_sipush (z := 6008) C dX12_isReadable_0 (by decide) ?_
  refine m_iload_n (j := 1) C dX12_isReadable_3 rfl ?_
  refine m_imul C dX12_isReadable_4 ?_
  refine m_istore_n (lv2 := [(2, .int (iI (6008 * q))), (0, .ref h0), (1, .int (iI q))]) C dX12_isReadable_5 (by decide) rfl ?_
  refine m_iload_n (j := 0) C dX12_isReadable_6 rfl ?_
  refine m_istore_n (lv2 := [(3, .int (iI (6008 * q))), (2, .int (iI (6008 * q))), (0, .ref h0), (1, .int (iI q))]) C dX12_isReadable_7 (by decide) rfl ?_
  have Lp1 : ∀ (nn : Nat) (x : Int) (vb1 : Nat → Int) (ab1 : Nat → Nat → Int), 6008 * q + 6009 - x < (nn : Int) → BX vb1 ab1 → fr [] [] v a vb1 ab1 → (6008 * q ≤ x ∧ x ≤ 6008 * q + a 47 q.toNat) → (RDO v a (6008 * q) x) → mw p l e (rmq 2 0 0) s m args below meth c G A 6 (MQ below (Qm G A (fun rq Lq Eq => ∃ (vq : Nat → Int) (aq : Nat → Nat → Int), mI G h0 ad ln vq aq Lq Eq ∧ (fun r v2 a2 => ∃ f : Int, r = some (.int (iI f)) ∧ fr [] [] v a v2 a2 ∧ BX v2 a2 ∧ ((f = 0 ∨ f = 1) ∧ RDE f v a q)) rq vq aq)) args s 0 0 A) h0 ad ln vb1 ab1 0 0 8 [(3, .int (iI x)), (2, .int (iI (6008 * q))), (0, .ref h0), (1, .int (iI q))] [] := by
    intro nn
    induction nn with
    | zero =>
      intro x vb1 ab1 hm bxb1 fpb1 hx hO
      obtain ⟨rfl, rfl⟩ := fpb1.eq
      exact absurd hm (by omega)
    | succ nn ih1 =>
      intro x vb1 ab1 hm bxb1 fpb1 hx hO
      obtain ⟨rfl, rfl⟩ := fpb1.eq
      refine m_iload_n (j := 0) C dX12_isReadable_8 rfl ?_
      refine m_iload_n (j := 1) C dX12_isReadable_9 rfl ?_
      refine m_aload_n (j := 2) C dX12_isReadable_10 rfl ?_
      refine m_geta (k := 47) C dX12_isReadable_11 w6_106 (by decide) rfl ?_
      refine m_iload_n (j := 3) C dX12_isReadable_14 rfl ?_
      refine m_ald (k := 47) C dX12_isReadable_15 rfl rfl (by decide) (by omega) (by show _ < ((_ : Nat) : Int); simp only [mlen]; omega) (by decide) ?_
      have ra1 : 0 ≤ a 47 q.toNat ∧ a 47 q.toNat ≤ 6008 := bxb1.2 47 (q.toNat)
      refine m_iadd C dX12_isReadable_16 ?_
      refine m_icmp_ge (tgt := 97) C ⟨by omega, by omega⟩ ⟨by omega, by omega⟩ dX12_isReadable_17 (by decide) (fun c1 => ?_) (fun c1 => ?_)
      · refine m_iconst C dX12_isReadable_97 ?_
        exact m_zret C dX12_isReadable_98 rfl (Or.inr rfl) (Nat.le_of_ble_eq_true rfl) (Nat.le_of_ble_eq_true rfl) ⟨1, rfl, fpb1, bxb1, ⟨by omega, RDE.yes hO (by omega)⟩⟩
      · have hok := (hW q hq).2 x (by omega) (by omega)
        unfold RowOK at hok
        refine m_aload_n (j := 2) C dX12_isReadable_20 rfl ?_
        refine m_iload_n (j := 0) C dX12_isReadable_21 rfl ?_
        refine m_aload_n (j := 2) C dX12_isReadable_22 rfl ?_
        refine m_geta (k := 46) C dX12_isReadable_23 w6_105 (by decide) rfl ?_
        refine m_iload_n (j := 0) C dX12_isReadable_26 rfl ?_
        refine m_ald (k := 46) C dX12_isReadable_27 rfl rfl (by decide) (by omega) (by show _ < ((_ : Nat) : Int); simp only [mlen]; omega) (by decide) ?_
        have ra2 : 0 ≤ a 46 x.toNat ∧ a 46 x.toNat ≤ 4 := bxb1.2 46 (x.toNat)
        refine m_iconst C dX12_isReadable_28 ?_
        refine m_isub C dX12_isReadable_29 ?_
        have ra3 : 0 ≤ a 45 x.toNat ∧ a 45 x.toNat ≤ 23999 := bxb1.2 45 (x.toNat)
        have ra4 : (-4) ≤ a 44 x.toNat ∧ a 44 x.toNat ≤ 5999 := bxb1.2 44 (x.toNat)
        refine m_call (mc2 := 0) (ms2 := 0) (As := [.int (iI x), .int (iI ((a 46 x.toNat) - 1))]) (rest := []) C (E_rowCell (w := x) (k := (a 46 x.toNat) - 1) bxb1 (by show 0 ≤ x ∧ x < 12016; omega) (by show 0 ≤ a 45 x.toNat + ((a 46 x.toNat) - 1) ∧ (0 ≤ a 44 x.toNat → a 45 x.toNat + ((a 46 x.toNat) - 1) < 24000) ∧ (a 44 x.toNat < 0 → a 45 x.toNat + ((a 46 x.toNat) - 1) < 480); omega)) dX12_isReadable_30 kV_X12_324 rfl ck_13 rfl (Nat.le_of_ble_eq_true rfl) ⟨Nat.le_of_ble_eq_true rfl, Nat.le_of_ble_eq_true rfl⟩ ⟨Nat.le_of_ble_eq_true rfl, Nat.le_of_ble_eq_true rfl⟩ (fun rh1 vh1 ah1 h1 => ?_)
        obtain ⟨f1, rfl, fn1, bn1, ex1⟩ := h1
        obtain ⟨rfl, rfl⟩ := fn1.eq
        obtain ⟨ex1, tl1⟩ := ex1
        have gf1 : -2147483648 ≤ f1 ∧ f1 ≤ 2147483647 := ex1
        refine m_st (st2 := [.int (iI f1)]) rfl ?_
        refine m_aload_n (j := 2) C dX12_isReadable_33 rfl ?_
        have rv1 : (-2147483648) ≤ v 33 ∧ v 33 ≤ 2147483647 := bxb1.1 33
        refine m_get (k := 33) C dX12_isReadable_34 w6_92 (by decide) rfl ?_
        refine m_icmp_ne (tgt := 42) C ⟨by omega, by omega⟩ ⟨by omega, by omega⟩ dX12_isReadable_37 (by decide) (fun c2 => ?_) (fun c2 => ?_)
        · refine m_iload_n (j := 1) C dX12_isReadable_42 rfl ?_
          refine m_istore (lv2 := [(4, .int (iI (6008 * q))), (3, .int (iI x)), (2, .int (iI (6008 * q))), (0, .ref h0), (1, .int (iI q))]) C dX12_isReadable_43 (by decide) rfl ?_
          have Lp2 : ∀ (nn : Nat) (y : Int) (vb2 : Nat → Int) (ab2 : Nat → Nat → Int), x + 1 - y < (nn : Int) → BX vb2 ab2 → fr [] [] v a vb2 ab2 → (6008 * q ≤ y ∧ y ≤ x) → (RDI v a (6008 * q) x y) → (rcl a x (a 46 x.toNat - 1) ≠ v 33) → mw p l e (rmq 2 0 0) s m args below meth c G A 6 (MQ below (Qm G A (fun rq Lq Eq => ∃ (vq : Nat → Int) (aq : Nat → Nat → Int), mI G h0 ad ln vq aq Lq Eq ∧ (fun r v2 a2 => ∃ f : Int, r = some (.int (iI f)) ∧ fr [] [] v a v2 a2 ∧ BX v2 a2 ∧ ((f = 0 ∨ f = 1) ∧ RDE f v a q)) rq vq aq)) args s 0 0 A) h0 ad ln vb2 ab2 0 0 45 [(4, .int (iI y)), (3, .int (iI x)), (2, .int (iI (6008 * q))), (0, .ref h0), (1, .int (iI q))] [] := by
            intro nn
            induction nn with
            | zero =>
              intro y vb2 ab2 hm bxb2 fpb2 hy hI hne
              obtain ⟨rfl, rfl⟩ := fpb2.eq
              exact absurd hm (by omega)
            | succ nn ih2 =>
              intro y vb2 ab2 hm bxb2 fpb2 hy hI hne
              obtain ⟨rfl, rfl⟩ := fpb2.eq
              refine m_iload (j := 0) C dX12_isReadable_45 rfl ?_
              refine m_iload_n (j := 1) C dX12_isReadable_47 rfl ?_
              refine m_icmp_ge (tgt := 91) C ⟨by omega, by omega⟩ ⟨by omega, by omega⟩ dX12_isReadable_48 (by decide) (fun c3 => ?_) (fun c3 => ?_)
              · refine m_iinc (z := x) (j := 1) (lv2 := [(3, .int (iI (x + 1))), (4, .int (iI y)), (2, .int (iI (6008 * q))), (0, .ref h0), (1, .int (iI q))]) C dX12_isReadable_91 rfl (by decide) rfl ?_
                refine m_goto (tgt := 8) C dX12_isReadable_94 (by decide) ?_
                refine m_lv (lv2 := [(3, .int (iI (x + 1))), (2, .int (iI (6008 * q))), (0, .ref h0), (1, .int (iI q))]) [0, 2, 3, 4] rfl ?_
                exact ih1  (x + 1) _ _ (by omega) bxb2 fpb2 (by omega) (hO.step hne (fun z h1 h2 => hI z h1 (by omega)))
              · refine m_aload_n (j := 3) C dX12_isReadable_51 rfl ?_
                refine m_iload_n (j := 1) C dX12_isReadable_52 rfl ?_
                refine m_iload (j := 0) C dX12_isReadable_53 rfl ?_
                refine m_call (mc2 := 0) (ms2 := 0) (As := [.int (iI x), .int (iI y)]) (rest := []) C (E_alike (x := x) (y := y) hB ((hW q hq).2 (x) (by omega) (by omega)) ((hW q hq).2 (y) (by omega) (by omega))) dX12_isReadable_55 kV_X12_404 rfl ck_13 rfl (Nat.le_of_ble_eq_true rfl) ⟨Nat.le_of_ble_eq_true rfl, Nat.le_of_ble_eq_true rfl⟩ ⟨Nat.le_of_ble_eq_true rfl, Nat.le_of_ble_eq_true rfl⟩ (fun rh2 vh2 ah2 h2 => ?_)
                obtain ⟨f2, rfl, fn2, _, ef2, al1⟩ := h2
                obtain ⟨rfl, rfl⟩ := fn2.eq
                have gf2 : 0 ≤ f2 ∧ f2 ≤ a 46 (x).toNat ∧ f2 ≤ a 46 (y).toNat := ef2
                refine m_st (st2 := [.int (iI f2)]) rfl ?_
                refine m_istore (lv2 := [(5, .int (iI f2)), (4, .int (iI y)), (3, .int (iI x)), (2, .int (iI (6008 * q))), (0, .ref h0), (1, .int (iI q))]) C dX12_isReadable_58 (by decide) rfl ?_
                refine m_iload (j := 0) C dX12_isReadable_60 rfl ?_
                refine m_aload_n (j := 4) C dX12_isReadable_62 rfl ?_
                refine m_geta (k := 46) C dX12_isReadable_63 w6_105 (by decide) rfl ?_
                refine m_iload_n (j := 2) C dX12_isReadable_66 rfl ?_
                refine m_ald (k := 46) C dX12_isReadable_67 rfl rfl (by decide) (by omega) (by show _ < ((_ : Nat) : Int); simp only [mlen]; omega) (by decide) ?_
                refine m_icmp_eq (tgt := 83) C ⟨by omega, by omega⟩ ⟨by omega, by omega⟩ dX12_isReadable_68 (by decide) (fun c4 => ?_) (fun c4 => ?_)
                · refine m_iconst C dX12_isReadable_83 ?_
                  exact m_zret C dX12_isReadable_84 rfl (Or.inl rfl) (Nat.le_of_ble_eq_true rfl) (Nat.le_of_ble_eq_true rfl) ⟨0, rfl, fpb2, bxb2, ⟨by omega, RDE.no2 (x := x) (y := y) (by omega) (by omega) (by omega) (by omega) al1 gf2 (by omega)⟩⟩
                · refine m_iload (j := 0) C dX12_isReadable_71 rfl ?_
                  refine m_aload_n (j := 4) C dX12_isReadable_73 rfl ?_
                  refine m_geta (k := 46) C dX12_isReadable_74 w6_105 (by decide) rfl ?_
                  refine m_iload (j := 1) C dX12_isReadable_77 rfl ?_
                  refine m_ald (k := 46) C dX12_isReadable_79 rfl rfl (by decide) (by omega) (by show _ < ((_ : Nat) : Int); simp only [mlen]; omega) (by decide) ?_
                  have ra5 : 0 ≤ a 46 y.toNat ∧ a 46 y.toNat ≤ 4 := bxb2.2 46 (y.toNat)
                  refine m_icmp_ne (tgt := 85) C ⟨by omega, by omega⟩ ⟨by omega, by omega⟩ dX12_isReadable_80 (by decide) (fun c5 => ?_) (fun c5 => ?_)
                  · refine m_iinc (z := y) (j := 1) (lv2 := [(4, .int (iI (y + 1))), (5, .int (iI f2)), (3, .int (iI x)), (2, .int (iI (6008 * q))), (0, .ref h0), (1, .int (iI q))]) C dX12_isReadable_85 rfl (by decide) rfl ?_
                    refine m_goto (tgt := 45) C dX12_isReadable_88 (by decide) ?_
                    refine m_lv (lv2 := [(4, .int (iI (y + 1))), (3, .int (iI x)), (2, .int (iI (6008 * q))), (0, .ref h0), (1, .int (iI q))]) [0, 2, 3, 4, 5] rfl ?_
                    exact ih2  (y + 1) _ _ (by omega) bxb2 fpb2 (by omega) (hI.step al1 gf2 (by omega) (by omega)) hne
                  · refine m_iconst C dX12_isReadable_83 ?_
                    exact m_zret C dX12_isReadable_84 rfl (Or.inl rfl) (Nat.le_of_ble_eq_true rfl) (Nat.le_of_ble_eq_true rfl) ⟨0, rfl, fpb2, bxb2, ⟨by omega, RDE.no2 (x := x) (y := y) (by omega) (by omega) (by omega) (by omega) al1 gf2 (by omega)⟩⟩
          refine m_lv (lv2 := [(4, .int (iI (6008 * q))), (3, .int (iI x)), (2, .int (iI (6008 * q))), (0, .ref h0), (1, .int (iI q))]) [0, 1, 2, 3, 4] rfl ?_
          exact Lp2 6010 (6008 * q) _ _ (by omega) bxb1 fpb1 (by omega) RDI.zero (by rw [← tl1]; omega)
        · refine m_iconst C dX12_isReadable_40 ?_
          exact m_zret C dX12_isReadable_41 rfl (Or.inl rfl) (Nat.le_of_ble_eq_true rfl) (Nat.le_of_ble_eq_true rfl) ⟨0, rfl, fpb1, bxb1, ⟨by omega, RDE.no1 (x := x) (by omega) (by omega) (by rw [← tl1]; omega)⟩⟩
  refine m_lv (lv2 := [(3, .int (iI (6008 * q))), (2, .int (iI (6008 * q))), (0, .ref h0), (1, .int (iI q))]) [0, 1, 2, 3] rfl ?_
  exact Lp1 6010 (6008 * q) _ _ (by omega) hB fp0 (by omega) RDO.zero
set_option maxHeartbeats 4000000 in
set_option maxRecDepth 100000 in
theorem N2_judge {l : Launch} {G : GT} {h0 : Nat} {ad ln : Nat → Nat} {v : Nat → Int} {a : Nat → Nat → Int}  {t : Int} (hB : BX v a) (hT : TBL v a) (hW : RWS a) (ht : -2147483648 ≤ t ∧ t ≤ 2147483647) : Mm l G yX12_judge cX12_judge 3 (some .int) 36 [.int (iI t)] h0 ad ln v a 0 0 (fun r v2 a2 => ∃ f : Int, r = some (.int (iI f)) ∧ fr [0, 1] [44, 45, 46, 47] v a v2 a2 ∧ BX v2 a2 ∧ (RWS a2 ∧ JDG v a t f)) := by
  refine Mm.mk (by decide) (Nat.le_of_ble_eq_true rfl) ?_
  intro p e s m args below meth c A C
  have h30 : 0 ≤ v 4 ∧ v 4 ≤ 30 := hB.1 4
  have fp0 : fr [0, 1] [44, 45, 46, 47] v a v a := fr.refl
  refine m_aload_n (j := 0) C dX12_judge_0 rfl ?_
  refine m_iload_n (j := 1) C dX12_judge_1 rfl ?_
  have rv1 : 0 ≤ v 4 ∧ v 4 ≤ 30 := hB.1 4
  refine m_call (mc2 := 0) (ms2 := 0) (As := [.int (iI t)]) (rest := []) C (B_isTable (t := t) hB (by show -2147483648 ≤ t ∧ t ≤ 2147483647; omega)) dX12_judge_2 kV_X12_167 rfl ck_13 rfl (Nat.le_of_ble_eq_true rfl) ⟨Nat.le_of_ble_eq_true rfl, Nat.le_of_ble_eq_true rfl⟩ ⟨Nat.le_of_ble_eq_true rfl, Nat.le_of_ble_eq_true rfl⟩ (fun rh1 vh1 ah1 h1 => ?_)
  obtain ⟨f1, rfl, fn1, bn1, ex1⟩ := h1
  obtain ⟨rfl, rfl⟩ := fn1.eq
  have gf1 : (f1 = 0 ∧ (t < 0 ∨ (v 4) ≤ t ∨ a 5 t.toNat = 0)) ∨ (f1 = 1 ∧ 0 ≤ t ∧ t < (v 4) ∧ a 5 t.toNat = 1) := ex1
  have ra1 : 0 ≤ a 5 t.toNat ∧ a 5 t.toNat ≤ 1 := hB.2 5 (t.toNat)
  refine m_st (st2 := [.int (iI f1)]) rfl ?_
  refine m_if_ne (tgt := 14) C ⟨by omega, by omega⟩ dX12_judge_5 (by decide) (fun c1 => ?_) (fun c1 => ?_)
  · have ht0 := hT.1 t (by omega) (by omega)
    refine m_aload_n (j := 0) C dX12_judge_14 rfl ?_
    refine m_geta (k := 6) C dX12_judge_15 w6_65 (by decide) rfl ?_
    refine m_iload_n (j := 1) C dX12_judge_18 rfl ?_
    refine m_ald (k := 6) C dX12_judge_19 rfl rfl (by decide) (by omega) (by show _ < ((_ : Nat) : Int); simp only [mlen]; omega) (by decide) ?_
    have ra2 : 0 ≤ a 6 t.toNat ∧ a 6 t.toNat ≤ 5 := hB.2 6 (t.toNat)
    refine m_iconst C dX12_judge_20 ?_
    refine m_icmp_ne (tgt := 30) C ⟨by omega, by omega⟩ ⟨by decide, by decide⟩ dX12_judge_21 (by decide) (fun c2 => ?_) (fun c2 => ?_)
    · refine m_aload_n (j := 0) C dX12_judge_30 rfl ?_
      refine m_iload_n (j := 1) C dX12_judge_31 rfl ?_
      refine m_call (mc2 := 0) (ms2 := 0) (As := [.int (iI t)]) (rest := []) C (E_isWhole (t := t) hB (hT.fr fp0 rfl rfl) (by show -2147483648 ≤ t ∧ t ≤ 2147483647; omega)) dX12_judge_32 kV_X12_171 rfl ck_13 rfl (Nat.le_of_ble_eq_true rfl) ⟨Nat.le_of_ble_eq_true rfl, Nat.le_of_ble_eq_true rfl⟩ ⟨Nat.le_of_ble_eq_true rfl, Nat.le_of_ble_eq_true rfl⟩ (fun rh2 vh2 ah2 h2 => ?_)
      obtain ⟨f2, rfl, fn2, bn2, ex2⟩ := h2
      obtain ⟨rfl, rfl⟩ := fn2.eq
      obtain ⟨ex2, tl1⟩ := ex2
      have gf2 : f2 = 0 ∨ (f2 = 1 ∧ 0 ≤ t ∧ t < (v 4)) := ex2
      refine m_st (st2 := [.int (iI f2)]) rfl ?_
      refine m_if_ne (tgt := 44) C ⟨by omega, by omega⟩ dX12_judge_35 (by decide) (fun c3 => ?_) (fun c3 => ?_)
      · refine m_aload_n (j := 0) C dX12_judge_44 rfl ?_
        refine m_geta (k := 6) C dX12_judge_45 w6_65 (by decide) rfl ?_
        refine m_iload_n (j := 1) C dX12_judge_48 rfl ?_
        refine m_ald (k := 6) C dX12_judge_49 rfl rfl (by decide) (by omega) (by show _ < ((_ : Nat) : Int); simp only [mlen]; omega) (by decide) ?_
        refine m_iconst C dX12_judge_50 ?_
        refine m_icmp_ne (tgt := 88) C ⟨by omega, by omega⟩ ⟨by decide, by decide⟩ dX12_judge_51 (by decide) (fun c4 => ?_) (fun c4 => ?_)
        · refine m_aload_n (j := 0) C dX12_judge_88 rfl ?_
          refine m_iload_n (j := 1) C dX12_judge_89 rfl ?_
          refine m_call (mc2 := 0) (ms2 := 0) (As := [.int (iI t)]) (rest := []) C (E_isShort (t := t) hB (hT.fr fp0 rfl rfl) (by show -1 ≤ t ∧ t < (v 4); omega)) dX12_judge_90 kV_X12_407 rfl ck_13 rfl (Nat.le_of_ble_eq_true rfl) ⟨Nat.le_of_ble_eq_true rfl, Nat.le_of_ble_eq_true rfl⟩ ⟨Nat.le_of_ble_eq_true rfl, Nat.le_of_ble_eq_true rfl⟩ (fun rh3 vh3 ah3 h3 => ?_)
          obtain ⟨f3, rfl, fn3, bn3, ex3⟩ := h3
          obtain ⟨rfl, rfl⟩ := fn3.eq
          obtain ⟨ex3, tl2⟩ := ex3
          have gf3 : f3 = 0 ∨ f3 = 1 := ex3
          refine m_st (st2 := [.int (iI f3)]) rfl ?_
          refine m_istore_n (lv2 := [(2, .int (iI f3)), (0, .ref h0), (1, .int (iI t))]) C dX12_judge_93 (by decide) rfl ?_
          refine m_aload_n (j := 1) C dX12_judge_94 rfl ?_
          refine m_iload_n (j := 2) C dX12_judge_95 rfl ?_
          refine m_call (mc2 := 0) (ms2 := 0) (As := [.int (iI t)]) (rest := []) C (E_gather (t := t) hB hW (hT.fr fp0 rfl rfl) (by show 0 ≤ t ∧ t < (v 4); omega)) dX12_judge_96 kV_X12_354 rfl ck_13 rfl (Nat.le_of_ble_eq_true rfl) ⟨Nat.le_of_ble_eq_true rfl, Nat.le_of_ble_eq_true rfl⟩ ⟨Nat.le_of_ble_eq_true rfl, Nat.le_of_ble_eq_true rfl⟩ (fun rh4 vh4 ah4 h4 => ?_)
          obtain ⟨rfl, fn4, bn4, ex4⟩ := h4
          have fq4 := fp0.call fn4 rfl rfl
          obtain ⟨pw1, ex4⟩ := ex4
          have tl3 := ex4
          refine m_st (st2 := []) rfl ?_
          refine m_aload_n (j := 1) C dX12_judge_99 rfl ?_
          refine m_iload_n (j := 0) C dX12_judge_100 rfl ?_
          refine m_if_ne (tgt := 124) C ⟨by omega, by omega⟩ dX12_judge_101 (by decide) (fun c5 => ?_) (fun c5 => ?_)
          · refine m_iconst C dX12_judge_124 ?_
            refine m_call (mc2 := 0) (ms2 := 0) (As := [.int (iI 0)]) (rest := []) C (B_fine (x := 0) bn4 (by show -2147483648 ≤ (0 : Int) ∧ (0 : Int) ≤ 2147483647; omega)) dX12_judge_125 kV_X12_158 rfl ck_13 rfl (Nat.le_of_ble_eq_true rfl) ⟨Nat.le_of_ble_eq_true rfl, Nat.le_of_ble_eq_true rfl⟩ ⟨Nat.le_of_ble_eq_true rfl, Nat.le_of_ble_eq_true rfl⟩ (fun rh5 vh5 ah5 h5 => ?_)
            obtain ⟨f5, rfl, fn5, bn5, ex5⟩ := h5
            have fq5 := fq4.call fn5 rfl rfl
            have pw2 : RWS ah5 := RWS.fr pw1 fn5 rfl
            have gf5 : f5 = (0 : Int) := ex5
            refine m_st (st2 := [.int (iI f5)]) rfl ?_
            exact m_iret C dX12_judge_128 rfl (Nat.le_of_ble_eq_true rfl) (Nat.le_of_ble_eq_true rfl) ⟨f5, rfl, fq5, bn5, ⟨pw2, JDG.sh ⟨tl1.mp (by omega), by omega⟩ ((SHG.p tl2 (by omega)).mp (by omega)) (by omega)⟩⟩
          · refine m_aload_n (j := 1) C dX12_judge_104 rfl ?_
            refine m_iconst C dX12_judge_105 ?_
            refine m_call (mc2 := 0) (ms2 := 0) (As := [.int (iI 0)]) (rest := [.ref h0]) C (E_isReadable (q := 0) bn4 pw1 (by show (0 : Int) = 0 ∨ (0 : Int) = 1; omega)) dX12_judge_106 kV_X12_410 rfl ck_13 rfl (Nat.le_of_ble_eq_true rfl) ⟨Nat.le_of_ble_eq_true rfl, Nat.le_of_ble_eq_true rfl⟩ ⟨Nat.le_of_ble_eq_true rfl, Nat.le_of_ble_eq_true rfl⟩ (fun rh6 vh6 ah6 h6 => ?_)
            obtain ⟨f6, rfl, fn6, bn6, ex6⟩ := h6
            obtain ⟨rfl, rfl⟩ := fn6.eq
            obtain ⟨ex6, tl4⟩ := ex6
            have gf6 : f6 = 0 ∨ f6 = 1 := ex6
            refine m_st (st2 := [.int (iI f6), .ref h0]) rfl ?_
            refine m_if_eq (tgt := 124) C ⟨by omega, by omega⟩ dX12_judge_109 (by decide) (fun c6 => ?_) (fun c6 => ?_)
            · refine m_iconst C dX12_judge_124 ?_
              refine m_call (mc2 := 0) (ms2 := 0) (As := [.int (iI 0)]) (rest := []) C (B_fine (x := 0) bn4 (by show -2147483648 ≤ (0 : Int) ∧ (0 : Int) ≤ 2147483647; omega)) dX12_judge_125 kV_X12_158 rfl ck_13 rfl (Nat.le_of_ble_eq_true rfl) ⟨Nat.le_of_ble_eq_true rfl, Nat.le_of_ble_eq_true rfl⟩ ⟨Nat.le_of_ble_eq_true rfl, Nat.le_of_ble_eq_true rfl⟩ (fun rh7 vh7 ah7 h7 => ?_)
              obtain ⟨f7, rfl, fn7, bn7, ex7⟩ := h7
              have fq7 := fq4.call fn7 rfl rfl
              have pw3 : RWS ah7 := RWS.fr pw1 fn7 rfl
              have gf7 : f7 = (0 : Int) := ex7
              refine m_st (st2 := [.int (iI f7)]) rfl ?_
              exact m_iret C dX12_judge_128 rfl (Nat.le_of_ble_eq_true rfl) (Nat.le_of_ble_eq_true rfl) ⟨f7, rfl, fq7, bn7, ⟨pw3, JDG.r0 ⟨tl1.mp (by omega), by omega⟩ tl3 (fq4.2 15 rfl) (fq4.2 17 rfl) (fq4.1 33 rfl) tl4 (by omega) (by omega)⟩⟩
            · refine m_aload_n (j := 1) C dX12_judge_112 rfl ?_
              refine m_iconst C dX12_judge_113 ?_
              refine m_call (mc2 := 0) (ms2 := 0) (As := [.int (iI 1)]) (rest := [.ref h0]) C (E_isReadable (q := 1) bn4 pw1 (by show (1 : Int) = 0 ∨ (1 : Int) = 1; omega)) dX12_judge_114 kV_X12_410 rfl ck_13 rfl (Nat.le_of_ble_eq_true rfl) ⟨Nat.le_of_ble_eq_true rfl, Nat.le_of_ble_eq_true rfl⟩ ⟨Nat.le_of_ble_eq_true rfl, Nat.le_of_ble_eq_true rfl⟩ (fun rh8 vh8 ah8 h8 => ?_)
              obtain ⟨f8, rfl, fn8, bn8, ex8⟩ := h8
              obtain ⟨rfl, rfl⟩ := fn8.eq
              obtain ⟨ex8, tl5⟩ := ex8
              have gf8 : f8 = 0 ∨ f8 = 1 := ex8
              refine m_st (st2 := [.int (iI f8), .ref h0]) rfl ?_
              refine m_if_eq (tgt := 124) C ⟨by omega, by omega⟩ dX12_judge_117 (by decide) (fun c7 => ?_) (fun c7 => ?_)
              · refine m_iconst C dX12_judge_124 ?_
                refine m_call (mc2 := 0) (ms2 := 0) (As := [.int (iI 0)]) (rest := []) C (B_fine (x := 0) bn4 (by show -2147483648 ≤ (0 : Int) ∧ (0 : Int) ≤ 2147483647; omega)) dX12_judge_125 kV_X12_158 rfl ck_13 rfl (Nat.le_of_ble_eq_true rfl) ⟨Nat.le_of_ble_eq_true rfl, Nat.le_of_ble_eq_true rfl⟩ ⟨Nat.le_of_ble_eq_true rfl, Nat.le_of_ble_eq_true rfl⟩ (fun rh9 vh9 ah9 h9 => ?_)
                obtain ⟨f9, rfl, fn9, bn9, ex9⟩ := h9
                have fq9 := fq4.call fn9 rfl rfl
                have pw4 : RWS ah9 := RWS.fr pw1 fn9 rfl
                have gf9 : f9 = (0 : Int) := ex9
                refine m_st (st2 := [.int (iI f9)]) rfl ?_
                exact m_iret C dX12_judge_128 rfl (Nat.le_of_ble_eq_true rfl) (Nat.le_of_ble_eq_true rfl) ⟨f9, rfl, fq9, bn9, ⟨pw4, JDG.r1 ⟨tl1.mp (by omega), by omega⟩ tl3 (fq4.2 15 rfl) (fq4.2 17 rfl) (fq4.1 33 rfl) tl5 (by omega) (by omega)⟩⟩
              · refine m_iconst C dX12_judge_120 ?_
                refine m_goto (tgt := 125) C dX12_judge_121 (by decide) ?_
                refine m_call (mc2 := 0) (ms2 := 0) (As := [.int (iI 1)]) (rest := []) C (B_fine (x := 1) bn4 (by show -2147483648 ≤ (1 : Int) ∧ (1 : Int) ≤ 2147483647; omega)) dX12_judge_125 kV_X12_158 rfl ck_13 rfl (Nat.le_of_ble_eq_true rfl) ⟨Nat.le_of_ble_eq_true rfl, Nat.le_of_ble_eq_true rfl⟩ ⟨Nat.le_of_ble_eq_true rfl, Nat.le_of_ble_eq_true rfl⟩ (fun rh10 vh10 ah10 h10 => ?_)
                obtain ⟨f10, rfl, fn10, bn10, ex10⟩ := h10
                have fq10 := fq4.call fn10 rfl rfl
                have pw5 : RWS ah10 := RWS.fr pw1 fn10 rfl
                have gf10 : f10 = (1 : Int) := ex10
                refine m_st (st2 := [.int (iI f10)]) rfl ?_
                exact m_iret C dX12_judge_128 rfl (Nat.le_of_ble_eq_true rfl) (Nat.le_of_ble_eq_true rfl) ⟨f10, rfl, fq10, bn10, ⟨pw5, JDG.ok ⟨tl1.mp (by omega), by omega⟩ (fun w => absurd ((SHG.p tl2 (by omega)).mpr w) (by omega)) tl3 (fq4.2 15 rfl) (fq4.2 17 rfl) (fq4.1 33 rfl) tl4 tl5 (by omega) (by omega) (by omega)⟩⟩
        · refine m_aload_n (j := 0) C dX12_judge_54 rfl ?_
          refine m_aload_n (j := 0) C dX12_judge_55 rfl ?_
          refine m_geta (k := 8) C dX12_judge_56 w6_67 (by decide) rfl ?_
          refine m_iload_n (j := 1) C dX12_judge_59 rfl ?_
          refine m_ald (k := 8) C dX12_judge_60 rfl rfl (by decide) (by omega) (by show _ < ((_ : Nat) : Int); simp only [mlen]; omega) (by decide) ?_
          have ra3 : (-1) ≤ a 8 t.toNat ∧ a 8 t.toNat ≤ 29 := hB.2 8 (t.toNat)
          refine m_call (mc2 := 0) (ms2 := 0) (As := [.int (iI (a 8 t.toNat))]) (rest := []) C (E_isShort (t := a 8 t.toNat) hB (hT.fr fp0 rfl rfl) (by show -1 ≤ (a 8 t.toNat) ∧ (a 8 t.toNat) < (v 4); omega)) dX12_judge_61 kV_X12_407 rfl ck_13 rfl (Nat.le_of_ble_eq_true rfl) ⟨Nat.le_of_ble_eq_true rfl, Nat.le_of_ble_eq_true rfl⟩ ⟨Nat.le_of_ble_eq_true rfl, Nat.le_of_ble_eq_true rfl⟩ (fun rh11 vh11 ah11 h11 => ?_)
          obtain ⟨f11, rfl, fn11, bn11, ex11⟩ := h11
          obtain ⟨rfl, rfl⟩ := fn11.eq
          obtain ⟨ex11, tl6⟩ := ex11
          have gf11 : f11 = 0 ∨ f11 = 1 := ex11
          refine m_st (st2 := [.int (iI f11)]) rfl ?_
          refine m_if_ne (tgt := 80) C ⟨by omega, by omega⟩ dX12_judge_64 (by decide) (fun c8 => ?_) (fun c8 => ?_)
          · refine m_iconst C dX12_judge_80 ?_
            refine m_goto (tgt := 93) C dX12_judge_81 (by decide) ?_
            refine m_istore_n (lv2 := [(2, .int (iI 1)), (0, .ref h0), (1, .int (iI t))]) C dX12_judge_93 (by decide) rfl ?_
            refine m_aload_n (j := 1) C dX12_judge_94 rfl ?_
            refine m_iload_n (j := 2) C dX12_judge_95 rfl ?_
            refine m_call (mc2 := 0) (ms2 := 0) (As := [.int (iI t)]) (rest := []) C (E_gather (t := t) hB hW (hT.fr fp0 rfl rfl) (by show 0 ≤ t ∧ t < (v 4); omega)) dX12_judge_96 kV_X12_354 rfl ck_13 rfl (Nat.le_of_ble_eq_true rfl) ⟨Nat.le_of_ble_eq_true rfl, Nat.le_of_ble_eq_true rfl⟩ ⟨Nat.le_of_ble_eq_true rfl, Nat.le_of_ble_eq_true rfl⟩ (fun rh12 vh12 ah12 h12 => ?_)
            obtain ⟨rfl, fn12, bn12, ex12⟩ := h12
            have fq12 := fp0.call fn12 rfl rfl
            obtain ⟨pw6, ex12⟩ := ex12
            have tl7 := ex12
            refine m_st (st2 := []) rfl ?_
            refine m_aload_n (j := 1) C dX12_judge_99 rfl ?_
            refine m_iload_n (j := 0) C dX12_judge_100 rfl ?_
            refine m_if_ne (tgt := 124) C ⟨by decide, by decide⟩ dX12_judge_101 (by decide) (fun _ => ?_) (fun z => absurd z (by omega))
            refine m_iconst C dX12_judge_124 ?_
            refine m_call (mc2 := 0) (ms2 := 0) (As := [.int (iI 0)]) (rest := []) C (B_fine (x := 0) bn12 (by show -2147483648 ≤ (0 : Int) ∧ (0 : Int) ≤ 2147483647; omega)) dX12_judge_125 kV_X12_158 rfl ck_13 rfl (Nat.le_of_ble_eq_true rfl) ⟨Nat.le_of_ble_eq_true rfl, Nat.le_of_ble_eq_true rfl⟩ ⟨Nat.le_of_ble_eq_true rfl, Nat.le_of_ble_eq_true rfl⟩ (fun rh13 vh13 ah13 h13 => ?_)
            obtain ⟨f13, rfl, fn13, bn13, ex13⟩ := h13
            have fq13 := fq12.call fn13 rfl rfl
            have pw7 : RWS ah13 := RWS.fr pw6 fn13 rfl
            have gf13 : f13 = (0 : Int) := ex13
            refine m_st (st2 := [.int (iI f13)]) rfl ?_
            exact m_iret C dX12_judge_128 rfl (Nat.le_of_ble_eq_true rfl) (Nat.le_of_ble_eq_true rfl) ⟨f13, rfl, fq13, bn13, ⟨pw7, JDG.sh ⟨tl1.mp (by omega), by omega⟩ ((SHG.ga hT (by omega) (by omega) (by omega) (by omega) tl6 (by omega)).mp (by omega)) (by omega)⟩⟩
          · refine m_aload_n (j := 0) C dX12_judge_67 rfl ?_
            refine m_aload_n (j := 0) C dX12_judge_68 rfl ?_
            refine m_geta (k := 9) C dX12_judge_69 w6_68 (by decide) rfl ?_
            refine m_iload_n (j := 1) C dX12_judge_72 rfl ?_
            refine m_ald (k := 9) C dX12_judge_73 rfl rfl (by decide) (by omega) (by show _ < ((_ : Nat) : Int); simp only [mlen]; omega) (by decide) ?_
            have ra4 : (-1) ≤ a 9 t.toNat ∧ a 9 t.toNat ≤ 29 := hB.2 9 (t.toNat)
            refine m_call (mc2 := 0) (ms2 := 0) (As := [.int (iI (a 9 t.toNat))]) (rest := []) C (E_isShort (t := a 9 t.toNat) hB (hT.fr fp0 rfl rfl) (by show -1 ≤ (a 9 t.toNat) ∧ (a 9 t.toNat) < (v 4); omega)) dX12_judge_74 kV_X12_407 rfl ck_13 rfl (Nat.le_of_ble_eq_true rfl) ⟨Nat.le_of_ble_eq_true rfl, Nat.le_of_ble_eq_true rfl⟩ ⟨Nat.le_of_ble_eq_true rfl, Nat.le_of_ble_eq_true rfl⟩ (fun rh14 vh14 ah14 h14 => ?_)
            obtain ⟨f14, rfl, fn14, bn14, ex14⟩ := h14
            obtain ⟨rfl, rfl⟩ := fn14.eq
            obtain ⟨ex14, tl8⟩ := ex14
            have gf14 : f14 = 0 ∨ f14 = 1 := ex14
            refine m_st (st2 := [.int (iI f14)]) rfl ?_
            refine m_if_eq (tgt := 84) C ⟨by omega, by omega⟩ dX12_judge_77 (by decide) (fun c9 => ?_) (fun c9 => ?_)
            · refine m_iconst C dX12_judge_84 ?_
              refine m_goto (tgt := 93) C dX12_judge_85 (by decide) ?_
              refine m_istore_n (lv2 := [(2, .int (iI 0)), (0, .ref h0), (1, .int (iI t))]) C dX12_judge_93 (by decide) rfl ?_
              refine m_aload_n (j := 1) C dX12_judge_94 rfl ?_
              refine m_iload_n (j := 2) C dX12_judge_95 rfl ?_
              refine m_call (mc2 := 0) (ms2 := 0) (As := [.int (iI t)]) (rest := []) C (E_gather (t := t) hB hW (hT.fr fp0 rfl rfl) (by show 0 ≤ t ∧ t < (v 4); omega)) dX12_judge_96 kV_X12_354 rfl ck_13 rfl (Nat.le_of_ble_eq_true rfl) ⟨Nat.le_of_ble_eq_true rfl, Nat.le_of_ble_eq_true rfl⟩ ⟨Nat.le_of_ble_eq_true rfl, Nat.le_of_ble_eq_true rfl⟩ (fun rh15 vh15 ah15 h15 => ?_)
              obtain ⟨rfl, fn15, bn15, ex15⟩ := h15
              have fq15 := fp0.call fn15 rfl rfl
              obtain ⟨pw8, ex15⟩ := ex15
              have tl9 := ex15
              refine m_st (st2 := []) rfl ?_
              refine m_aload_n (j := 1) C dX12_judge_99 rfl ?_
              refine m_iload_n (j := 0) C dX12_judge_100 rfl ?_
              refine m_if_ne (tgt := 124) C ⟨by decide, by decide⟩ dX12_judge_101 (by decide) (fun z => absurd z (by omega)) (fun _ => ?_)
              refine m_aload_n (j := 1) C dX12_judge_104 rfl ?_
              refine m_iconst C dX12_judge_105 ?_
              refine m_call (mc2 := 0) (ms2 := 0) (As := [.int (iI 0)]) (rest := [.ref h0]) C (E_isReadable (q := 0) bn15 pw8 (by show (0 : Int) = 0 ∨ (0 : Int) = 1; omega)) dX12_judge_106 kV_X12_410 rfl ck_13 rfl (Nat.le_of_ble_eq_true rfl) ⟨Nat.le_of_ble_eq_true rfl, Nat.le_of_ble_eq_true rfl⟩ ⟨Nat.le_of_ble_eq_true rfl, Nat.le_of_ble_eq_true rfl⟩ (fun rh16 vh16 ah16 h16 => ?_)
              obtain ⟨f16, rfl, fn16, bn16, ex16⟩ := h16
              obtain ⟨rfl, rfl⟩ := fn16.eq
              obtain ⟨ex16, tl10⟩ := ex16
              have gf16 : f16 = 0 ∨ f16 = 1 := ex16
              refine m_st (st2 := [.int (iI f16), .ref h0]) rfl ?_
              refine m_if_eq (tgt := 124) C ⟨by omega, by omega⟩ dX12_judge_109 (by decide) (fun c10 => ?_) (fun c10 => ?_)
              · refine m_iconst C dX12_judge_124 ?_
                refine m_call (mc2 := 0) (ms2 := 0) (As := [.int (iI 0)]) (rest := []) C (B_fine (x := 0) bn15 (by show -2147483648 ≤ (0 : Int) ∧ (0 : Int) ≤ 2147483647; omega)) dX12_judge_125 kV_X12_158 rfl ck_13 rfl (Nat.le_of_ble_eq_true rfl) ⟨Nat.le_of_ble_eq_true rfl, Nat.le_of_ble_eq_true rfl⟩ ⟨Nat.le_of_ble_eq_true rfl, Nat.le_of_ble_eq_true rfl⟩ (fun rh17 vh17 ah17 h17 => ?_)
                obtain ⟨f17, rfl, fn17, bn17, ex17⟩ := h17
                have fq17 := fq15.call fn17 rfl rfl
                have pw9 : RWS ah17 := RWS.fr pw8 fn17 rfl
                have gf17 : f17 = (0 : Int) := ex17
                refine m_st (st2 := [.int (iI f17)]) rfl ?_
                exact m_iret C dX12_judge_128 rfl (Nat.le_of_ble_eq_true rfl) (Nat.le_of_ble_eq_true rfl) ⟨f17, rfl, fq17, bn17, ⟨pw9, JDG.r0 ⟨tl1.mp (by omega), by omega⟩ tl9 (fq15.2 15 rfl) (fq15.2 17 rfl) (fq15.1 33 rfl) tl10 (by omega) (by omega)⟩⟩
              · refine m_aload_n (j := 1) C dX12_judge_112 rfl ?_
                refine m_iconst C dX12_judge_113 ?_
                refine m_call (mc2 := 0) (ms2 := 0) (As := [.int (iI 1)]) (rest := [.ref h0]) C (E_isReadable (q := 1) bn15 pw8 (by show (1 : Int) = 0 ∨ (1 : Int) = 1; omega)) dX12_judge_114 kV_X12_410 rfl ck_13 rfl (Nat.le_of_ble_eq_true rfl) ⟨Nat.le_of_ble_eq_true rfl, Nat.le_of_ble_eq_true rfl⟩ ⟨Nat.le_of_ble_eq_true rfl, Nat.le_of_ble_eq_true rfl⟩ (fun rh18 vh18 ah18 h18 => ?_)
                obtain ⟨f18, rfl, fn18, bn18, ex18⟩ := h18
                obtain ⟨rfl, rfl⟩ := fn18.eq
                obtain ⟨ex18, tl11⟩ := ex18
                have gf18 : f18 = 0 ∨ f18 = 1 := ex18
                refine m_st (st2 := [.int (iI f18), .ref h0]) rfl ?_
                refine m_if_eq (tgt := 124) C ⟨by omega, by omega⟩ dX12_judge_117 (by decide) (fun c11 => ?_) (fun c11 => ?_)
                · refine m_iconst C dX12_judge_124 ?_
                  refine m_call (mc2 := 0) (ms2 := 0) (As := [.int (iI 0)]) (rest := []) C (B_fine (x := 0) bn15 (by show -2147483648 ≤ (0 : Int) ∧ (0 : Int) ≤ 2147483647; omega)) dX12_judge_125 kV_X12_158 rfl ck_13 rfl (Nat.le_of_ble_eq_true rfl) ⟨Nat.le_of_ble_eq_true rfl, Nat.le_of_ble_eq_true rfl⟩ ⟨Nat.le_of_ble_eq_true rfl, Nat.le_of_ble_eq_true rfl⟩ (fun rh19 vh19 ah19 h19 => ?_)
                  obtain ⟨f19, rfl, fn19, bn19, ex19⟩ := h19
                  have fq19 := fq15.call fn19 rfl rfl
                  have pw10 : RWS ah19 := RWS.fr pw8 fn19 rfl
                  have gf19 : f19 = (0 : Int) := ex19
                  refine m_st (st2 := [.int (iI f19)]) rfl ?_
                  exact m_iret C dX12_judge_128 rfl (Nat.le_of_ble_eq_true rfl) (Nat.le_of_ble_eq_true rfl) ⟨f19, rfl, fq19, bn19, ⟨pw10, JDG.r1 ⟨tl1.mp (by omega), by omega⟩ tl9 (fq15.2 15 rfl) (fq15.2 17 rfl) (fq15.1 33 rfl) tl11 (by omega) (by omega)⟩⟩
                · refine m_iconst C dX12_judge_120 ?_
                  refine m_goto (tgt := 125) C dX12_judge_121 (by decide) ?_
                  refine m_call (mc2 := 0) (ms2 := 0) (As := [.int (iI 1)]) (rest := []) C (B_fine (x := 1) bn15 (by show -2147483648 ≤ (1 : Int) ∧ (1 : Int) ≤ 2147483647; omega)) dX12_judge_125 kV_X12_158 rfl ck_13 rfl (Nat.le_of_ble_eq_true rfl) ⟨Nat.le_of_ble_eq_true rfl, Nat.le_of_ble_eq_true rfl⟩ ⟨Nat.le_of_ble_eq_true rfl, Nat.le_of_ble_eq_true rfl⟩ (fun rh20 vh20 ah20 h20 => ?_)
                  obtain ⟨f20, rfl, fn20, bn20, ex20⟩ := h20
                  have fq20 := fq15.call fn20 rfl rfl
                  have pw11 : RWS ah20 := RWS.fr pw8 fn20 rfl
                  have gf20 : f20 = (1 : Int) := ex20
                  refine m_st (st2 := [.int (iI f20)]) rfl ?_
                  exact m_iret C dX12_judge_128 rfl (Nat.le_of_ble_eq_true rfl) (Nat.le_of_ble_eq_true rfl) ⟨f20, rfl, fq20, bn20, ⟨pw11, JDG.ok ⟨tl1.mp (by omega), by omega⟩ (fun w => absurd ((SHG.c hT (by omega) (by omega) (by omega) (by omega) tl6 tl8 (by omega) (by omega)).mpr w) (by omega)) tl9 (fq15.2 15 rfl) (fq15.2 17 rfl) (fq15.1 33 rfl) tl10 tl11 (by omega) (by omega) (by omega)⟩⟩
            · refine m_iconst C dX12_judge_80 ?_
              refine m_goto (tgt := 93) C dX12_judge_81 (by decide) ?_
              refine m_istore_n (lv2 := [(2, .int (iI 1)), (0, .ref h0), (1, .int (iI t))]) C dX12_judge_93 (by decide) rfl ?_
              refine m_aload_n (j := 1) C dX12_judge_94 rfl ?_
              refine m_iload_n (j := 2) C dX12_judge_95 rfl ?_
              refine m_call (mc2 := 0) (ms2 := 0) (As := [.int (iI t)]) (rest := []) C (E_gather (t := t) hB hW (hT.fr fp0 rfl rfl) (by show 0 ≤ t ∧ t < (v 4); omega)) dX12_judge_96 kV_X12_354 rfl ck_13 rfl (Nat.le_of_ble_eq_true rfl) ⟨Nat.le_of_ble_eq_true rfl, Nat.le_of_ble_eq_true rfl⟩ ⟨Nat.le_of_ble_eq_true rfl, Nat.le_of_ble_eq_true rfl⟩ (fun rh21 vh21 ah21 h21 => ?_)
              obtain ⟨rfl, fn21, bn21, ex21⟩ := h21
              have fq21 := fp0.call fn21 rfl rfl
              obtain ⟨pw12, ex21⟩ := ex21
              have tl12 := ex21
              refine m_st (st2 := []) rfl ?_
              refine m_aload_n (j := 1) C dX12_judge_99 rfl ?_
              refine m_iload_n (j := 0) C dX12_judge_100 rfl ?_
              refine m_if_ne (tgt := 124) C ⟨by decide, by decide⟩ dX12_judge_101 (by decide) (fun _ => ?_) (fun z => absurd z (by omega))
              refine m_iconst C dX12_judge_124 ?_
              refine m_call (mc2 := 0) (ms2 := 0) (As := [.int (iI 0)]) (rest := []) C (B_fine (x := 0) bn21 (by show -2147483648 ≤ (0 : Int) ∧ (0 : Int) ≤ 2147483647; omega)) dX12_judge_125 kV_X12_158 rfl ck_13 rfl (Nat.le_of_ble_eq_true rfl) ⟨Nat.le_of_ble_eq_true rfl, Nat.le_of_ble_eq_true rfl⟩ ⟨Nat.le_of_ble_eq_true rfl, Nat.le_of_ble_eq_true rfl⟩ (fun rh22 vh22 ah22 h22 => ?_)
              obtain ⟨f22, rfl, fn22, bn22, ex22⟩ := h22
              have fq22 := fq21.call fn22 rfl rfl
              have pw13 : RWS ah22 := RWS.fr pw12 fn22 rfl
              have gf22 : f22 = (0 : Int) := ex22
              refine m_st (st2 := [.int (iI f22)]) rfl ?_
              exact m_iret C dX12_judge_128 rfl (Nat.le_of_ble_eq_true rfl) (Nat.le_of_ble_eq_true rfl) ⟨f22, rfl, fq22, bn22, ⟨pw13, JDG.sh ⟨tl1.mp (by omega), by omega⟩ ((SHG.gb (by omega) tl8 (by omega)).mp (by omega)) (by omega)⟩⟩
      · refine m_aload_n (j := 0) C dX12_judge_38 rfl ?_
        refine m_iconst C dX12_judge_39 ?_
        refine m_call (mc2 := 0) (ms2 := 0) (As := [.int (iI 3)]) (rest := []) C (B_bad (x := 3) hB (by show -2147483648 ≤ (3 : Int) ∧ (3 : Int) ≤ 2147483647; omega)) dX12_judge_40 kV_X12_154 rfl ck_13 rfl (Nat.le_of_ble_eq_true rfl) ⟨Nat.le_of_ble_eq_true rfl, Nat.le_of_ble_eq_true rfl⟩ ⟨Nat.le_of_ble_eq_true rfl, Nat.le_of_ble_eq_true rfl⟩ (fun rh23 vh23 ah23 h23 => ?_)
        obtain ⟨f23, rfl, fn23, bn23, ex23⟩ := h23
        have fq23 := fp0.call fn23 rfl rfl
        have pw14 : RWS ah23 := RWS.fr hW fn23 rfl
        have gf23 : f23 = -1 := ex23
        refine m_st (st2 := [.int (iI f23)]) rfl ?_
        exact m_iret C dX12_judge_43 rfl (Nat.le_of_ble_eq_true rfl) (Nat.le_of_ble_eq_true rfl) ⟨f23, rfl, fq23, bn23, ⟨pw14, JDG.no (fun w => absurd (tl1.mpr w.1) (by omega)) (by omega)⟩⟩
    · refine m_aload_n (j := 0) C dX12_judge_24 rfl ?_
      refine m_iconst C dX12_judge_25 ?_
      refine m_call (mc2 := 0) (ms2 := 0) (As := [.int (iI 4)]) (rest := []) C (B_bad (x := 4) hB (by show -2147483648 ≤ (4 : Int) ∧ (4 : Int) ≤ 2147483647; omega)) dX12_judge_26 kV_X12_154 rfl ck_13 rfl (Nat.le_of_ble_eq_true rfl) ⟨Nat.le_of_ble_eq_true rfl, Nat.le_of_ble_eq_true rfl⟩ ⟨Nat.le_of_ble_eq_true rfl, Nat.le_of_ble_eq_true rfl⟩ (fun rh24 vh24 ah24 h24 => ?_)
      obtain ⟨f24, rfl, fn24, bn24, ex24⟩ := h24
      have fq24 := fp0.call fn24 rfl rfl
      have pw15 : RWS ah24 := RWS.fr hW fn24 rfl
      have gf24 : f24 = -1 := ex24
      refine m_st (st2 := [.int (iI f24)]) rfl ?_
      exact m_iret C dX12_judge_29 rfl (Nat.le_of_ble_eq_true rfl) (Nat.le_of_ble_eq_true rfl) ⟨f24, rfl, fq24, bn24, ⟨pw15, JDG.no (fun w => w.2 (by omega)) (by omega)⟩⟩
  · refine m_aload_n (j := 0) C dX12_judge_8 rfl ?_
    refine m_iconst C dX12_judge_9 ?_
    refine m_call (mc2 := 0) (ms2 := 0) (As := [.int (iI 3)]) (rest := []) C (B_bad (x := 3) hB (by show -2147483648 ≤ (3 : Int) ∧ (3 : Int) ≤ 2147483647; omega)) dX12_judge_10 kV_X12_154 rfl ck_13 rfl (Nat.le_of_ble_eq_true rfl) ⟨Nat.le_of_ble_eq_true rfl, Nat.le_of_ble_eq_true rfl⟩ ⟨Nat.le_of_ble_eq_true rfl, Nat.le_of_ble_eq_true rfl⟩ (fun rh25 vh25 ah25 h25 => ?_)
    obtain ⟨f25, rfl, fn25, bn25, ex25⟩ := h25
    have fq25 := fp0.call fn25 rfl rfl
    have pw16 : RWS ah25 := RWS.fr hW fn25 rfl
    have gf25 : f25 = -1 := ex25
    refine m_st (st2 := [.int (iI f25)]) rfl ?_
    exact m_iret C dX12_judge_13 rfl (Nat.le_of_ble_eq_true rfl) (Nat.le_of_ble_eq_true rfl) ⟨f25, rfl, fq25, bn25, ⟨pw16, JDG.no (fun w => absurd (WHL.tr w.1) (by omega)) (by omega)⟩⟩
set_option maxHeartbeats 4000000 in
set_option maxRecDepth 100000 in
theorem N_measure {l : Launch} {G : GT} {h0 : Nat} {ad ln : Nat → Nat} {v : Nat → Int} {a : Nat → Nat → Int}  {w1 h1 y1 : Int} (hB : BX v a) (hw1 : -2147483648 ≤ w1 ∧ w1 ≤ 2147483647) (hh1 : -2147483648 ≤ h1 ∧ h1 ≤ 2147483647) (hy1 : -2147483648 ≤ y1 ∧ y1 ≤ 2147483647) : Mm l G yX12_measure cX12_measure 4 (some .int) 1 [.int (iI w1), .int (iI h1), .int (iI y1)] h0 ad ln v a 0 0 (fun r v2 a2 => ∃ f : Int, r = some (.int (iI f)) ∧ fr [0, 1, 31, 32, 33] [] v a v2 a2 ∧ BX v2 a2 ∧ (((f = 1 ∧ 1 ≤ w1 ∧ w1 ≤ 100 ∧ 1 ≤ h1 ∧ h1 ≤ 50 ∧ 1 ≤ y1 ∧ y1 ≤ 255) ∨ (f = -1 ∧ ¬ (1 ≤ w1 ∧ w1 ≤ 100 ∧ 1 ≤ h1 ∧ h1 ≤ 50 ∧ 1 ≤ y1 ∧ y1 ≤ 255))) ∧ ((f = 1 ∧ v2 31 = w1 ∧ v2 32 = h1 ∧ v2 33 = y1) ∨ (f = -1 ∧ v2 31 = v 31 ∧ v2 32 = v 32 ∧ v2 33 = v 33)))) := by
  refine Mm.mk (by decide) (Nat.le_of_ble_eq_true rfl) ?_
  intro p e s m args below meth c A C
  have fp0 : fr [0, 1, 31, 32, 33] [] v a v a := fr.refl
  refine m_iload_n (j := 1) C dX12_measure_0 rfl ?_
  refine m_iconst C dX12_measure_1 ?_
  refine m_bipush (z := 100) C dX12_measure_2 (by decide) ?_
  refine m_callS (As := [.int (iI w1), .int (iI 1), .int (iI 100)]) (rest := []) C (fun L E => s_isIn (iI w1) (iI 1) (iI 100)) dX12_measure_4 kS_X12_174 rfl rfl (Nat.le_of_ble_eq_true rfl) ⟨Nat.le_of_ble_eq_true rfl, Nat.le_of_ble_eq_true rfl⟩ ⟨Nat.le_of_ble_eq_true rfl, Nat.le_of_ble_eq_true rfl⟩ ?_
  rcases inn_c (x := w1) (lo := 1) (hi := 100) ⟨by omega, by omega⟩ ⟨by decide, by decide⟩ ⟨by decide, by decide⟩ with ⟨h1a, h1b, h1e⟩ | ⟨h1a, h1e⟩
  · refine m_st (st2 := [.int (iI 1)]) (by rw [h1e]) ?_
    refine m_if_eq (tgt := 31) C ⟨by decide, by decide⟩ dX12_measure_7 (by decide) (fun z => absurd z (by omega)) (fun _ => ?_)
    refine m_iload_n (j := 2) C dX12_measure_10 rfl ?_
    refine m_iconst C dX12_measure_11 ?_
    refine m_bipush (z := 50) C dX12_measure_12 (by decide) ?_
    refine m_callS (As := [.int (iI h1), .int (iI 1), .int (iI 50)]) (rest := []) C (fun L E => s_isIn (iI h1) (iI 1) (iI 50)) dX12_measure_14 kS_X12_174 rfl rfl (Nat.le_of_ble_eq_true rfl) ⟨Nat.le_of_ble_eq_true rfl, Nat.le_of_ble_eq_true rfl⟩ ⟨Nat.le_of_ble_eq_true rfl, Nat.le_of_ble_eq_true rfl⟩ ?_
    rcases inn_c (x := h1) (lo := 1) (hi := 50) ⟨by omega, by omega⟩ ⟨by decide, by decide⟩ ⟨by decide, by decide⟩ with ⟨h2a, h2b, h2e⟩ | ⟨h2a, h2e⟩
    · refine m_st (st2 := [.int (iI 1)]) (by rw [h2e]) ?_
      refine m_if_eq (tgt := 31) C ⟨by decide, by decide⟩ dX12_measure_17 (by decide) (fun z => absurd z (by omega)) (fun _ => ?_)
      refine m_iload_n (j := 3) C dX12_measure_20 rfl ?_
      refine m_iconst C dX12_measure_21 ?_
      refine m_sipush (z := 255) C dX12_measure_22 (by decide) ?_
      refine m_callS (As := [.int (iI y1), .int (iI 1), .int (iI 255)]) (rest := []) C (fun L E => s_isIn (iI y1) (iI 1) (iI 255)) dX12_measure_25 kS_X12_174 rfl rfl (Nat.le_of_ble_eq_true rfl) ⟨Nat.le_of_ble_eq_true rfl, Nat.le_of_ble_eq_true rfl⟩ ⟨Nat.le_of_ble_eq_true rfl, Nat.le_of_ble_eq_true rfl⟩ ?_
      rcases inn_c (x := y1) (lo := 1) (hi := 255) ⟨by omega, by omega⟩ ⟨by decide, by decide⟩ ⟨by decide, by decide⟩ with ⟨h3a, h3b, h3e⟩ | ⟨h3a, h3e⟩
      · refine m_st (st2 := [.int (iI 1)]) (by rw [h3e]) ?_
        refine m_if_ne (tgt := 38) C ⟨by decide, by decide⟩ dX12_measure_28 (by decide) (fun _ => ?_) (fun z => absurd z (by omega))
        refine m_aload_n (j := 0) C dX12_measure_38 rfl ?_
        refine m_iload_n (j := 1) C dX12_measure_39 rfl ?_
        refine m_put (k := 31) (z := w1) C dX12_measure_40 w6_90 (by decide) rfl rfl rfl ?_
        have bq1 : BX (va_up v 31 w1) a := hB.put (k := 31) (z := w1) (show 1 ≤ w1 ∧ w1 ≤ 100 by omega)
        have fq1 := fp0.put (k := 31) (z := w1) rfl
        refine m_aload_n (j := 0) C dX12_measure_43 rfl ?_
        refine m_iload_n (j := 2) C dX12_measure_44 rfl ?_
        refine m_put (k := 32) (z := h1) C dX12_measure_45 w6_91 (by decide) rfl rfl rfl ?_
        have bq2 : BX (va_up (va_up v 31 w1) 32 h1) a := bq1.put (k := 32) (z := h1) (show 1 ≤ h1 ∧ h1 ≤ 50 by omega)
        have fq2 := fq1.put (k := 32) (z := h1) rfl
        refine m_aload_n (j := 0) C dX12_measure_48 rfl ?_
        refine m_iload_n (j := 3) C dX12_measure_49 rfl ?_
        refine m_put (k := 33) (z := y1) C dX12_measure_50 w6_92 (by decide) rfl rfl rfl ?_
        have bq3 : BX (va_up (va_up (va_up v 31 w1) 32 h1) 33 y1) a := bq2.put (k := 33) (z := y1) (show (-2147483648) ≤ y1 ∧ y1 ≤ 2147483647 by omega)
        have fq3 := fq2.put (k := 33) (z := y1) rfl
        refine m_aload_n (j := 0) C dX12_measure_53 rfl ?_
        refine m_iconst C dX12_measure_54 ?_
        refine m_call (mc2 := 0) (ms2 := 0) (As := [.int (iI 1)]) (rest := []) C (B_fine (x := 1) bq3 (by show -2147483648 ≤ (1 : Int) ∧ (1 : Int) ≤ 2147483647; omega)) dX12_measure_55 kV_X12_158 rfl ck_13 rfl (Nat.le_of_ble_eq_true rfl) ⟨Nat.le_of_ble_eq_true rfl, Nat.le_of_ble_eq_true rfl⟩ ⟨Nat.le_of_ble_eq_true rfl, Nat.le_of_ble_eq_true rfl⟩ (fun rh4 vh4 ah4 h4 => ?_)
        obtain ⟨f1, rfl, fn1, bn1, ex1⟩ := h4
        have fq4 := fq3.call fn1 rfl rfl
        have gf1 : f1 = (1 : Int) := ex1
        refine m_st (st2 := [.int (iI f1)]) rfl ?_
        have rv1 : 1 ≤ vh4 31 ∧ vh4 31 ≤ 100 := bn1.1 31
        have ve1 : vh4 31 = w1 := fn1.1 31 rfl
        have rv2 : 1 ≤ vh4 32 ∧ vh4 32 ≤ 50 := bn1.1 32
        have ve2 : vh4 32 = h1 := fn1.1 32 rfl
        have rv3 : (-2147483648) ≤ vh4 33 ∧ vh4 33 ≤ 2147483647 := bn1.1 33
        have ve3 : vh4 33 = y1 := fn1.1 33 rfl
        exact m_iret C dX12_measure_58 rfl (Nat.le_of_ble_eq_true rfl) (Nat.le_of_ble_eq_true rfl) ⟨f1, rfl, fq4, bn1, ⟨by omega, by show (f1 = 1 ∧ (vh4 31) = w1 ∧ (vh4 32) = h1 ∧ (vh4 33) = y1) ∨ (f1 = -1 ∧ (vh4 31) = (v 31) ∧ (vh4 32) = (v 32) ∧ (vh4 33) = (v 33)); omega⟩⟩
      · refine m_st (st2 := [.int (iI 0)]) (by rw [h3e]) ?_
        refine m_if_ne (tgt := 38) C ⟨by decide, by decide⟩ dX12_measure_28 (by decide) (fun z => absurd z (by omega)) (fun _ => ?_)
        refine m_aload_n (j := 0) C dX12_measure_31 rfl ?_
        refine m_bipush (z := 6) C dX12_measure_32 (by decide) ?_
        refine m_call (mc2 := 0) (ms2 := 0) (As := [.int (iI 6)]) (rest := []) C (B_bad (x := 6) hB (by show -2147483648 ≤ (6 : Int) ∧ (6 : Int) ≤ 2147483647; omega)) dX12_measure_34 kV_X12_154 rfl ck_13 rfl (Nat.le_of_ble_eq_true rfl) ⟨Nat.le_of_ble_eq_true rfl, Nat.le_of_ble_eq_true rfl⟩ ⟨Nat.le_of_ble_eq_true rfl, Nat.le_of_ble_eq_true rfl⟩ (fun rh5 vh5 ah5 h5 => ?_)
        obtain ⟨f2, rfl, fn2, bn2, ex2⟩ := h5
        have fq5 := fp0.call fn2 rfl rfl
        have gf2 : f2 = -1 := ex2
        refine m_st (st2 := [.int (iI f2)]) rfl ?_
        have rv4 : 1 ≤ vh5 31 ∧ vh5 31 ≤ 100 := bn2.1 31
        have ve4 : vh5 31 = v 31 := fn2.1 31 rfl
        have rv5 : 1 ≤ vh5 32 ∧ vh5 32 ≤ 50 := bn2.1 32
        have ve5 : vh5 32 = v 32 := fn2.1 32 rfl
        have rv6 : (-2147483648) ≤ vh5 33 ∧ vh5 33 ≤ 2147483647 := bn2.1 33
        have ve6 : vh5 33 = v 33 := fn2.1 33 rfl
        exact m_iret C dX12_measure_37 rfl (Nat.le_of_ble_eq_true rfl) (Nat.le_of_ble_eq_true rfl) ⟨f2, rfl, fq5, bn2, ⟨by omega, by show (f2 = 1 ∧ (vh5 31) = w1 ∧ (vh5 32) = h1 ∧ (vh5 33) = y1) ∨ (f2 = -1 ∧ (vh5 31) = (v 31) ∧ (vh5 32) = (v 32) ∧ (vh5 33) = (v 33)); omega⟩⟩
    · refine m_st (st2 := [.int (iI 0)]) (by rw [h2e]) ?_
      refine m_if_eq (tgt := 31) C ⟨by decide, by decide⟩ dX12_measure_17 (by decide) (fun _ => ?_) (fun z => absurd z (by omega))
      refine m_aload_n (j := 0) C dX12_measure_31 rfl ?_
      refine m_bipush (z := 6) C dX12_measure_32 (by decide) ?_
      refine m_call (mc2 := 0) (ms2 := 0) (As := [.int (iI 6)]) (rest := []) C (B_bad (x := 6) hB (by show -2147483648 ≤ (6 : Int) ∧ (6 : Int) ≤ 2147483647; omega)) dX12_measure_34 kV_X12_154 rfl ck_13 rfl (Nat.le_of_ble_eq_true rfl) ⟨Nat.le_of_ble_eq_true rfl, Nat.le_of_ble_eq_true rfl⟩ ⟨Nat.le_of_ble_eq_true rfl, Nat.le_of_ble_eq_true rfl⟩ (fun rh6 vh6 ah6 h6 => ?_)
      obtain ⟨f3, rfl, fn3, bn3, ex3⟩ := h6
      have fq6 := fp0.call fn3 rfl rfl
      have gf3 : f3 = -1 := ex3
      refine m_st (st2 := [.int (iI f3)]) rfl ?_
      have rv7 : 1 ≤ vh6 31 ∧ vh6 31 ≤ 100 := bn3.1 31
      have ve7 : vh6 31 = v 31 := fn3.1 31 rfl
      have rv8 : 1 ≤ vh6 32 ∧ vh6 32 ≤ 50 := bn3.1 32
      have ve8 : vh6 32 = v 32 := fn3.1 32 rfl
      have rv9 : (-2147483648) ≤ vh6 33 ∧ vh6 33 ≤ 2147483647 := bn3.1 33
      have ve9 : vh6 33 = v 33 := fn3.1 33 rfl
      exact m_iret C dX12_measure_37 rfl (Nat.le_of_ble_eq_true rfl) (Nat.le_of_ble_eq_true rfl) ⟨f3, rfl, fq6, bn3, ⟨by omega, by show (f3 = 1 ∧ (vh6 31) = w1 ∧ (vh6 32) = h1 ∧ (vh6 33) = y1) ∨ (f3 = -1 ∧ (vh6 31) = (v 31) ∧ (vh6 32) = (v 32) ∧ (vh6 33) = (v 33)); omega⟩⟩
  · refine m_st (st2 := [.int (iI 0)]) (by rw [h1e]) ?_
    refine m_if_eq (tgt := 31) C ⟨by decide, by decide⟩ dX12_measure_7 (by decide) (fun _ => ?_) (fun z => absurd z (by omega))
    refine m_aload_n (j := 0) C dX12_measure_31 rfl ?_
    refine m_bipush (z := 6) C dX12_measure_32 (by decide) ?_
    refine m_call (mc2 := 0) (ms2 := 0) (As := [.int (iI 6)]) (rest := []) C (B_bad (x := 6) hB (by show -2147483648 ≤ (6 : Int) ∧ (6 : Int) ≤ 2147483647; omega)) dX12_measure_34 kV_X12_154 rfl ck_13 rfl (Nat.le_of_ble_eq_true rfl) ⟨Nat.le_of_ble_eq_true rfl, Nat.le_of_ble_eq_true rfl⟩ ⟨Nat.le_of_ble_eq_true rfl, Nat.le_of_ble_eq_true rfl⟩ (fun rh7 vh7 ah7 h7 => ?_)
    obtain ⟨f4, rfl, fn4, bn4, ex4⟩ := h7
    have fq7 := fp0.call fn4 rfl rfl
    have gf4 : f4 = -1 := ex4
    refine m_st (st2 := [.int (iI f4)]) rfl ?_
    have rv10 : 1 ≤ vh7 31 ∧ vh7 31 ≤ 100 := bn4.1 31
    have ve10 : vh7 31 = v 31 := fn4.1 31 rfl
    have rv11 : 1 ≤ vh7 32 ∧ vh7 32 ≤ 50 := bn4.1 32
    have ve11 : vh7 32 = v 32 := fn4.1 32 rfl
    have rv12 : (-2147483648) ≤ vh7 33 ∧ vh7 33 ≤ 2147483647 := bn4.1 33
    have ve12 : vh7 33 = v 33 := fn4.1 33 rfl
    exact m_iret C dX12_measure_37 rfl (Nat.le_of_ble_eq_true rfl) (Nat.le_of_ble_eq_true rfl) ⟨f4, rfl, fq7, bn4, ⟨by omega, by show (f4 = 1 ∧ (vh7 31) = w1 ∧ (vh7 32) = h1 ∧ (vh7 33) = y1) ∨ (f4 = -1 ∧ (vh7 31) = (v 31) ∧ (vh7 32) = (v 32) ∧ (vh7 33) = (v 33)); omega⟩⟩
