def UPR (v : Nat → Int) (a : Nat → Nat → Int) (t : Int) (b0 : List Int) : Prop := OUTL v a b0 ∧ NZL a (gat0 a t) ∧ NZL a (gat1 a t)
def U63 (a : Nat → Nat → Int) (v1 : Nat → Int) (a1 : Nat → Nat → Int) (t : Int) : Prop := ∃ h, HSS a t h ∧ SGH v1 (a1 65) h 256 ∧ (HLD a1 a1 0 (gat0 a t) ∧ HLD a1 a1 1 (gat1 a t))
def UCO (v1 : Nat → Int) (a1 a : Nat → Nat → Int) (t : Int) (h : Nat → Int) (b0 : List Int) : Prop := SGH v1 (a1 65) h 256 ∧ (v1 55 = ((b0.length : Nat) : Int) ∧ ∀ (j : Nat) (x : Int), b0[j]? = some x → a1 54 j = x) ∧ (HLD a1 a1 0 (gat0 a t) ∧ HLD a1 a1 1 (gat1 a t))
def UKE (v1 : Nat → Int) (a1 : Nat → Nat → Int) (v2 : Nat → Int) (a2 : Nat → Nat → Int) : Prop := (v2 66 = v1 66 ∧ v2 55 = v1 55) ∧ (a2 65 = a1 65 ∧ a2 54 = a1 54) ∧ (a2 44 = a1 44 ∧ a2 45 = a1 45 ∧ a2 46 = a1 46 ∧ a2 47 = a1 47) ∧ (a2 13 = a1 13 ∧ a2 16 = a1 16)
def U104 (v : Nat → Int) (a : Nat → Nat → Int) (v1 : Nat → Int) (a1 : Nat → Nat → Int) (t n tr m : Int) : Prop := ∀ b0, UPR v a t b0 → ∃ h, HSS a t h ∧ UCO v1 a1 a t h b0 ∧ URK a t (sgl h 256) n.toNat tr.toNat ∧ enw (((sgl h 256).length : Nat) : Int) n.toNat tr.toNat = (if 0 < (((sgl h 256).length : Nat) : Int) ∧ m.toNat ≤ n.toNat then some (zrs m.toNat) else none)
def U142 (v : Nat → Int) (a : Nat → Nat → Int) (v1 : Nat → Int) (a1 : Nat → Nat → Int) (t n tr m g : Int) : Prop := ∀ b0, UPR v a t b0 → ∃ h, HSS a t h ∧ UCO v1 a1 a t h b0 ∧ URK a t (sgl h 256) n.toNat tr.toNat ∧ ((g = 1 ∧ ∃ l, enw (((sgl h 256).length : Nat) : Int) n.toNat tr.toNat = some l ∧ l.length = m.toNat ∧ RIX (a1 70) l) ∨ (g = 0 ∧ enw (((sgl h 256).length : Nat) : Int) n.toNat tr.toNat = (if 0 < (((sgl h 256).length : Nat) : Int) ∧ (m + 1).toNat ≤ n.toNat then some (zrs (m + 1).toNat) else none)))
def U223 (v : Nat → Int) (a : Nat → Nat → Int) (v1 : Nat → Int) (a1 : Nat → Nat → Int) (t n tr m : Int) : Prop := ∀ b0, UPR v a t b0 → ∃ h, HSS a t h ∧ URK a t (sgl h 256) n.toNat tr.toNat ∧ ∃ l, enw (((sgl h 256).length : Nat) : Int) n.toNat tr.toNat = some l ∧ l.length = m.toNat ∧ URB a t (wdb (sgl h 256) l) ∧ ∀ (j : Nat) (x : Int), (wdb (sgl h 256) l)[j]? = some x → a1 20 j = x
def U263 (v : Nat → Int) (a : Nat → Nat → Int) (v1 : Nat → Int) (a1 : Nat → Nat → Int) (t n tr m k : Int) : Prop := ∀ b0, UPR v a t b0 → ∃ h, HSS a t h ∧ UCO v1 a1 a t h b0 ∧ URK a t (sgl h 256) n.toNat (tr.toNat + 1) ∧ ∃ l, enw (((sgl h 256).length : Nat) : Int) n.toNat tr.toNat = some l ∧ l.length = m.toNat ∧ ∀ (j : Nat) (x : Int), l[j]? = some x → (m - 1 - ((j : Nat) : Int) ≤ k → a1 70 (l.length - 1 - j) = x) ∧ (k < m - 1 - ((j : Nat) : Int) → x = (((sgl h 256).length : Nat) : Int) - 1 ∧ a1 70 (l.length - 1 - j) = 0)
def ZRI (g : Nat → Int) (k : Int) : Prop := ∀ j : Nat, ((j : Nat) : Int) < k → g j = 0
def FWI (w s g : Nat → Int) (k : Int) : Prop := ∀ j : Nat, ((j : Nat) : Int) < k → w j = s (g j).toNat
def FOU (o w : Nat → Int) (k : Int) : Prop := ∀ j : Nat, ((j : Nat) : Int) < k → o j = w j
def OKU (v : Nat → Int) (a : Nat → Nat → Int) (t n m : Int) : Prop := WHL v a t ∧ (1 ≤ n ∧ n ≤ 6) ∧ (1 ≤ m ∧ m ≤ 5000)
def URX (v : Nat → Int) (a : Nat → Nat → Int) (v2 : Nat → Int) (a2 : Nat → Nat → Int) (t n m f : Int) : Prop := ∀ b0, OUTL v a b0 → (¬ OKU v a t n m ∧ f = -1 ∧ OUTL v2 a2 b0) ∨ (OKU v a t n m ∧ (NZL a (gat0 a t) → NZL a (gat1 a t) → ∃ h o, HSS a t h ∧ URD a t (sgl h 256) n.toNat m.toNat f o ∧ OUTL v2 a2 (o.getD b0)))
section UREA
variable {v v1 v2 v3 v4 : Nat → Int} {a a1 a2 a3 a4 : Nat → Nat → Int} {g w s o w2 o2 g2 h : Nat → Int} {t k f n m tr x y z G : Int} {b0 l : List Int} {V A V2 A2 : List Nat}
theorem UKE.fr (hf : fr V A v1 a1 v2 a2) (hV : ([66, 55] : List Nat).all (fun k => !V.contains k) = true) (hA : ([65, 54, 44, 45, 46, 47, 13, 16] : List Nat).all (fun k => !A.contains k) = true) : UKE v1 a1 v2 a2 := by
  have kv : ∀ j, ([66, 55] : List Nat).contains j = true → v2 j = v1 j := fun j hj => hf.1 j (by
    have w := List.all_eq_true.mp hV j (List.contains_iff_mem.mp hj)
    simpa using w)
  have ka : ∀ j, ([65, 54, 44, 45, 46, 47, 13, 16] : List Nat).contains j = true → a2 j = a1 j := fun j hj => hf.2 j (by
    have w := List.all_eq_true.mp hA j (List.contains_iff_mem.mp hj)
    simpa using w)
  exact ⟨⟨kv 66 rfl, kv 55 rfl⟩, ⟨ka 65 rfl, ka 54 rfl⟩, ⟨ka 44 rfl, ka 45 rfl, ka 46 rfl, ka 47 rfl⟩, ka 13 rfl, ka 16 rfl⟩
theorem UKE.two (h1 : UKE v1 a1 v2 a2) (h2 : UKE v2 a2 v3 a3) : UKE v1 a1 v3 a3 := by
  obtain ⟨⟨p1, p2⟩, ⟨p3, p4⟩, ⟨p5, p6, p7, p8⟩, p9, p10⟩ := h1
  obtain ⟨⟨q1, q2⟩, ⟨q3, q4⟩, ⟨q5, q6, q7, q8⟩, q9, q10⟩ := h2
  exact ⟨⟨q1.trans p1, q2.trans p2⟩, ⟨q3.trans p3, q4.trans p4⟩, ⟨q5.trans p5, q6.trans p6, q7.trans p7, q8.trans p8⟩, q9.trans p9, q10.trans p10⟩
theorem UKE.refl : UKE v1 a1 v1 a1 := ⟨⟨rfl, rfl⟩, ⟨rfl, rfl⟩, ⟨rfl, rfl, rfl, rfl⟩, rfl, rfl⟩
theorem UCO.mv (hc : UCO v1 a1 a t h b0) (hk : UKE v1 a1 v2 a2) : UCO v2 a2 a t h b0 := by
  obtain ⟨⟨c1, c2⟩, ⟨c3, c4⟩, c5, c6⟩ := hc
  obtain ⟨⟨p1, p2⟩, ⟨p3, p4⟩, ⟨p5, p6, p7, p8⟩, p9, p10⟩ := hk
  exact ⟨⟨p1.trans c1, fun j x e => by rw [p3]; exact c2 j x e⟩, ⟨p2.trans c3, fun j x e => by rw [p4]; exact c4 j x e⟩, (c5.fr p5 p6 p7 (by rw [p8])).cg p9 p10, (c6.fr p5 p6 p7 (by rw [p8])).cg p9 p10⟩
theorem U104.mv (hu : U104 v a v1 a1 t n tr m) (hk : UKE v1 a1 v2 a2) : U104 v a v2 a2 t n tr m := fun b0 hp => by
  obtain ⟨h, h1, h2, h3⟩ := hu b0 hp
  exact ⟨h, h1, h2.mv hk, h3⟩
theorem U142.mv (hu : U142 v a v1 a1 t n tr m G) (hk : UKE v1 a1 v2 a2) (e : a2 70 = a1 70) : U142 v a v2 a2 t n tr m G := fun b0 hp => by
  obtain ⟨h, h1, h2, h3⟩ := hu b0 hp
  rw [← e] at h3
  exact ⟨h, h1, h2.mv hk, h3⟩
theorem U63.mk (hG : GAT a a3 t) (h1 : fr V A v a v3 a3) (c1 : ([6, 12, 13, 14, 16] : List Nat).all (fun k => !A.contains k) = true) (h2 : fr [66] [65, 70] v3 a3 v4 a4) (hX : GSX a3 v4 a4 t) (hb : BX v3 a3) : U63 a v4 a4 t := by
  have ka : ∀ j, ([6, 12, 13, 14, 16] : List Nat).contains j = true → a3 j = a j := fun j hj => h1.2 j (by
    have w := List.all_eq_true.mp c1 j (List.contains_iff_mem.mp hj)
    simpa using w)
  obtain ⟨g0, g1⟩ := hG
  have k0 := g0.cg (ka 13 rfl) (ka 16 rfl)
  have k1 := g1.cg (ka 13 rfl) (ka 16 rfl)
  obtain ⟨g, q1, q2⟩ := hX
  refine ⟨g, q1.hss k0 k1 (ka 6 rfl) (ka 12 rfl) (ka 14 rfl) (fun i => hb.2 47 i), q2, ?_, ?_⟩
  · exact (k0.fr (h2.2 44 rfl) (h2.2 45 rfl) (h2.2 46 rfl) (by rw [h2.2 47 rfl])).cg (h2.2 13 rfl) (h2.2 16 rfl)
  · exact (k1.fr (h2.2 44 rfl) (h2.2 45 rfl) (h2.2 46 rfl) (by rw [h2.2 47 rfl])).cg (h2.2 13 rfl) (h2.2 16 rfl)
theorem U63.mv (hu : U63 a v1 a1 t) (e66 : v2 66 = v1 66) (e65 : a2 65 = a1 65) (e44 : a2 44 = a1 44 ∧ a2 45 = a1 45 ∧ a2 46 = a1 46 ∧ a2 47 = a1 47) (e13 : a2 13 = a1 13 ∧ a2 16 = a1 16) : U63 a v2 a2 t := by
  obtain ⟨h, h1, ⟨c1, c2⟩, h3, h4⟩ := hu
  obtain ⟨p5, p6, p7, p8⟩ := e44
  exact ⟨h, h1, ⟨e66.trans c1, fun j x e => by rw [e65]; exact c2 j x e⟩, (h3.fr p5 p6 p7 (by rw [p8])).cg e13.1 e13.2, (h4.fr p5 p6 p7 (by rw [p8])).cg e13.1 e13.2⟩
theorem U104.init (hu : U63 a v1 a1 t) (h55 : v1 55 = v 52) (h54 : FOU (a1 54) (a 51) k) (hk : v 52 ≤ k) (hn : 1 ≤ n) : U104 v a v1 a1 t n 0 1 := fun b0 hp => by
  obtain ⟨h, h1, h2, h3⟩ := hu
  have e := hp.1.1
  refine ⟨h, h1, ⟨h2, ⟨by omega, fun j x ej => ?_⟩, h3⟩, URK.zero, ?_⟩
  · have lt := gl3 ej
    rw [h54 j (by omega)]
    exact hp.1.2 j x ej
  · show (if 0 < (((sgl h 256).length : Nat) : Int) ∧ 0 < n.toNat then some (zrs 1) else none) = _
    by_cases q : 0 < (((sgl h 256).length : Nat) : Int)
    · rw [if_pos ⟨q, by omega⟩, if_pos ⟨q, by show 1 ≤ n.toNat; omega⟩]
      rfl
    · rw [if_neg (fun w => q w.1), if_neg (fun w => q w.1)]
theorem FOU.zero : FOU o w 0 := fun j hj => absurd hj (by omega)
theorem FOU.step (hf : FOU o w k) (hk : 0 ≤ k) (e : o2 = va_up o k.toNat (w k.toNat)) : FOU o2 w (k + 1) := fun j hj => by
  rw [e]
  by_cases q : j = k.toNat
  · rw [q, va_up_self]
  · rw [va_up_ne _ _ q]
    exact hf j (by omega)
theorem ZRI.zero : ZRI g 0 := fun j hj => absurd hj (by omega)
theorem ZRI.step (hf : ZRI g k) (hk : 0 ≤ k) (e : g2 = va_up g k.toNat 0) : ZRI g2 (k + 1) := fun j hj => by
  rw [e]
  by_cases q : j = k.toNat
  · rw [q, va_up_self]
  · rw [va_up_ne _ _ q]
    exact hf j (by omega)
theorem FWI.zero : FWI w s g 0 := fun j hj => absurd hj (by omega)
theorem FWI.step (hf : FWI w s g k) (hk : 0 ≤ k) (e : w2 = va_up w k.toNat (s (g k.toNat).toNat)) : FWI w2 s g (k + 1) := fun j hj => by
  rw [e]
  by_cases q : j = k.toNat
  · rw [q, va_up_self]
  · rw [va_up_ne _ _ q]
    exact hf j (by omega)
theorem U104.go (hu : U104 v a v1 a1 t n tr m) (hz : ZRI (a1 70) k) (hk : m ≤ k) (hm : 1 ≤ m ∧ m ≤ n) (h66 : 0 < v1 66) : U142 v a v1 a1 t n tr m 1 := fun b0 hp => by
  obtain ⟨h, h1, h2, h3, h4⟩ := hu b0 hp
  have e := h2.1.1
  have e2 : (256 : Int).toNat = 256 := rfl
  rw [e2] at e
  rw [if_pos ⟨by omega, by omega⟩] at h4
  refine ⟨h, h1, h2, h3, Or.inl ⟨rfl, _, h4, zrs_len _, fun j x ej => ?_⟩⟩
  have lt := gl3 ej
  rw [zrs_len] at lt ⊢
  rw [zrs_at _ _ _ ej]
  exact hz _ (by omega)
theorem U142.next (hu : U142 v a v1 a1 t n tr m G) (hg : G = 0) : U104 v a v1 a1 t n tr (m + 1) := fun b0 hp => by
  obtain ⟨h, h1, h2, h3, h4⟩ := hu b0 hp
  rcases h4 with ⟨q, _⟩ | ⟨_, q⟩
  · omega
  · exact ⟨h, h1, h2, h3, q⟩
theorem UCO.back (hc : UCO v1 a1 a t h b0) (hp : PBXU v1 a1 v2 a2) : OUTL v2 a2 b0 := by
  obtain ⟨_, ⟨c1, c2⟩, _⟩ := hc
  refine ⟨hp.1.trans c1, fun j x ej => ?_⟩
  have lt := gl3 ej
  rw [hp.2 j (by omega)]
  exact c2 j x ej
theorem URX.bad (hn : ¬ OKU v a t n m) (hf : f = -1) (h52 : v2 52 = v 52) (h51 : a2 51 = a 51) : URX v a v2 a2 t n m f := fun b0 hb => Or.inl ⟨hn, hf, hb.fr h52 h51⟩
theorem URX.found (hw : OKU v a t n m) (hu : U223 v a v1 a1 t n tr y) (hy : 1 ≤ y) (htr : 0 ≤ tr ∧ tr < m) (ho : FOU (a1 51) (a1 20) k) (hk : y ≤ k) (h52 : v1 52 = y) (hf : f = y) (e52 : v2 52 = v1 52) (e51 : a2 51 = a1 51) : URX v a v2 a2 t n m f := fun b0 hb => Or.inr ⟨hw, fun n0 n1 => by
  obtain ⟨h, h1, h3, l, q1, q2, q3, q4⟩ := hu b0 ⟨hb, n0, n1⟩
  refine ⟨h, some (wdb (sgl h 256) l), h1, Or.inl ⟨tr.toNat, l, by omega, h3, q1, q3, by omega, rfl⟩, ?_⟩
  show OUTL v2 a2 (wdb (sgl h 256) l)
  refine ⟨by rw [wdb_len]; omega, fun j x ej => ?_⟩
  have lt := gl3 ej
  rw [wdb_len] at lt
  rw [e51, ho j (by omega)]
  exact q4 j x ej⟩
theorem U263.step (hu : U263 v a v1 a1 t n tr m k) (hk : 0 ≤ k ∧ k ≤ m - 1) (hd : a1 70 k.toNat = v1 66 - 1) (hK : UKE v1 a1 v2 a2) (e : a2 70 = va_up (a1 70) k.toNat 0) : U263 v a v2 a2 t n tr m (k - 1) := fun b0 hp => by
  obtain ⟨h, h1, h2, h3, l, q1, q2, q3⟩ := hu b0 hp
  have eS := h2.1.1
  have e2 : (256 : Int).toNat = 256 := rfl
  rw [e2] at eS
  refine ⟨h, h1, h2.mv hK, h3, l, q1, q2, fun j x ej => ?_⟩
  have lt := gl3 ej
  have w := q3 j x ej
  rw [e]
  by_cases c : l.length - 1 - j = k.toNat
  · rw [c, va_up_self]
    rw [c] at w
    exact ⟨fun q => absurd q (by omega), fun _ => ⟨by have := w.1 (by omega); omega, rfl⟩⟩
  · rw [va_up_ne _ _ c]
    exact ⟨fun q => w.1 (by omega), fun q => w.2 (by omega)⟩
theorem U263.up (hu : U263 v a v1 a1 t n tr m k) (h0 : 0 ≤ tr) (hk : 0 ≤ k ∧ k ≤ m - 1) (hd : a1 70 k.toNat ≠ v1 66 - 1) (hK : UKE v1 a1 v2 a2) (e : a2 70 = va_up (a1 70) k.toNat (a1 70 k.toNat + 1)) (hg : G = 1) : U142 v a v2 a2 t n (tr + 1) m G := fun b0 hp => by
  obtain ⟨h, h1, h2, h3, l, q1, q2, q3⟩ := hu b0 hp
  have eS := h2.1.1
  have e2 : (256 : Int).toNat = 256 := rfl
  rw [e2] at eS
  have lt : l.length - 1 - k.toNat < l.length := by omega
  have gd := List.getElem?_eq_getElem lt
  have wd := (q3 _ _ gd).1 (by omega)
  rw [show l.length - 1 - (l.length - 1 - k.toNat) = k.toNat by omega] at wd
  obtain ⟨l2, i1, i2, i3, i4, i5⟩ := inw_at (S := (((sgl h 256).length : Nat) : Int)) l (l.length - 1 - k.toNat) _ (fun j x hj ej => ((q3 j x ej).2 (by omega)).1) gd (by omega)
  refine ⟨h, h1, h2.mv hK, ?_, Or.inl ⟨hg, l2, ?_, by omega, fun j x ej => ?_⟩⟩
  · rw [show (tr + 1).toNat = tr.toNat + 1 by omega]
    exact h3
  · rw [show (tr + 1).toNat = tr.toNat + 1 by omega, enw_s q1]
    exact nxw_some i1
  · have lj := gl3 ej
    rw [i2] at lj ⊢
    rw [e]
    by_cases c1 : j < l.length - 1 - k.toNat
    · rw [i3 j c1] at ej
      cases ej
      have gj := List.getElem?_eq_getElem lj
      rw [va_up_ne _ _ (by omega)]
      exact ((q3 j _ gj).2 (by omega)).2
    · by_cases c2 : j = l.length - 1 - k.toNat
      · rw [c2, i4] at ej
        cases ej
        rw [c2, show l.length - 1 - (l.length - 1 - k.toNat) = k.toNat by omega, va_up_self, wd]
      · rw [i5 j (by omega)] at ej
        rw [va_up_ne _ _ (by omega)]
        exact (q3 j x ej).1 (by omega)
end UREA
