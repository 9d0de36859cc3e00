theorem bz_iff {i zz n : Int} (e : iI i &&& iI n = iI zz) (h : R32 zz) : (iI i &&& iI n = iI 0) ↔ zz = 0 := by rw [e]; exact iI_eq h ⟨by decide, by decide⟩
theorem and1' (x : Int32) : x &&& 1 = 0 ∨ x &&& 1 = 1 := by
  have e : (x &&& 1).toBitVec = (BitVec.ofBool (x.toBitVec.getLsbD 0)).setWidth 32 := by
    rw [Int32.toBitVec_and]; exact BitVec.and_one_eq_setWidth_ofBool_getLsbD
  cases hb : x.toBitVec.getLsbD 0
  · left; apply Int32.toBitVec_inj.mp; rw [e, hb]; rfl
  · right; apply Int32.toBitVec_inj.mp; rw [e, hb]; rfl
theorem and1 {i zz : Int} (e : iI i &&& iI 1 = iI zz) (h : R32 zz) : zz = 0 ∨ zz = 1 := by
  rcases and1' (iI i) with q | q
  · left; exact (iI_eq h ⟨by decide, by decide⟩).mp (e.symm.trans q)
  · right; exact (iI_eq h ⟨by decide, by decide⟩).mp (e.symm.trans q)
theorem or2 {zz w : Int} (h : zz = 0 ∨ zz = 1) (e : iI zz ||| iI 2 = iI w) (hw : R32 w) : w = 2 ∨ w = 3 := by
  rcases h with rfl | rfl
  · left; exact (iI_eq hw ⟨by decide, by decide⟩).mp (e.symm.trans (by decide))
  · right; exact (iI_eq hw ⟨by decide, by decide⟩).mp (e.symm.trans (by decide))
def bz (i : Int) : Prop := iI i &&& iI 1 = iI 0
def b2 (i : Int) : Prop := iI i &&& iI 2 = iI 0
def LLw (iv : Nat → Nat → Int) (rv : Nat → Nat → Option Nat) (a : Nat) (c t : Int) : Prop := t < iv a 9 ∧ ∀ b, rv a 8 = some b → (iI c ^^^ iI (iv b t.toNat)) &&& iI (iv a 10) = iI 0
def LRw (ln : Nat → Nat) (iv : Nat → Nat → Int) (rv : Nat → Nat → Option Nat) (a row : Nat) (t : Int) : Prop := ∀ cb, rv row 2 = some cb → ∀ k : Nat, k < ln cb → LLw iv rv a (iv cb k) (t + k)
def BSw (ln : Nat → Nat) (iv : Nat → Nat → Int) (rv : Nat → Nat → Option Nat) (row : Nat) : Prop := ∀ b, rv row 1 = some b → iv row 0 = 4 ∧ 0 < ln b ∧ 97 ≤ iv b 0 ∧ iv b 0 ≤ 122
def RWx (sk : Nat → Nat) (rv : Nat → Nat → Option Nat) (i x : Int) (row : Nat) : Prop := (bz i ∧ el rv (sk 24) (x - 1).toNat = some row) ∨ (¬ bz i ∧ el rv (sk 25) (x - 1).toNat = some row)
def GD (sk ln : Nat → Nat) (iv : Nat → Nat → Int) (rv : Nat → Nat → Option Nat) (a : Nat) (i t x : Int) : Prop := (x ≤ 0 → b2 i ∧ LLw iv rv a 0 t) ∧ (0 < x → ∀ row, RWx sk rv i x row → LRw ln iv rv a row t ∧ (b2 i ∨ BSw ln iv rv row))
def VL (sk : Nat → Nat) (iv : Nat → Nat → Int) (i x : Int) : Prop := x ≤ 0 ∨ (bz i ∧ x ≤ iv (sk 24) 2) ∨ (¬ bz i ∧ x ≤ iv (sk 25) 2)
section GDS
variable {g : Nat} {sk : Nat → Nat} {L : List Nat} {cl ln : Nat → Nat} {iv iv1 iv2 iv3 : Nat → Nat → Int} {rv : Nat → Nat → Option Nat} {a row row2 c k nb cb : Nat} {i t x z dp f nd zz : Int}
theorem RWx.uni (h : RWx sk rv i x row) (h2 : RWx sk rv i x row2) : row2 = row := by
  rcases h with ⟨q1, q2⟩ | ⟨q1, q2⟩ <;> rcases h2 with ⟨w1, w2⟩ | ⟨w1, w2⟩
  · rw [q2] at w2; cases w2; rfl
  · exact absurd q1 w1
  · exact absurd w1 q1
  · rw [q2] at w2; cases w2; rfl
theorem GD.mk0 (hx : x ≤ 0) (h1 : b2 i) (h2 : LLw iv rv a 0 t) : GD sk ln iv rv a i t x := ⟨fun _ => ⟨h1, h2⟩, fun q => absurd q (by omega)⟩
theorem GD.no0 (hx : x ≤ 0) (h : b2 i → LLw iv rv a 0 t → False) : ¬ GD sk ln iv rv a i t x := fun q => h (q.1 hx).1 (q.1 hx).2
theorem GD.mk1 (hx : 0 < x) (hr : RWx sk rv i x row) (h1 : LRw ln iv rv a row t) (h2 : b2 i ∨ BSw ln iv rv row) : GD sk ln iv rv a i t x := ⟨fun q => absurd hx (by omega), fun _ r2 q => by rw [hr.uni q]; exact ⟨h1, h2⟩⟩
theorem GD.no1 (hx : 0 < x) (hr : RWx sk rv i x row) (h : LRw ln iv rv a row t → (b2 i ∨ BSw ln iv rv row) → False) : ¬ GD sk ln iv rv a i t x := fun q => h (q.2 hx row hr).1 (q.2 hx row hr).2
theorem VL.put (h : VL sk iv i x) (hS : SKL sk L cl) (he : iv1 = up2 iv c k z) (hc : ty L cl c 61) : VL sk iv1 i x := by
  refine hv2 (show ty L cl (sk 24) 24 from ⟨(hS 24 rfl).1, by rw [(hS 24 rfl).2]; rfl⟩) (show ty L cl (sk 25) 25 from ⟨(hS 25 rfl).1, by rw [(hS 25 rfl).2]; rfl⟩) (fun h24 h25 => ?_)
  unfold VL at *
  rw [he, up2_k (ne_ty h24 hc (by decide)), up2_k (ne_ty h25 hc (by decide))]; exact h
theorem VL.zed (h : VL sk iv i x) (e : iI i &&& iI 1 = iI zz) (hz : R32 zz) : x ≤ 0 ∨ (zz = 0 ∧ x ≤ iv (sk 24) 2) ∨ (zz ≠ 0 ∧ x ≤ iv (sk 25) 2) := by
  rcases h with q | ⟨q, w⟩ | ⟨q, w⟩
  · exact Or.inl q
  · exact Or.inr (Or.inl ⟨(bz_iff e hz).mp q, w⟩)
  · exact Or.inr (Or.inr ⟨fun y => q ((bz_iff e hz).mpr y), w⟩)
theorem VL.rowt (h : VL sk iv i x) (hx : 0 < x) (hW : WT g sk L cl ln iv rv) (hS : SKL sk L cl) (hr : RWx sk rv i x row) : ty L cl row 20 := by
  refine hv2 (show ty L cl (sk 24) 24 from ⟨(hS 24 rfl).1, by rw [(hS 24 rfl).2]; rfl⟩) (show ty L cl (sk 25) 25 from ⟨(hS 25 rfl).1, by rw [(hS 25 rfl).2]; rfl⟩) (fun h24 h25 => ?_)
  rcases hr with ⟨q1, q2⟩ | ⟨q1, q2⟩
  · rcases h with w | ⟨_, w⟩ | ⟨w, _⟩
    · omega
    · obtain ⟨b, e1, e2, e3, e4⟩ := hW.ed2 h24 rfl rfl (by omega)
      rw [el_of e1] at q2
      obtain ⟨d, w1, w2⟩ := hW.elem h24 rfl e1 e2 rfl rfl (i := (x - 1).toNat) (by omega)
      rw [q2] at w1; cases w1; exact w2
    · exact absurd q1 w
  · rcases h with w | ⟨w, _⟩ | ⟨_, w⟩
    · omega
    · exact absurd w q1
    · obtain ⟨b, e1, e2, e3, e4⟩ := hW.ed2 h25 rfl rfl (by omega)
      rw [el_of e1] at q2
      obtain ⟨d, w1, w2⟩ := hW.elem h25 rfl e1 e2 rfl rfl (i := (x - 1).toNat) (by omega)
      rw [q2] at w1; cases w1; exact w2
theorem LLw.put (h : LLw iv rv a z t) (hW : WT g sk L cl ln iv rv) (ha : ty L cl a 17) (he : iv1 = up2 iv c k f) (hc : ty L cl c 61) : LLw iv1 rv a z t := by
  have e0 := ne_ty ha hc (by decide)
  refine ⟨by rw [he, up2_k e0]; exact h.1, fun b hb => ?_⟩
  obtain ⟨b2, q1, q2⟩ := hW.ref ha 8 rfl rfl rfl
  rw [q1] at hb; cases hb
  rw [he, up2_k e0, up2_k (ne_ty q2 hc (by decide))]
  exact h.2 _ q1
theorem GD.put (h : GD sk ln iv rv a i t x) (hv : VL sk iv i x) (hW : WT g sk L cl ln iv rv) (hS : SKL sk L cl) (ha : ty L cl a 17) (he : iv1 = up2 iv c k f) (hc : ty L cl c 61) : GD sk ln iv1 rv a i t x := by
  refine ⟨fun q => ⟨(h.1 q).1, (h.1 q).2.put hW ha he hc⟩, fun q row hr => ?_⟩
  have tr := hv.rowt q hW hS hr
  obtain ⟨w1, w2⟩ := h.2 q row hr
  refine ⟨fun cb hb n hn => ?_, ?_⟩
  · obtain ⟨d, q1, q2⟩ := hW.ref tr 2 rfl rfl rfl
    rw [q1] at hb; cases hb
    have e1 : iv1 cb n = iv cb n := by rw [he, up2_k (ne_ty q2 hc (by decide))]
    rw [e1]
    exact (w1 cb q1 n hn).put hW ha he hc
  · rcases w2 with w2 | w2
    · exact Or.inl w2
    · refine Or.inr (fun b hb => ?_)
      obtain ⟨d, q1, q2⟩ := hW.ref tr 1 rfl rfl rfl
      have w3 := w2 b hb
      rw [q1] at hb; cases hb
      rw [he, up2_k (ne_ty tr hc (by decide)), up2_k (ne_ty q2 hc (by decide))]
      exact w3
def WKI (sk : Nat → Nat) (iv : Nat → Nat → Int) (nb cb : Nat) (dp : Int) : Prop := ∀ d : Nat, (d : Int) ≤ dp → 4 * (d : Int) ≤ iv nb d ∧ iv nb d ≤ 403 ∧ -1 ≤ iv cb d ∧ ((d : Int) < dp → 0 ≤ iv cb d) ∧ VL sk iv (iv nb d) (iv cb d)
theorem WKI.init (h1 : iv nb 0 = 0) (h2 : iv cb 0 = -1) : WKI sk iv nb cb 0 := by
  intro d hd
  have e : d = 0 := by omega
  subst e
  rw [h1, h2]
  exact ⟨by decide, by decide, by decide, fun q => absurd q (by decide), Or.inl (by decide)⟩
theorem WKI.back (h : WKI sk iv nb cb dp) : WKI sk iv nb cb (dp + (-1)) := fun d hd => by
  obtain ⟨q1, q2, q3, q4, q5⟩ := h d (by omega)
  exact ⟨q1, q2, q3, fun _ => q4 (by omega), q5⟩
theorem WKI.fr (h : WKI sk iv nb cb dp) (h1 : ∀ d, iv2 nb d = iv nb d) (h2 : ∀ d, iv2 cb d = iv cb d) (h3 : iv2 (sk 24) 2 = iv (sk 24) 2) (h4 : iv2 (sk 25) 2 = iv (sk 25) 2) : WKI sk iv2 nb cb dp := fun d hd => by
  unfold VL; rw [h1, h2, h3, h4]; exact h d hd
theorem WKI.next (h : WKI sk iv nb cb dp) (e1 : iv1 = up2 iv cb dp.toNat f) (e2 : iv2 = up2 iv1 nb (dp + 1).toNat nd) (e3 : iv3 = up2 iv2 cb (dp + 1).toNat (-1)) (hne : nb ≠ cb) (h0 : 0 ≤ dp) (hv : VL sk iv (iv nb dp.toNat) f) (hf : 0 ≤ f) (hn : 4 * (dp + 1) ≤ nd ∧ nd ≤ 403) (n24n : sk 24 ≠ nb) (n24c : sk 24 ≠ cb) (n25n : sk 25 ≠ nb) (n25c : sk 25 ≠ cb) : WKI sk iv3 nb cb (dp + 1) := by
  intro d hd
  refine hv2 (show iv3 (sk 24) 2 = iv (sk 24) 2 from by rw [e3, up2_k n24c, e2, up2_k n24n, e1, up2_k n24c]) (show iv3 (sk 25) 2 = iv (sk 25) 2 from by rw [e3, up2_k n25c, e2, up2_k n25n, e1, up2_k n25c]) (fun s24 s25 => ?_)
  by_cases hl : d = (dp + 1).toNat
  · have a1 : iv3 nb d = nd := by rw [e3, up2_k hne, e2, hl]; exact up2_s
    have a2 : iv3 cb d = -1 := by rw [e3, hl]; exact up2_s
    rw [a1, a2]
    exact ⟨by omega, hn.2, by decide, fun q => absurd q (by omega), Or.inl (by decide)⟩
  · have a1 : iv3 nb d = iv nb d := by rw [e3, up2_k hne, e2, up2_j hl, e1, up2_k hne]
    obtain ⟨q1, q2, q3, q4, q5⟩ := h d (by omega)
    by_cases hm : d = dp.toNat
    · have a2 : iv3 cb d = f := by rw [e3, up2_j hl, e2, up2_k (Ne.symm hne), e1, hm]; exact up2_s
      unfold VL; rw [a1, a2, s24, s25]
      refine ⟨q1, q2, by omega, fun _ => hf, ?_⟩
      have hv2 := hv; unfold VL at hv2; rw [hm]; exact hv2
    · have a2 : iv3 cb d = iv cb d := by rw [e3, up2_j hl, e2, up2_k (Ne.symm hne), e1, up2_j hm]
      unfold VL; rw [a1, a2, s24, s25]
      exact ⟨q1, q2, q3, fun _ => q4 (by omega), q5⟩
end GDS
