section
def TX (L : List Nat) (cl : Nat → Nat) (L2 : List Nat) (cl2 : Nat → Nat) : Prop := ∀ b T, raw T = false → ty L cl b T → ty L2 cl2 b T
def KP (L : List Nat) (cl : Nat → Nat) (C Q S X : Nat → Prop) (N : Nat → Nat → Prop) (iv : Nat → Nat → Int) (rv : Nat → Nat → Option Nat) (iv2 : Nat → Nat → Int) (rv2 : Nat → Nat → Option Nat) : Prop := (∀ b, ty L cl b 100 → rv2 b 2 = rv b 2 ∧ rv2 b 3 = rv b 3 ∧ rv2 b 4 = rv b 4 ∧ rv2 b 5 = rv b 5 ∧ rv2 b 6 = rv b 6) ∧ (∀ b, ty L cl b 20 → iv2 b 0 = iv b 0 ∧ rv2 b 1 = rv b 1 ∧ rv2 b 2 = rv b 2) ∧ (∀ b, ty L cl b 20 → ¬ C b → iv2 b 3 = iv b 3) ∧ (∀ b, ty L cl b 21 → iv2 b 3 = iv b 3 ∧ rv2 b 2 = rv b 2) ∧ (∀ b, ty L cl b 65 → ∀ k, iv2 b k = iv b k) ∧ (∀ b, ty L cl b 66 → ∀ k, iv2 b k = iv b k) ∧ (∀ b, ty L cl b 68 → ∀ k, ¬ N b k → rv2 b k = rv b k) ∧ (∀ b, ty L cl b 26 → ¬ Q b → iv2 b 2 = iv b 2 ∧ ∀ r : Nat, (r : Int) < iv b 2 → el rv2 b r = el rv b r) ∧ (∀ b, ty L cl b 12 → (¬ S b → iv2 b 2 = iv b 2 ∧ rv2 b 1 = rv b 1)) ∧ (∀ b, ty L cl b 42 → ¬ X b → ∀ k, iv2 b k = iv b k)
theorem KP.tb {L : List Nat} {cl : Nat → Nat} {C Q S X : Nat → Prop} {N : Nat → Nat → Prop} {iv : Nat → Nat → Int} {rv : Nat → Nat → Option Nat} {iv2 : Nat → Nat → Int} {rv2 : Nat → Nat → Option Nat} (h : KP L cl C Q S X N iv rv iv2 rv2) : ∀ b, ty L cl b 100 → rv2 b 2 = rv b 2 ∧ rv2 b 3 = rv b 3 ∧ rv2 b 4 = rv b 4 ∧ rv2 b 5 = rv b 5 ∧ rv2 b 6 = rv b 6 := h.1
theorem KP.rw0 {L : List Nat} {cl : Nat → Nat} {C Q S X : Nat → Prop} {N : Nat → Nat → Prop} {iv : Nat → Nat → Int} {rv : Nat → Nat → Option Nat} {iv2 : Nat → Nat → Int} {rv2 : Nat → Nat → Option Nat} (h : KP L cl C Q S X N iv rv iv2 rv2) : ∀ b, ty L cl b 20 → iv2 b 0 = iv b 0 ∧ rv2 b 1 = rv b 1 ∧ rv2 b 2 = rv b 2 := h.2.1
theorem KP.rwc {L : List Nat} {cl : Nat → Nat} {C Q S X : Nat → Prop} {N : Nat → Nat → Prop} {iv : Nat → Nat → Int} {rv : Nat → Nat → Option Nat} {iv2 : Nat → Nat → Int} {rv2 : Nat → Nat → Option Nat} (h : KP L cl C Q S X N iv rv iv2 rv2) : ∀ b, ty L cl b 20 → ¬ C b → iv2 b 3 = iv b 3 := h.2.2.1
theorem KP.ch {L : List Nat} {cl : Nat → Nat} {C Q S X : Nat → Prop} {N : Nat → Nat → Prop} {iv : Nat → Nat → Int} {rv : Nat → Nat → Option Nat} {iv2 : Nat → Nat → Int} {rv2 : Nat → Nat → Option Nat} (h : KP L cl C Q S X N iv rv iv2 rv2) : ∀ b, ty L cl b 21 → iv2 b 3 = iv b 3 ∧ rv2 b 2 = rv b 2 := h.2.2.2.1
theorem KP.le {L : List Nat} {cl : Nat → Nat} {C Q S X : Nat → Prop} {N : Nat → Nat → Prop} {iv : Nat → Nat → Int} {rv : Nat → Nat → Option Nat} {iv2 : Nat → Nat → Int} {rv2 : Nat → Nat → Option Nat} (h : KP L cl C Q S X N iv rv iv2 rv2) : ∀ b, ty L cl b 65 → ∀ k, iv2 b k = iv b k := h.2.2.2.2.1
theorem KP.ce {L : List Nat} {cl : Nat → Nat} {C Q S X : Nat → Prop} {N : Nat → Nat → Prop} {iv : Nat → Nat → Int} {rv : Nat → Nat → Option Nat} {iv2 : Nat → Nat → Int} {rv2 : Nat → Nat → Option Nat} (h : KP L cl C Q S X N iv rv iv2 rv2) : ∀ b, ty L cl b 66 → ∀ k, iv2 b k = iv b k := h.2.2.2.2.2.1
theorem KP.nd {L : List Nat} {cl : Nat → Nat} {C Q S X : Nat → Prop} {N : Nat → Nat → Prop} {iv : Nat → Nat → Int} {rv : Nat → Nat → Option Nat} {iv2 : Nat → Nat → Int} {rv2 : Nat → Nat → Option Nat} (h : KP L cl C Q S X N iv rv iv2 rv2) : ∀ b, ty L cl b 68 → ∀ k, ¬ N b k → rv2 b k = rv b k := h.2.2.2.2.2.2.1
theorem KP.li {L : List Nat} {cl : Nat → Nat} {C Q S X : Nat → Prop} {N : Nat → Nat → Prop} {iv : Nat → Nat → Int} {rv : Nat → Nat → Option Nat} {iv2 : Nat → Nat → Int} {rv2 : Nat → Nat → Option Nat} (h : KP L cl C Q S X N iv rv iv2 rv2) : ∀ b, ty L cl b 26 → ¬ Q b → iv2 b 2 = iv b 2 ∧ ∀ r : Nat, (r : Int) < iv b 2 → el rv2 b r = el rv b r := h.2.2.2.2.2.2.2.1
theorem KP.it {L : List Nat} {cl : Nat → Nat} {C Q S X : Nat → Prop} {N : Nat → Nat → Prop} {iv : Nat → Nat → Int} {rv : Nat → Nat → Option Nat} {iv2 : Nat → Nat → Int} {rv2 : Nat → Nat → Option Nat} (h : KP L cl C Q S X N iv rv iv2 rv2) : ∀ b, ty L cl b 12 → (¬ S b → iv2 b 2 = iv b 2 ∧ rv2 b 1 = rv b 1) := h.2.2.2.2.2.2.2.2.1
theorem KP.ia {L : List Nat} {cl : Nat → Nat} {C Q S X : Nat → Prop} {N : Nat → Nat → Prop} {iv : Nat → Nat → Int} {rv : Nat → Nat → Option Nat} {iv2 : Nat → Nat → Int} {rv2 : Nat → Nat → Option Nat} (h : KP L cl C Q S X N iv rv iv2 rv2) : ∀ b, ty L cl b 42 → ¬ X b → ∀ k, iv2 b k = iv b k := h.2.2.2.2.2.2.2.2.2
def kpl (ls : List Nat) : Bool := ([100, 20, 21, 65, 66, 68, 26, 1004, 12, 42] : List Nat).all (fun t => !ls.contains t)
def okI (T k : Nat) : Bool := match T with
  | 20 => k != 0 && k != 3
  | 21 => k != 3
  | 65 => false
  | 66 => false
  | 42 => false
  | 26 => k != 2
  | 12 => k != 2
  | _ => true
def okR (T k : Nat) : Bool := match T with
  | 100 => !([2, 3, 4, 5, 6] : List Nat).contains k
  | 20 => k != 1 && k != 2
  | 21 => k != 2
  | 68 => false
  | 26 => k != 1
  | 1004 => false
  | 12 => k != 1
  | _ => true
section KPS
variable {g : Nat} {sk : Nat → Nat} {L L1 L2 : List Nat} {cl ln cl1 ln1 cl2 ln2 : Nat → Nat} {iv iv1 iv2 : Nat → Nat → Int} {rv rv1 rv2 : Nat → Nat → Option Nat} {C Q S X C2 Q2 S2 X2 : Nat → Prop} {N N2 : Nat → Nat → Prop} {ls : List Nat} {a k q t T : Nat} {z : Int} {y : Option Nat}
theorem TX.refl : TX L cl L cl := fun _ _ _ h => h
theorem TX.xt (h : TX L cl L1 cl1) (hX : XT L1 cl1 ln1 L2 cl2 ln2) : TX L cl L2 cl2 := fun b T hr hb => hX.ty (h b T hr hb)
theorem TX.rt (h : TX L cl L1 cl1) (hc : cl2 = va_up cl1 q t) (tq : ty L1 cl1 q T) (hr : raw T = true) : TX L cl L1 cl2 := fun b T2 hr2 hb => ⟨(h b T2 hr2 hb).1, by rw [hc, va_up_ne _ _ (ne_ty (h b T2 hr2 hb) tq (fun e => by rw [e, hr] at hr2; cases hr2))]; exact (h b T2 hr2 hb).2⟩
theorem KP.refl : KP L cl C Q S X N iv rv iv rv := ⟨fun _ _ => ⟨rfl, rfl, rfl, rfl, rfl⟩, fun _ _ => ⟨rfl, rfl, rfl⟩, fun _ _ _ => rfl, fun _ _ => ⟨rfl, rfl⟩, fun _ _ _ => rfl, fun _ _ _ => rfl, fun _ _ _ _ => rfl, fun _ _ _ => ⟨rfl, fun _ _ => rfl⟩, fun _ _ _ => ⟨rfl, rfl⟩, fun _ _ _ _ => rfl⟩
theorem KP.trans (h : KP L cl C Q S X N iv rv iv1 rv1) (hX : TX L cl L1 cl1) (h2 : KP L1 cl1 C Q S X N iv1 rv1 iv2 rv2) : KP L cl C Q S X N iv rv iv2 rv2 := by
  refine ⟨fun b tb => ?_, fun b tb => ?_, fun b tb hc => ?_, fun b tb => ?_, fun b tb k => ?_, fun b tb k => ?_, fun b tb k hn => ?_, fun b tb hq => ?_, fun b tb hs => ?_, fun b tb hx k => ?_⟩
  · have q1 := h.tb b tb
    have q2 := h2.tb b (hX b _ rfl tb)
    exact ⟨q2.1.trans q1.1, q2.2.1.trans q1.2.1, q2.2.2.1.trans q1.2.2.1, q2.2.2.2.1.trans q1.2.2.2.1, q2.2.2.2.2.trans q1.2.2.2.2⟩
  · have q1 := h.rw0 b tb
    have q2 := h2.rw0 b (hX b _ rfl tb)
    exact ⟨q2.1.trans q1.1, q2.2.1.trans q1.2.1, q2.2.2.trans q1.2.2⟩
  · exact (h2.rwc b (hX b _ rfl tb) hc).trans (h.rwc b tb hc)
  · have q1 := h.ch b tb
    have q2 := h2.ch b (hX b _ rfl tb)
    exact ⟨q2.1.trans q1.1, q2.2.trans q1.2⟩
  · exact (h2.le b (hX b _ rfl tb) k).trans (h.le b tb k)
  · exact (h2.ce b (hX b _ rfl tb) k).trans (h.ce b tb k)
  · exact (h2.nd b (hX b _ rfl tb) k hn).trans (h.nd b tb k hn)
  · have q1 := h.li b tb hq
    have q2 := h2.li b (hX b _ rfl tb) hq
    exact ⟨q2.1.trans q1.1, fun r hr => (q2.2 r (by rw [q1.1]; exact hr)).trans (q1.2 r hr)⟩
  · have q1 := h.it b tb hs
    have q2 := h2.it b (hX b _ rfl tb) hs
    exact ⟨q2.1.trans q1.1, q2.2.trans q1.2⟩
  · exact (h2.ia b (hX b _ rfl tb) hx k).trans (h.ia b tb hx k)
theorem KP.mono (h : KP L cl C Q S X N iv rv iv2 rv2) (hC : ∀ b ∈ L, C b → C2 b) (hQ : ∀ b ∈ L, Q b → Q2 b) (hS : ∀ b ∈ L, S b → S2 b) (hX : ∀ b ∈ L, X b → X2 b) (hN : ∀ b ∈ L, ∀ k, N b k → N2 b k) : KP L cl C2 Q2 S2 X2 N2 iv rv iv2 rv2 :=
  ⟨h.tb, h.rw0, fun b tb q => h.rwc b tb (fun e => q (hC b tb.1 e)), h.ch, h.le, h.ce, fun b tb k q => h.nd b tb k (fun e => q (hN b tb.1 k e)), fun b tb q => h.li b tb (fun e => q (hQ b tb.1 e)), fun b tb q => h.it b tb (fun e => q (hS b tb.1 e)), fun b tb q => h.ia b tb (fun e => q (hX b tb.1 e))⟩
theorem kpl_no (h : kpl ls = true) : ls.contains 100 = false ∧ ls.contains 20 = false ∧ ls.contains 21 = false ∧ ls.contains 65 = false ∧ ls.contains 66 = false ∧ ls.contains 68 = false ∧ ls.contains 26 = false ∧ ls.contains 1004 = false ∧ ls.contains 12 = false ∧ ls.contains 42 = false := by
  have g : ∀ t, t ∈ ([100, 20, 21, 65, 66, 68, 26, 1004, 12, 42] : List Nat) → ls.contains t = false := fun t ht => by have := List.all_eq_true.mp h t ht; simpa using this
  exact ⟨g _ (by decide), g _ (by decide), g _ (by decide), g _ (by decide), g _ (by decide), g _ (by decide), g _ (by decide), g _ (by decide), g _ (by decide), g _ (by decide)⟩
theorem KP.fr (h : WT g sk L cl ln iv rv) (hF : fT ls L cl iv rv iv2 rv2) (hl : kpl ls = true) : KP L cl C Q S X N iv rv iv2 rv2 := by
  obtain ⟨a1, a2, a3, a4, a5, a6, a7, a8, a9, a10⟩ := kpl_no hl
  exact ⟨fun b tb => ⟨hF.r tb a1 2, hF.r tb a1 3, hF.r tb a1 4, hF.r tb a1 5, hF.r tb a1 6⟩, fun b tb => ⟨hF.i tb a2 0, hF.r tb a2 1, hF.r tb a2 2⟩, fun b tb _ => hF.i tb a2 3, fun b tb => ⟨hF.i tb a3 3, hF.r tb a3 2⟩, fun b tb k => hF.i tb a4 k, fun b tb k => hF.i tb a5 k, fun b tb k _ => hF.r tb a6 k, fun b tb _ => ⟨hF.i tb a7 2, fun r hr => el_kp h tb (hF.r tb a7 1) (fun b2 tb2 _ k => hF.r tb2 a8 k) hr⟩, fun b tb _ => ⟨hF.i tb a9 2, hF.r tb a9 1⟩, fun b tb _ k => hF.i tb a10 k⟩
theorem KP.call (h : KP L cl C Q S X N iv rv iv1 rv1) (hX : TX L cl L1 cl1) (hW : WT g sk L1 cl1 ln1 iv1 rv1) (hF : fT ls L1 cl1 iv1 rv1 iv2 rv2) (hl : kpl ls = true) : KP L cl C Q S X N iv rv iv2 rv2 := h.trans hX (KP.fr hW hF hl)
theorem KP.l26 (h : WT g sk L cl ln iv rv) (hF : fT [26, 1004] L cl iv rv iv2 rv2) (ho : ∀ bb, ty L cl bb 26 → bb ≠ a → iv2 bb 2 = iv bb 2 ∧ ∀ r : Nat, (r : Int) < iv bb 2 → el rv2 bb r = el rv bb r) : KP L cl C (fun b => b = a) S X N iv rv iv2 rv2 :=
  ⟨fun b tb => ⟨hF.r tb rfl 2, hF.r tb rfl 3, hF.r tb rfl 4, hF.r tb rfl 5, hF.r tb rfl 6⟩, fun b tb => ⟨hF.i tb rfl 0, hF.r tb rfl 1, hF.r tb rfl 2⟩, fun b tb _ => hF.i tb rfl 3, fun b tb => ⟨hF.i tb rfl 3, hF.r tb rfl 2⟩, fun b tb k => hF.i tb rfl k, fun b tb k => hF.i tb rfl k, fun b tb k _ => hF.r tb rfl k, fun b tb hq => ho b tb hq, fun b tb _ => ⟨hF.i tb rfl 2, hF.r tb rfl 1⟩, fun b tb _ k => hF.i tb rfl k⟩
theorem KP.i12 (h : WT g sk L cl ln iv rv) (hF : fT ls L cl iv rv iv2 rv2) (hl : kpl (ls.filter (fun t => t != 12 && t != 42)) = true) (ho : ∀ bb, ty L cl bb 12 → bb ≠ a → iv2 bb 2 = iv bb 2 ∧ rv2 bb 1 = rv bb 1) (hx : ∀ bb, ty L cl bb 42 → ¬ X bb → ∀ k, iv2 bb k = iv bb k) : KP L cl C Q (fun b => b = a) X N iv rv iv2 rv2 := by
  obtain ⟨a1, a2, a3, a4, a5, a6, a7, a8, _, _⟩ := kpl_no hl
  have g : ∀ t, (t != 12 && t != 42) = true → (ls.filter (fun t => t != 12 && t != 42)).contains t = false → ls.contains t = false := by
    intro t ht hc
    cases e : ls.contains t with
    | false => rfl
    | true =>
      exfalso
      have m : t ∈ ls.filter (fun t => t != 12 && t != 42) := List.mem_filter.mpr ⟨by simpa using e, ht⟩
      have : (ls.filter (fun t => t != 12 && t != 42)).contains t = true := by simpa using m
      rw [this] at hc; cases hc
  have b1 := g _ rfl a1; have b2 := g _ rfl a2; have b3 := g _ rfl a3; have b4 := g _ rfl a4; have b5 := g _ rfl a5; have b6 := g _ rfl a6; have b7 := g _ rfl a7; have b8 := g _ rfl a8
  exact ⟨fun b tb => ⟨hF.r tb b1 2, hF.r tb b1 3, hF.r tb b1 4, hF.r tb b1 5, hF.r tb b1 6⟩, fun b tb => ⟨hF.i tb b2 0, hF.r tb b2 1, hF.r tb b2 2⟩, fun b tb _ => hF.i tb b2 3, fun b tb => ⟨hF.i tb b3 3, hF.r tb b3 2⟩, fun b tb k => hF.i tb b4 k, fun b tb k => hF.i tb b5 k, fun b tb k _ => hF.r tb b6 k, fun b tb _ => ⟨hF.i tb b7 2, fun r hr => el_kp h tb (hF.r tb b7 1) (fun c tc _ k => hF.r tc b8 k) hr⟩, fun b tb hq => ho b tb hq, fun b tb hq k => hx b tb hq k⟩
theorem KP.sl (h : WT g sk L cl ln iv rv) (hF : fT [T] L cl iv rv iv2 rv2) (hT : T = 65 ∨ T = 66) (ho : ∀ bb, ty L cl bb T → ∀ k, iv2 bb k = iv bb k) : KP L cl C Q S X N iv rv iv2 rv2 := by
  rcases hT with rfl | rfl
  · exact ⟨fun b tb => ⟨hF.r tb rfl 2, hF.r tb rfl 3, hF.r tb rfl 4, hF.r tb rfl 5, hF.r tb rfl 6⟩, fun b tb => ⟨hF.i tb rfl 0, hF.r tb rfl 1, hF.r tb rfl 2⟩, fun b tb _ => hF.i tb rfl 3, fun b tb => ⟨hF.i tb rfl 3, hF.r tb rfl 2⟩, fun b tb k => ho b tb k, fun b tb k => hF.i tb rfl k, fun b tb k _ => hF.r tb rfl k, fun b tb _ => ⟨hF.i tb rfl 2, fun r hr => el_kp h tb (hF.r tb rfl 1) (fun c tc _ k => hF.r tc rfl k) hr⟩, fun b tb _ => ⟨hF.i tb rfl 2, hF.r tb rfl 1⟩, fun b tb _ k => hF.i tb rfl k⟩
  · exact ⟨fun b tb => ⟨hF.r tb rfl 2, hF.r tb rfl 3, hF.r tb rfl 4, hF.r tb rfl 5, hF.r tb rfl 6⟩, fun b tb => ⟨hF.i tb rfl 0, hF.r tb rfl 1, hF.r tb rfl 2⟩, fun b tb _ => hF.i tb rfl 3, fun b tb => ⟨hF.i tb rfl 3, hF.r tb rfl 2⟩, fun b tb k => hF.i tb rfl k, fun b tb k => ho b tb k, fun b tb k _ => hF.r tb rfl k, fun b tb _ => ⟨hF.i tb rfl 2, fun r hr => el_kp h tb (hF.r tb rfl 1) (fun c tc _ k => hF.r tc rfl k) hr⟩, fun b tb _ => ⟨hF.i tb rfl 2, hF.r tb rfl 1⟩, fun b tb _ k => hF.i tb rfl k⟩
theorem KP.new (h : KP L cl C Q S X N iv rv iv1 rv1) (hX : TX L cl L1 cl1) (hW : WT g sk L1 cl1 ln1 iv1 rv1) (hq : q ∉ L1) (hi : iv2 = up0 iv1 q 0) (hr : rv2 = up0 rv1 q none) : KP L cl C Q S X N iv rv iv2 rv2 :=
  h.call (ls := []) hX hW (fun b hb _ => ⟨by rw [hi, up0_a (ne_in hb hq)], by rw [hr, up0_a (ne_in hb hq)]⟩) rfl
theorem okI_k (h : okI T k = true) : (T ≠ 20 ∨ (k ≠ 0 ∧ k ≠ 3)) ∧ (T ≠ 21 ∨ k ≠ 3) ∧ T ≠ 65 ∧ T ≠ 66 ∧ T ≠ 42 ∧ (T ≠ 26 ∨ k ≠ 2) ∧ (T ≠ 12 ∨ k ≠ 2) := by
  unfold okI at h
  split at h <;> simp_all
theorem okR_k (h : okR T k = true) : (T ≠ 100 ∨ (k ≠ 2 ∧ k ≠ 3 ∧ k ≠ 4 ∧ k ≠ 5 ∧ k ≠ 6)) ∧ (T ≠ 20 ∨ (k ≠ 1 ∧ k ≠ 2)) ∧ (T ≠ 21 ∨ k ≠ 2) ∧ T ≠ 68 ∧ (T ≠ 26 ∨ k ≠ 1) ∧ T ≠ 1004 ∧ (T ≠ 12 ∨ k ≠ 1) := by
  unfold okR at h
  split at h <;> simp_all
theorem up2_ty {b Tb j : Nat} (hb : ty L1 cl1 b Tb) (ha : ty L1 cl1 a T) (h : T ≠ Tb ∨ k ≠ j) : up2 iv1 a k z b j = iv1 b j := by
  rcases h with e | e
  · exact up2_k (ne_ty hb ha (Ne.symm e))
  · exact up2_j (Ne.symm e)
theorem upr_ty {b Tb j : Nat} (hb : ty L1 cl1 b Tb) (ha : ty L1 cl1 a T) (h : T ≠ Tb ∨ k ≠ j) : upr rv1 a k y b j = rv1 b j := by
  rcases h with e | e
  · exact congrFun (upr_a (ne_ty hb ha (Ne.symm e))) j
  · exact upr_j (Ne.symm e)
theorem KP.puti (h : KP L cl C Q S X N iv rv iv1 rv1) (hX : TX L cl L1 cl1) (he : iv2 = up2 iv1 a k z) (ha : ty L1 cl1 a T) (hk : okI T k = true) : KP L cl C Q S X N iv rv iv2 rv1 := by
  obtain ⟨a1, a2, a3, a4, a5, a6, a7⟩ := okI_k hk
  subst he
  refine h.trans hX ⟨fun _ _ => ⟨rfl, rfl, rfl, rfl, rfl⟩, fun b tb => ⟨up2_ty tb ha (by omega), rfl, rfl⟩, fun b tb _ => up2_ty tb ha (by omega), fun b tb => ⟨up2_ty tb ha (by omega), rfl⟩, fun b tb j => up2_ty tb ha (Or.inl a3), fun b tb j => up2_ty tb ha (Or.inl a4), fun _ _ _ _ => rfl, fun b tb _ => ⟨up2_ty tb ha (by omega), fun _ _ => rfl⟩, fun b tb _ => ⟨up2_ty tb ha (by omega), rfl⟩, fun b tb _ j => up2_ty tb ha (Or.inl a5)⟩
theorem KP.putiN (h : KP L cl C Q S X N iv rv iv1 rv1) (he : iv2 = up2 iv1 a k z) (hn : a ∉ L) : KP L cl C Q S X N iv rv iv2 rv1 := by
  subst he
  have g : ∀ b, b ∈ L → ∀ j, up2 iv1 a k z b j = iv1 b j := fun b hb j => up2_k (ne_in hb hn)
  exact ⟨h.tb, fun b tb => ⟨(g b tb.1 0).trans (h.rw0 b tb).1, (h.rw0 b tb).2⟩, fun b tb hc => (g b tb.1 3).trans (h.rwc b tb hc), fun b tb => ⟨(g b tb.1 3).trans (h.ch b tb).1, (h.ch b tb).2⟩, fun b tb j => (g b tb.1 j).trans (h.le b tb j), fun b tb j => (g b tb.1 j).trans (h.ce b tb j), h.nd, fun b tb hq => ⟨(g b tb.1 2).trans (h.li b tb hq).1, (h.li b tb hq).2⟩, fun b tb hs => ⟨(g b tb.1 2).trans (h.it b tb hs).1, (h.it b tb hs).2⟩, fun b tb hx j => (g b tb.1 j).trans (h.ia b tb hx j)⟩
theorem KP.putiC (h : KP L cl C Q S X N iv rv iv1 rv1) (hX : TX L cl L1 cl1) (he : iv2 = up2 iv1 a 3 z) (ha : ty L1 cl1 a 20) (hc : C a) : KP L cl C Q S X N iv rv iv2 rv1 := by
  subst he
  have g : ∀ b T, ty L cl b T → raw T = false → T ≠ 20 → ∀ j, up2 iv1 a 3 z b j = iv1 b j := fun b T tb hr ht j => up2_ty (hX b T hr tb) ha (Or.inl (Ne.symm ht))
  exact ⟨h.tb, fun b tb => ⟨(up2_ty (hX b _ rfl tb) ha (Or.inr (by decide))).trans (h.rw0 b tb).1, (h.rw0 b tb).2⟩, fun b tb hcb => (up2_k (fun e => hcb (by rw [e]; exact hc))).trans (h.rwc b tb hcb), fun b tb => ⟨(g b _ tb rfl (by decide) 3).trans (h.ch b tb).1, (h.ch b tb).2⟩, fun b tb j => (g b _ tb rfl (by decide) j).trans (h.le b tb j), fun b tb j => (g b _ tb rfl (by decide) j).trans (h.ce b tb j), h.nd, fun b tb hq => ⟨(g b _ tb rfl (by decide) 2).trans (h.li b tb hq).1, (h.li b tb hq).2⟩, fun b tb hs => ⟨(g b _ tb rfl (by decide) 2).trans (h.it b tb hs).1, (h.it b tb hs).2⟩, fun b tb hx j => (g b _ tb rfl (by decide) j).trans (h.ia b tb hx j)⟩
theorem KP.putr (h : KP L cl C Q S X N iv rv iv1 rv1) (hX : TX L cl L1 cl1) (hW : WT g sk L1 cl1 ln1 iv1 rv1) (he : rv2 = upr rv1 a k y) (ha : ty L1 cl1 a T) (hk : okR T k = true) : KP L cl C Q S X N iv rv iv1 rv2 := by
  obtain ⟨a1, a2, a3, a4, a5, a6, a7⟩ := okR_k hk
  subst he
  refine h.trans hX ⟨fun b tb => ⟨upr_ty tb ha (by omega), upr_ty tb ha (by omega), upr_ty tb ha (by omega), upr_ty tb ha (by omega), upr_ty tb ha (by omega)⟩, fun b tb => ⟨rfl, upr_ty tb ha (by omega), upr_ty tb ha (by omega)⟩, fun _ _ _ => rfl, fun b tb => ⟨rfl, upr_ty tb ha (by omega)⟩, fun _ _ _ => rfl, fun _ _ _ => rfl, fun b tb j _ => upr_ty tb ha (Or.inl a4), fun b tb _ => ⟨rfl, fun r hr => el_kp hW tb (upr_ty tb ha (by omega)) (fun c tc _ j => upr_ty tc ha (Or.inl a6)) hr⟩, fun b tb _ => ⟨rfl, upr_ty tb ha (by omega)⟩, fun _ _ _ _ => rfl⟩
theorem KP.putrI (h : KP L cl C Q S X N iv rv iv1 rv1) (hX : TX L cl L1 cl1) (hW : WT g sk L1 cl1 ln1 iv1 rv1) (he : rv2 = upr rv1 a k y) (ha : ty L1 cl1 a 68) (hn : N a k) : KP L cl C Q S X N iv rv iv1 rv2 := by
  subst he
  refine h.trans hX ⟨fun b tb => ⟨upr_ty tb ha (Or.inl (by decide)), upr_ty tb ha (Or.inl (by decide)), upr_ty tb ha (Or.inl (by decide)), upr_ty tb ha (Or.inl (by decide)), upr_ty tb ha (Or.inl (by decide))⟩, fun b tb => ⟨rfl, upr_ty tb ha (Or.inl (by decide)), upr_ty tb ha (Or.inl (by decide))⟩, fun _ _ _ => rfl, fun b tb => ⟨rfl, upr_ty tb ha (Or.inl (by decide))⟩, fun _ _ _ => rfl, fun _ _ _ => rfl, fun b tb j hj => ?_, fun b tb _ => ⟨rfl, fun r hr => el_kp hW tb (upr_ty tb ha (Or.inl (by decide))) (fun c tc _ j => upr_ty tc ha (Or.inl (by decide))) hr⟩, fun b tb _ => ⟨rfl, upr_ty tb ha (Or.inl (by decide))⟩, fun _ _ _ _ => rfl⟩
  by_cases e : b = a
  · subst e
    by_cases e2 : j = k
    · subst e2; exact absurd hn hj
    · exact upr_j e2
  · exact congrFun (upr_a e) j
end KPS
end
section
theorem bt_100 {x : Nat} (h : bt x = 100) : 100 ≤ x ∧ x < 130 := by
  unfold bt at h
  split at h
  · split at h
    · omega
    · split at h <;> omega
  · split at h
    · omega
    · split at h <;> omega
set_option maxHeartbeats 4000000 in
set_option maxRecDepth 100000 in
theorem C_countFind {l : Launch} {G : GT} {mi : Nat} {sk : Nat → Nat} {L : List Nat} {cl ln : Nat → Nat} {iv : Nat → Nat → Int} {rv : Nat → Nat → Option Nat}  {a0 : Nat} {i : Int} (hW : WT (g0 G) sk L cl ln iv rv) (hS : SKL sk L cl) (t_a0 : ty L cl a0 15) (h_i : -2147483648 ≤ i ∧ i ≤ 2147483647)  : Mc l G mi (Phi (g0 G) sk) PHM yX6_countFind cX6_countFind 2 none 0 [.ref a0, .int (iI i)] L cl ln iv rv 0 (fun v L2 cl2 ln2 iv2 rv2 => v = none ∧ L = L2 ∧ cl = cl2 ∧ ln = ln2 ∧ rv = rv2 ∧ fT [55] L cl iv rv iv2 rv2 ∧ WT (g0 G) sk L2 cl2 ln2 iv2 rv2 ∧ (True)) := by
  refine Mc.mk (by decide) (Nat.le_of_ble_eq_true rfl) ?_
  intro p e s m args below meth c A C hM
  refine hv3 (Phi.le hW hS) (show XT L cl ln L cl ln from XT.refl) (show fT [55] L cl iv rv iv rv from fT.refl) (fun hph hX0 hF0 => ?_)
  refine c_iload_n (j := 1) C dX6_countFind_0 rfl ?_
  refine c_if_lt (tgt := 23) C ⟨by omega, by omega⟩ dX6_countFind_1 (by decide) (fun c1 => ?_) (fun c1 => ?_)
  · exact c_vret C dX6_countFind_23 rfl (by decide) (rom0 hph hph (by decide)) ⟨rfl, rfl, rfl, rfl, rfl, hF0, hW, trivial⟩
  · refine c_iload_n (j := 1) C dX6_countFind_4 rfl ?_
    refine c_aload_n (j := 0) (x := a0) C dX6_countFind_5 rfl ?_
    obtain ⟨rb1, rq1, trb1⟩ := hW.ref t_a0 8 rfl rfl rfl
    have lnrb1 : 5 ≤ ln rb1 ∧ ln rb1 ≤ 5 := hW.len trb1 rfl
    refine c_getr (k := 8) C ck_7 dX6_countFind_6 w1_150 (by decide) t_a0 rfl rfl (by decide) rfl rq1 ?_
    refine c_st (st2 := [.ref rb1, .int (iI i)]) rfl ?_
    have ll1 : 5 ≤ ln rb1 ∧ ln rb1 ≤ 5 := hW.len trb1 rfl
    refine c_alenI C dX6_countFind_9 trb1 rfl ?_
    refine c_icmp_ge (tgt := 23) C ⟨by omega, by omega⟩ ⟨by omega, by omega⟩ dX6_countFind_10 (by decide) (fun c2 => ?_) (fun c2 => ?_)
    · exact c_vret C dX6_countFind_23 rfl (by decide) (rom0 hph hph (by decide)) ⟨rfl, rfl, rfl, rfl, rfl, hF0, hW, trivial⟩
    · refine c_aload_n (j := 0) (x := a0) C dX6_countFind_13 rfl ?_
      refine c_getr (k := 8) C ck_7 dX6_countFind_14 w1_150 (by decide) t_a0 rfl rfl (by decide) rfl rq1 ?_
      refine c_st (st2 := [.ref rb1]) rfl ?_
      refine c_iload_n (j := 1) C dX6_countFind_17 rfl ?_
      refine c_dup2 C dX6_countFind_18 rfl rfl ?_
      refine c_iald C dX6_countFind_19 trb1 rfl (by omega) (by omega) (by omega) ?_
      have ri1 : (-2147483648) ≤ iv rb1 i.toNat ∧ iv rb1 i.toNat ≤ 2147483647 := hW.int trb1 i.toNat
      refine c_iconst C dX6_countFind_20 ?_
      refine c_iadd C dX6_countFind_21 ?_
      obtain ⟨zz1, hzz1, ezz1⟩ := iI_of (iI ((iv rb1 i.toNat) + 1))
      refine c_st (st2 := [.int (iI zz1), .int (iI i), .ref rb1]) (by rw [ezz1]) ?_
      refine c_iast (x := zz1) C dX6_countFind_22 trb1 rfl (by omega) (by omega) (by omega) (fun iv1 pq1 => ?_)
      refine hv2 (hW.puti pq1 trb1 (show (-2147483648) ≤ zz1 ∧ zz1 ≤ 2147483647 by omega) rfl) (hF0.puti hX0 pq1 trb1 rfl) (fun W1 F1 => ?_)
      exact c_vret C dX6_countFind_23 rfl (by decide) (rom0 hph hph (by decide)) ⟨rfl, rfl, rfl, rfl, rfl, F1, W1, trivial⟩
set_option maxHeartbeats 4000000 in
set_option maxRecDepth 100000 in
theorem C_fits {l : Launch} {G : GT} {mi : Nat} {sk : Nat → Nat} {L : List Nat} {cl ln : Nat → Nat} {iv : Nat → Nat → Int} {rv : Nat → Nat → Option Nat}  {a0 : Nat} {a1 : Nat} {i : Int} (hW : WT (g0 G) sk L cl ln iv rv) (hS : SKL sk L cl) (t_a0 : ty L cl a0 15) (t_a1 : ty L cl a1 20) (h_i : -2147483648 ≤ i ∧ i ≤ 2147483647) (hi : 0 ≤ i ∧ i ≤ 500) : Mc l G mi (Phi (g0 G) sk) PHM yX6_fits cX6_fits 6 (some .boolean) 1 [.ref a0, .ref a1, .int (iI i)] L cl ln iv rv 0 (fun v L2 cl2 ln2 iv2 rv2 => ∃ f : Int, v = some (.int (iI f)) ∧ L = L2 ∧ cl = cl2 ∧ ln = ln2 ∧ iv = iv2 ∧ rv = rv2 ∧ (f = 0 ∨ f = 1) ∧ (True)) := by
  refine Mc.mk (by decide) (Nat.le_of_ble_eq_true rfl) ?_
  intro p e s m args below meth c A C hM
  refine hv3 (Phi.le hW hS) (show XT L cl ln L cl ln from XT.refl) (show fT [] L cl iv rv iv rv from fT.refl) (fun hph hX0 hF0 => ?_)
  refine c_iload_n (j := 2) C dX6_fits_0 rfl ?_
  refine c_aload_n (j := 1) (x := a1) C dX6_fits_1 rfl ?_
  obtain ⟨rb1, rq1, trb1⟩ := hW.ref t_a1 1 rfl rfl rfl
  have lnrb1 : 0 ≤ ln rb1 ∧ ln rb1 ≤ 8 := hW.len trb1 rfl
  refine c_getr (k := 1) C ck_6 dX6_fits_2 w3_141 (by decide) t_a1 rfl rfl (by decide) rfl rq1 ?_
  refine c_st (st2 := [.ref rb1, .int (iI i)]) rfl ?_
  have ll1 : 0 ≤ ln rb1 ∧ ln rb1 ≤ 8 := hW.len trb1 rfl
  refine c_alenI C dX6_fits_5 trb1 rfl ?_
  refine c_iadd C dX6_fits_6 ?_
  refine c_istore_n (lv2 := [(3, .int (iI (i + ((ln rb1 : Nat) : Int)))), (0, .ref a0), (1, .ref a1), (2, .int (iI i))]) C dX6_fits_7 (by decide) rfl ?_
  refine c_iload_n (j := 0) C dX6_fits_8 rfl ?_
  refine c_aload_n (j := 1) (x := a0) C dX6_fits_9 rfl ?_
  have ri1 : 0 ≤ iv a0 11 ∧ iv a0 11 ≤ 500 := hW.int t_a0 11
  refine c_get (k := 11) C ck_7 dX6_fits_10 w1_153 (by decide) t_a0 rfl rfl (by decide) rfl ?_
  refine c_icmp_le (tgt := 18) C ⟨by omega, by omega⟩ (r32_c (lo := 0) (hi := 500) ri1.1 ri1.2 (by decide) (by decide)) dX6_fits_13 (by decide) (fun c1 => ?_) (fun c1 => ?_)
  · refine c_iconst C dX6_fits_18 ?_
    refine c_istore (lv2 := [(4, .int (iI 1)), (3, .int (iI (i + ((ln rb1 : Nat) : Int)))), (0, .ref a0), (1, .ref a1), (2, .int (iI i))]) C dX6_fits_19 (by decide) rfl ?_
    have Lp1 : ∀ (nn : Nat) (k : Int) , 10 - k < (nn : Int) → (1 ≤ k ∧ k ≤ 9) → cw p l e 1 ((PHM) + 0 - ((Phi (g0 G) sk) ln rv)) s m args below meth c G A 6 (MQ below (Qu G A (Qp G (Phi (g0 G) sk) ((Phi (g0 G) sk) ln rv) 0 (fun v L2 cl2 ln2 iv2 rv2 => ∃ f : Int, v = some (.int (iI f)) ∧ L = L2 ∧ cl = cl2 ∧ ln = ln2 ∧ iv = iv2 ∧ rv = rv2 ∧ (f = 0 ∨ f = 1) ∧ (True)))) args s (((PHM) + 0 - ((Phi (g0 G) sk) ln rv)) / 16) ((PHM) + 0 - ((Phi (g0 G) sk) ln rv)) A) (Phi (g0 G) sk) ((Phi (g0 G) sk) ln rv) L cl ln iv rv 0 21 [(4, .int (iI k)), (3, .int (iI (i + ((ln rb1 : Nat) : Int)))), (0, .ref a0), (1, .ref a1), (2, .int (iI i))] [] := by
      intro nn
      induction nn with
      | zero =>
        intro  k  hm   hk
        exact absurd hm (by omega)
      | succ nn ih1 =>
        intro  k  hm   hk
        refine c_iload (j := 0) C dX6_fits_21 rfl ?_
        refine c_aload_n (j := 3) (x := a1) C dX6_fits_23 rfl ?_
        refine c_getr (k := 1) C ck_6 dX6_fits_24 w3_141 (by decide) t_a1 rfl rfl (by decide) rfl rq1 ?_
        refine c_st (st2 := [.ref rb1, .int (iI k)]) rfl ?_
        refine c_alenI C dX6_fits_27 trb1 rfl ?_
        refine c_icmp_ge (tgt := 58) C (r32_c (lo := 1) (hi := 9) hk.1 hk.2 (by decide) (by decide)) ⟨by omega, by omega⟩ dX6_fits_28 (by decide) (fun c2 => ?_) (fun c2 => ?_)
        · refine c_iload_n (j := 4) C dX6_fits_58 rfl ?_
          refine c_aload_n (j := 2) (x := a0) C dX6_fits_59 rfl ?_
          have ri2 : 0 ≤ iv a0 10 ∧ iv a0 10 ≤ 500 := hW.int t_a0 10
          refine c_get (k := 10) C ck_7 dX6_fits_60 w1_152 (by decide) t_a0 rfl rfl (by decide) rfl ?_
          refine c_icmp_ne (tgt := 70) C ⟨by omega, by omega⟩ (r32_c (lo := 0) (hi := 500) ri2.1 ri2.2 (by decide) (by decide)) dX6_fits_63 (by decide) (fun c3 => ?_) (fun c3 => ?_)
          · refine c_iconst C dX6_fits_70 ?_
            refine c_istore (lv2 := [(4, .int (iI 0)), (3, .int (iI (i + ((ln rb1 : Nat) : Int)))), (0, .ref a0), (1, .ref a1), (2, .int (iI i))]) C dX6_fits_71 (by decide) rfl ?_
            refine c_iload_n (j := 1) C dX6_fits_73 rfl ?_
            refine c_aload_n (j := 2) (x := a0) C dX6_fits_74 rfl ?_
            refine c_get (k := 11) C ck_7 dX6_fits_75 w1_153 (by decide) t_a0 rfl rfl (by decide) rfl ?_
            refine c_icmp_ne (tgt := 85) C ⟨by omega, by omega⟩ (r32_c (lo := 0) (hi := 500) ri1.1 ri1.2 (by decide) (by decide)) dX6_fits_78 (by decide) (fun c4 => ?_) (fun c4 => ?_)
            · refine c_iconst C dX6_fits_85 ?_
              refine c_istore (lv2 := [(5, .int (iI 0)), (4, .int (iI 0)), (3, .int (iI (i + ((ln rb1 : Nat) : Int)))), (0, .ref a0), (1, .ref a1), (2, .int (iI i))]) C dX6_fits_86 (by decide) rfl ?_
              refine c_aload_n (j := 4) (x := a1) C dX6_fits_88 rfl ?_
              have ri3 : 0 ≤ iv a1 3 ∧ iv a1 3 ≤ 5 := hW.int t_a1 3
              refine c_get (k := 3) C ck_6 dX6_fits_89 w3_150 (by decide) t_a1 rfl rfl (by decide) rfl ?_
              rcases (show (iv a1 3) = 1 ∨ (iv a1 3) = 2 ∨ (iv a1 3) = 3 ∨ (iv a1 3) = 4 ∨ (iv a1 3) = 5 ∨ ((iv a1 3) < 1 ∨ 5 < (iv a1 3)) by omega) with sw1 | sw1 | sw1 | sw1 | sw1 | sw1
              · refine c_tabIn (tgt := 128) (off := 36) C (r32_c (lo := 0) (hi := 5) ri3.1 ri3.2 (by decide) (by decide)) dX6_fits_92 (by omega) (by omega) (by rw [sw1]; rfl) (by decide) ?_
                refine c_iload (j := 1) C dX6_fits_128 rfl ?_
                exact c_zret C dX6_fits_130 rfl (Or.inl rfl) (by decide) (rom0 hph hph (by decide)) ⟨0, rfl, rfl, rfl, rfl, rfl, rfl, (Or.inl rfl), trivial⟩
              · refine c_tabIn (tgt := 131) (off := 39) C (r32_c (lo := 0) (hi := 5) ri3.1 ri3.2 (by decide) (by decide)) dX6_fits_92 (by omega) (by omega) (by rw [sw1]; rfl) (by decide) ?_
                refine c_iload (j := 1) C dX6_fits_131 rfl ?_
                refine c_if_ne (tgt := 145) C ⟨by decide, by decide⟩ dX6_fits_133 (by decide) (fun z => absurd z (by omega)) (fun _ => ?_)
                refine c_iload (j := 0) C dX6_fits_136 rfl ?_
                refine c_if_ne (tgt := 145) C ⟨by decide, by decide⟩ dX6_fits_138 (by decide) (fun z => absurd z (by omega)) (fun _ => ?_)
                refine c_iconst C dX6_fits_141 ?_
                refine c_goto (tgt := 146) C dX6_fits_142 (by decide) ?_
                exact c_zret C dX6_fits_146 rfl (Or.inr rfl) (by decide) (rom0 hph hph (by decide)) ⟨1, rfl, rfl, rfl, rfl, rfl, rfl, (Or.inr rfl), trivial⟩
              · refine c_tabIn (tgt := 147) (off := 55) C (r32_c (lo := 0) (hi := 5) ri3.1 ri3.2 (by decide) (by decide)) dX6_fits_92 (by omega) (by omega) (by rw [sw1]; rfl) (by decide) ?_
                refine c_iload (j := 0) C dX6_fits_147 rfl ?_
                exact c_zret C dX6_fits_149 rfl (Or.inl rfl) (by decide) (rom0 hph hph (by decide)) ⟨0, rfl, rfl, rfl, rfl, rfl, rfl, (Or.inl rfl), trivial⟩
              · refine c_tabIn (tgt := 150) (off := 58) C (r32_c (lo := 0) (hi := 5) ri3.1 ri3.2 (by decide) (by decide)) dX6_fits_92 (by omega) (by omega) (by rw [sw1]; rfl) (by decide) ?_
                refine c_iload (j := 1) C dX6_fits_150 rfl ?_
                refine c_if_eq (tgt := 164) C ⟨by decide, by decide⟩ dX6_fits_152 (by decide) (fun _ => ?_) (fun z => absurd z (by omega))
                refine c_iconst C dX6_fits_164 ?_
                exact c_zret C dX6_fits_165 rfl (Or.inl rfl) (by decide) (rom0 hph hph (by decide)) ⟨0, rfl, rfl, rfl, rfl, rfl, rfl, (Or.inl rfl), trivial⟩
              · refine c_tabIn (tgt := 166) (off := 74) C (r32_c (lo := 0) (hi := 5) ri3.1 ri3.2 (by decide) (by decide)) dX6_fits_92 (by omega) (by omega) (by rw [sw1]; rfl) (by decide) ?_
                refine c_iload (j := 0) C dX6_fits_166 rfl ?_
                refine c_if_ne (tgt := 187) C ⟨by decide, by decide⟩ dX6_fits_168 (by decide) (fun z => absurd z (by omega)) (fun _ => ?_)
                refine c_aload_n (j := 3) (x := a0) C dX6_fits_171 rfl ?_
                obtain ⟨rb2, rq2, trb2⟩ := hW.ref t_a0 0 rfl rfl rfl
                have lnrb2 : 500 ≤ ln rb2 ∧ ln rb2 ≤ 500 := hW.len trb2 rfl
                refine c_getr (k := 0) C ck_7 dX6_fits_172 w1_136 (by decide) t_a0 rfl rfl (by decide) rfl rq2 ?_
                refine c_st (st2 := [.ref rb2]) rfl ?_
                refine c_iload_n (j := 2) C dX6_fits_175 rfl ?_
                have ll2 : 500 ≤ ln rb2 ∧ ln rb2 ≤ 500 := hW.len trb2 rfl
                refine c_iald C dX6_fits_176 trb2 rfl (by omega) (by omega) (by omega) ?_
                have ri4 : (-2147483648) ≤ iv rb2 ((i + ((ln rb1 : Nat) : Int)).toNat) ∧ iv rb2 ((i + ((ln rb1 : Nat) : Int)).toNat) ≤ 2147483647 := hW.int trb2 ((i + ((ln rb1 : Nat) : Int)).toNat)
                refine c_callS0 (As := [.int (iI (iv rb2 (i + ((ln rb1 : Nat) : Int)).toNat))]) (rest := []) C (fun L E => s6_isSign (iI (iv rb2 (i + ((ln rb1 : Nat) : Int)).toNat))) dX6_fits_177 kS_X6_156 rfl rfl (Nat.le_of_ble_eq_true rfl) ⟨(Nat.le_of_ble_eq_true rfl), (Nat.le_of_ble_eq_true rfl)⟩ (rom0 hph hph (by decide)) ?_
                obtain ⟨sg1, hsg1, esg1⟩ := sgn_c (iI (iv rb2 (i + ((ln rb1 : Nat) : Int)).toNat))
                refine c_st (st2 := [.int (iI sg1)]) (by rw [esg1]) ?_
                refine c_if_eq (tgt := 187) C ⟨by omega, by omega⟩ dX6_fits_180 (by decide) (fun c5 => ?_) (fun c5 => ?_)
                · refine c_iconst C dX6_fits_187 ?_
                  exact c_zret C dX6_fits_188 rfl (Or.inl rfl) (by decide) (rom0 hph hph (by decide)) ⟨0, rfl, rfl, rfl, rfl, rfl, rfl, (Or.inl rfl), trivial⟩
                · refine c_iconst C dX6_fits_183 ?_
                  refine c_goto (tgt := 188) C dX6_fits_184 (by decide) ?_
                  exact c_zret C dX6_fits_188 rfl (Or.inr rfl) (by decide) (rom0 hph hph (by decide)) ⟨1, rfl, rfl, rfl, rfl, rfl, rfl, (Or.inr rfl), trivial⟩
              · refine c_tabOut (tgt := 189) C (r32_c (lo := 0) (hi := 5) ri3.1 ri3.2 (by decide) (by decide)) dX6_fits_92 sw1 (by decide) ?_
                refine c_iconst C dX6_fits_189 ?_
                exact c_zret C dX6_fits_190 rfl (Or.inr rfl) (by decide) (rom0 hph hph (by decide)) ⟨1, rfl, rfl, rfl, rfl, rfl, rfl, (Or.inr rfl), trivial⟩
            · refine c_iconst C dX6_fits_81 ?_
              refine c_goto (tgt := 86) C dX6_fits_82 (by decide) ?_
              refine c_istore (lv2 := [(5, .int (iI 1)), (4, .int (iI 0)), (3, .int (iI (i + ((ln rb1 : Nat) : Int)))), (0, .ref a0), (1, .ref a1), (2, .int (iI i))]) C dX6_fits_86 (by decide) rfl ?_
              refine c_aload_n (j := 4) (x := a1) C dX6_fits_88 rfl ?_
              have ri5 : 0 ≤ iv a1 3 ∧ iv a1 3 ≤ 5 := hW.int t_a1 3
              refine c_get (k := 3) C ck_6 dX6_fits_89 w3_150 (by decide) t_a1 rfl rfl (by decide) rfl ?_
              rcases (show (iv a1 3) = 1 ∨ (iv a1 3) = 2 ∨ (iv a1 3) = 3 ∨ (iv a1 3) = 4 ∨ (iv a1 3) = 5 ∨ ((iv a1 3) < 1 ∨ 5 < (iv a1 3)) by omega) with sw2 | sw2 | sw2 | sw2 | sw2 | sw2
              · refine c_tabIn (tgt := 128) (off := 36) C (r32_c (lo := 0) (hi := 5) ri5.1 ri5.2 (by decide) (by decide)) dX6_fits_92 (by omega) (by omega) (by rw [sw2]; rfl) (by decide) ?_
                refine c_iload (j := 1) C dX6_fits_128 rfl ?_
                exact c_zret C dX6_fits_130 rfl (Or.inl rfl) (by decide) (rom0 hph hph (by decide)) ⟨0, rfl, rfl, rfl, rfl, rfl, rfl, (Or.inl rfl), trivial⟩
              · refine c_tabIn (tgt := 131) (off := 39) C (r32_c (lo := 0) (hi := 5) ri5.1 ri5.2 (by decide) (by decide)) dX6_fits_92 (by omega) (by omega) (by rw [sw2]; rfl) (by decide) ?_
                refine c_iload (j := 1) C dX6_fits_131 rfl ?_
                refine c_if_ne (tgt := 145) C ⟨by decide, by decide⟩ dX6_fits_133 (by decide) (fun z => absurd z (by omega)) (fun _ => ?_)
                refine c_iload (j := 0) C dX6_fits_136 rfl ?_
                refine c_if_ne (tgt := 145) C ⟨by decide, by decide⟩ dX6_fits_138 (by decide) (fun _ => ?_) (fun z => absurd z (by omega))
                refine c_iconst C dX6_fits_145 ?_
                exact c_zret C dX6_fits_146 rfl (Or.inl rfl) (by decide) (rom0 hph hph (by decide)) ⟨0, rfl, rfl, rfl, rfl, rfl, rfl, (Or.inl rfl), trivial⟩
              · refine c_tabIn (tgt := 147) (off := 55) C (r32_c (lo := 0) (hi := 5) ri5.1 ri5.2 (by decide) (by decide)) dX6_fits_92 (by omega) (by omega) (by rw [sw2]; rfl) (by decide) ?_
                refine c_iload (j := 0) C dX6_fits_147 rfl ?_
                exact c_zret C dX6_fits_149 rfl (Or.inr rfl) (by decide) (rom0 hph hph (by decide)) ⟨1, rfl, rfl, rfl, rfl, rfl, rfl, (Or.inr rfl), trivial⟩
              · refine c_tabIn (tgt := 150) (off := 58) C (r32_c (lo := 0) (hi := 5) ri5.1 ri5.2 (by decide) (by decide)) dX6_fits_92 (by omega) (by omega) (by rw [sw2]; rfl) (by decide) ?_
                refine c_iload (j := 1) C dX6_fits_150 rfl ?_
                refine c_if_eq (tgt := 164) C ⟨by decide, by decide⟩ dX6_fits_152 (by decide) (fun _ => ?_) (fun z => absurd z (by omega))
                refine c_iconst C dX6_fits_164 ?_
                exact c_zret C dX6_fits_165 rfl (Or.inl rfl) (by decide) (rom0 hph hph (by decide)) ⟨0, rfl, rfl, rfl, rfl, rfl, rfl, (Or.inl rfl), trivial⟩
              · refine c_tabIn (tgt := 166) (off := 74) C (r32_c (lo := 0) (hi := 5) ri5.1 ri5.2 (by decide) (by decide)) dX6_fits_92 (by omega) (by omega) (by rw [sw2]; rfl) (by decide) ?_
                refine c_iload (j := 0) C dX6_fits_166 rfl ?_
                refine c_if_ne (tgt := 187) C ⟨by decide, by decide⟩ dX6_fits_168 (by decide) (fun _ => ?_) (fun z => absurd z (by omega))
                refine c_iconst C dX6_fits_187 ?_
                exact c_zret C dX6_fits_188 rfl (Or.inl rfl) (by decide) (rom0 hph hph (by decide)) ⟨0, rfl, rfl, rfl, rfl, rfl, rfl, (Or.inl rfl), trivial⟩
              · refine c_tabOut (tgt := 189) C (r32_c (lo := 0) (hi := 5) ri5.1 ri5.2 (by decide) (by decide)) dX6_fits_92 sw2 (by decide) ?_
                refine c_iconst C dX6_fits_189 ?_
                exact c_zret C dX6_fits_190 rfl (Or.inr rfl) (by decide) (rom0 hph hph (by decide)) ⟨1, rfl, rfl, rfl, rfl, rfl, rfl, (Or.inr rfl), trivial⟩
          · refine c_iconst C dX6_fits_66 ?_
            refine c_goto (tgt := 71) C dX6_fits_67 (by decide) ?_
            refine c_istore (lv2 := [(4, .int (iI 1)), (3, .int (iI (i + ((ln rb1 : Nat) : Int)))), (0, .ref a0), (1, .ref a1), (2, .int (iI i))]) C dX6_fits_71 (by decide) rfl ?_
            refine c_iload_n (j := 1) C dX6_fits_73 rfl ?_
            refine c_aload_n (j := 2) (x := a0) C dX6_fits_74 rfl ?_
            refine c_get (k := 11) C ck_7 dX6_fits_75 w1_153 (by decide) t_a0 rfl rfl (by decide) rfl ?_
            refine c_icmp_ne (tgt := 85) C ⟨by omega, by omega⟩ (r32_c (lo := 0) (hi := 500) ri1.1 ri1.2 (by decide) (by decide)) dX6_fits_78 (by decide) (fun c6 => ?_) (fun c6 => ?_)
            · refine c_iconst C dX6_fits_85 ?_
              refine c_istore (lv2 := [(5, .int (iI 0)), (4, .int (iI 1)), (3, .int (iI (i + ((ln rb1 : Nat) : Int)))), (0, .ref a0), (1, .ref a1), (2, .int (iI i))]) C dX6_fits_86 (by decide) rfl ?_
              refine c_aload_n (j := 4) (x := a1) C dX6_fits_88 rfl ?_
              have ri6 : 0 ≤ iv a1 3 ∧ iv a1 3 ≤ 5 := hW.int t_a1 3
              refine c_get (k := 3) C ck_6 dX6_fits_89 w3_150 (by decide) t_a1 rfl rfl (by decide) rfl ?_
              rcases (show (iv a1 3) = 1 ∨ (iv a1 3) = 2 ∨ (iv a1 3) = 3 ∨ (iv a1 3) = 4 ∨ (iv a1 3) = 5 ∨ ((iv a1 3) < 1 ∨ 5 < (iv a1 3)) by omega) with sw3 | sw3 | sw3 | sw3 | sw3 | sw3
              · refine c_tabIn (tgt := 128) (off := 36) C (r32_c (lo := 0) (hi := 5) ri6.1 ri6.2 (by decide) (by decide)) dX6_fits_92 (by omega) (by omega) (by rw [sw3]; rfl) (by decide) ?_
                refine c_iload (j := 1) C dX6_fits_128 rfl ?_
                exact c_zret C dX6_fits_130 rfl (Or.inr rfl) (by decide) (rom0 hph hph (by decide)) ⟨1, rfl, rfl, rfl, rfl, rfl, rfl, (Or.inr rfl), trivial⟩
              · refine c_tabIn (tgt := 131) (off := 39) C (r32_c (lo := 0) (hi := 5) ri6.1 ri6.2 (by decide) (by decide)) dX6_fits_92 (by omega) (by omega) (by rw [sw3]; rfl) (by decide) ?_
                refine c_iload (j := 1) C dX6_fits_131 rfl ?_
                refine c_if_ne (tgt := 145) C ⟨by decide, by decide⟩ dX6_fits_133 (by decide) (fun _ => ?_) (fun z => absurd z (by omega))
                refine c_iconst C dX6_fits_145 ?_
                exact c_zret C dX6_fits_146 rfl (Or.inl rfl) (by decide) (rom0 hph hph (by decide)) ⟨0, rfl, rfl, rfl, rfl, rfl, rfl, (Or.inl rfl), trivial⟩
              · refine c_tabIn (tgt := 147) (off := 55) C (r32_c (lo := 0) (hi := 5) ri6.1 ri6.2 (by decide) (by decide)) dX6_fits_92 (by omega) (by omega) (by rw [sw3]; rfl) (by decide) ?_
                refine c_iload (j := 0) C dX6_fits_147 rfl ?_
                exact c_zret C dX6_fits_149 rfl (Or.inl rfl) (by decide) (rom0 hph hph (by decide)) ⟨0, rfl, rfl, rfl, rfl, rfl, rfl, (Or.inl rfl), trivial⟩
              · refine c_tabIn (tgt := 150) (off := 58) C (r32_c (lo := 0) (hi := 5) ri6.1 ri6.2 (by decide) (by decide)) dX6_fits_92 (by omega) (by omega) (by rw [sw3]; rfl) (by decide) ?_
                refine c_iload (j := 1) C dX6_fits_150 rfl ?_
                refine c_if_eq (tgt := 164) C ⟨by decide, by decide⟩ dX6_fits_152 (by decide) (fun z => absurd z (by omega)) (fun _ => ?_)
                refine c_iload (j := 0) C dX6_fits_155 rfl ?_
                refine c_if_eq (tgt := 164) C ⟨by decide, by decide⟩ dX6_fits_157 (by decide) (fun _ => ?_) (fun z => absurd z (by omega))
                refine c_iconst C dX6_fits_164 ?_
                exact c_zret C dX6_fits_165 rfl (Or.inl rfl) (by decide) (rom0 hph hph (by decide)) ⟨0, rfl, rfl, rfl, rfl, rfl, rfl, (Or.inl rfl), trivial⟩
              · refine c_tabIn (tgt := 166) (off := 74) C (r32_c (lo := 0) (hi := 5) ri6.1 ri6.2 (by decide) (by decide)) dX6_fits_92 (by omega) (by omega) (by rw [sw3]; rfl) (by decide) ?_
                refine c_iload (j := 0) C dX6_fits_166 rfl ?_
                refine c_if_ne (tgt := 187) C ⟨by decide, by decide⟩ dX6_fits_168 (by decide) (fun z => absurd z (by omega)) (fun _ => ?_)
                refine c_aload_n (j := 3) (x := a0) C dX6_fits_171 rfl ?_
                obtain ⟨rb3, rq3, trb3⟩ := hW.ref t_a0 0 rfl rfl rfl
                have lnrb3 : 500 ≤ ln rb3 ∧ ln rb3 ≤ 500 := hW.len trb3 rfl
                refine c_getr (k := 0) C ck_7 dX6_fits_172 w1_136 (by decide) t_a0 rfl rfl (by decide) rfl rq3 ?_
                refine c_st (st2 := [.ref rb3]) rfl ?_
                refine c_iload_n (j := 2) C dX6_fits_175 rfl ?_
                have ll3 : 500 ≤ ln rb3 ∧ ln rb3 ≤ 500 := hW.len trb3 rfl
                refine c_iald C dX6_fits_176 trb3 rfl (by omega) (by omega) (by omega) ?_
                have ri7 : (-2147483648) ≤ iv rb3 ((i + ((ln rb1 : Nat) : Int)).toNat) ∧ iv rb3 ((i + ((ln rb1 : Nat) : Int)).toNat) ≤ 2147483647 := hW.int trb3 ((i + ((ln rb1 : Nat) : Int)).toNat)
                refine c_callS0 (As := [.int (iI (iv rb3 (i + ((ln rb1 : Nat) : Int)).toNat))]) (rest := []) C (fun L E => s6_isSign (iI (iv rb3 (i + ((ln rb1 : Nat) : Int)).toNat))) dX6_fits_177 kS_X6_156 rfl rfl (Nat.le_of_ble_eq_true rfl) ⟨(Nat.le_of_ble_eq_true rfl), (Nat.le_of_ble_eq_true rfl)⟩ (rom0 hph hph (by decide)) ?_
                obtain ⟨sg2, hsg2, esg2⟩ := sgn_c (iI (iv rb3 (i + ((ln rb1 : Nat) : Int)).toNat))
                refine c_st (st2 := [.int (iI sg2)]) (by rw [esg2]) ?_
                refine c_if_eq (tgt := 187) C ⟨by omega, by omega⟩ dX6_fits_180 (by decide) (fun c7 => ?_) (fun c7 => ?_)
                · refine c_iconst C dX6_fits_187 ?_
                  exact c_zret C dX6_fits_188 rfl (Or.inl rfl) (by decide) (rom0 hph hph (by decide)) ⟨0, rfl, rfl, rfl, rfl, rfl, rfl, (Or.inl rfl), trivial⟩
                · refine c_iconst C dX6_fits_183 ?_
                  refine c_goto (tgt := 188) C dX6_fits_184 (by decide) ?_
                  exact c_zret C dX6_fits_188 rfl (Or.inr rfl) (by decide) (rom0 hph hph (by decide)) ⟨1, rfl, rfl, rfl, rfl, rfl, rfl, (Or.inr rfl), trivial⟩
              · refine c_tabOut (tgt := 189) C (r32_c (lo := 0) (hi := 5) ri6.1 ri6.2 (by decide) (by decide)) dX6_fits_92 sw3 (by decide) ?_
                refine c_iconst C dX6_fits_189 ?_
                exact c_zret C dX6_fits_190 rfl (Or.inr rfl) (by decide) (rom0 hph hph (by decide)) ⟨1, rfl, rfl, rfl, rfl, rfl, rfl, (Or.inr rfl), trivial⟩
            · refine c_iconst C dX6_fits_81 ?_
              refine c_goto (tgt := 86) C dX6_fits_82 (by decide) ?_
              refine c_istore (lv2 := [(5, .int (iI 1)), (4, .int (iI 1)), (3, .int (iI (i + ((ln rb1 : Nat) : Int)))), (0, .ref a0), (1, .ref a1), (2, .int (iI i))]) C dX6_fits_86 (by decide) rfl ?_
              refine c_aload_n (j := 4) (x := a1) C dX6_fits_88 rfl ?_
              have ri8 : 0 ≤ iv a1 3 ∧ iv a1 3 ≤ 5 := hW.int t_a1 3
              refine c_get (k := 3) C ck_6 dX6_fits_89 w3_150 (by decide) t_a1 rfl rfl (by decide) rfl ?_
              rcases (show (iv a1 3) = 1 ∨ (iv a1 3) = 2 ∨ (iv a1 3) = 3 ∨ (iv a1 3) = 4 ∨ (iv a1 3) = 5 ∨ ((iv a1 3) < 1 ∨ 5 < (iv a1 3)) by omega) with sw4 | sw4 | sw4 | sw4 | sw4 | sw4
              · refine c_tabIn (tgt := 128) (off := 36) C (r32_c (lo := 0) (hi := 5) ri8.1 ri8.2 (by decide) (by decide)) dX6_fits_92 (by omega) (by omega) (by rw [sw4]; rfl) (by decide) ?_
                refine c_iload (j := 1) C dX6_fits_128 rfl ?_
                exact c_zret C dX6_fits_130 rfl (Or.inr rfl) (by decide) (rom0 hph hph (by decide)) ⟨1, rfl, rfl, rfl, rfl, rfl, rfl, (Or.inr rfl), trivial⟩
              · refine c_tabIn (tgt := 131) (off := 39) C (r32_c (lo := 0) (hi := 5) ri8.1 ri8.2 (by decide) (by decide)) dX6_fits_92 (by omega) (by omega) (by rw [sw4]; rfl) (by decide) ?_
                refine c_iload (j := 1) C dX6_fits_131 rfl ?_
                refine c_if_ne (tgt := 145) C ⟨by decide, by decide⟩ dX6_fits_133 (by decide) (fun _ => ?_) (fun z => absurd z (by omega))
                refine c_iconst C dX6_fits_145 ?_
                exact c_zret C dX6_fits_146 rfl (Or.inl rfl) (by decide) (rom0 hph hph (by decide)) ⟨0, rfl, rfl, rfl, rfl, rfl, rfl, (Or.inl rfl), trivial⟩
              · refine c_tabIn (tgt := 147) (off := 55) C (r32_c (lo := 0) (hi := 5) ri8.1 ri8.2 (by decide) (by decide)) dX6_fits_92 (by omega) (by omega) (by rw [sw4]; rfl) (by decide) ?_
                refine c_iload (j := 0) C dX6_fits_147 rfl ?_
                exact c_zret C dX6_fits_149 rfl (Or.inr rfl) (by decide) (rom0 hph hph (by decide)) ⟨1, rfl, rfl, rfl, rfl, rfl, rfl, (Or.inr rfl), trivial⟩
              · refine c_tabIn (tgt := 150) (off := 58) C (r32_c (lo := 0) (hi := 5) ri8.1 ri8.2 (by decide) (by decide)) dX6_fits_92 (by omega) (by omega) (by rw [sw4]; rfl) (by decide) ?_
                refine c_iload (j := 1) C dX6_fits_150 rfl ?_
                refine c_if_eq (tgt := 164) C ⟨by decide, by decide⟩ dX6_fits_152 (by decide) (fun z => absurd z (by omega)) (fun _ => ?_)
                refine c_iload (j := 0) C dX6_fits_155 rfl ?_
                refine c_if_eq (tgt := 164) C ⟨by decide, by decide⟩ dX6_fits_157 (by decide) (fun z => absurd z (by omega)) (fun _ => ?_)
                refine c_iconst C dX6_fits_160 ?_
                refine c_goto (tgt := 165) C dX6_fits_161 (by decide) ?_
                exact c_zret C dX6_fits_165 rfl (Or.inr rfl) (by decide) (rom0 hph hph (by decide)) ⟨1, rfl, rfl, rfl, rfl, rfl, rfl, (Or.inr rfl), trivial⟩
              · refine c_tabIn (tgt := 166) (off := 74) C (r32_c (lo := 0) (hi := 5) ri8.1 ri8.2 (by decide) (by decide)) dX6_fits_92 (by omega) (by omega) (by rw [sw4]; rfl) (by decide) ?_
                refine c_iload (j := 0) C dX6_fits_166 rfl ?_
                refine c_if_ne (tgt := 187) C ⟨by decide, by decide⟩ dX6_fits_168 (by decide) (fun _ => ?_) (fun z => absurd z (by omega))
                refine c_iconst C dX6_fits_187 ?_
                exact c_zret C dX6_fits_188 rfl (Or.inl rfl) (by decide) (rom0 hph hph (by decide)) ⟨0, rfl, rfl, rfl, rfl, rfl, rfl, (Or.inl rfl), trivial⟩
              · refine c_tabOut (tgt := 189) C (r32_c (lo := 0) (hi := 5) ri8.1 ri8.2 (by decide) (by decide)) dX6_fits_92 sw4 (by decide) ?_
                refine c_iconst C dX6_fits_189 ?_
                exact c_zret C dX6_fits_190 rfl (Or.inr rfl) (by decide) (rom0 hph hph (by decide)) ⟨1, rfl, rfl, rfl, rfl, rfl, rfl, (Or.inr rfl), trivial⟩
        · refine c_aload_n (j := 3) (x := a1) C dX6_fits_31 rfl ?_
          refine c_getr (k := 1) C ck_6 dX6_fits_32 w3_141 (by decide) t_a1 rfl rfl (by decide) rfl rq1 ?_
          refine c_st (st2 := [.ref rb1]) rfl ?_
          refine c_iload (j := 0) C dX6_fits_35 rfl ?_
          refine c_iald C dX6_fits_37 trb1 rfl (by omega) (by omega) (by omega) ?_
          have ri9 : (-2147483648) ≤ iv rb1 k.toNat ∧ iv rb1 k.toNat ≤ 2147483647 := hW.int trb1 k.toNat
          refine c_aload_n (j := 2) (x := a0) C dX6_fits_38 rfl ?_
          obtain ⟨rb4, rq4, trb4⟩ := hW.ref t_a0 0 rfl rfl rfl
          have lnrb4 : 500 ≤ ln rb4 ∧ ln rb4 ≤ 500 := hW.len trb4 rfl
          refine c_getr (k := 0) C ck_7 dX6_fits_39 w1_136 (by decide) t_a0 rfl rfl (by decide) rfl rq4 ?_
          refine c_st (st2 := [.ref rb4, .int (iI (iv rb1 k.toNat))]) rfl ?_
          refine c_iload_n (j := 4) C dX6_fits_42 rfl ?_
          refine c_iload (j := 0) C dX6_fits_43 rfl ?_
          refine c_iadd C dX6_fits_45 ?_
          have ll4 : 500 ≤ ln rb4 ∧ ln rb4 ≤ 500 := hW.len trb4 rfl
          refine c_iald C dX6_fits_46 trb4 rfl (by omega) (by omega) (by omega) ?_
          have ri10 : (-2147483648) ≤ iv rb4 ((i + k).toNat) ∧ iv rb4 ((i + k).toNat) ≤ 2147483647 := hW.int trb4 ((i + k).toNat)
          refine c_icmp_eq (tgt := 52) C (r32_c (lo := (-2147483648)) (hi := 2147483647) ri9.1 ri9.2 (by decide) (by decide)) ⟨by omega, by omega⟩ dX6_fits_47 (by decide) (fun c8 => ?_) (fun c8 => ?_)
          · refine c_iinc (z := k) (j := 0) (lv2 := [(4, .int (iI (k + 1))), (3, .int (iI (i + ((ln rb1 : Nat) : Int)))), (0, .ref a0), (1, .ref a1), (2, .int (iI i))]) C dX6_fits_52 rfl (by decide) rfl ?_
            refine c_goto (tgt := 21) C dX6_fits_55 (by decide) ?_
            refine c_lv (lv2 := [(4, .int (iI (k + 1))), (3, .int (iI (i + ((ln rb1 : Nat) : Int)))), (0, .ref a0), (1, .ref a1), (2, .int (iI i))]) [0, 1, 2, 3, 4] rfl ?_
            exact ih1  (k + 1)  (by omega)   (by omega)
          · refine c_iconst C dX6_fits_50 ?_
            exact c_zret C dX6_fits_51 rfl (Or.inl rfl) (by decide) (rom0 hph hph (by decide)) ⟨0, rfl, rfl, rfl, rfl, rfl, rfl, (Or.inl rfl), trivial⟩
    refine c_lv (lv2 := [(4, .int (iI 1)), (3, .int (iI (i + ((ln rb1 : Nat) : Int)))), (0, .ref a0), (1, .ref a1), (2, .int (iI i))]) [0, 1, 2, 3, 4] rfl ?_
    exact Lp1 10 1  (by omega)   (by omega)
  · refine c_iconst C dX6_fits_16 ?_
    exact c_zret C dX6_fits_17 rfl (Or.inl rfl) (by decide) (rom0 hph hph (by decide)) ⟨0, rfl, rfl, rfl, rfl, rfl, rfl, (Or.inl rfl), trivial⟩
set_option maxHeartbeats 4000000 in
set_option maxRecDepth 100000 in
theorem C_findOwn {l : Launch} {G : GT} {mi : Nat} {sk : Nat → Nat} {L : List Nat} {cl ln : Nat → Nat} {iv : Nat → Nat → Int} {rv : Nat → Nat → Option Nat}  {a0 : Nat} {a1 : Nat} {i : Int} {x : Int} {r : Option Nat} (hW : WT (g0 G) sk L cl ln iv rv) (hS : SKL sk L cl) (t_a0 : ty L cl a0 15) (t_a1 : ty L cl a1 100) (t_r : ∀ b, r = some b → ty L cl b 20) (h_i : -2147483648 ≤ i ∧ i ≤ 2147483647) (h_x : -2147483648 ≤ x ∧ x ≤ 2147483647) (hi : 0 ≤ i ∧ i ≤ 500) : Mc l G mi (Phi (g0 G) sk) PHM yX6_findOwn cX6_findOwn 11 (some (.object "DotPress$Row")) 3 [.ref a0, .ref a1, .int (iI i), .int (iI x), va_rf r] L cl ln iv rv 0 (fun v L2 cl2 ln2 iv2 rv2 => ∃ f : Option Nat, v = some ((va_rf f)) ∧ L = L2 ∧ cl = cl2 ∧ ln = ln2 ∧ iv = iv2 ∧ rv = rv2 ∧ (∀ b, f = some b → ty L2 cl2 b 20) ∧ (True)) := by
  refine Mc.mk (by decide) (by cases r <;> exact Nat.le_of_ble_eq_true rfl) ?_
  intro p e s m args below meth c A C hM
  have hph := Phi.le hW hS
  refine c_lveq (show lv_args 0 [.ref a0, .ref a1, .int (iI i), .int (iI x), va_rf r] = [(0, .ref a0), (1, .ref a1), (2, .int (iI i)), (3, .int (iI x)), (4, (va_rf r))] from by cases r <;> rfl) ?_
  refine hv2 (show XT L cl ln L cl ln from XT.refl) (show fT [] L cl iv rv iv rv from fT.refl) (fun hX0 hF0 => ?_)
  refine c_aloadr (j := 4) (r := r) C dX6_findOwn_0 rfl ?_
  refine c_astorer (r := r) (lv2 := [(5, (va_rf r)), (0, .ref a0), (1, .ref a1), (2, .int (iI i)), (3, .int (iI x)), (4, (va_rf r))]) C dX6_findOwn_2 (by decide) (by cases r <;> rfl) ?_
  refine c_aloadr (j := 0) (r := r) C dX6_findOwn_4 rfl ?_
  refine c_ifnonnull (r := r) (tgt := 13) C dX6_findOwn_6 (by decide) (fun ob1 oq1 => ?_) (fun oq1 => ?_)
  · subst oq1
    have tob1 := t_r ob1 rfl
    refine c_lv (lv2 := [(5, .ref ob1), (0, .ref a0), (1, .ref a1), (2, .int (iI i)), (3, .int (iI x)), (4, .ref ob1)]) [0, 1, 2, 3, 4, 5] rfl ?_
    refine c_st (st2 := []) rfl ?_
    refine c_aload (j := 0) (x := ob1) C dX6_findOwn_13 rfl ?_
    obtain ⟨rb1, rq1, trb1⟩ := hW.ref tob1 1 rfl rfl rfl
    have lnrb1 : 0 ≤ ln rb1 ∧ ln rb1 ≤ 8 := hW.len trb1 rfl
    refine c_getr (k := 1) C ck_6 dX6_findOwn_15 w3_141 (by decide) tob1 rfl rfl (by decide) rfl rq1 ?_
    refine c_st (st2 := [.ref rb1]) rfl ?_
    have ll1 : 0 ≤ ln rb1 ∧ ln rb1 ≤ 8 := hW.len trb1 rfl
    refine c_alenI C dX6_findOwn_18 trb1 rfl ?_
    refine c_istore (lv2 := [(6, .int (iI ((ln rb1 : Nat) : Int))), (5, .ref ob1), (0, .ref a0), (1, .ref a1), (2, .int (iI i)), (3, .int (iI x)), (4, .ref ob1)]) C dX6_findOwn_19 (by decide) rfl ?_
    refine c_aload_n (j := 3) (x := a1) C dX6_findOwn_21 rfl ?_
    obtain ⟨rb2, rq2, trb2⟩ := hW.ref t_a1 5 rfl rfl rfl
    refine c_getr (k := 5) C ck_10 dX6_findOwn_22 w2_191 (by decide) t_a1 rfl rfl (by decide) rfl rq2 ?_
    refine c_st (st2 := [.ref rb2]) rfl ?_
    have ri1 : 0 ≤ iv rb2 2 ∧ iv rb2 2 ≤ 200 := hW.int trb2 2
    refine c_get (k := 2) C ck_2 dX6_findOwn_25 w1_47 (by decide) trb2 rfl rfl (by decide) rfl ?_
    refine c_aload_n (j := 3) (x := a1) C dX6_findOwn_28 rfl ?_
    obtain ⟨rb3, rq3, trb3⟩ := hW.ref t_a1 4 rfl rfl rfl
    refine c_getr (k := 4) C ck_10 dX6_findOwn_29 w2_189 (by decide) t_a1 rfl rfl (by decide) rfl rq3 ?_
    refine c_st (st2 := [.ref rb3, .int (iI (iv rb2 2))]) rfl ?_
    have ri2 : 0 ≤ iv rb3 2 ∧ iv rb3 2 ≤ 200 := hW.int trb3 2
    refine d_callV (As := []) (rest := [.int (iI (iv rb2 2))]) C hM (C_size_26 (a0 := rb3) hW hS trb3  ) dX6_findOwn_32 kV_X6_134 rfl trb3 rfl rfl (by decide) ck_0 rfl (Nat.le_of_ble_eq_true rfl) ⟨(Nat.le_of_ble_eq_true rfl), (Nat.le_of_ble_eq_true rfl)⟩ hph hph (show 0 + 0 = 0 from rfl) (by decide) (fun rh1 Lh1 clh1 lnh1 ivh1 rvh1 h1 => ?_)
    obtain ⟨f1, rfl, rfl, rfl, rfl, rfl, rfl, rgf1, exf1⟩ := h1
    refine c_st (st2 := [.int (iI f1), .int (iI (iv rb2 2))]) rfl ?_
    have gf1 : f1 = iv rb3 2 := exf1
    obtain ⟨mn1, hmn1, emn1⟩ := mmin_c (x := iv rb2 2) (y := f1) (r32_c (lo := 0) (hi := 200) ri1.1 ri1.2 (by decide) (by decide)) ⟨by omega, by omega⟩
    refine c_mmin (w := iI mn1) C dX6_findOwn_35 w4_109 w2_129 w1_14 w2_130 (by decide) (rom0 hph hph (by decide)) (Nat.le_of_ble_eq_true rfl) emn1 ?_
    refine c_istore (lv2 := [(7, .int (iI mn1)), (6, .int (iI ((ln rb1 : Nat) : Int))), (5, .ref ob1), (0, .ref a0), (1, .ref a1), (2, .int (iI i)), (3, .int (iI x)), (4, .ref ob1)]) C dX6_findOwn_38 (by decide) rfl ?_
    refine c_aload_n (j := 4) (x := a1) C dX6_findOwn_40 rfl ?_
    refine c_getr (k := 5) C ck_10 dX6_findOwn_41 w2_191 (by decide) t_a1 rfl rfl (by decide) rfl rq2 ?_
    refine c_st (st2 := [.ref rb2]) rfl ?_
    obtain ⟨rb4, rq4, trb4⟩ := hW.ref trb2 1 rfl rfl rfl
    refine hv2 (show 16 ≤ ln rb4 ∧ ln rb4 ≤ 400 from hW.len trb4 rfl) (hW.isz trb2 rfl rfl rq4) (fun lnrb4 szrb4 => ?_)
    refine c_getr (k := 1) C ck_2 dX6_findOwn_44 w1_42 (by decide) trb2 rfl rfl (by decide) rfl rq4 ?_
    refine c_st (st2 := [.ref rb4]) rfl ?_
    refine c_astore (lv2 := [(8, .ref rb4), (7, .int (iI mn1)), (6, .int (iI ((ln rb1 : Nat) : Int))), (5, .ref ob1), (0, .ref a0), (1, .ref a1), (2, .int (iI i)), (3, .int (iI x)), (4, .ref ob1)]) C dX6_findOwn_47 (by decide) rfl ?_
    refine c_iconst C dX6_findOwn_49 ?_
    refine c_istore (lv2 := [(9, .int (iI 0)), (8, .ref rb4), (7, .int (iI mn1)), (6, .int (iI ((ln rb1 : Nat) : Int))), (5, .ref ob1), (0, .ref a0), (1, .ref a1), (2, .int (iI i)), (3, .int (iI x)), (4, .ref ob1)]) C dX6_findOwn_50 (by decide) rfl ?_
    have Lp1 : ∀ (nn : Nat) (bs : Option Nat) (lg k : Int) , 201 - k < (nn : Int) → (∀ b, bs = some b → ty L cl b 20) → (0 ≤ lg ∧ lg ≤ 8) → (0 ≤ k ∧ k ≤ 200) → cw p l e 3 ((PHM) + 0 - ((Phi (g0 G) sk) ln rv)) s m args below meth c G A 11 (MQ below (Qu G A (Qp G (Phi (g0 G) sk) ((Phi (g0 G) sk) ln rv) 0 (fun v L2 cl2 ln2 iv2 rv2 => ∃ f : Option Nat, v = some ((va_rf f)) ∧ L = L2 ∧ cl = cl2 ∧ ln = ln2 ∧ iv = iv2 ∧ rv = rv2 ∧ (∀ b, f = some b → ty L2 cl2 b 20) ∧ (True)))) args s (((PHM) + 0 - ((Phi (g0 G) sk) ln rv)) / 16) ((PHM) + 0 - ((Phi (g0 G) sk) ln rv)) A) (Phi (g0 G) sk) ((Phi (g0 G) sk) ln rv) L cl ln iv rv 0 52 [(5, (va_rf bs)), (6, .int (iI lg)), (9, .int (iI k)), (8, .ref rb4), (7, .int (iI mn1)), (0, .ref a0), (1, .ref a1), (2, .int (iI i)), (3, .int (iI x)), (4, .ref ob1)] [] := by
      intro nn
      induction nn with
      | zero =>
        intro bs lg k  hm  ty_bs hlg hk
        exact absurd hm (by omega)
      | succ nn ih1 =>
        intro bs lg k  hm  ty_bs hlg hk
        refine c_iload (j := 2) C dX6_findOwn_52 rfl ?_
        refine c_iload (j := 4) C dX6_findOwn_54 rfl ?_
        refine c_icmp_ge (tgt := 124) C (r32_c (lo := 0) (hi := 200) hk.1 hk.2 (by decide) (by decide)) ⟨by omega, by omega⟩ dX6_findOwn_56 (by decide) (fun c1 => ?_) (fun c1 => ?_)
        · refine c_aloadr (j := 0) (r := bs) C dX6_findOwn_124 rfl ?_
          exact c_aret (x := bs) C dX6_findOwn_126 rfl (Or.inl ⟨_, rfl⟩) (by decide) (rom0 hph hph (by decide)) ⟨bs, rfl, rfl, rfl, rfl, rfl, rfl, ty_bs, trivial⟩
        · refine c_aload (j := 3) (x := rb4) C dX6_findOwn_59 rfl ?_
          refine c_iload (j := 2) C dX6_findOwn_61 rfl ?_
          have ll2 : 16 ≤ ln rb4 ∧ ln rb4 ≤ 400 := hW.len trb4 rfl
          refine c_iald C dX6_findOwn_63 trb4 rfl (by omega) (by omega) (by omega) ?_
          have ri3 : (-2147483648) ≤ iv rb4 k.toNat ∧ iv rb4 k.toNat ≤ 2147483647 := hW.int trb4 k.toNat
          refine c_iload_n (j := 8) C dX6_findOwn_64 rfl ?_
          refine c_icmp_eq (tgt := 71) C (r32_c (lo := (-2147483648)) (hi := 2147483647) ri3.1 ri3.2 (by decide) (by decide)) ⟨by omega, by omega⟩ dX6_findOwn_65 (by decide) (fun c2 => ?_) (fun c2 => ?_)
          · refine c_aload_n (j := 6) (x := a1) C dX6_findOwn_71 rfl ?_
            refine c_getr (k := 4) C ck_10 dX6_findOwn_72 w2_189 (by decide) t_a1 rfl rfl (by decide) rfl rq3 ?_
            refine c_st (st2 := [.ref rb3]) rfl ?_
            refine c_iload (j := 2) C dX6_findOwn_75 rfl ?_
            refine d_callV (As := [.int (iI k)]) (rest := []) C hM (C_get_26 (a0 := rb3) (i := k) hW hS trb3 (by omega) (by show 0 ≤ k ∧ k < iv rb3 2; omega)) dX6_findOwn_77 kV_X6_145 rfl trb3 rfl rfl (by decide) ck_0 rfl (Nat.le_of_ble_eq_true rfl) ⟨(Nat.le_of_ble_eq_true rfl), (Nat.le_of_ble_eq_true rfl)⟩ hph hph (show 0 + 0 = 0 from rfl) (by decide) (fun rh2 Lh2 clh2 lnh2 ivh2 rvh2 h2 => ?_)
            obtain ⟨f2, rfl, rfl, rfl, rfl, rfl, rfl, rgf2, exf2⟩ := h2
            refine c_st (st2 := [.ref f2]) rfl ?_
            have gf2 : el rv rb3 k.toNat = some f2 := exf2
            refine c_cast C ck_6 dX6_findOwn_80 w4_111 w8_169t rgf2 rfl rfl (by decide) ?_
            refine c_astore (lv2 := [(10, .ref f2), (5, (va_rf bs)), (6, .int (iI lg)), (9, .int (iI k)), (8, .ref rb4), (7, .int (iI mn1)), (0, .ref a0), (1, .ref a1), (2, .int (iI i)), (3, .int (iI x)), (4, .ref ob1)]) C dX6_findOwn_83 (by decide) rfl ?_
            refine c_aload (j := 0) (x := f2) C dX6_findOwn_85 rfl ?_
            obtain ⟨rb5, rq5, trb5⟩ := hW.ref rgf2 1 rfl rfl rfl
            have lnrb5 : 0 ≤ ln rb5 ∧ ln rb5 ≤ 8 := hW.len trb5 rfl
            refine c_getr (k := 1) C ck_6 dX6_findOwn_87 w3_141 (by decide) rgf2 rfl rfl (by decide) rfl rq5 ?_
            refine c_st (st2 := [.ref rb5]) rfl ?_
            have ll3 : 0 ≤ ln rb5 ∧ ln rb5 ≤ 8 := hW.len trb5 rfl
            refine c_alenI C dX6_findOwn_90 trb5 rfl ?_
            refine c_iload (j := 2) C dX6_findOwn_91 rfl ?_
            refine c_icmp_le (tgt := 118) C ⟨by omega, by omega⟩ (r32_c (lo := 0) (hi := 8) hlg.1 hlg.2 (by decide) (by decide)) dX6_findOwn_93 (by decide) (fun c3 => ?_) (fun c3 => ?_)
            · refine c_iinc (z := k) (j := 3) (lv2 := [(9, .int (iI (k + 1))), (10, .ref f2), (5, (va_rf bs)), (6, .int (iI lg)), (8, .ref rb4), (7, .int (iI mn1)), (0, .ref a0), (1, .ref a1), (2, .int (iI i)), (3, .int (iI x)), (4, .ref ob1)]) C dX6_findOwn_118 rfl (by decide) rfl ?_
              refine c_goto (tgt := 52) C dX6_findOwn_121 (by decide) ?_
              refine c_lv (lv2 := [(5, (va_rf bs)), (6, .int (iI lg)), (9, .int (iI (k + 1))), (8, .ref rb4), (7, .int (iI mn1)), (0, .ref a0), (1, .ref a1), (2, .int (iI i)), (3, .int (iI x)), (4, .ref ob1)]) [2, 3, 0, 4, 5, 6, 7, 8, 9, 10] rfl ?_
              exact ih1  bs lg (k + 1)  (by omega)  ty_bs (by omega) (by omega)
            · refine c_aload_n (j := 6) (x := a0) C dX6_findOwn_96 rfl ?_
              refine c_aload (j := 0) (x := f2) C dX6_findOwn_97 rfl ?_
              refine c_iload_n (j := 8) C dX6_findOwn_99 rfl ?_
              refine d_callV (As := [.ref f2, .int (iI i)]) (rest := []) C hM (C_fits (a0 := a0) (a1 := f2) (i := i) hW hS t_a0 rgf2 (by omega) (by show 0 ≤ i ∧ i ≤ 500; omega)) dX6_findOwn_100 kV_X6_149 rfl t_a0 rfl rfl (by decide) ck_7 rfl (Nat.le_of_ble_eq_true rfl) ⟨(Nat.le_of_ble_eq_true rfl), (Nat.le_of_ble_eq_true rfl)⟩ hph hph (show 0 + 0 = 0 from rfl) (by decide) (fun rh3 Lh3 clh3 lnh3 ivh3 rvh3 h3 => ?_)
              obtain ⟨f3, rfl, rfl, rfl, rfl, rfl, rfl, rgf3, exf3⟩ := h3
              refine c_st (st2 := [.int (iI f3)]) rfl ?_
              refine c_if_eq (tgt := 118) C ⟨by omega, by omega⟩ dX6_findOwn_103 (by decide) (fun c4 => ?_) (fun c4 => ?_)
              · refine c_iinc (z := k) (j := 3) (lv2 := [(9, .int (iI (k + 1))), (10, .ref f2), (5, (va_rf bs)), (6, .int (iI lg)), (8, .ref rb4), (7, .int (iI mn1)), (0, .ref a0), (1, .ref a1), (2, .int (iI i)), (3, .int (iI x)), (4, .ref ob1)]) C dX6_findOwn_118 rfl (by decide) rfl ?_
                refine c_goto (tgt := 52) C dX6_findOwn_121 (by decide) ?_
                refine c_lv (lv2 := [(5, (va_rf bs)), (6, .int (iI lg)), (9, .int (iI (k + 1))), (8, .ref rb4), (7, .int (iI mn1)), (0, .ref a0), (1, .ref a1), (2, .int (iI i)), (3, .int (iI x)), (4, .ref ob1)]) [2, 3, 0, 4, 5, 6, 7, 8, 9, 10] rfl ?_
                exact ih1  bs lg (k + 1)  (by omega)  ty_bs (by omega) (by omega)
              · refine c_aload (j := 0) (x := f2) C dX6_findOwn_106 rfl ?_
                refine c_astore (lv2 := [(5, .ref f2), (10, .ref f2), (6, .int (iI lg)), (9, .int (iI k)), (8, .ref rb4), (7, .int (iI mn1)), (0, .ref a0), (1, .ref a1), (2, .int (iI i)), (3, .int (iI x)), (4, .ref ob1)]) C dX6_findOwn_108 (by decide) rfl ?_
                refine c_aload (j := 1) (x := f2) C dX6_findOwn_110 rfl ?_
                refine c_getr (k := 1) C ck_6 dX6_findOwn_112 w3_141 (by decide) rgf2 rfl rfl (by decide) rfl rq5 ?_
                refine c_st (st2 := [.ref rb5]) rfl ?_
                refine c_alenI C dX6_findOwn_115 trb5 rfl ?_
                refine c_istore (lv2 := [(6, .int (iI ((ln rb5 : Nat) : Int))), (5, .ref f2), (10, .ref f2), (9, .int (iI k)), (8, .ref rb4), (7, .int (iI mn1)), (0, .ref a0), (1, .ref a1), (2, .int (iI i)), (3, .int (iI x)), (4, .ref ob1)]) C dX6_findOwn_116 (by decide) rfl ?_
                refine c_iinc (z := k) (j := 3) (lv2 := [(9, .int (iI (k + 1))), (6, .int (iI ((ln rb5 : Nat) : Int))), (5, .ref f2), (10, .ref f2), (8, .ref rb4), (7, .int (iI mn1)), (0, .ref a0), (1, .ref a1), (2, .int (iI i)), (3, .int (iI x)), (4, .ref ob1)]) C dX6_findOwn_118 rfl (by decide) rfl ?_
                refine c_goto (tgt := 52) C dX6_findOwn_121 (by decide) ?_
                refine c_lv (lv2 := [(5, .ref f2), (6, .int (iI ((ln rb5 : Nat) : Int))), (9, .int (iI (k + 1))), (8, .ref rb4), (7, .int (iI mn1)), (0, .ref a0), (1, .ref a1), (2, .int (iI i)), (3, .int (iI x)), (4, .ref ob1)]) [2, 1, 0, 4, 5, 6, 7, 8, 9, 10] rfl ?_
                exact ih1  (some f2) ((ln rb5 : Nat) : Int) (k + 1)  (by omega)  (fun _ q => by cases q; exact rgf2) (by omega) (by omega)
          · refine c_goto (tgt := 118) C dX6_findOwn_68 (by decide) ?_
            refine c_iinc (z := k) (j := 2) (lv2 := [(9, .int (iI (k + 1))), (5, (va_rf bs)), (6, .int (iI lg)), (8, .ref rb4), (7, .int (iI mn1)), (0, .ref a0), (1, .ref a1), (2, .int (iI i)), (3, .int (iI x)), (4, .ref ob1)]) C dX6_findOwn_118 rfl (by decide) rfl ?_
            refine c_goto (tgt := 52) C dX6_findOwn_121 (by decide) ?_
            refine c_lv (lv2 := [(5, (va_rf bs)), (6, .int (iI lg)), (9, .int (iI (k + 1))), (8, .ref rb4), (7, .int (iI mn1)), (0, .ref a0), (1, .ref a1), (2, .int (iI i)), (3, .int (iI x)), (4, .ref ob1)]) [1, 2, 0, 3, 4, 5, 6, 7, 8, 9] rfl ?_
            exact ih1  bs lg (k + 1)  (by omega)  ty_bs (by omega) (by omega)
    refine c_lv (lv2 := [(5, .ref ob1), (6, .int (iI ((ln rb1 : Nat) : Int))), (9, .int (iI 0)), (8, .ref rb4), (7, .int (iI mn1)), (0, .ref a0), (1, .ref a1), (2, .int (iI i)), (3, .int (iI x)), (4, .ref ob1)]) [4, 3, 0, 1, 2, 5, 6, 7, 8, 9] rfl ?_
    exact Lp1 202 (some ob1) ((ln rb1 : Nat) : Int) 0  (by omega)  (fun _ q => by cases q; exact tob1) (by omega) (by omega)
  · subst oq1
    refine c_lv (lv2 := [(5, .null), (0, .ref a0), (1, .ref a1), (2, .int (iI i)), (3, .int (iI x)), (4, .null)]) [0, 1, 2, 3, 4, 5] rfl ?_
    refine c_st (st2 := []) rfl ?_
    refine c_iconst C dX6_findOwn_9 ?_
    refine c_goto (tgt := 19) C dX6_findOwn_10 (by decide) ?_
    refine c_istore (lv2 := [(6, .int (iI 0)), (5, .null), (0, .ref a0), (1, .ref a1), (2, .int (iI i)), (3, .int (iI x)), (4, .null)]) C dX6_findOwn_19 (by decide) rfl ?_
    refine c_aload_n (j := 3) (x := a1) C dX6_findOwn_21 rfl ?_
    obtain ⟨rb6, rq6, trb6⟩ := hW.ref t_a1 5 rfl rfl rfl
    refine c_getr (k := 5) C ck_10 dX6_findOwn_22 w2_191 (by decide) t_a1 rfl rfl (by decide) rfl rq6 ?_
    refine c_st (st2 := [.ref rb6]) rfl ?_
    have ri4 : 0 ≤ iv rb6 2 ∧ iv rb6 2 ≤ 200 := hW.int trb6 2
    refine c_get (k := 2) C ck_2 dX6_findOwn_25 w1_47 (by decide) trb6 rfl rfl (by decide) rfl ?_
    refine c_aload_n (j := 3) (x := a1) C dX6_findOwn_28 rfl ?_
    obtain ⟨rb7, rq7, trb7⟩ := hW.ref t_a1 4 rfl rfl rfl
    refine c_getr (k := 4) C ck_10 dX6_findOwn_29 w2_189 (by decide) t_a1 rfl rfl (by decide) rfl rq7 ?_
    refine c_st (st2 := [.ref rb7, .int (iI (iv rb6 2))]) rfl ?_
    have ri5 : 0 ≤ iv rb7 2 ∧ iv rb7 2 ≤ 200 := hW.int trb7 2
    refine d_callV (As := []) (rest := [.int (iI (iv rb6 2))]) C hM (C_size_26 (a0 := rb7) hW hS trb7  ) dX6_findOwn_32 kV_X6_134 rfl trb7 rfl rfl (by decide) ck_0 rfl (Nat.le_of_ble_eq_true rfl) ⟨(Nat.le_of_ble_eq_true rfl), (Nat.le_of_ble_eq_true rfl)⟩ hph hph (show 0 + 0 = 0 from rfl) (by decide) (fun rh4 Lh4 clh4 lnh4 ivh4 rvh4 h4 => ?_)
    obtain ⟨f4, rfl, rfl, rfl, rfl, rfl, rfl, rgf4, exf4⟩ := h4
    refine c_st (st2 := [.int (iI f4), .int (iI (iv rb6 2))]) rfl ?_
    have gf4 : f4 = iv rb7 2 := exf4
    obtain ⟨mn2, hmn2, emn2⟩ := mmin_c (x := iv rb6 2) (y := f4) (r32_c (lo := 0) (hi := 200) ri4.1 ri4.2 (by decide) (by decide)) ⟨by omega, by omega⟩
    refine c_mmin (w := iI mn2) C dX6_findOwn_35 w4_109 w2_129 w1_14 w2_130 (by decide) (rom0 hph hph (by decide)) (Nat.le_of_ble_eq_true rfl) emn2 ?_
    refine c_istore (lv2 := [(7, .int (iI mn2)), (6, .int (iI 0)), (5, .null), (0, .ref a0), (1, .ref a1), (2, .int (iI i)), (3, .int (iI x)), (4, .null)]) C dX6_findOwn_38 (by decide) rfl ?_
    refine c_aload_n (j := 4) (x := a1) C dX6_findOwn_40 rfl ?_
    refine c_getr (k := 5) C ck_10 dX6_findOwn_41 w2_191 (by decide) t_a1 rfl rfl (by decide) rfl rq6 ?_
    refine c_st (st2 := [.ref rb6]) rfl ?_
    obtain ⟨rb8, rq8, trb8⟩ := hW.ref trb6 1 rfl rfl rfl
    refine hv2 (show 16 ≤ ln rb8 ∧ ln rb8 ≤ 400 from hW.len trb8 rfl) (hW.isz trb6 rfl rfl rq8) (fun lnrb8 szrb8 => ?_)
    refine c_getr (k := 1) C ck_2 dX6_findOwn_44 w1_42 (by decide) trb6 rfl rfl (by decide) rfl rq8 ?_
    refine c_st (st2 := [.ref rb8]) rfl ?_
    refine c_astore (lv2 := [(8, .ref rb8), (7, .int (iI mn2)), (6, .int (iI 0)), (5, .null), (0, .ref a0), (1, .ref a1), (2, .int (iI i)), (3, .int (iI x)), (4, .null)]) C dX6_findOwn_47 (by decide) rfl ?_
    refine c_iconst C dX6_findOwn_49 ?_
    refine c_istore (lv2 := [(9, .int (iI 0)), (8, .ref rb8), (7, .int (iI mn2)), (6, .int (iI 0)), (5, .null), (0, .ref a0), (1, .ref a1), (2, .int (iI i)), (3, .int (iI x)), (4, .null)]) C dX6_findOwn_50 (by decide) rfl ?_
    have Lp2 : ∀ (nn : Nat) (bs : Option Nat) (lg k : Int) , 201 - k < (nn : Int) → (∀ b, bs = some b → ty L cl b 20) → (0 ≤ lg ∧ lg ≤ 8) → (0 ≤ k ∧ k ≤ 200) → cw p l e 3 ((PHM) + 0 - ((Phi (g0 G) sk) ln rv)) s m args below meth c G A 11 (MQ below (Qu G A (Qp G (Phi (g0 G) sk) ((Phi (g0 G) sk) ln rv) 0 (fun v L2 cl2 ln2 iv2 rv2 => ∃ f : Option Nat, v = some ((va_rf f)) ∧ L = L2 ∧ cl = cl2 ∧ ln = ln2 ∧ iv = iv2 ∧ rv = rv2 ∧ (∀ b, f = some b → ty L2 cl2 b 20) ∧ (True)))) args s (((PHM) + 0 - ((Phi (g0 G) sk) ln rv)) / 16) ((PHM) + 0 - ((Phi (g0 G) sk) ln rv)) A) (Phi (g0 G) sk) ((Phi (g0 G) sk) ln rv) L cl ln iv rv 0 52 [(5, (va_rf bs)), (6, .int (iI lg)), (9, .int (iI k)), (8, .ref rb8), (7, .int (iI mn2)), (0, .ref a0), (1, .ref a1), (2, .int (iI i)), (3, .int (iI x)), (4, .null)] [] := by
      intro nn
      induction nn with
      | zero =>
        intro bs lg k  hm  ty_bs hlg hk
        exact absurd hm (by omega)
      | succ nn ih2 =>
        intro bs lg k  hm  ty_bs hlg hk
        refine c_iload (j := 2) C dX6_findOwn_52 rfl ?_
        refine c_iload (j := 4) C dX6_findOwn_54 rfl ?_
        refine c_icmp_ge (tgt := 124) C (r32_c (lo := 0) (hi := 200) hk.1 hk.2 (by decide) (by decide)) ⟨by omega, by omega⟩ dX6_findOwn_56 (by decide) (fun c5 => ?_) (fun c5 => ?_)
        · refine c_aloadr (j := 0) (r := bs) C dX6_findOwn_124 rfl ?_
          exact c_aret (x := bs) C dX6_findOwn_126 rfl (Or.inl ⟨_, rfl⟩) (by decide) (rom0 hph hph (by decide)) ⟨bs, rfl, rfl, rfl, rfl, rfl, rfl, ty_bs, trivial⟩
        · refine c_aload (j := 3) (x := rb8) C dX6_findOwn_59 rfl ?_
          refine c_iload (j := 2) C dX6_findOwn_61 rfl ?_
          have ll4 : 16 ≤ ln rb8 ∧ ln rb8 ≤ 400 := hW.len trb8 rfl
          refine c_iald C dX6_findOwn_63 trb8 rfl (by omega) (by omega) (by omega) ?_
          have ri6 : (-2147483648) ≤ iv rb8 k.toNat ∧ iv rb8 k.toNat ≤ 2147483647 := hW.int trb8 k.toNat
          refine c_iload_n (j := 8) C dX6_findOwn_64 rfl ?_
          refine c_icmp_eq (tgt := 71) C (r32_c (lo := (-2147483648)) (hi := 2147483647) ri6.1 ri6.2 (by decide) (by decide)) ⟨by omega, by omega⟩ dX6_findOwn_65 (by decide) (fun c6 => ?_) (fun c6 => ?_)
          · refine c_aload_n (j := 6) (x := a1) C dX6_findOwn_71 rfl ?_
            refine c_getr (k := 4) C ck_10 dX6_findOwn_72 w2_189 (by decide) t_a1 rfl rfl (by decide) rfl rq7 ?_
            refine c_st (st2 := [.ref rb7]) rfl ?_
            refine c_iload (j := 2) C dX6_findOwn_75 rfl ?_
            refine d_callV (As := [.int (iI k)]) (rest := []) C hM (C_get_26 (a0 := rb7) (i := k) hW hS trb7 (by omega) (by show 0 ≤ k ∧ k < iv rb7 2; omega)) dX6_findOwn_77 kV_X6_145 rfl trb7 rfl rfl (by decide) ck_0 rfl (Nat.le_of_ble_eq_true rfl) ⟨(Nat.le_of_ble_eq_true rfl), (Nat.le_of_ble_eq_true rfl)⟩ hph hph (show 0 + 0 = 0 from rfl) (by decide) (fun rh5 Lh5 clh5 lnh5 ivh5 rvh5 h5 => ?_)
            obtain ⟨f5, rfl, rfl, rfl, rfl, rfl, rfl, rgf5, exf5⟩ := h5
            refine c_st (st2 := [.ref f5]) rfl ?_
            have gf5 : el rv rb7 k.toNat = some f5 := exf5
            refine c_cast C ck_6 dX6_findOwn_80 w4_111 w8_169t rgf5 rfl rfl (by decide) ?_
            refine c_astore (lv2 := [(10, .ref f5), (5, (va_rf bs)), (6, .int (iI lg)), (9, .int (iI k)), (8, .ref rb8), (7, .int (iI mn2)), (0, .ref a0), (1, .ref a1), (2, .int (iI i)), (3, .int (iI x)), (4, .null)]) C dX6_findOwn_83 (by decide) rfl ?_
            refine c_aload (j := 0) (x := f5) C dX6_findOwn_85 rfl ?_
            obtain ⟨rb9, rq9, trb9⟩ := hW.ref rgf5 1 rfl rfl rfl
            have lnrb9 : 0 ≤ ln rb9 ∧ ln rb9 ≤ 8 := hW.len trb9 rfl
            refine c_getr (k := 1) C ck_6 dX6_findOwn_87 w3_141 (by decide) rgf5 rfl rfl (by decide) rfl rq9 ?_
            refine c_st (st2 := [.ref rb9]) rfl ?_
            have ll5 : 0 ≤ ln rb9 ∧ ln rb9 ≤ 8 := hW.len trb9 rfl
            refine c_alenI C dX6_findOwn_90 trb9 rfl ?_
            refine c_iload (j := 2) C dX6_findOwn_91 rfl ?_
            refine c_icmp_le (tgt := 118) C ⟨by omega, by omega⟩ (r32_c (lo := 0) (hi := 8) hlg.1 hlg.2 (by decide) (by decide)) dX6_findOwn_93 (by decide) (fun c7 => ?_) (fun c7 => ?_)
            · refine c_iinc (z := k) (j := 3) (lv2 := [(9, .int (iI (k + 1))), (10, .ref f5), (5, (va_rf bs)), (6, .int (iI lg)), (8, .ref rb8), (7, .int (iI mn2)), (0, .ref a0), (1, .ref a1), (2, .int (iI i)), (3, .int (iI x)), (4, .null)]) C dX6_findOwn_118 rfl (by decide) rfl ?_
              refine c_goto (tgt := 52) C dX6_findOwn_121 (by decide) ?_
              refine c_lv (lv2 := [(5, (va_rf bs)), (6, .int (iI lg)), (9, .int (iI (k + 1))), (8, .ref rb8), (7, .int (iI mn2)), (0, .ref a0), (1, .ref a1), (2, .int (iI i)), (3, .int (iI x)), (4, .null)]) [2, 3, 0, 4, 5, 6, 7, 8, 9, 10] rfl ?_
              exact ih2  bs lg (k + 1)  (by omega)  ty_bs (by omega) (by omega)
            · refine c_aload_n (j := 6) (x := a0) C dX6_findOwn_96 rfl ?_
              refine c_aload (j := 0) (x := f5) C dX6_findOwn_97 rfl ?_
              refine c_iload_n (j := 8) C dX6_findOwn_99 rfl ?_
              refine d_callV (As := [.ref f5, .int (iI i)]) (rest := []) C hM (C_fits (a0 := a0) (a1 := f5) (i := i) hW hS t_a0 rgf5 (by omega) (by show 0 ≤ i ∧ i ≤ 500; omega)) dX6_findOwn_100 kV_X6_149 rfl t_a0 rfl rfl (by decide) ck_7 rfl (Nat.le_of_ble_eq_true rfl) ⟨(Nat.le_of_ble_eq_true rfl), (Nat.le_of_ble_eq_true rfl)⟩ hph hph (show 0 + 0 = 0 from rfl) (by decide) (fun rh6 Lh6 clh6 lnh6 ivh6 rvh6 h6 => ?_)
              obtain ⟨f6, rfl, rfl, rfl, rfl, rfl, rfl, rgf6, exf6⟩ := h6
              refine c_st (st2 := [.int (iI f6)]) rfl ?_
              refine c_if_eq (tgt := 118) C ⟨by omega, by omega⟩ dX6_findOwn_103 (by decide) (fun c8 => ?_) (fun c8 => ?_)
              · refine c_iinc (z := k) (j := 3) (lv2 := [(9, .int (iI (k + 1))), (10, .ref f5), (5, (va_rf bs)), (6, .int (iI lg)), (8, .ref rb8), (7, .int (iI mn2)), (0, .ref a0), (1, .ref a1), (2, .int (iI i)), (3, .int (iI x)), (4, .null)]) C dX6_findOwn_118 rfl (by decide) rfl ?_
                refine c_goto (tgt := 52) C dX6_findOwn_121 (by decide) ?_
                refine c_lv (lv2 := [(5, (va_rf bs)), (6, .int (iI lg)), (9, .int (iI (k + 1))), (8, .ref rb8), (7, .int (iI mn2)), (0, .ref a0), (1, .ref a1), (2, .int (iI i)), (3, .int (iI x)), (4, .null)]) [2, 3, 0, 4, 5, 6, 7, 8, 9, 10] rfl ?_
                exact ih2  bs lg (k + 1)  (by omega)  ty_bs (by omega) (by omega)
              · refine c_aload (j := 0) (x := f5) C dX6_findOwn_106 rfl ?_
                refine c_astore (lv2 := [(5, .ref f5), (10, .ref f5), (6, .int (iI lg)), (9, .int (iI k)), (8, .ref rb8), (7, .int (iI mn2)), (0, .ref a0), (1, .ref a1), (2, .int (iI i)), (3, .int (iI x)), (4, .null)]) C dX6_findOwn_108 (by decide) rfl ?_
                refine c_aload (j := 1) (x := f5) C dX6_findOwn_110 rfl ?_
                refine c_getr (k := 1) C ck_6 dX6_findOwn_112 w3_141 (by decide) rgf5 rfl rfl (by decide) rfl rq9 ?_
                refine c_st (st2 := [.ref rb9]) rfl ?_
                refine c_alenI C dX6_findOwn_115 trb9 rfl ?_
                refine c_istore (lv2 := [(6, .int (iI ((ln rb9 : Nat) : Int))), (5, .ref f5), (10, .ref f5), (9, .int (iI k)), (8, .ref rb8), (7, .int (iI mn2)), (0, .ref a0), (1, .ref a1), (2, .int (iI i)), (3, .int (iI x)), (4, .null)]) C dX6_findOwn_116 (by decide) rfl ?_
                refine c_iinc (z := k) (j := 3) (lv2 := [(9, .int (iI (k + 1))), (6, .int (iI ((ln rb9 : Nat) : Int))), (5, .ref f5), (10, .ref f5), (8, .ref rb8), (7, .int (iI mn2)), (0, .ref a0), (1, .ref a1), (2, .int (iI i)), (3, .int (iI x)), (4, .null)]) C dX6_findOwn_118 rfl (by decide) rfl ?_
                refine c_goto (tgt := 52) C dX6_findOwn_121 (by decide) ?_
                refine c_lv (lv2 := [(5, .ref f5), (6, .int (iI ((ln rb9 : Nat) : Int))), (9, .int (iI (k + 1))), (8, .ref rb8), (7, .int (iI mn2)), (0, .ref a0), (1, .ref a1), (2, .int (iI i)), (3, .int (iI x)), (4, .null)]) [2, 1, 0, 4, 5, 6, 7, 8, 9, 10] rfl ?_
                exact ih2  (some f5) ((ln rb9 : Nat) : Int) (k + 1)  (by omega)  (fun _ q => by cases q; exact rgf5) (by omega) (by omega)
          · refine c_goto (tgt := 118) C dX6_findOwn_68 (by decide) ?_
            refine c_iinc (z := k) (j := 2) (lv2 := [(9, .int (iI (k + 1))), (5, (va_rf bs)), (6, .int (iI lg)), (8, .ref rb8), (7, .int (iI mn2)), (0, .ref a0), (1, .ref a1), (2, .int (iI i)), (3, .int (iI x)), (4, .null)]) C dX6_findOwn_118 rfl (by decide) rfl ?_
            refine c_goto (tgt := 52) C dX6_findOwn_121 (by decide) ?_
            refine c_lv (lv2 := [(5, (va_rf bs)), (6, .int (iI lg)), (9, .int (iI (k + 1))), (8, .ref rb8), (7, .int (iI mn2)), (0, .ref a0), (1, .ref a1), (2, .int (iI i)), (3, .int (iI x)), (4, .null)]) [1, 2, 0, 3, 4, 5, 6, 7, 8, 9] rfl ?_
            exact ih2  bs lg (k + 1)  (by omega)  ty_bs (by omega) (by omega)
    refine c_lv (lv2 := [(5, .null), (6, .int (iI 0)), (9, .int (iI 0)), (8, .ref rb8), (7, .int (iI mn2)), (0, .ref a0), (1, .ref a1), (2, .int (iI i)), (3, .int (iI x)), (4, .null)]) [4, 3, 0, 1, 2, 5, 6, 7, 8, 9] rfl ?_
    exact Lp2 202 none 0 0  (by omega)  (fun _ q => by cases q) (by omega) (by omega)
set_option maxHeartbeats 4000000 in
set_option maxRecDepth 100000 in
theorem C_find {l : Launch} {G : GT} {mi : Nat} {sk : Nat → Nat} {L : List Nat} {cl ln : Nat → Nat} {iv : Nat → Nat → Int} {rv : Nat → Nat → Option Nat}  {a0 : Nat} {a1 : Nat} {i : Int} {x : Int} (hW : WT (g0 G) sk L cl ln iv rv) (hS : SKL sk L cl) (t_a0 : ty L cl a0 15) (t_a1 : ty L cl a1 100) (h_i : -2147483648 ≤ i ∧ i ≤ 2147483647) (h_x : -2147483648 ≤ x ∧ x ≤ 2147483647) (hi : 0 ≤ i ∧ i ≤ 500) : Mc l G mi (Phi (g0 G) sk) PHM yX6_find cX6_find 7 (some (.object "DotPress$Row")) 4 [.ref a0, .ref a1, .int (iI i), .int (iI x)] L cl ln iv rv 0 (fun v L2 cl2 ln2 iv2 rv2 => ∃ f : Option Nat, v = some ((va_rf f)) ∧ L = L2 ∧ cl = cl2 ∧ ln = ln2 ∧ rv = rv2 ∧ fT [55] L cl iv rv iv2 rv2 ∧ WT (g0 G) sk L2 cl2 ln2 iv2 rv2 ∧ (∀ b, f = some b → ty L2 cl2 b 20) ∧ (True)) := by
  refine Mc.mk (by decide) (Nat.le_of_ble_eq_true rfl) ?_
  intro p e s m args below meth c A C hM
  refine hv3 (Phi.le hW hS) (show XT L cl ln L cl ln from XT.refl) (show fT [55] L cl iv rv iv rv from fT.refl) (fun hph hX0 hF0 => ?_)
  refine c_null C dX6_find_0 ?_
  refine c_astorer (r := none) (lv2 := [(4, .null), (0, .ref a0), (1, .ref a1), (2, .int (iI i)), (3, .int (iI x))]) C dX6_find_1 (by decide) rfl ?_
  refine c_iload_n (j := 4) C dX6_find_3 rfl ?_
  refine c_istore (lv2 := [(5, .int (iI x)), (4, .null), (0, .ref a0), (1, .ref a1), (2, .int (iI i)), (3, .int (iI x))]) C dX6_find_4 (by decide) rfl ?_
  refine c_aload_n (j := 3) (x := a1) C dX6_find_6 rfl ?_
  refine c_astore (lv2 := [(6, .ref a1), (5, .int (iI x)), (4, .null), (0, .ref a0), (1, .ref a1), (2, .int (iI i)), (3, .int (iI x))]) C dX6_find_7 (by decide) rfl ?_
  have Lp1 : ∀ (nn : Nat) (bs : Option Nat) (tq : Option Nat) (he rk : Int) (ivb1 : Nat → Nat → Int) , rk - 99 < (nn : Int) → WT (g0 G) sk L cl ln ivb1 rv → fT [55] L cl iv rv ivb1 rv → (∀ b, bs = some b → ty L cl b 20) → (∀ b, tq = some b → ty L cl b 100) → (-2147483648 ≤ he ∧ he ≤ 2147483647) → (99 ≤ rk) → (∀ b, tq = some b → ((cl b : Nat) : Int) ≤ rk) → cw p l e 4 ((PHM) + 0 - ((Phi (g0 G) sk) ln rv)) s m args below meth c G A 7 (MQ below (Qu G A (Qp G (Phi (g0 G) sk) ((Phi (g0 G) sk) ln rv) 0 (fun v L2 cl2 ln2 iv2 rv2 => ∃ f : Option Nat, v = some ((va_rf f)) ∧ L = L2 ∧ cl = cl2 ∧ ln = ln2 ∧ rv = rv2 ∧ fT [55] L cl iv rv iv2 rv2 ∧ WT (g0 G) sk L2 cl2 ln2 iv2 rv2 ∧ (∀ b, f = some b → ty L2 cl2 b 20) ∧ (True)))) args s (((PHM) + 0 - ((Phi (g0 G) sk) ln rv)) / 16) ((PHM) + 0 - ((Phi (g0 G) sk) ln rv)) A) (Phi (g0 G) sk) ((Phi (g0 G) sk) ln rv) L cl ln ivb1 rv 0 9 [(4, (va_rf bs)), (5, .int (iI he)), (6, (va_rf tq)), (0, .ref a0), (1, .ref a1), (2, .int (iI i)), (3, .int (iI x))] [] := by
    intro nn
    induction nn with
    | zero =>
      intro bs tq he rk ivb1 hm Wb1 Fb1 ty_bs ty_tq hhe h99 hrk
      exact absurd hm (by omega)
    | succ nn ih1 =>
      intro bs tq he rk ivb1 hm Wb1 Fb1 ty_bs ty_tq hhe h99 hrk
      refine c_aloadr (j := 2) (r := tq) C dX6_find_9 rfl ?_
      refine c_ifnull (r := tq) (tgt := 146) C dX6_find_11 (by decide) (fun oq1 => ?_) (fun ob1 oq1 => ?_)
      · subst oq1
        refine c_lv (lv2 := [(4, (va_rf bs)), (5, .int (iI he)), (6, .null), (0, .ref a0), (1, .ref a1), (2, .int (iI i)), (3, .int (iI x))]) [0, 1, 2, 3, 4, 5, 6] rfl ?_
        refine c_st (st2 := []) rfl ?_
        refine c_aloadr (j := 0) (r := bs) C dX6_find_146 rfl ?_
        exact c_aret (x := bs) C dX6_find_148 rfl (Or.inl ⟨_, rfl⟩) (by decide) (rom0 hph hph (by decide)) ⟨bs, rfl, rfl, rfl, rfl, rfl, Fb1, Wb1, ty_bs, trivial⟩
      · subst oq1
        refine hv2 (ty_tq ob1 rfl) (hrk ob1 rfl) (fun tob1 hkob1 => ?_)
        have tgob1 := bt_100 tob1.2
        refine c_lv (lv2 := [(4, (va_rf bs)), (5, .int (iI he)), (6, .ref ob1), (0, .ref a0), (1, .ref a1), (2, .int (iI i)), (3, .int (iI x))]) [0, 1, 2, 3, 4, 5, 6] rfl ?_
        refine c_st (st2 := []) rfl ?_
        refine c_aload_n (j := 3) (x := a0) C dX6_find_14 rfl ?_
        refine c_aload (j := 2) (x := ob1) C dX6_find_15 rfl ?_
        refine hv2 (show (-2147483648) ≤ ivb1 ob1 0 ∧ ivb1 ob1 0 ≤ 2147483647 from Wb1.int tob1 0) (show ivb1 ob1 0 = iv ob1 0 from Fb1.i tob1 rfl 0) (fun ri1 ie1 => ?_)
        refine c_get (k := 0) C ck_10 dX6_find_17 w2_177 (by decide) tob1 rfl rfl (by decide) rfl ?_
        refine d_callV (As := [.int (iI (ivb1 ob1 0))]) (rest := []) C hM (C_countFind (a0 := a0) (i := ivb1 ob1 0) Wb1 hS t_a0 (by omega) ) dX6_find_20 kV_X6_119 rfl t_a0 rfl rfl (by decide) ck_7 rfl (Nat.le_of_ble_eq_true rfl) ⟨(Nat.le_of_ble_eq_true rfl), (Nat.le_of_ble_eq_true rfl)⟩ hph hph (show 0 + 0 = 0 from rfl) (by decide) (fun rh1 Lh1 clh1 lnh1 ivh1 rvh1 h1 => ?_)
        obtain ⟨rfl, rfl, rfl, rfl, rfl, fl1, W1, exf1⟩ := h1
        have F1 := Fb1.call hX0 fl1 rfl
        refine c_st (st2 := []) rfl ?_
        refine c_aload (j := 2) (x := ob1) C dX6_find_23 rfl ?_
        refine hv2 (show (-2147483648) ≤ ivh1 ob1 0 ∧ ivh1 ob1 0 ≤ 2147483647 from W1.int tob1 0) (show ivh1 ob1 0 = ivb1 ob1 0 from fl1.i tob1 rfl 0) (fun ri2 ie2 => ?_)
        refine c_get (k := 0) C ck_10 dX6_find_25 w2_177 (by decide) tob1 rfl rfl (by decide) rfl ?_
        refine c_if_eq (tgt := 40) C (r32_c (lo := (-2147483648)) (hi := 2147483647) ri2.1 ri2.2 (by decide) (by decide)) dX6_find_28 (by decide) (fun c1 => ?_) (fun c1 => ?_)
        · refine c_aload_n (j := 3) (x := a0) C dX6_find_40 rfl ?_
          refine c_aload (j := 2) (x := ob1) C dX6_find_41 rfl ?_
          refine c_iload_n (j := 5) C dX6_find_43 rfl ?_
          refine c_iload (j := 1) C dX6_find_44 rfl ?_
          refine c_aloadr (j := 0) (r := bs) C dX6_find_46 rfl ?_
          refine d_callV (As := [.ref ob1, .int (iI i), .int (iI he), (va_rf bs)]) (rest := []) C hM (C_findOwn (a0 := a0) (a1 := ob1) (i := i) (x := he) (r := bs) W1 hS t_a0 tob1 ty_bs (by omega) (by omega) (by show 0 ≤ i ∧ i ≤ 500; omega)) dX6_find_48 kV_X6_122 rfl t_a0 rfl rfl (by decide) ck_7 rfl (Nat.le_of_ble_eq_true rfl) ⟨(Nat.le_of_ble_eq_true rfl), (Nat.le_of_ble_eq_true rfl)⟩ hph hph (show 0 + 0 = 0 from rfl) (by decide) (fun rh2 Lh2 clh2 lnh2 ivh2 rvh2 h2 => ?_)
          obtain ⟨f2, rfl, rfl, rfl, rfl, rfl, rfl, rgf2, exf2⟩ := h2
          refine c_st (st2 := [(va_rf f2)]) rfl ?_
          exact c_aret (x := f2) C dX6_find_51 rfl (Or.inl ⟨_, rfl⟩) (by decide) (rom0 hph hph (by decide)) ⟨f2, rfl, rfl, rfl, rfl, rfl, F1, W1, rgf2, trivial⟩
        · refine c_aload (j := 2) (x := ob1) C dX6_find_31 rfl ?_
          refine c_get (k := 0) C ck_10 dX6_find_33 w2_177 (by decide) tob1 rfl rfl (by decide) rfl ?_
          refine c_iconst C dX6_find_36 ?_
          refine c_icmp_ne (tgt := 52) C (r32_c (lo := (-2147483648)) (hi := 2147483647) ri2.1 ri2.2 (by decide) (by decide)) ⟨by decide, by decide⟩ dX6_find_37 (by decide) (fun c2 => ?_) (fun c2 => ?_)
          · refine c_aload (j := 2) (x := ob1) C dX6_find_52 rfl ?_
            refine c_get (k := 0) C ck_10 dX6_find_54 w2_177 (by decide) tob1 rfl rfl (by decide) rfl ?_
            refine c_iconst C dX6_find_57 ?_
            refine c_icmp_ne (tgt := 72) C (r32_c (lo := (-2147483648)) (hi := 2147483647) ri2.1 ri2.2 (by decide) (by decide)) ⟨by decide, by decide⟩ dX6_find_58 (by decide) (fun c3 => ?_) (fun c3 => ?_)
            · refine c_aload (j := 2) (x := ob1) C dX6_find_72 rfl ?_
              refine c_get (k := 0) C ck_10 dX6_find_74 w2_177 (by decide) tob1 rfl rfl (by decide) rfl ?_
              refine c_iconst C dX6_find_77 ?_
              refine c_icmp_ne (tgt := 106) C (r32_c (lo := (-2147483648)) (hi := 2147483647) ri2.1 ri2.2 (by decide) (by decide)) ⟨by decide, by decide⟩ dX6_find_78 (by decide) (fun c4 => ?_) (fun c4 => ?_)
              · refine c_aload_n (j := 3) (x := a0) C dX6_find_106 rfl ?_
                refine c_iconst C dX6_find_107 ?_
                refine d_callV (As := [.int (iI 0)]) (rest := []) C hM (C_countFind (a0 := a0) (i := 0) W1 hS t_a0 ⟨by decide, by decide⟩ ) dX6_find_108 kV_X6_119 rfl t_a0 rfl rfl (by decide) ck_7 rfl (Nat.le_of_ble_eq_true rfl) ⟨(Nat.le_of_ble_eq_true rfl), (Nat.le_of_ble_eq_true rfl)⟩ hph hph (show 0 + 0 = 0 from rfl) (by decide) (fun rh3 Lh3 clh3 lnh3 ivh3 rvh3 h3 => ?_)
                obtain ⟨rfl, rfl, rfl, rfl, rfl, fl3, W3, exf3⟩ := h3
                have F2 := F1.call hX0 fl3 rfl
                refine c_st (st2 := []) rfl ?_
                refine c_aload_n (j := 3) (x := a0) C dX6_find_111 rfl ?_
                refine c_aload (j := 2) (x := ob1) C dX6_find_112 rfl ?_
                refine c_iload_n (j := 5) C dX6_find_114 rfl ?_
                refine c_iload (j := 1) C dX6_find_115 rfl ?_
                refine c_aloadr (j := 0) (r := bs) C dX6_find_117 rfl ?_
                refine d_callV (As := [.ref ob1, .int (iI i), .int (iI he), (va_rf bs)]) (rest := []) C hM (C_findOwn (a0 := a0) (a1 := ob1) (i := i) (x := he) (r := bs) W3 hS t_a0 tob1 ty_bs (by omega) (by omega) (by show 0 ≤ i ∧ i ≤ 500; omega)) dX6_find_119 kV_X6_122 rfl t_a0 rfl rfl (by decide) ck_7 rfl (Nat.le_of_ble_eq_true rfl) ⟨(Nat.le_of_ble_eq_true rfl), (Nat.le_of_ble_eq_true rfl)⟩ hph hph (show 0 + 0 = 0 from rfl) (by decide) (fun rh4 Lh4 clh4 lnh4 ivh4 rvh4 h4 => ?_)
                obtain ⟨f4, rfl, rfl, rfl, rfl, rfl, rfl, rgf4, exf4⟩ := h4
                refine c_st (st2 := [(va_rf f4)]) rfl ?_
                refine c_astorer (r := f4) (lv2 := [(4, (va_rf f4)), (5, .int (iI he)), (6, .ref ob1), (0, .ref a0), (1, .ref a1), (2, .int (iI i)), (3, .int (iI x))]) C dX6_find_122 (by decide) rfl ?_
                refine c_aload (j := 2) (x := ob1) C dX6_find_124 rfl ?_
                refine hv2 (show (-2147483648) ≤ ivh3 ob1 0 ∧ ivh3 ob1 0 ≤ 2147483647 from W3.int tob1 0) (show ivh3 ob1 0 = ivh1 ob1 0 from fl3.i tob1 rfl 0) (fun ri3 ie3 => ?_)
                refine c_get (k := 0) C ck_10 dX6_find_126 w2_177 (by decide) tob1 rfl rfl (by decide) rfl ?_
                refine c_iconst C dX6_find_129 ?_
                refine c_icmp_ne (tgt := 136) C (r32_c (lo := (-2147483648)) (hi := 2147483647) ri3.1 ri3.2 (by decide) (by decide)) ⟨by decide, by decide⟩ dX6_find_130 (by decide) (fun c5 => ?_) (fun c5 => ?_)
                · refine c_aload (j := 2) (x := ob1) C dX6_find_136 rfl ?_
                  rcases W3.opt tob1 2 rfl rfl with ⟨nq1, _⟩ | ⟨nb1, nq1, tnb1⟩
                  · refine c_getr (k := 2) C ck_10 dX6_find_138 w2_182 (by decide) tob1 rfl rfl (by decide) rfl nq1 ?_
                    refine c_st (st2 := [.null]) rfl ?_
                    refine c_astorer (r := none) (lv2 := [(6, .null), (4, (va_rf f4)), (5, .int (iI he)), (0, .ref a0), (1, .ref a1), (2, .int (iI i)), (3, .int (iI x))]) C dX6_find_141 (by decide) rfl ?_
                    refine c_goto (tgt := 9) C dX6_find_143 (by decide) ?_
                    refine c_lv (lv2 := [(4, (va_rf f4)), (5, .int (iI he)), (6, .null), (0, .ref a0), (1, .ref a1), (2, .int (iI i)), (3, .int (iI x))]) [1, 2, 0, 3, 4, 5, 6] rfl ?_
                    exact ih1  f4 none he (rk - 1) _ (by omega) W3 F2 rgf4 (fun _ q => by cases q) (by omega) (by omega) (fun _ q => by cases q)
                  · have rknb1 := W3.rank tob1 (k := 2) (by decide) nq1
                    refine c_getr (k := 2) C ck_10 dX6_find_138 w2_182 (by decide) tob1 rfl rfl (by decide) rfl nq1 ?_
                    refine c_st (st2 := [.ref nb1]) rfl ?_
                    refine c_astore (lv2 := [(6, .ref nb1), (4, (va_rf f4)), (5, .int (iI he)), (0, .ref a0), (1, .ref a1), (2, .int (iI i)), (3, .int (iI x))]) C dX6_find_141 (by decide) rfl ?_
                    refine c_goto (tgt := 9) C dX6_find_143 (by decide) ?_
                    have trnb1 := bt_100 tnb1.2
                    refine c_lv (lv2 := [(4, (va_rf f4)), (5, .int (iI he)), (6, .ref nb1), (0, .ref a0), (1, .ref a1), (2, .int (iI i)), (3, .int (iI x))]) [1, 2, 0, 3, 4, 5, 6] rfl ?_
                    exact ih1  f4 (some nb1) he (rk - 1) _ (by omega) W3 F2 rgf4 (fun _ q => by cases q; exact tnb1) (by omega) (by omega) (fun _ q => by cases q; omega)
                · refine c_aloadr (j := 0) (r := f4) C dX6_find_133 rfl ?_
                  exact c_aret (x := f4) C dX6_find_135 rfl (Or.inl ⟨_, rfl⟩) (by decide) (rom0 hph hph (by decide)) ⟨f4, rfl, rfl, rfl, rfl, rfl, F2, W3, rgf4, trivial⟩
              · refine c_aload_n (j := 3) (x := a0) C dX6_find_81 rfl ?_
                refine c_iconst C dX6_find_82 ?_
                refine d_callV (As := [.int (iI 1)]) (rest := []) C hM (C_countFind (a0 := a0) (i := 1) W1 hS t_a0 ⟨by decide, by decide⟩ ) dX6_find_83 kV_X6_119 rfl t_a0 rfl rfl (by decide) ck_7 rfl (Nat.le_of_ble_eq_true rfl) ⟨(Nat.le_of_ble_eq_true rfl), (Nat.le_of_ble_eq_true rfl)⟩ hph hph (show 0 + 0 = 0 from rfl) (by decide) (fun rh5 Lh5 clh5 lnh5 ivh5 rvh5 h5 => ?_)
                obtain ⟨rfl, rfl, rfl, rfl, rfl, fl5, W5, exf5⟩ := h5
                have F3 := F1.call hX0 fl5 rfl
                refine c_st (st2 := []) rfl ?_
                refine c_iload (j := 1) C dX6_find_86 rfl ?_
                refine c_callSN0 (As := [.int (iI he)]) (rest := []) C (fun L E => s11_isGreat (iI he)) dX6_find_88 kSN_X6_98 rfl rfl (Nat.le_of_ble_eq_true rfl) ⟨(Nat.le_of_ble_eq_true rfl), (Nat.le_of_ble_eq_true rfl)⟩ (rom0 hph hph (by decide)) ?_
                rcases inn_c (x := he) (lo := 65) (hi := 90) (r32_c (lo := (-2147483648)) (hi := 2147483647) hhe.1 hhe.2 (by decide) (by decide)) ⟨by decide, by decide⟩ ⟨by decide, by decide⟩ with ⟨hs1a, hs1b, hs1e⟩ | ⟨hs1a, hs1e⟩
                · refine c_st (st2 := [.int (iI 1)]) (by rw [show inn (iI he) 65 90 = iI 1 from hs1e]) ?_
                  refine c_if_eq (tgt := 102) C ⟨by decide, by decide⟩ dX6_find_91 (by decide) (fun z => absurd z (by omega)) (fun _ => ?_)
                  refine c_iload (j := 1) C dX6_find_94 rfl ?_
                  refine c_bipush (z := 32) C dX6_find_96 (by decide) ?_
                  refine c_iadd C dX6_find_98 ?_
                  refine c_goto (tgt := 104) C dX6_find_99 (by decide) ?_
                  refine c_istore (lv2 := [(5, .int (iI (he + 32))), (4, (va_rf bs)), (6, .ref ob1), (0, .ref a0), (1, .ref a1), (2, .int (iI i)), (3, .int (iI x))]) C dX6_find_104 (by decide) (by cases bs <;> rfl) ?_
                  refine c_aload_n (j := 3) (x := a0) C dX6_find_106 rfl ?_
                  refine c_iconst C dX6_find_107 ?_
                  refine d_callV (As := [.int (iI 0)]) (rest := []) C hM (C_countFind (a0 := a0) (i := 0) W5 hS t_a0 ⟨by decide, by decide⟩ ) dX6_find_108 kV_X6_119 rfl t_a0 rfl rfl (by decide) ck_7 rfl (Nat.le_of_ble_eq_true rfl) ⟨(Nat.le_of_ble_eq_true rfl), (Nat.le_of_ble_eq_true rfl)⟩ hph hph (show 0 + 0 = 0 from rfl) (by decide) (fun rh6 Lh6 clh6 lnh6 ivh6 rvh6 h6 => ?_)
                  obtain ⟨rfl, rfl, rfl, rfl, rfl, fl6, W6, exf6⟩ := h6
                  have F4 := F3.call hX0 fl6 rfl
                  refine c_st (st2 := []) rfl ?_
                  refine c_aload_n (j := 3) (x := a0) C dX6_find_111 rfl ?_
                  refine c_aload (j := 2) (x := ob1) C dX6_find_112 rfl ?_
                  refine c_iload_n (j := 5) C dX6_find_114 rfl ?_
                  refine c_iload (j := 0) C dX6_find_115 rfl ?_
                  refine c_aloadr (j := 1) (r := bs) C dX6_find_117 rfl ?_
                  refine d_callV (As := [.ref ob1, .int (iI i), .int (iI (he + 32)), (va_rf bs)]) (rest := []) C hM (C_findOwn (a0 := a0) (a1 := ob1) (i := i) (x := he + 32) (r := bs) W6 hS t_a0 tob1 ty_bs (by omega) (by omega) (by show 0 ≤ i ∧ i ≤ 500; omega)) dX6_find_119 kV_X6_122 rfl t_a0 rfl rfl (by decide) ck_7 rfl (Nat.le_of_ble_eq_true rfl) ⟨(Nat.le_of_ble_eq_true rfl), (Nat.le_of_ble_eq_true rfl)⟩ hph hph (show 0 + 0 = 0 from rfl) (by decide) (fun rh7 Lh7 clh7 lnh7 ivh7 rvh7 h7 => ?_)
                  obtain ⟨f7, rfl, rfl, rfl, rfl, rfl, rfl, rgf7, exf7⟩ := h7
                  refine c_st (st2 := [(va_rf f7)]) rfl ?_
                  refine c_astorer (r := f7) (lv2 := [(4, (va_rf f7)), (5, .int (iI (he + 32))), (6, .ref ob1), (0, .ref a0), (1, .ref a1), (2, .int (iI i)), (3, .int (iI x))]) C dX6_find_122 (by decide) rfl ?_
                  refine c_aload (j := 2) (x := ob1) C dX6_find_124 rfl ?_
                  refine hv3 (show (-2147483648) ≤ ivh6 ob1 0 ∧ ivh6 ob1 0 ≤ 2147483647 from W6.int tob1 0) (show ivh6 ob1 0 = ivh5 ob1 0 from fl6.i tob1 rfl 0) (show ivh5 ob1 0 = ivh1 ob1 0 from fl5.i tob1 rfl 0) (fun ri4 ie4 ie5 => ?_)
                  refine c_get (k := 0) C ck_10 dX6_find_126 w2_177 (by decide) tob1 rfl rfl (by decide) rfl ?_
                  refine c_iconst C dX6_find_129 ?_
                  refine c_icmp_ne (tgt := 136) C (r32_c (lo := (-2147483648)) (hi := 2147483647) ri4.1 ri4.2 (by decide) (by decide)) ⟨by decide, by decide⟩ dX6_find_130 (by decide) (fun c6 => ?_) (fun c6 => ?_)
                  · refine c_aload (j := 2) (x := ob1) C dX6_find_136 rfl ?_
                    rcases W6.opt tob1 2 rfl rfl with ⟨nq2, _⟩ | ⟨nb2, nq2, tnb2⟩
                    · refine c_getr (k := 2) C ck_10 dX6_find_138 w2_182 (by decide) tob1 rfl rfl (by decide) rfl nq2 ?_
                      refine c_st (st2 := [.null]) rfl ?_
                      refine c_astorer (r := none) (lv2 := [(6, .null), (4, (va_rf f7)), (5, .int (iI (he + 32))), (0, .ref a0), (1, .ref a1), (2, .int (iI i)), (3, .int (iI x))]) C dX6_find_141 (by decide) rfl ?_
                      refine c_goto (tgt := 9) C dX6_find_143 (by decide) ?_
                      refine c_lv (lv2 := [(4, (va_rf f7)), (5, .int (iI (he + 32))), (6, .null), (0, .ref a0), (1, .ref a1), (2, .int (iI i)), (3, .int (iI x))]) [1, 2, 0, 3, 4, 5, 6] rfl ?_
                      exact ih1  f7 none (he + 32) (rk - 1) _ (by omega) W6 F4 rgf7 (fun _ q => by cases q) (by omega) (by omega) (fun _ q => by cases q)
                    · have rknb2 := W6.rank tob1 (k := 2) (by decide) nq2
                      refine c_getr (k := 2) C ck_10 dX6_find_138 w2_182 (by decide) tob1 rfl rfl (by decide) rfl nq2 ?_
                      refine c_st (st2 := [.ref nb2]) rfl ?_
                      refine c_astore (lv2 := [(6, .ref nb2), (4, (va_rf f7)), (5, .int (iI (he + 32))), (0, .ref a0), (1, .ref a1), (2, .int (iI i)), (3, .int (iI x))]) C dX6_find_141 (by decide) rfl ?_
                      refine c_goto (tgt := 9) C dX6_find_143 (by decide) ?_
                      have trnb2 := bt_100 tnb2.2
                      refine c_lv (lv2 := [(4, (va_rf f7)), (5, .int (iI (he + 32))), (6, .ref nb2), (0, .ref a0), (1, .ref a1), (2, .int (iI i)), (3, .int (iI x))]) [1, 2, 0, 3, 4, 5, 6] rfl ?_
                      exact ih1  f7 (some nb2) (he + 32) (rk - 1) _ (by omega) W6 F4 rgf7 (fun _ q => by cases q; exact tnb2) (by omega) (by omega) (fun _ q => by cases q; omega)
                  · refine c_aloadr (j := 0) (r := f7) C dX6_find_133 rfl ?_
                    exact c_aret (x := f7) C dX6_find_135 rfl (Or.inl ⟨_, rfl⟩) (by decide) (rom0 hph hph (by decide)) ⟨f7, rfl, rfl, rfl, rfl, rfl, F4, W6, rgf7, trivial⟩
                · refine c_st (st2 := [.int (iI 0)]) (by rw [show inn (iI he) 65 90 = iI 0 from hs1e]) ?_
                  refine c_if_eq (tgt := 102) C ⟨by decide, by decide⟩ dX6_find_91 (by decide) (fun _ => ?_) (fun z => absurd z (by omega))
                  refine c_iload (j := 1) C dX6_find_102 rfl ?_
                  refine c_istore (lv2 := [(5, .int (iI he)), (4, (va_rf bs)), (6, .ref ob1), (0, .ref a0), (1, .ref a1), (2, .int (iI i)), (3, .int (iI x))]) C dX6_find_104 (by decide) (by cases bs <;> rfl) ?_
                  refine c_aload_n (j := 3) (x := a0) C dX6_find_106 rfl ?_
                  refine c_iconst C dX6_find_107 ?_
                  refine d_callV (As := [.int (iI 0)]) (rest := []) C hM (C_countFind (a0 := a0) (i := 0) W5 hS t_a0 ⟨by decide, by decide⟩ ) dX6_find_108 kV_X6_119 rfl t_a0 rfl rfl (by decide) ck_7 rfl (Nat.le_of_ble_eq_true rfl) ⟨(Nat.le_of_ble_eq_true rfl), (Nat.le_of_ble_eq_true rfl)⟩ hph hph (show 0 + 0 = 0 from rfl) (by decide) (fun rh8 Lh8 clh8 lnh8 ivh8 rvh8 h8 => ?_)
                  obtain ⟨rfl, rfl, rfl, rfl, rfl, fl8, W8, exf8⟩ := h8
                  have F5 := F3.call hX0 fl8 rfl
                  refine c_st (st2 := []) rfl ?_
                  refine c_aload_n (j := 3) (x := a0) C dX6_find_111 rfl ?_
                  refine c_aload (j := 2) (x := ob1) C dX6_find_112 rfl ?_
                  refine c_iload_n (j := 5) C dX6_find_114 rfl ?_
                  refine c_iload (j := 0) C dX6_find_115 rfl ?_
                  refine c_aloadr (j := 1) (r := bs) C dX6_find_117 rfl ?_
                  refine d_callV (As := [.ref ob1, .int (iI i), .int (iI he), (va_rf bs)]) (rest := []) C hM (C_findOwn (a0 := a0) (a1 := ob1) (i := i) (x := he) (r := bs) W8 hS t_a0 tob1 ty_bs (by omega) (by omega) (by show 0 ≤ i ∧ i ≤ 500; omega)) dX6_find_119 kV_X6_122 rfl t_a0 rfl rfl (by decide) ck_7 rfl (Nat.le_of_ble_eq_true rfl) ⟨(Nat.le_of_ble_eq_true rfl), (Nat.le_of_ble_eq_true rfl)⟩ hph hph (show 0 + 0 = 0 from rfl) (by decide) (fun rh9 Lh9 clh9 lnh9 ivh9 rvh9 h9 => ?_)
                  obtain ⟨f9, rfl, rfl, rfl, rfl, rfl, rfl, rgf9, exf9⟩ := h9
                  refine c_st (st2 := [(va_rf f9)]) rfl ?_
                  refine c_astorer (r := f9) (lv2 := [(4, (va_rf f9)), (5, .int (iI he)), (6, .ref ob1), (0, .ref a0), (1, .ref a1), (2, .int (iI i)), (3, .int (iI x))]) C dX6_find_122 (by decide) rfl ?_
                  refine c_aload (j := 2) (x := ob1) C dX6_find_124 rfl ?_
                  refine hv3 (show (-2147483648) ≤ ivh8 ob1 0 ∧ ivh8 ob1 0 ≤ 2147483647 from W8.int tob1 0) (show ivh8 ob1 0 = ivh5 ob1 0 from fl8.i tob1 rfl 0) (show ivh5 ob1 0 = ivh1 ob1 0 from fl5.i tob1 rfl 0) (fun ri5 ie6 ie7 => ?_)
                  refine c_get (k := 0) C ck_10 dX6_find_126 w2_177 (by decide) tob1 rfl rfl (by decide) rfl ?_
                  refine c_iconst C dX6_find_129 ?_
                  refine c_icmp_ne (tgt := 136) C (r32_c (lo := (-2147483648)) (hi := 2147483647) ri5.1 ri5.2 (by decide) (by decide)) ⟨by decide, by decide⟩ dX6_find_130 (by decide) (fun c7 => ?_) (fun c7 => ?_)
                  · refine c_aload (j := 2) (x := ob1) C dX6_find_136 rfl ?_
                    rcases W8.opt tob1 2 rfl rfl with ⟨nq3, _⟩ | ⟨nb3, nq3, tnb3⟩
                    · refine c_getr (k := 2) C ck_10 dX6_find_138 w2_182 (by decide) tob1 rfl rfl (by decide) rfl nq3 ?_
                      refine c_st (st2 := [.null]) rfl ?_
                      refine c_astorer (r := none) (lv2 := [(6, .null), (4, (va_rf f9)), (5, .int (iI he)), (0, .ref a0), (1, .ref a1), (2, .int (iI i)), (3, .int (iI x))]) C dX6_find_141 (by decide) rfl ?_
                      refine c_goto (tgt := 9) C dX6_find_143 (by decide) ?_
                      refine c_lv (lv2 := [(4, (va_rf f9)), (5, .int (iI he)), (6, .null), (0, .ref a0), (1, .ref a1), (2, .int (iI i)), (3, .int (iI x))]) [1, 2, 0, 3, 4, 5, 6] rfl ?_
                      exact ih1  f9 none he (rk - 1) _ (by omega) W8 F5 rgf9 (fun _ q => by cases q) (by omega) (by omega) (fun _ q => by cases q)
                    · have rknb3 := W8.rank tob1 (k := 2) (by decide) nq3
                      refine c_getr (k := 2) C ck_10 dX6_find_138 w2_182 (by decide) tob1 rfl rfl (by decide) rfl nq3 ?_
                      refine c_st (st2 := [.ref nb3]) rfl ?_
                      refine c_astore (lv2 := [(6, .ref nb3), (4, (va_rf f9)), (5, .int (iI he)), (0, .ref a0), (1, .ref a1), (2, .int (iI i)), (3, .int (iI x))]) C dX6_find_141 (by decide) rfl ?_
                      refine c_goto (tgt := 9) C dX6_find_143 (by decide) ?_
                      have trnb3 := bt_100 tnb3.2
                      refine c_lv (lv2 := [(4, (va_rf f9)), (5, .int (iI he)), (6, .ref nb3), (0, .ref a0), (1, .ref a1), (2, .int (iI i)), (3, .int (iI x))]) [1, 2, 0, 3, 4, 5, 6] rfl ?_
                      exact ih1  f9 (some nb3) he (rk - 1) _ (by omega) W8 F5 rgf9 (fun _ q => by cases q; exact tnb3) (by omega) (by omega) (fun _ q => by cases q; omega)
                  · refine c_aloadr (j := 0) (r := f9) C dX6_find_133 rfl ?_
                    exact c_aret (x := f9) C dX6_find_135 rfl (Or.inl ⟨_, rfl⟩) (by decide) (rom0 hph hph (by decide)) ⟨f9, rfl, rfl, rfl, rfl, rfl, F5, W8, rgf9, trivial⟩
            · refine c_iload (j := 1) C dX6_find_61 rfl ?_
              refine c_callSN0 (As := [.int (iI he)]) (rest := []) C (fun L E => s11_isDigit (iI he)) dX6_find_63 kSN_X6_115 rfl rfl (Nat.le_of_ble_eq_true rfl) ⟨(Nat.le_of_ble_eq_true rfl), (Nat.le_of_ble_eq_true rfl)⟩ (rom0 hph hph (by decide)) ?_
              rcases inn_c (x := he) (lo := 48) (hi := 57) (r32_c (lo := (-2147483648)) (hi := 2147483647) hhe.1 hhe.2 (by decide) (by decide)) ⟨by decide, by decide⟩ ⟨by decide, by decide⟩ with ⟨hs2a, hs2b, hs2e⟩ | ⟨hs2a, hs2e⟩
              · refine c_st (st2 := [.int (iI 1)]) (by rw [show inn (iI he) 48 57 = iI 1 from hs2e]) ?_
                refine c_if_ne (tgt := 72) C ⟨by decide, by decide⟩ dX6_find_66 (by decide) (fun _ => ?_) (fun z => absurd z (by omega))
                refine c_aload (j := 2) (x := ob1) C dX6_find_72 rfl ?_
                refine c_get (k := 0) C ck_10 dX6_find_74 w2_177 (by decide) tob1 rfl rfl (by decide) rfl ?_
                refine c_iconst C dX6_find_77 ?_
                refine c_icmp_ne (tgt := 106) C (r32_c (lo := (-2147483648)) (hi := 2147483647) ri2.1 ri2.2 (by decide) (by decide)) ⟨by decide, by decide⟩ dX6_find_78 (by decide) (fun c8 => ?_) (fun c8 => ?_)
                · refine c_aload_n (j := 3) (x := a0) C dX6_find_106 rfl ?_
                  refine c_iconst C dX6_find_107 ?_
                  refine d_callV (As := [.int (iI 0)]) (rest := []) C hM (C_countFind (a0 := a0) (i := 0) W1 hS t_a0 ⟨by decide, by decide⟩ ) dX6_find_108 kV_X6_119 rfl t_a0 rfl rfl (by decide) ck_7 rfl (Nat.le_of_ble_eq_true rfl) ⟨(Nat.le_of_ble_eq_true rfl), (Nat.le_of_ble_eq_true rfl)⟩ hph hph (show 0 + 0 = 0 from rfl) (by decide) (fun rh10 Lh10 clh10 lnh10 ivh10 rvh10 h10 => ?_)
                  obtain ⟨rfl, rfl, rfl, rfl, rfl, fl10, W10, exf10⟩ := h10
                  have F6 := F1.call hX0 fl10 rfl
                  refine c_st (st2 := []) rfl ?_
                  refine c_aload_n (j := 3) (x := a0) C dX6_find_111 rfl ?_
                  refine c_aload (j := 2) (x := ob1) C dX6_find_112 rfl ?_
                  refine c_iload_n (j := 5) C dX6_find_114 rfl ?_
                  refine c_iload (j := 1) C dX6_find_115 rfl ?_
                  refine c_aloadr (j := 0) (r := bs) C dX6_find_117 rfl ?_
                  refine d_callV (As := [.ref ob1, .int (iI i), .int (iI he), (va_rf bs)]) (rest := []) C hM (C_findOwn (a0 := a0) (a1 := ob1) (i := i) (x := he) (r := bs) W10 hS t_a0 tob1 ty_bs (by omega) (by omega) (by show 0 ≤ i ∧ i ≤ 500; omega)) dX6_find_119 kV_X6_122 rfl t_a0 rfl rfl (by decide) ck_7 rfl (Nat.le_of_ble_eq_true rfl) ⟨(Nat.le_of_ble_eq_true rfl), (Nat.le_of_ble_eq_true rfl)⟩ hph hph (show 0 + 0 = 0 from rfl) (by decide) (fun rh11 Lh11 clh11 lnh11 ivh11 rvh11 h11 => ?_)
                  obtain ⟨f11, rfl, rfl, rfl, rfl, rfl, rfl, rgf11, exf11⟩ := h11
                  refine c_st (st2 := [(va_rf f11)]) rfl ?_
                  refine c_astorer (r := f11) (lv2 := [(4, (va_rf f11)), (5, .int (iI he)), (6, .ref ob1), (0, .ref a0), (1, .ref a1), (2, .int (iI i)), (3, .int (iI x))]) C dX6_find_122 (by decide) rfl ?_
                  refine c_aload (j := 2) (x := ob1) C dX6_find_124 rfl ?_
                  refine hv2 (show (-2147483648) ≤ ivh10 ob1 0 ∧ ivh10 ob1 0 ≤ 2147483647 from W10.int tob1 0) (show ivh10 ob1 0 = ivh1 ob1 0 from fl10.i tob1 rfl 0) (fun ri6 ie8 => ?_)
                  refine c_get (k := 0) C ck_10 dX6_find_126 w2_177 (by decide) tob1 rfl rfl (by decide) rfl ?_
                  refine c_iconst C dX6_find_129 ?_
                  refine c_icmp_ne (tgt := 136) C (r32_c (lo := (-2147483648)) (hi := 2147483647) ri6.1 ri6.2 (by decide) (by decide)) ⟨by decide, by decide⟩ dX6_find_130 (by decide) (fun c9 => ?_) (fun c9 => ?_)
                  · refine c_aload (j := 2) (x := ob1) C dX6_find_136 rfl ?_
                    rcases W10.opt tob1 2 rfl rfl with ⟨nq4, _⟩ | ⟨nb4, nq4, tnb4⟩
                    · refine c_getr (k := 2) C ck_10 dX6_find_138 w2_182 (by decide) tob1 rfl rfl (by decide) rfl nq4 ?_
                      refine c_st (st2 := [.null]) rfl ?_
                      refine c_astorer (r := none) (lv2 := [(6, .null), (4, (va_rf f11)), (5, .int (iI he)), (0, .ref a0), (1, .ref a1), (2, .int (iI i)), (3, .int (iI x))]) C dX6_find_141 (by decide) rfl ?_
                      refine c_goto (tgt := 9) C dX6_find_143 (by decide) ?_
                      refine c_lv (lv2 := [(4, (va_rf f11)), (5, .int (iI he)), (6, .null), (0, .ref a0), (1, .ref a1), (2, .int (iI i)), (3, .int (iI x))]) [1, 2, 0, 3, 4, 5, 6] rfl ?_
                      exact ih1  f11 none he (rk - 1) _ (by omega) W10 F6 rgf11 (fun _ q => by cases q) (by omega) (by omega) (fun _ q => by cases q)
                    · have rknb4 := W10.rank tob1 (k := 2) (by decide) nq4
                      refine c_getr (k := 2) C ck_10 dX6_find_138 w2_182 (by decide) tob1 rfl rfl (by decide) rfl nq4 ?_
                      refine c_st (st2 := [.ref nb4]) rfl ?_
                      refine c_astore (lv2 := [(6, .ref nb4), (4, (va_rf f11)), (5, .int (iI he)), (0, .ref a0), (1, .ref a1), (2, .int (iI i)), (3, .int (iI x))]) C dX6_find_141 (by decide) rfl ?_
                      refine c_goto (tgt := 9) C dX6_find_143 (by decide) ?_
                      have trnb4 := bt_100 tnb4.2
                      refine c_lv (lv2 := [(4, (va_rf f11)), (5, .int (iI he)), (6, .ref nb4), (0, .ref a0), (1, .ref a1), (2, .int (iI i)), (3, .int (iI x))]) [1, 2, 0, 3, 4, 5, 6] rfl ?_
                      exact ih1  f11 (some nb4) he (rk - 1) _ (by omega) W10 F6 rgf11 (fun _ q => by cases q; exact tnb4) (by omega) (by omega) (fun _ q => by cases q; omega)
                  · refine c_aloadr (j := 0) (r := f11) C dX6_find_133 rfl ?_
                    exact c_aret (x := f11) C dX6_find_135 rfl (Or.inl ⟨_, rfl⟩) (by decide) (rom0 hph hph (by decide)) ⟨f11, rfl, rfl, rfl, rfl, rfl, F6, W10, rgf11, trivial⟩
                · refine c_aload_n (j := 3) (x := a0) C dX6_find_81 rfl ?_
                  refine c_iconst C dX6_find_82 ?_
                  refine d_callV (As := [.int (iI 1)]) (rest := []) C hM (C_countFind (a0 := a0) (i := 1) W1 hS t_a0 ⟨by decide, by decide⟩ ) dX6_find_83 kV_X6_119 rfl t_a0 rfl rfl (by decide) ck_7 rfl (Nat.le_of_ble_eq_true rfl) ⟨(Nat.le_of_ble_eq_true rfl), (Nat.le_of_ble_eq_true rfl)⟩ hph hph (show 0 + 0 = 0 from rfl) (by decide) (fun rh12 Lh12 clh12 lnh12 ivh12 rvh12 h12 => ?_)
                  obtain ⟨rfl, rfl, rfl, rfl, rfl, fl12, W12, exf12⟩ := h12
                  have F7 := F1.call hX0 fl12 rfl
                  refine c_st (st2 := []) rfl ?_
                  refine c_iload (j := 1) C dX6_find_86 rfl ?_
                  refine c_callSN0 (As := [.int (iI he)]) (rest := []) C (fun L E => s11_isGreat (iI he)) dX6_find_88 kSN_X6_98 rfl rfl (Nat.le_of_ble_eq_true rfl) ⟨(Nat.le_of_ble_eq_true rfl), (Nat.le_of_ble_eq_true rfl)⟩ (rom0 hph hph (by decide)) ?_
                  rcases inn_c (x := he) (lo := 65) (hi := 90) (r32_c (lo := (-2147483648)) (hi := 2147483647) hhe.1 hhe.2 (by decide) (by decide)) ⟨by decide, by decide⟩ ⟨by decide, by decide⟩ with ⟨hs3a, hs3b, hs3e⟩ | ⟨hs3a, hs3e⟩
                  · refine c_st (st2 := [.int (iI 1)]) (by rw [show inn (iI he) 65 90 = iI 1 from hs3e]) ?_
                    refine c_if_eq (tgt := 102) C ⟨by decide, by decide⟩ dX6_find_91 (by decide) (fun z => absurd z (by omega)) (fun _ => ?_)
                    refine c_iload (j := 1) C dX6_find_94 rfl ?_
                    refine c_bipush (z := 32) C dX6_find_96 (by decide) ?_
                    refine c_iadd C dX6_find_98 ?_
                    refine c_goto (tgt := 104) C dX6_find_99 (by decide) ?_
                    refine c_istore (lv2 := [(5, .int (iI (he + 32))), (4, (va_rf bs)), (6, .ref ob1), (0, .ref a0), (1, .ref a1), (2, .int (iI i)), (3, .int (iI x))]) C dX6_find_104 (by decide) (by cases bs <;> rfl) ?_
                    refine c_aload_n (j := 3) (x := a0) C dX6_find_106 rfl ?_
                    refine c_iconst C dX6_find_107 ?_
                    refine d_callV (As := [.int (iI 0)]) (rest := []) C hM (C_countFind (a0 := a0) (i := 0) W12 hS t_a0 ⟨by decide, by decide⟩ ) dX6_find_108 kV_X6_119 rfl t_a0 rfl rfl (by decide) ck_7 rfl (Nat.le_of_ble_eq_true rfl) ⟨(Nat.le_of_ble_eq_true rfl), (Nat.le_of_ble_eq_true rfl)⟩ hph hph (show 0 + 0 = 0 from rfl) (by decide) (fun rh13 Lh13 clh13 lnh13 ivh13 rvh13 h13 => ?_)
                    obtain ⟨rfl, rfl, rfl, rfl, rfl, fl13, W13, exf13⟩ := h13
                    have F8 := F7.call hX0 fl13 rfl
                    refine c_st (st2 := []) rfl ?_
                    refine c_aload_n (j := 3) (x := a0) C dX6_find_111 rfl ?_
                    refine c_aload (j := 2) (x := ob1) C dX6_find_112 rfl ?_
                    refine c_iload_n (j := 5) C dX6_find_114 rfl ?_
                    refine c_iload (j := 0) C dX6_find_115 rfl ?_
                    refine c_aloadr (j := 1) (r := bs) C dX6_find_117 rfl ?_
                    refine d_callV (As := [.ref ob1, .int (iI i), .int (iI (he + 32)), (va_rf bs)]) (rest := []) C hM (C_findOwn (a0 := a0) (a1 := ob1) (i := i) (x := he + 32) (r := bs) W13 hS t_a0 tob1 ty_bs (by omega) (by omega) (by show 0 ≤ i ∧ i ≤ 500; omega)) dX6_find_119 kV_X6_122 rfl t_a0 rfl rfl (by decide) ck_7 rfl (Nat.le_of_ble_eq_true rfl) ⟨(Nat.le_of_ble_eq_true rfl), (Nat.le_of_ble_eq_true rfl)⟩ hph hph (show 0 + 0 = 0 from rfl) (by decide) (fun rh14 Lh14 clh14 lnh14 ivh14 rvh14 h14 => ?_)
                    obtain ⟨f14, rfl, rfl, rfl, rfl, rfl, rfl, rgf14, exf14⟩ := h14
                    refine c_st (st2 := [(va_rf f14)]) rfl ?_
                    refine c_astorer (r := f14) (lv2 := [(4, (va_rf f14)), (5, .int (iI (he + 32))), (6, .ref ob1), (0, .ref a0), (1, .ref a1), (2, .int (iI i)), (3, .int (iI x))]) C dX6_find_122 (by decide) rfl ?_
                    refine c_aload (j := 2) (x := ob1) C dX6_find_124 rfl ?_
                    refine hv3 (show (-2147483648) ≤ ivh13 ob1 0 ∧ ivh13 ob1 0 ≤ 2147483647 from W13.int tob1 0) (show ivh13 ob1 0 = ivh12 ob1 0 from fl13.i tob1 rfl 0) (show ivh12 ob1 0 = ivh1 ob1 0 from fl12.i tob1 rfl 0) (fun ri7 ie9 ie10 => ?_)
                    refine c_get (k := 0) C ck_10 dX6_find_126 w2_177 (by decide) tob1 rfl rfl (by decide) rfl ?_
                    refine c_iconst C dX6_find_129 ?_
                    refine c_icmp_ne (tgt := 136) C (r32_c (lo := (-2147483648)) (hi := 2147483647) ri7.1 ri7.2 (by decide) (by decide)) ⟨by decide, by decide⟩ dX6_find_130 (by decide) (fun c10 => ?_) (fun c10 => ?_)
                    · refine c_aload (j := 2) (x := ob1) C dX6_find_136 rfl ?_
                      rcases W13.opt tob1 2 rfl rfl with ⟨nq5, _⟩ | ⟨nb5, nq5, tnb5⟩
                      · refine c_getr (k := 2) C ck_10 dX6_find_138 w2_182 (by decide) tob1 rfl rfl (by decide) rfl nq5 ?_
                        refine c_st (st2 := [.null]) rfl ?_
                        refine c_astorer (r := none) (lv2 := [(6, .null), (4, (va_rf f14)), (5, .int (iI (he + 32))), (0, .ref a0), (1, .ref a1), (2, .int (iI i)), (3, .int (iI x))]) C dX6_find_141 (by decide) rfl ?_
                        refine c_goto (tgt := 9) C dX6_find_143 (by decide) ?_
                        refine c_lv (lv2 := [(4, (va_rf f14)), (5, .int (iI (he + 32))), (6, .null), (0, .ref a0), (1, .ref a1), (2, .int (iI i)), (3, .int (iI x))]) [1, 2, 0, 3, 4, 5, 6] rfl ?_
                        exact ih1  f14 none (he + 32) (rk - 1) _ (by omega) W13 F8 rgf14 (fun _ q => by cases q) (by omega) (by omega) (fun _ q => by cases q)
                      · have rknb5 := W13.rank tob1 (k := 2) (by decide) nq5
                        refine c_getr (k := 2) C ck_10 dX6_find_138 w2_182 (by decide) tob1 rfl rfl (by decide) rfl nq5 ?_
                        refine c_st (st2 := [.ref nb5]) rfl ?_
                        refine c_astore (lv2 := [(6, .ref nb5), (4, (va_rf f14)), (5, .int (iI (he + 32))), (0, .ref a0), (1, .ref a1), (2, .int (iI i)), (3, .int (iI x))]) C dX6_find_141 (by decide) rfl ?_
                        refine c_goto (tgt := 9) C dX6_find_143 (by decide) ?_
                        have trnb5 := bt_100 tnb5.2
                        refine c_lv (lv2 := [(4, (va_rf f14)), (5, .int (iI (he + 32))), (6, .ref nb5), (0, .ref a0), (1, .ref a1), (2, .int (iI i)), (3, .int (iI x))]) [1, 2, 0, 3, 4, 5, 6] rfl ?_
                        exact ih1  f14 (some nb5) (he + 32) (rk - 1) _ (by omega) W13 F8 rgf14 (fun _ q => by cases q; exact tnb5) (by omega) (by omega) (fun _ q => by cases q; omega)
                    · refine c_aloadr (j := 0) (r := f14) C dX6_find_133 rfl ?_
                      exact c_aret (x := f14) C dX6_find_135 rfl (Or.inl ⟨_, rfl⟩) (by decide) (rom0 hph hph (by decide)) ⟨f14, rfl, rfl, rfl, rfl, rfl, F8, W13, rgf14, trivial⟩
                  · refine c_st (st2 := [.int (iI 0)]) (by rw [show inn (iI he) 65 90 = iI 0 from hs3e]) ?_
                    refine c_if_eq (tgt := 102) C ⟨by decide, by decide⟩ dX6_find_91 (by decide) (fun _ => ?_) (fun z => absurd z (by omega))
                    refine c_iload (j := 1) C dX6_find_102 rfl ?_
                    refine c_istore (lv2 := [(5, .int (iI he)), (4, (va_rf bs)), (6, .ref ob1), (0, .ref a0), (1, .ref a1), (2, .int (iI i)), (3, .int (iI x))]) C dX6_find_104 (by decide) (by cases bs <;> rfl) ?_
                    refine c_aload_n (j := 3) (x := a0) C dX6_find_106 rfl ?_
                    refine c_iconst C dX6_find_107 ?_
                    refine d_callV (As := [.int (iI 0)]) (rest := []) C hM (C_countFind (a0 := a0) (i := 0) W12 hS t_a0 ⟨by decide, by decide⟩ ) dX6_find_108 kV_X6_119 rfl t_a0 rfl rfl (by decide) ck_7 rfl (Nat.le_of_ble_eq_true rfl) ⟨(Nat.le_of_ble_eq_true rfl), (Nat.le_of_ble_eq_true rfl)⟩ hph hph (show 0 + 0 = 0 from rfl) (by decide) (fun rh15 Lh15 clh15 lnh15 ivh15 rvh15 h15 => ?_)
                    obtain ⟨rfl, rfl, rfl, rfl, rfl, fl15, W15, exf15⟩ := h15
                    have F9 := F7.call hX0 fl15 rfl
                    refine c_st (st2 := []) rfl ?_
                    refine c_aload_n (j := 3) (x := a0) C dX6_find_111 rfl ?_
                    refine c_aload (j := 2) (x := ob1) C dX6_find_112 rfl ?_
                    refine c_iload_n (j := 5) C dX6_find_114 rfl ?_
                    refine c_iload (j := 0) C dX6_find_115 rfl ?_
                    refine c_aloadr (j := 1) (r := bs) C dX6_find_117 rfl ?_
                    refine d_callV (As := [.ref ob1, .int (iI i), .int (iI he), (va_rf bs)]) (rest := []) C hM (C_findOwn (a0 := a0) (a1 := ob1) (i := i) (x := he) (r := bs) W15 hS t_a0 tob1 ty_bs (by omega) (by omega) (by show 0 ≤ i ∧ i ≤ 500; omega)) dX6_find_119 kV_X6_122 rfl t_a0 rfl rfl (by decide) ck_7 rfl (Nat.le_of_ble_eq_true rfl) ⟨(Nat.le_of_ble_eq_true rfl), (Nat.le_of_ble_eq_true rfl)⟩ hph hph (show 0 + 0 = 0 from rfl) (by decide) (fun rh16 Lh16 clh16 lnh16 ivh16 rvh16 h16 => ?_)
                    obtain ⟨f16, rfl, rfl, rfl, rfl, rfl, rfl, rgf16, exf16⟩ := h16
                    refine c_st (st2 := [(va_rf f16)]) rfl ?_
                    refine c_astorer (r := f16) (lv2 := [(4, (va_rf f16)), (5, .int (iI he)), (6, .ref ob1), (0, .ref a0), (1, .ref a1), (2, .int (iI i)), (3, .int (iI x))]) C dX6_find_122 (by decide) rfl ?_
                    refine c_aload (j := 2) (x := ob1) C dX6_find_124 rfl ?_
                    refine hv3 (show (-2147483648) ≤ ivh15 ob1 0 ∧ ivh15 ob1 0 ≤ 2147483647 from W15.int tob1 0) (show ivh15 ob1 0 = ivh12 ob1 0 from fl15.i tob1 rfl 0) (show ivh12 ob1 0 = ivh1 ob1 0 from fl12.i tob1 rfl 0) (fun ri8 ie11 ie12 => ?_)
                    refine c_get (k := 0) C ck_10 dX6_find_126 w2_177 (by decide) tob1 rfl rfl (by decide) rfl ?_
                    refine c_iconst C dX6_find_129 ?_
                    refine c_icmp_ne (tgt := 136) C (r32_c (lo := (-2147483648)) (hi := 2147483647) ri8.1 ri8.2 (by decide) (by decide)) ⟨by decide, by decide⟩ dX6_find_130 (by decide) (fun c11 => ?_) (fun c11 => ?_)
                    · refine c_aload (j := 2) (x := ob1) C dX6_find_136 rfl ?_
                      rcases W15.opt tob1 2 rfl rfl with ⟨nq6, _⟩ | ⟨nb6, nq6, tnb6⟩
                      · refine c_getr (k := 2) C ck_10 dX6_find_138 w2_182 (by decide) tob1 rfl rfl (by decide) rfl nq6 ?_
                        refine c_st (st2 := [.null]) rfl ?_
                        refine c_astorer (r := none) (lv2 := [(6, .null), (4, (va_rf f16)), (5, .int (iI he)), (0, .ref a0), (1, .ref a1), (2, .int (iI i)), (3, .int (iI x))]) C dX6_find_141 (by decide) rfl ?_
                        refine c_goto (tgt := 9) C dX6_find_143 (by decide) ?_
                        refine c_lv (lv2 := [(4, (va_rf f16)), (5, .int (iI he)), (6, .null), (0, .ref a0), (1, .ref a1), (2, .int (iI i)), (3, .int (iI x))]) [1, 2, 0, 3, 4, 5, 6] rfl ?_
                        exact ih1  f16 none he (rk - 1) _ (by omega) W15 F9 rgf16 (fun _ q => by cases q) (by omega) (by omega) (fun _ q => by cases q)
                      · have rknb6 := W15.rank tob1 (k := 2) (by decide) nq6
                        refine c_getr (k := 2) C ck_10 dX6_find_138 w2_182 (by decide) tob1 rfl rfl (by decide) rfl nq6 ?_
                        refine c_st (st2 := [.ref nb6]) rfl ?_
                        refine c_astore (lv2 := [(6, .ref nb6), (4, (va_rf f16)), (5, .int (iI he)), (0, .ref a0), (1, .ref a1), (2, .int (iI i)), (3, .int (iI x))]) C dX6_find_141 (by decide) rfl ?_
                        refine c_goto (tgt := 9) C dX6_find_143 (by decide) ?_
                        have trnb6 := bt_100 tnb6.2
                        refine c_lv (lv2 := [(4, (va_rf f16)), (5, .int (iI he)), (6, .ref nb6), (0, .ref a0), (1, .ref a1), (2, .int (iI i)), (3, .int (iI x))]) [1, 2, 0, 3, 4, 5, 6] rfl ?_
                        exact ih1  f16 (some nb6) he (rk - 1) _ (by omega) W15 F9 rgf16 (fun _ q => by cases q; exact tnb6) (by omega) (by omega) (fun _ q => by cases q; omega)
                    · refine c_aloadr (j := 0) (r := f16) C dX6_find_133 rfl ?_
                      exact c_aret (x := f16) C dX6_find_135 rfl (Or.inl ⟨_, rfl⟩) (by decide) (rom0 hph hph (by decide)) ⟨f16, rfl, rfl, rfl, rfl, rfl, F9, W15, rgf16, trivial⟩
              · refine c_st (st2 := [.int (iI 0)]) (by rw [show inn (iI he) 48 57 = iI 0 from hs2e]) ?_
                refine c_if_ne (tgt := 72) C ⟨by decide, by decide⟩ dX6_find_66 (by decide) (fun z => absurd z (by omega)) (fun _ => ?_)
                refine c_goto (tgt := 136) C dX6_find_69 (by decide) ?_
                refine c_aload (j := 2) (x := ob1) C dX6_find_136 rfl ?_
                rcases W1.opt tob1 2 rfl rfl with ⟨nq7, _⟩ | ⟨nb7, nq7, tnb7⟩
                · refine c_getr (k := 2) C ck_10 dX6_find_138 w2_182 (by decide) tob1 rfl rfl (by decide) rfl nq7 ?_
                  refine c_st (st2 := [.null]) rfl ?_
                  refine c_astorer (r := none) (lv2 := [(6, .null), (4, (va_rf bs)), (5, .int (iI he)), (0, .ref a0), (1, .ref a1), (2, .int (iI i)), (3, .int (iI x))]) C dX6_find_141 (by decide) rfl ?_
                  refine c_goto (tgt := 9) C dX6_find_143 (by decide) ?_
                  refine c_lv (lv2 := [(4, (va_rf bs)), (5, .int (iI he)), (6, .null), (0, .ref a0), (1, .ref a1), (2, .int (iI i)), (3, .int (iI x))]) [1, 2, 0, 3, 4, 5, 6] rfl ?_
                  exact ih1  bs none he (rk - 1) _ (by omega) W1 F1 ty_bs (fun _ q => by cases q) (by omega) (by omega) (fun _ q => by cases q)
                · have rknb7 := W1.rank tob1 (k := 2) (by decide) nq7
                  refine c_getr (k := 2) C ck_10 dX6_find_138 w2_182 (by decide) tob1 rfl rfl (by decide) rfl nq7 ?_
                  refine c_st (st2 := [.ref nb7]) rfl ?_
                  refine c_astore (lv2 := [(6, .ref nb7), (4, (va_rf bs)), (5, .int (iI he)), (0, .ref a0), (1, .ref a1), (2, .int (iI i)), (3, .int (iI x))]) C dX6_find_141 (by decide) rfl ?_
                  refine c_goto (tgt := 9) C dX6_find_143 (by decide) ?_
                  have trnb7 := bt_100 tnb7.2
                  refine c_lv (lv2 := [(4, (va_rf bs)), (5, .int (iI he)), (6, .ref nb7), (0, .ref a0), (1, .ref a1), (2, .int (iI i)), (3, .int (iI x))]) [1, 2, 0, 3, 4, 5, 6] rfl ?_
                  exact ih1  bs (some nb7) he (rk - 1) _ (by omega) W1 F1 ty_bs (fun _ q => by cases q; exact tnb7) (by omega) (by omega) (fun _ q => by cases q; omega)
          · refine c_aload_n (j := 3) (x := a0) C dX6_find_40 rfl ?_
            refine c_aload (j := 2) (x := ob1) C dX6_find_41 rfl ?_
            refine c_iload_n (j := 5) C dX6_find_43 rfl ?_
            refine c_iload (j := 1) C dX6_find_44 rfl ?_
            refine c_aloadr (j := 0) (r := bs) C dX6_find_46 rfl ?_
            refine d_callV (As := [.ref ob1, .int (iI i), .int (iI he), (va_rf bs)]) (rest := []) C hM (C_findOwn (a0 := a0) (a1 := ob1) (i := i) (x := he) (r := bs) W1 hS t_a0 tob1 ty_bs (by omega) (by omega) (by show 0 ≤ i ∧ i ≤ 500; omega)) dX6_find_48 kV_X6_122 rfl t_a0 rfl rfl (by decide) ck_7 rfl (Nat.le_of_ble_eq_true rfl) ⟨(Nat.le_of_ble_eq_true rfl), (Nat.le_of_ble_eq_true rfl)⟩ hph hph (show 0 + 0 = 0 from rfl) (by decide) (fun rh17 Lh17 clh17 lnh17 ivh17 rvh17 h17 => ?_)
            obtain ⟨f17, rfl, rfl, rfl, rfl, rfl, rfl, rgf17, exf17⟩ := h17
            refine c_st (st2 := [(va_rf f17)]) rfl ?_
            exact c_aret (x := f17) C dX6_find_51 rfl (Or.inl ⟨_, rfl⟩) (by decide) (rom0 hph hph (by decide)) ⟨f17, rfl, rfl, rfl, rfl, rfl, F1, W1, rgf17, trivial⟩
  have tra1 := bt_100 t_a1.2
  refine c_lv (lv2 := [(4, .null), (5, .int (iI x)), (6, .ref a1), (0, .ref a0), (1, .ref a1), (2, .int (iI i)), (3, .int (iI x))]) [2, 1, 0, 3, 4, 5, 6] rfl ?_
  exact Lp1 31 none (some a1) x 129 _ (by omega) hW hF0 (fun _ q => by cases q) (fun _ q => by cases q; exact t_a1) (by omega) (by omega) (fun _ q => by cases q; omega)
set_option maxHeartbeats 4000000 in
set_option maxRecDepth 100000 in
theorem C_push {l : Launch} {G : GT} {mi : Nat} {sk : Nat → Nat} {L : List Nat} {cl ln : Nat → Nat} {iv : Nat → Nat → Int} {rv : Nat → Nat → Option Nat}  {a0 : Nat} {r : Option Nat} (hW : WT (g0 G) sk L cl ln iv rv) (hS : SKL sk L cl) (t_a0 : ty L cl a0 15) (t_r : ∀ b, r = some b → ty L cl b 20) (hc : iv a0 7 ≤ 90000) : Mc l G mi (Phi (g0 G) sk) PHM yX6_push cX6_push 3 none 0 [.ref a0, va_rf r] L cl ln iv rv 0 (fun v L2 cl2 ln2 iv2 rv2 => v = none ∧ L = L2 ∧ cl = cl2 ∧ ln = ln2 ∧ rv = rv2 ∧ fT [15, 54] L cl iv rv iv2 rv2 ∧ WT (g0 G) sk L2 cl2 ln2 iv2 rv2 ∧ (iv2 a0 4 = iv a0 4 ∧ iv a0 7 ≤ iv2 a0 7 ∧ iv2 a0 7 ≤ iv a0 7 + 4)) := by
  refine Mc.mk (by decide) (by cases r <;> exact Nat.le_of_ble_eq_true rfl) ?_
  intro p e s m args below meth c A C hM
  have hph := Phi.le hW hS
  refine c_lveq (show lv_args 0 [.ref a0, va_rf r] = [(0, .ref a0), (1, (va_rf r))] from by cases r <;> rfl) ?_
  refine hv3 ((hW.int t_a0 7).1) (show XT L cl ln L cl ln from XT.refl) (show fT [15, 54] L cl iv rv iv rv from fT.refl) (fun hc0 hX0 hF0 => ?_)
  have hc00 : 0 ≤ iv a0 7 := hc0
  refine c_aloadr_n (j := 1) (r := r) C dX6_push_0 rfl ?_
  refine c_ifnonnull (r := r) (tgt := 5) C dX6_push_1 (by decide) (fun ob1 oq1 => ?_) (fun oq1 => ?_)
  · subst oq1
    have tob1 := t_r ob1 rfl
    refine c_lv (lv2 := [(0, .ref a0), (1, .ref ob1)]) [0, 1] rfl ?_
    refine c_st (st2 := []) rfl ?_
    refine c_iconst C dX6_push_5 ?_
    refine c_istore_n (lv2 := [(2, .int (iI 0)), (0, .ref a0), (1, .ref ob1)]) C dX6_push_6 (by decide) rfl ?_
    have Lp1 : ∀ (nn : Nat) (k : Int) (ivb1 : Nat → Nat → Int) , 5 - k < (nn : Int) → WT (g0 G) sk L cl ln ivb1 rv → fT [15, 54] L cl iv rv ivb1 rv → (0 ≤ k ∧ k ≤ 4) → (ivb1 a0 7 = iv a0 7 + k) → (ivb1 a0 4 = iv a0 4) → (0 ≤ iv a0 7) → cw p l e 0 ((PHM) + 0 - ((Phi (g0 G) sk) ln rv)) s m args below meth c G A 3 (MQ below (Qu G A (Qp G (Phi (g0 G) sk) ((Phi (g0 G) sk) ln rv) 0 (fun v L2 cl2 ln2 iv2 rv2 => v = none ∧ L = L2 ∧ cl = cl2 ∧ ln = ln2 ∧ rv = rv2 ∧ fT [15, 54] L cl iv rv iv2 rv2 ∧ WT (g0 G) sk L2 cl2 ln2 iv2 rv2 ∧ (iv2 a0 4 = iv a0 4 ∧ iv a0 7 ≤ iv2 a0 7 ∧ iv2 a0 7 ≤ iv a0 7 + 4)))) args s (((PHM) + 0 - ((Phi (g0 G) sk) ln rv)) / 16) ((PHM) + 0 - ((Phi (g0 G) sk) ln rv)) A) (Phi (g0 G) sk) ((Phi (g0 G) sk) ln rv) L cl ln ivb1 rv 0 7 [(2, .int (iI k)), (0, .ref a0), (1, .ref ob1)] [] := by
      intro nn
      induction nn with
      | zero =>
        intro  k ivb1 hm Wb1 Fb1  hk hc1 hc4 hc0
        exact absurd hm (by omega)
      | succ nn ih1 =>
        intro  k ivb1 hm Wb1 Fb1  hk hc1 hc4 hc0
        refine c_iload_n (j := 0) C dX6_push_7 rfl ?_
        refine c_aload_n (j := 2) (x := ob1) C dX6_push_8 rfl ?_
        obtain ⟨rb1, rq1, trb1⟩ := Wb1.ref tob1 2 rfl rfl rfl
        have lnrb1 : 1 ≤ ln rb1 ∧ ln rb1 ≤ 4 := Wb1.len trb1 rfl
        refine c_getr (k := 2) C ck_6 dX6_push_9 w3_145 (by decide) tob1 rfl rfl (by decide) rfl rq1 ?_
        refine c_st (st2 := [.ref rb1, .int (iI k)]) rfl ?_
        have ll1 : 1 ≤ ln rb1 ∧ ln rb1 ≤ 4 := Wb1.len trb1 rfl
        refine c_alenI C dX6_push_12 trb1 rfl ?_
        refine c_icmp_ge (tgt := 57) C (r32_c (lo := 0) (hi := 4) hk.1 hk.2 (by decide) (by decide)) ⟨by omega, by omega⟩ dX6_push_13 (by decide) (fun c1 => ?_) (fun c1 => ?_)
        · have ri1 : 0 ≤ ivb1 a0 4 ∧ ivb1 a0 4 ≤ 500 := Wb1.int t_a0 4
          have ri2 : 0 ≤ ivb1 a0 7 ∧ ivb1 a0 7 ≤ 100000 := Wb1.int t_a0 7
          exact c_vret C dX6_push_57 rfl (by decide) (rom0 hph hph (by decide)) ⟨rfl, rfl, rfl, rfl, rfl, Fb1, Wb1, (by omega)⟩
        · refine c_aload_n (j := 1) (x := a0) C dX6_push_16 rfl ?_
          have ri3 : 0 ≤ ivb1 a0 7 ∧ ivb1 a0 7 ≤ 100000 := Wb1.int t_a0 7
          refine c_get (k := 7) C ck_7 dX6_push_17 w1_147 (by decide) t_a0 rfl rfl (by decide) rfl ?_
          refine c_sipush (z := 200) C dX6_push_20 (by decide) ?_
          refine c_icmp_ge (tgt := 41) C (r32_c (lo := 0) (hi := 100000) ri3.1 ri3.2 (by decide) (by decide)) ⟨by decide, by decide⟩ dX6_push_23 (by decide) (fun c2 => ?_) (fun c2 => ?_)
          · refine c_aload_n (j := 1) (x := a0) C dX6_push_41 rfl ?_
            refine c_dup C dX6_push_42 rfl ?_
            refine c_get (k := 7) C ck_7 dX6_push_43 w1_147 (by decide) t_a0 rfl rfl (by decide) rfl ?_
            refine c_iconst C dX6_push_46 ?_
            refine c_iadd C dX6_push_47 ?_
            refine c_put (z := (ivb1 a0 7) + 1) (k := 7) C ck_7 dX6_push_48 w1_147 (by decide) rfl t_a0 rfl rfl (by decide) rfl (by rfl) (by rfl) (fun iv1 pq1 => ?_)
            refine hv2 (Wb1.puti pq1 t_a0 (show 0 ≤ ((ivb1 a0 7) + 1) ∧ ((ivb1 a0 7) + 1) ≤ 100000 by omega) rfl) (Fb1.puti hX0 pq1 t_a0 rfl) (fun W1 F1 => ?_)
            refine c_iinc (z := k) (j := 0) (lv2 := [(2, .int (iI (k + 1))), (0, .ref a0), (1, .ref ob1)]) C dX6_push_51 rfl (by decide) rfl ?_
            refine c_goto (tgt := 7) C dX6_push_54 (by decide) ?_
            refine hv4 (show 0 ≤ iv1 a0 7 ∧ iv1 a0 7 ≤ 100000 from W1.int t_a0 7) (show iv1 a0 7 = (ivb1 a0 7) + 1 from by rw [pq1]; exact up2_s) (show 0 ≤ iv1 a0 4 ∧ iv1 a0 4 ≤ 500 from W1.int t_a0 4) (show iv1 a0 4 = ivb1 a0 4 from by rw [pq1]; exact up2_j (by decide)) (fun ri4 ie4 ri5 ie5 => ?_)
            refine c_lv (lv2 := [(2, .int (iI (k + 1))), (0, .ref a0), (1, .ref ob1)]) [0, 1, 2] rfl ?_
            exact ih1  (k + 1) _ (by omega) W1 F1  (by omega) (by show iv1 a0 7 = iv a0 7 + (k + 1); omega) (ie5.trans hc4) (by omega)
          · refine c_aload_n (j := 1) (x := a0) C dX6_push_26 rfl ?_
            obtain ⟨rb2, rq2, trb2⟩ := Wb1.ref t_a0 6 rfl rfl rfl
            have lnrb2 : 200 ≤ ln rb2 ∧ ln rb2 ≤ 200 := Wb1.len trb2 rfl
            refine c_getr (k := 6) C ck_7 dX6_push_27 w1_144 (by decide) t_a0 rfl rfl (by decide) rfl rq2 ?_
            refine c_st (st2 := [.ref rb2]) rfl ?_
            refine c_aload_n (j := 1) (x := a0) C dX6_push_30 rfl ?_
            refine c_get (k := 7) C ck_7 dX6_push_31 w1_147 (by decide) t_a0 rfl rfl (by decide) rfl ?_
            refine c_aload_n (j := 2) (x := ob1) C dX6_push_34 rfl ?_
            refine c_getr (k := 2) C ck_6 dX6_push_35 w3_145 (by decide) tob1 rfl rfl (by decide) rfl rq1 ?_
            refine c_st (st2 := [.ref rb1, .int (iI (ivb1 a0 7)), .ref rb2]) rfl ?_
            refine c_iload_n (j := 0) C dX6_push_38 rfl ?_
            refine c_iald C dX6_push_39 trb1 rfl (by omega) (by omega) (by omega) ?_
            refine hv3 (show (-2147483648) ≤ ivb1 rb1 k.toNat ∧ ivb1 rb1 k.toNat ≤ 2147483647 from Wb1.int trb1 k.toNat) (show ivb1 rb1 k.toNat = iv rb1 k.toNat from Fb1.i trb1 rfl k.toNat) (show 200 ≤ ln rb2 ∧ ln rb2 ≤ 200 from Wb1.len trb2 rfl) (fun ri6 ie7 ll2 => ?_)
            refine c_iast (x := ivb1 rb1 k.toNat) C dX6_push_40 trb2 rfl (by omega) (by omega) (by omega) (fun iv2 pq2 => ?_)
            refine hv2 (Wb1.puti pq2 trb2 (show (-2147483648) ≤ (ivb1 rb1 k.toNat) ∧ (ivb1 rb1 k.toNat) ≤ 2147483647 by omega) rfl) (Fb1.puti hX0 pq2 trb2 rfl) (fun W2 F2 => ?_)
            refine c_aload_n (j := 1) (x := a0) C dX6_push_41 rfl ?_
            refine c_dup C dX6_push_42 rfl ?_
            refine hv2 (show 0 ≤ iv2 a0 7 ∧ iv2 a0 7 ≤ 100000 from W2.int t_a0 7) (show iv2 a0 7 = ivb1 a0 7 from by rw [pq2]; exact up2_k (ne_ty t_a0 trb2 (by decide))) (fun ri7 ie8 => ?_)
            refine c_get (k := 7) C ck_7 dX6_push_43 w1_147 (by decide) t_a0 rfl rfl (by decide) rfl ?_
            refine c_iconst C dX6_push_46 ?_
            refine c_iadd C dX6_push_47 ?_
            refine c_put (z := (iv2 a0 7) + 1) (k := 7) C ck_7 dX6_push_48 w1_147 (by decide) rfl t_a0 rfl rfl (by decide) rfl (by rfl) (by rfl) (fun iv3 pq3 => ?_)
            refine hv2 (W2.puti pq3 t_a0 (show 0 ≤ ((iv2 a0 7) + 1) ∧ ((iv2 a0 7) + 1) ≤ 100000 by omega) rfl) (F2.puti hX0 pq3 t_a0 rfl) (fun W3 F3 => ?_)
            refine c_iinc (z := k) (j := 0) (lv2 := [(2, .int (iI (k + 1))), (0, .ref a0), (1, .ref ob1)]) C dX6_push_51 rfl (by decide) rfl ?_
            refine c_goto (tgt := 7) C dX6_push_54 (by decide) ?_
            refine hv5 (show 0 ≤ iv3 a0 7 ∧ iv3 a0 7 ≤ 100000 from W3.int t_a0 7) (show iv3 a0 7 = (iv2 a0 7) + 1 from by rw [pq3]; exact up2_s) (show 0 ≤ iv3 a0 4 ∧ iv3 a0 4 ≤ 500 from W3.int t_a0 4) (show iv3 a0 4 = iv2 a0 4 from by rw [pq3]; exact up2_j (by decide)) (show iv2 a0 4 = ivb1 a0 4 from by rw [pq2]; exact up2_k (ne_ty t_a0 trb2 (by decide))) (fun ri8 ie9 ri9 ie10 ie11 => ?_)
            refine c_lv (lv2 := [(2, .int (iI (k + 1))), (0, .ref a0), (1, .ref ob1)]) [0, 1, 2] rfl ?_
            exact ih1  (k + 1) _ (by omega) W3 F3  (by omega) (by show iv3 a0 7 = iv a0 7 + (k + 1); omega) (ie10.trans (ie11.trans hc4)) (by omega)
    refine hv2 (show 0 ≤ iv a0 7 ∧ iv a0 7 ≤ 100000 from hW.int t_a0 7) (show 0 ≤ iv a0 4 ∧ iv a0 4 ≤ 500 from hW.int t_a0 4) (fun ri10 ri11 => ?_)
    refine c_lv (lv2 := [(2, .int (iI 0)), (0, .ref a0), (1, .ref ob1)]) [0, 1, 2] rfl ?_
    exact Lp1 6 0 _ (by omega) hW hF0  (by omega) (by show iv a0 7 = iv a0 7 + 0; omega) rfl (by omega)
  · subst oq1
    refine c_lv (lv2 := [(0, .ref a0), (1, .null)]) [0, 1] rfl ?_
    refine c_st (st2 := []) rfl ?_
    refine hv2 (show 0 ≤ iv a0 4 ∧ iv a0 4 ≤ 500 from hW.int t_a0 4) (show 0 ≤ iv a0 7 ∧ iv a0 7 ≤ 100000 from hW.int t_a0 7) (fun ri12 ri13 => ?_)
    exact c_vret C dX6_push_4 rfl (by decide) (rom0 hph hph (by decide)) ⟨rfl, rfl, rfl, rfl, rfl, hF0, hW, (by omega)⟩
set_option maxHeartbeats 4000000 in
set_option maxRecDepth 100000 in
theorem C_setTurn {l : Launch} {G : GT} {mi : Nat} {sk : Nat → Nat} {L : List Nat} {cl ln : Nat → Nat} {iv : Nat → Nat → Int} {rv : Nat → Nat → Option Nat}  {a0 : Nat} {r : Option Nat} {i : Int} (hW : WT (g0 G) sk L cl ln iv rv) (hS : SKL sk L cl) (t_a0 : ty L cl a0 15) (t_r : ∀ b, r = some b → ty L cl b 20) (h_i : -2147483648 ≤ i ∧ i ≤ 2147483647) (hc : iv a0 7 ≤ 90000) : Mc l G mi (Phi (g0 G) sk) PHM yX6_setTurn cX6_setTurn 3 (some .int) 1 [.ref a0, va_rf r, .int (iI i)] L cl ln iv rv 0 (fun v L2 cl2 ln2 iv2 rv2 => ∃ f : Int, v = some (.int (iI f)) ∧ L = L2 ∧ cl = cl2 ∧ ln = ln2 ∧ rv = rv2 ∧ fT [15, 54] L cl iv rv iv2 rv2 ∧ WT (g0 G) sk L2 cl2 ln2 iv2 rv2 ∧ (-2147483648 ≤ f ∧ f ≤ 2147483647) ∧ ((f = 0 ∨ f = 7) ∧ iv2 a0 4 = iv a0 4 ∧ iv a0 7 ≤ iv2 a0 7 ∧ iv2 a0 7 ≤ iv a0 7 + 4)) := by
  refine Mc.mk (by decide) (by cases r <;> exact Nat.le_of_ble_eq_true rfl) ?_
  intro p e s m args below meth c A C hM
  have hph := Phi.le hW hS
  refine c_lveq (show lv_args 0 [.ref a0, va_rf r, .int (iI i)] = [(0, .ref a0), (1, (va_rf r)), (2, .int (iI i))] from by cases r <;> rfl) ?_
  refine hv2 (show XT L cl ln L cl ln from XT.refl) (show fT [15, 54] L cl iv rv iv rv from fT.refl) (fun hX0 hF0 => ?_)
  refine c_aloadr_n (j := 1) (r := r) C dX6_setTurn_0 rfl ?_
  refine c_ifnonnull (r := r) (tgt := 12) C dX6_setTurn_1 (by decide) (fun ob1 oq1 => ?_) (fun oq1 => ?_)
  · subst oq1
    have tob1 := t_r ob1 rfl
    refine c_lv (lv2 := [(0, .ref a0), (1, .ref ob1), (2, .int (iI i))]) [0, 1, 2] rfl ?_
    refine c_st (st2 := []) rfl ?_
    refine c_aload_n (j := 0) (x := a0) C dX6_setTurn_12 rfl ?_
    refine c_aload_n (j := 1) (x := ob1) C dX6_setTurn_13 rfl ?_
    refine hv2 (show 0 ≤ iv a0 7 ∧ iv a0 7 ≤ 100000 from hW.int t_a0 7) (show 0 ≤ iv a0 4 ∧ iv a0 4 ≤ 500 from hW.int t_a0 4) (fun ri1 ri2 => ?_)
    refine d_callV (As := [.ref ob1]) (rest := []) C hM (C_push (a0 := a0) (r := (some ob1)) hW hS t_a0 (fun _ q => by cases q; exact tob1)  (by show iv a0 7 ≤ 90000; omega)) dX6_setTurn_14 kV_X6_86 rfl t_a0 rfl rfl (by decide) ck_7 rfl (Nat.le_of_ble_eq_true rfl) ⟨(Nat.le_of_ble_eq_true rfl), (Nat.le_of_ble_eq_true rfl)⟩ hph hph (show 0 + 0 = 0 from rfl) (by decide) (fun rh1 Lh1 clh1 lnh1 ivh1 rvh1 h1 => ?_)
    obtain ⟨rfl, rfl, rfl, rfl, rfl, fl1, W1, exf1⟩ := h1
    have F1 := hF0.call hX0 fl1 rfl
    refine c_st (st2 := []) rfl ?_
    refine hv3 (show 0 ≤ ivh1 a0 4 ∧ ivh1 a0 4 ≤ 500 from W1.int t_a0 4) (show 0 ≤ ivh1 a0 7 ∧ ivh1 a0 7 ≤ 100000 from W1.int t_a0 7) (show ivh1 a0 4 = iv a0 4 ∧ iv a0 7 ≤ ivh1 a0 7 ∧ ivh1 a0 7 ≤ iv a0 7 + 4 from exf1) (fun ri3 ri4 gf1 => ?_)
    refine c_iconst C dX6_setTurn_17 ?_
    exact c_iret C dX6_setTurn_18 rfl (by decide) (rom0 hph hph (by decide)) ⟨0, rfl, rfl, rfl, rfl, rfl, F1, W1, ⟨by decide, by decide⟩, (by omega)⟩
  · subst oq1
    refine c_lv (lv2 := [(0, .ref a0), (1, .null), (2, .int (iI i))]) [0, 1, 2] rfl ?_
    refine c_st (st2 := []) rfl ?_
    refine c_aload_n (j := 0) (x := a0) C dX6_setTurn_4 rfl ?_
    refine c_iload_n (j := 2) C dX6_setTurn_5 rfl ?_
    refine c_put (z := i) (k := 9) C ck_7 dX6_setTurn_6 w1_151 (by decide) rfl t_a0 rfl rfl (by decide) rfl (by rfl) (by rfl) (fun iv1 pq1 => ?_)
    refine hv2 (hW.puti pq1 t_a0 (show (-2147483648) ≤ i ∧ i ≤ 2147483647 by omega) rfl) (hF0.puti hX0 pq1 t_a0 rfl) (fun W2 F2 => ?_)
    refine c_bipush (z := 7) C dX6_setTurn_9 (by decide) ?_
    refine hv4 (show 0 ≤ iv1 a0 4 ∧ iv1 a0 4 ≤ 500 from W2.int t_a0 4) (show iv1 a0 4 = iv a0 4 from by rw [pq1]; exact up2_j (by decide)) (show 0 ≤ iv1 a0 7 ∧ iv1 a0 7 ≤ 100000 from W2.int t_a0 7) (show iv1 a0 7 = iv a0 7 from by rw [pq1]; exact up2_j (by decide)) (fun ri5 ie3 ri6 ie4 => ?_)
    exact c_iret C dX6_setTurn_11 rfl (by decide) (rom0 hph hph (by decide)) ⟨7, rfl, rfl, rfl, rfl, rfl, F2, W2, ⟨by decide, by decide⟩, (by omega)⟩
set_option maxHeartbeats 4000000 in
set_option maxRecDepth 100000 in
theorem C_markStart {l : Launch} {G : GT} {mi : Nat} {sk : Nat → Nat} {L : List Nat} {cl ln : Nat → Nat} {iv : Nat → Nat → Int} {rv : Nat → Nat → Option Nat}  {a0 : Nat} {i : Int} {n : Int} (hW : WT (g0 G) sk L cl ln iv rv) (hS : SKL sk L cl) (t_a0 : ty L cl a0 15) (h_i : -2147483648 ≤ i ∧ i ≤ 2147483647) (h_n : -2147483648 ≤ n ∧ n ≤ 2147483647) (hi : 0 ≤ i ∧ i ≤ 500 ∧ 0 ≤ n ∧ n ≤ 8) : Mc l G mi (Phi (g0 G) sk) PHM yX6_markStart cX6_markStart 4 none 0 [.ref a0, .int (iI i), .int (iI n)] L cl ln iv rv 0 (fun v L2 cl2 ln2 iv2 rv2 => v = none ∧ L = L2 ∧ cl = cl2 ∧ ln = ln2 ∧ rv = rv2 ∧ fT [53] L cl iv rv iv2 rv2 ∧ WT (g0 G) sk L2 cl2 ln2 iv2 rv2 ∧ (True)) := by
  refine Mc.mk (by decide) (Nat.le_of_ble_eq_true rfl) ?_
  intro p e s m args below meth c A C hM
  refine hv3 (Phi.le hW hS) (show XT L cl ln L cl ln from XT.refl) (show fT [53] L cl iv rv iv rv from fT.refl) (fun hph hX0 hF0 => ?_)
  refine c_iload_n (j := 1) C dX6_markStart_0 rfl ?_
  refine c_istore_n (lv2 := [(3, .int (iI i)), (0, .ref a0), (1, .int (iI i)), (2, .int (iI n))]) C dX6_markStart_1 (by decide) rfl ?_
  have Lp1 : ∀ (nn : Nat) (k : Int) (ivb1 : Nat → Nat → Int) , i + 9 - k < (nn : Int) → WT (g0 G) sk L cl ln ivb1 rv → fT [53] L cl iv rv ivb1 rv → (i ≤ k ∧ k ≤ i + 8) → cw p l e 0 ((PHM) + 0 - ((Phi (g0 G) sk) ln rv)) s m args below meth c G A 4 (MQ below (Qu G A (Qp G (Phi (g0 G) sk) ((Phi (g0 G) sk) ln rv) 0 (fun v L2 cl2 ln2 iv2 rv2 => v = none ∧ L = L2 ∧ cl = cl2 ∧ ln = ln2 ∧ rv = rv2 ∧ fT [53] L cl iv rv iv2 rv2 ∧ WT (g0 G) sk L2 cl2 ln2 iv2 rv2 ∧ (True)))) args s (((PHM) + 0 - ((Phi (g0 G) sk) ln rv)) / 16) ((PHM) + 0 - ((Phi (g0 G) sk) ln rv)) A) (Phi (g0 G) sk) ((Phi (g0 G) sk) ln rv) L cl ln ivb1 rv 0 2 [(3, .int (iI k)), (0, .ref a0), (1, .int (iI i)), (2, .int (iI n))] [] := by
    intro nn
    induction nn with
    | zero =>
      intro  k ivb1 hm Wb1 Fb1  hk
      exact absurd hm (by omega)
    | succ nn ih1 =>
      intro  k ivb1 hm Wb1 Fb1  hk
      refine c_iload_n (j := 0) C dX6_markStart_2 rfl ?_
      refine c_iload_n (j := 2) C dX6_markStart_3 rfl ?_
      refine c_iload_n (j := 3) C dX6_markStart_4 rfl ?_
      refine c_iadd C dX6_markStart_5 ?_
      refine c_icmp_ge (tgt := 41) C ⟨by omega, by omega⟩ ⟨by omega, by omega⟩ dX6_markStart_6 (by decide) (fun c1 => ?_) (fun c1 => ?_)
      · exact c_vret C dX6_markStart_41 rfl (by decide) (rom0 hph hph (by decide)) ⟨rfl, rfl, rfl, rfl, rfl, Fb1, Wb1, trivial⟩
      · refine c_iload_n (j := 0) C dX6_markStart_9 rfl ?_
        refine c_sipush (z := 500) C dX6_markStart_10 (by decide) ?_
        refine c_icmp_ge (tgt := 41) C ⟨by omega, by omega⟩ ⟨by decide, by decide⟩ dX6_markStart_13 (by decide) (fun c2 => ?_) (fun c2 => ?_)
        · exact c_vret C dX6_markStart_41 rfl (by decide) (rom0 hph hph (by decide)) ⟨rfl, rfl, rfl, rfl, rfl, Fb1, Wb1, trivial⟩
        · refine c_aload_n (j := 1) (x := a0) C dX6_markStart_16 rfl ?_
          obtain ⟨rb1, rq1, trb1⟩ := Wb1.ref t_a0 3 rfl rfl rfl
          have lnrb1 : 500 ≤ ln rb1 ∧ ln rb1 ≤ 500 := Wb1.len trb1 rfl
          refine c_getr (k := 3) C ck_7 dX6_markStart_17 w1_139 (by decide) t_a0 rfl rfl (by decide) rfl rq1 ?_
          refine c_st (st2 := [.ref rb1]) rfl ?_
          refine c_iload_n (j := 0) C dX6_markStart_20 rfl ?_
          refine c_iload_n (j := 0) C dX6_markStart_21 rfl ?_
          refine c_iload_n (j := 2) C dX6_markStart_22 rfl ?_
          refine c_icmp_ne (tgt := 33) C ⟨by omega, by omega⟩ ⟨by omega, by omega⟩ dX6_markStart_23 (by decide) (fun c3 => ?_) (fun c3 => ?_)
          · refine c_iconst C dX6_markStart_33 ?_
            have ll1 : 500 ≤ ln rb1 ∧ ln rb1 ≤ 500 := Wb1.len trb1 rfl
            refine c_iast (x := (-1)) C dX6_markStart_34 trb1 rfl (by omega) (by omega) (by omega) (fun iv1 pq1 => ?_)
            refine hv2 (Wb1.puti pq1 trb1 (show (-2147483648) ≤ (-1) ∧ (-1) ≤ 2147483647 by omega) rfl) (Fb1.puti hX0 pq1 trb1 rfl) (fun W1 F1 => ?_)
            refine c_iinc (z := k) (j := 0) (lv2 := [(3, .int (iI (k + 1))), (0, .ref a0), (1, .int (iI i)), (2, .int (iI n))]) C dX6_markStart_35 rfl (by decide) rfl ?_
            refine c_goto (tgt := 2) C dX6_markStart_38 (by decide) ?_
            refine c_lv (lv2 := [(3, .int (iI (k + 1))), (0, .ref a0), (1, .int (iI i)), (2, .int (iI n))]) [0, 1, 2, 3] rfl ?_
            exact ih1  (k + 1) _ (by omega) W1 F1  (by omega)
          · refine c_aload_n (j := 1) (x := a0) C dX6_markStart_26 rfl ?_
            refine hv2 (show 0 ≤ ivb1 a0 7 ∧ ivb1 a0 7 ≤ 100000 from Wb1.int t_a0 7) (show ivb1 a0 7 = iv a0 7 from Fb1.i t_a0 rfl 7) (fun ri1 ie1 => ?_)
            refine c_get (k := 7) C ck_7 dX6_markStart_27 w1_147 (by decide) t_a0 rfl rfl (by decide) rfl ?_
            refine c_goto (tgt := 34) C dX6_markStart_30 (by decide) ?_
            have ll2 : 500 ≤ ln rb1 ∧ ln rb1 ≤ 500 := Wb1.len trb1 rfl
            refine c_iast (x := ivb1 a0 7) C dX6_markStart_34 trb1 rfl (by omega) (by omega) (by omega) (fun iv2 pq2 => ?_)
            refine hv2 (Wb1.puti pq2 trb1 (show (-2147483648) ≤ (ivb1 a0 7) ∧ (ivb1 a0 7) ≤ 2147483647 by omega) rfl) (Fb1.puti hX0 pq2 trb1 rfl) (fun W2 F2 => ?_)
            refine c_iinc (z := k) (j := 0) (lv2 := [(3, .int (iI (k + 1))), (0, .ref a0), (1, .int (iI i)), (2, .int (iI n))]) C dX6_markStart_35 rfl (by decide) rfl ?_
            refine c_goto (tgt := 2) C dX6_markStart_38 (by decide) ?_
            refine c_lv (lv2 := [(3, .int (iI (k + 1))), (0, .ref a0), (1, .int (iI i)), (2, .int (iI n))]) [0, 1, 2, 3] rfl ?_
            exact ih1  (k + 1) _ (by omega) W2 F2  (by omega)
  refine c_lv (lv2 := [(3, .int (iI i)), (0, .ref a0), (1, .int (iI i)), (2, .int (iI n))]) [0, 1, 2, 3] rfl ?_
  exact Lp1 510 i _ (by omega) hW hF0  (by omega)
set_option maxHeartbeats 4000000 in
set_option maxRecDepth 100000 in
theorem C_numberAhead {l : Launch} {G : GT} {mi : Nat} {sk : Nat → Nat} {L : List Nat} {cl ln : Nat → Nat} {iv : Nat → Nat → Int} {rv : Nat → Nat → Option Nat}  {a0 : Nat} {a1 : Nat} {i : Int} (hW : WT (g0 G) sk L cl ln iv rv) (hS : SKL sk L cl) (t_a0 : ty L cl a0 15) (t_a1 : ty L cl a1 100) (h_i : -2147483648 ≤ i ∧ i ≤ 2147483647) (hi : 0 ≤ i ∧ i < 500) : Mc l G mi (Phi (g0 G) sk) PHM yX6_numberAhead cX6_numberAhead 4 (some (.object "DotPress$Row")) 1 [.ref a0, .ref a1, .int (iI i)] L cl ln iv rv 0 (fun v L2 cl2 ln2 iv2 rv2 => ∃ f : Option Nat, v = some ((va_rf f)) ∧ L = L2 ∧ cl = cl2 ∧ ln = ln2 ∧ iv = iv2 ∧ rv = rv2 ∧ (∀ b, f = some b → ty L2 cl2 b 20) ∧ (True)) := by
  refine Mc.mk (by decide) (Nat.le_of_ble_eq_true rfl) ?_
  intro p e s m args below meth c A C hM
  refine hv3 (Phi.le hW hS) (show XT L cl ln L cl ln from XT.refl) (show fT [] L cl iv rv iv rv from fT.refl) (fun hph hX0 hF0 => ?_)
  refine c_aload_n (j := 0) (x := a0) C dX6_numberAhead_0 rfl ?_
  obtain ⟨rb1, rq1, trb1⟩ := hW.ref t_a0 0 rfl rfl rfl
  have lnrb1 : 500 ≤ ln rb1 ∧ ln rb1 ≤ 500 := hW.len trb1 rfl
  refine c_getr (k := 0) C ck_7 dX6_numberAhead_1 w1_136 (by decide) t_a0 rfl rfl (by decide) rfl rq1 ?_
  refine c_st (st2 := [.ref rb1]) rfl ?_
  refine c_iload_n (j := 2) C dX6_numberAhead_4 rfl ?_
  have ll1 : 500 ≤ ln rb1 ∧ ln rb1 ≤ 500 := hW.len trb1 rfl
  refine c_iald C dX6_numberAhead_5 trb1 rfl (by omega) (by omega) (by omega) ?_
  have ri1 : (-2147483648) ≤ iv rb1 i.toNat ∧ iv rb1 i.toNat ≤ 2147483647 := hW.int trb1 i.toNat
  refine c_callSN0 (As := [.int (iI (iv rb1 i.toNat))]) (rest := []) C (fun L E => s11_isDigit (iI (iv rb1 i.toNat))) dX6_numberAhead_6 kSN_X6_115 rfl rfl (Nat.le_of_ble_eq_true rfl) ⟨(Nat.le_of_ble_eq_true rfl), (Nat.le_of_ble_eq_true rfl)⟩ (rom0 hph hph (by decide)) ?_
  rcases inn_c (x := iv rb1 i.toNat) (lo := 48) (hi := 57) (r32_c (lo := (-2147483648)) (hi := 2147483647) ri1.1 ri1.2 (by decide) (by decide)) ⟨by decide, by decide⟩ ⟨by decide, by decide⟩ with ⟨hs1a, hs1b, hs1e⟩ | ⟨hs1a, hs1e⟩
  · refine c_st (st2 := [.int (iI 1)]) (by rw [show inn (iI (iv rb1 i.toNat)) 48 57 = iI 1 from hs1e]) ?_
    refine c_if_eq (tgt := 38) C ⟨by decide, by decide⟩ dX6_numberAhead_9 (by decide) (fun z => absurd z (by omega)) (fun _ => ?_)
    refine c_iload_n (j := 2) C dX6_numberAhead_12 rfl ?_
    refine c_aload_n (j := 0) (x := a0) C dX6_numberAhead_13 rfl ?_
    have ri2 : 0 ≤ iv a0 10 ∧ iv a0 10 ≤ 500 := hW.int t_a0 10
    refine c_get (k := 10) C ck_7 dX6_numberAhead_14 w1_152 (by decide) t_a0 rfl rfl (by decide) rfl ?_
    refine c_icmp_le (tgt := 34) C ⟨by omega, by omega⟩ (r32_c (lo := 0) (hi := 500) ri2.1 ri2.2 (by decide) (by decide)) dX6_numberAhead_17 (by decide) (fun c1 => ?_) (fun c1 => ?_)
    · refine c_iconst C dX6_numberAhead_34 ?_
      refine c_goto (tgt := 39) C dX6_numberAhead_35 (by decide) ?_
      refine c_istore_n (lv2 := [(3, .int (iI 1)), (0, .ref a0), (1, .ref a1), (2, .int (iI i))]) C dX6_numberAhead_39 (by decide) rfl ?_
      refine c_aload_n (j := 2) (x := a1) C dX6_numberAhead_40 rfl ?_
      have ri3 : (-2147483648) ≤ iv a1 0 ∧ iv a1 0 ≤ 2147483647 := hW.int t_a1 0
      refine c_get (k := 0) C ck_10 dX6_numberAhead_41 w2_177 (by decide) t_a1 rfl rfl (by decide) rfl ?_
      refine c_iconst C dX6_numberAhead_44 ?_
      refine c_icmp_ne (tgt := 61) C (r32_c (lo := (-2147483648)) (hi := 2147483647) ri3.1 ri3.2 (by decide) (by decide)) ⟨by decide, by decide⟩ dX6_numberAhead_45 (by decide) (fun c2 => ?_) (fun c2 => ?_)
      · refine c_null C dX6_numberAhead_61 ?_
        exact c_aret (x := none) C dX6_numberAhead_62 rfl (Or.inl ⟨_, rfl⟩) (by decide) (rom0 hph hph (by decide)) ⟨none, rfl, rfl, rfl, rfl, rfl, rfl, (fun _ q => by cases q), trivial⟩
      · refine c_iload_n (j := 0) C dX6_numberAhead_48 rfl ?_
        refine c_if_eq (tgt := 61) C ⟨by decide, by decide⟩ dX6_numberAhead_49 (by decide) (fun z => absurd z (by omega)) (fun _ => ?_)
        refine c_aload_n (j := 2) (x := a1) C dX6_numberAhead_52 rfl ?_
        obtain ⟨rb2, rq2, trb2⟩ := hW.ref t_a1 6 rfl rfl rfl
        have lnrb2 : 4 ≤ ln rb2 ∧ ln rb2 ≤ 4 := hW.len trb2 rfl
        refine c_getr (k := 6) C ck_10 dX6_numberAhead_53 w2_195 (by decide) t_a1 rfl rfl (by decide) rfl rq2 ?_
        refine c_st (st2 := [.ref rb2]) rfl ?_
        refine c_iconst C dX6_numberAhead_56 ?_
        have ll2 : 4 ≤ ln rb2 ∧ ln rb2 ≤ 4 := hW.len trb2 rfl
        rcases hW.opt trb2 ((1 : Int).toNat) rfl rfl with ⟨nq1, _⟩ | ⟨nb1, nq1, tnb1⟩
        · refine c_aaldR C dX6_numberAhead_57 trb2 rfl (by omega) (by omega) (by omega) nq1 ?_
          refine c_st (st2 := [.null]) rfl ?_
          refine c_goto (tgt := 62) C dX6_numberAhead_58 (by decide) ?_
          exact c_aret (x := none) C dX6_numberAhead_62 rfl (Or.inl ⟨_, rfl⟩) (by decide) (rom0 hph hph (by decide)) ⟨none, rfl, rfl, rfl, rfl, rfl, rfl, (fun _ q => by cases q), trivial⟩
        · have tnb1 : ty L cl nb1 20 := tnb1
          refine c_aaldR C dX6_numberAhead_57 trb2 rfl (by omega) (by omega) (by omega) nq1 ?_
          refine c_st (st2 := [.ref nb1]) rfl ?_
          refine c_goto (tgt := 62) C dX6_numberAhead_58 (by decide) ?_
          exact c_aret (x := some nb1) C dX6_numberAhead_62 rfl (Or.inl ⟨_, rfl⟩) (by decide) (rom0 hph hph (by decide)) ⟨(some nb1), rfl, rfl, rfl, rfl, rfl, rfl, (fun _ q => by cases q; exact tnb1), trivial⟩
    · refine c_aload_n (j := 0) (x := a0) C dX6_numberAhead_20 rfl ?_
      refine c_getr (k := 0) C ck_7 dX6_numberAhead_21 w1_136 (by decide) t_a0 rfl rfl (by decide) rfl rq1 ?_
      refine c_st (st2 := [.ref rb1]) rfl ?_
      refine c_iload_n (j := 2) C dX6_numberAhead_24 rfl ?_
      refine c_iconst C dX6_numberAhead_25 ?_
      refine c_isub C dX6_numberAhead_26 ?_
      refine c_iald C dX6_numberAhead_27 trb1 rfl (by omega) (by omega) (by omega) ?_
      have ri4 : (-2147483648) ≤ iv rb1 ((i - 1).toNat) ∧ iv rb1 ((i - 1).toNat) ≤ 2147483647 := hW.int trb1 ((i - 1).toNat)
      refine c_callSN0 (As := [.int (iI (iv rb1 (i - 1).toNat))]) (rest := []) C (fun L E => s11_isDigit (iI (iv rb1 (i - 1).toNat))) dX6_numberAhead_28 kSN_X6_115 rfl rfl (Nat.le_of_ble_eq_true rfl) ⟨(Nat.le_of_ble_eq_true rfl), (Nat.le_of_ble_eq_true rfl)⟩ (rom0 hph hph (by decide)) ?_
      rcases inn_c (x := iv rb1 (i - 1).toNat) (lo := 48) (hi := 57) ⟨by omega, by omega⟩ ⟨by decide, by decide⟩ ⟨by decide, by decide⟩ with ⟨hs2a, hs2b, hs2e⟩ | ⟨hs2a, hs2e⟩
      · refine c_st (st2 := [.int (iI 1)]) (by rw [show inn (iI (iv rb1 (i - 1).toNat)) 48 57 = iI 1 from hs2e]) ?_
        refine c_if_ne (tgt := 38) C ⟨by decide, by decide⟩ dX6_numberAhead_31 (by decide) (fun _ => ?_) (fun z => absurd z (by omega))
        refine c_iconst C dX6_numberAhead_38 ?_
        refine c_istore_n (lv2 := [(3, .int (iI 0)), (0, .ref a0), (1, .ref a1), (2, .int (iI i))]) C dX6_numberAhead_39 (by decide) rfl ?_
        refine c_aload_n (j := 2) (x := a1) C dX6_numberAhead_40 rfl ?_
        have ri5 : (-2147483648) ≤ iv a1 0 ∧ iv a1 0 ≤ 2147483647 := hW.int t_a1 0
        refine c_get (k := 0) C ck_10 dX6_numberAhead_41 w2_177 (by decide) t_a1 rfl rfl (by decide) rfl ?_
        refine c_iconst C dX6_numberAhead_44 ?_
        refine c_icmp_ne (tgt := 61) C (r32_c (lo := (-2147483648)) (hi := 2147483647) ri5.1 ri5.2 (by decide) (by decide)) ⟨by decide, by decide⟩ dX6_numberAhead_45 (by decide) (fun c3 => ?_) (fun c3 => ?_)
        · refine c_null C dX6_numberAhead_61 ?_
          exact c_aret (x := none) C dX6_numberAhead_62 rfl (Or.inl ⟨_, rfl⟩) (by decide) (rom0 hph hph (by decide)) ⟨none, rfl, rfl, rfl, rfl, rfl, rfl, (fun _ q => by cases q), trivial⟩
        · refine c_iload_n (j := 0) C dX6_numberAhead_48 rfl ?_
          refine c_if_eq (tgt := 61) C ⟨by decide, by decide⟩ dX6_numberAhead_49 (by decide) (fun _ => ?_) (fun z => absurd z (by omega))
          refine c_null C dX6_numberAhead_61 ?_
          exact c_aret (x := none) C dX6_numberAhead_62 rfl (Or.inl ⟨_, rfl⟩) (by decide) (rom0 hph hph (by decide)) ⟨none, rfl, rfl, rfl, rfl, rfl, rfl, (fun _ q => by cases q), trivial⟩
      · refine c_st (st2 := [.int (iI 0)]) (by rw [show inn (iI (iv rb1 (i - 1).toNat)) 48 57 = iI 0 from hs2e]) ?_
        refine c_if_ne (tgt := 38) C ⟨by decide, by decide⟩ dX6_numberAhead_31 (by decide) (fun z => absurd z (by omega)) (fun _ => ?_)
        refine c_iconst C dX6_numberAhead_34 ?_
        refine c_goto (tgt := 39) C dX6_numberAhead_35 (by decide) ?_
        refine c_istore_n (lv2 := [(3, .int (iI 1)), (0, .ref a0), (1, .ref a1), (2, .int (iI i))]) C dX6_numberAhead_39 (by decide) rfl ?_
        refine c_aload_n (j := 2) (x := a1) C dX6_numberAhead_40 rfl ?_
        have ri6 : (-2147483648) ≤ iv a1 0 ∧ iv a1 0 ≤ 2147483647 := hW.int t_a1 0
        refine c_get (k := 0) C ck_10 dX6_numberAhead_41 w2_177 (by decide) t_a1 rfl rfl (by decide) rfl ?_
        refine c_iconst C dX6_numberAhead_44 ?_
        refine c_icmp_ne (tgt := 61) C (r32_c (lo := (-2147483648)) (hi := 2147483647) ri6.1 ri6.2 (by decide) (by decide)) ⟨by decide, by decide⟩ dX6_numberAhead_45 (by decide) (fun c4 => ?_) (fun c4 => ?_)
        · refine c_null C dX6_numberAhead_61 ?_
          exact c_aret (x := none) C dX6_numberAhead_62 rfl (Or.inl ⟨_, rfl⟩) (by decide) (rom0 hph hph (by decide)) ⟨none, rfl, rfl, rfl, rfl, rfl, rfl, (fun _ q => by cases q), trivial⟩
        · refine c_iload_n (j := 0) C dX6_numberAhead_48 rfl ?_
          refine c_if_eq (tgt := 61) C ⟨by decide, by decide⟩ dX6_numberAhead_49 (by decide) (fun z => absurd z (by omega)) (fun _ => ?_)
          refine c_aload_n (j := 2) (x := a1) C dX6_numberAhead_52 rfl ?_
          obtain ⟨rb3, rq3, trb3⟩ := hW.ref t_a1 6 rfl rfl rfl
          have lnrb3 : 4 ≤ ln rb3 ∧ ln rb3 ≤ 4 := hW.len trb3 rfl
          refine c_getr (k := 6) C ck_10 dX6_numberAhead_53 w2_195 (by decide) t_a1 rfl rfl (by decide) rfl rq3 ?_
          refine c_st (st2 := [.ref rb3]) rfl ?_
          refine c_iconst C dX6_numberAhead_56 ?_
          have ll3 : 4 ≤ ln rb3 ∧ ln rb3 ≤ 4 := hW.len trb3 rfl
          rcases hW.opt trb3 ((1 : Int).toNat) rfl rfl with ⟨nq2, _⟩ | ⟨nb2, nq2, tnb2⟩
          · refine c_aaldR C dX6_numberAhead_57 trb3 rfl (by omega) (by omega) (by omega) nq2 ?_
            refine c_st (st2 := [.null]) rfl ?_
            refine c_goto (tgt := 62) C dX6_numberAhead_58 (by decide) ?_
            exact c_aret (x := none) C dX6_numberAhead_62 rfl (Or.inl ⟨_, rfl⟩) (by decide) (rom0 hph hph (by decide)) ⟨none, rfl, rfl, rfl, rfl, rfl, rfl, (fun _ q => by cases q), trivial⟩
          · have tnb2 : ty L cl nb2 20 := tnb2
            refine c_aaldR C dX6_numberAhead_57 trb3 rfl (by omega) (by omega) (by omega) nq2 ?_
            refine c_st (st2 := [.ref nb2]) rfl ?_
            refine c_goto (tgt := 62) C dX6_numberAhead_58 (by decide) ?_
            exact c_aret (x := some nb2) C dX6_numberAhead_62 rfl (Or.inl ⟨_, rfl⟩) (by decide) (rom0 hph hph (by decide)) ⟨(some nb2), rfl, rfl, rfl, rfl, rfl, rfl, (fun _ q => by cases q; exact tnb2), trivial⟩
  · refine c_st (st2 := [.int (iI 0)]) (by rw [show inn (iI (iv rb1 i.toNat)) 48 57 = iI 0 from hs1e]) ?_
    refine c_if_eq (tgt := 38) C ⟨by decide, by decide⟩ dX6_numberAhead_9 (by decide) (fun _ => ?_) (fun z => absurd z (by omega))
    refine c_iconst C dX6_numberAhead_38 ?_
    refine c_istore_n (lv2 := [(3, .int (iI 0)), (0, .ref a0), (1, .ref a1), (2, .int (iI i))]) C dX6_numberAhead_39 (by decide) rfl ?_
    refine c_aload_n (j := 2) (x := a1) C dX6_numberAhead_40 rfl ?_
    have ri7 : (-2147483648) ≤ iv a1 0 ∧ iv a1 0 ≤ 2147483647 := hW.int t_a1 0
    refine c_get (k := 0) C ck_10 dX6_numberAhead_41 w2_177 (by decide) t_a1 rfl rfl (by decide) rfl ?_
    refine c_iconst C dX6_numberAhead_44 ?_
    refine c_icmp_ne (tgt := 61) C (r32_c (lo := (-2147483648)) (hi := 2147483647) ri7.1 ri7.2 (by decide) (by decide)) ⟨by decide, by decide⟩ dX6_numberAhead_45 (by decide) (fun c5 => ?_) (fun c5 => ?_)
    · refine c_null C dX6_numberAhead_61 ?_
      exact c_aret (x := none) C dX6_numberAhead_62 rfl (Or.inl ⟨_, rfl⟩) (by decide) (rom0 hph hph (by decide)) ⟨none, rfl, rfl, rfl, rfl, rfl, rfl, (fun _ q => by cases q), trivial⟩
    · refine c_iload_n (j := 0) C dX6_numberAhead_48 rfl ?_
      refine c_if_eq (tgt := 61) C ⟨by decide, by decide⟩ dX6_numberAhead_49 (by decide) (fun _ => ?_) (fun z => absurd z (by omega))
      refine c_null C dX6_numberAhead_61 ?_
      exact c_aret (x := none) C dX6_numberAhead_62 rfl (Or.inl ⟨_, rfl⟩) (by decide) (rom0 hph hph (by decide)) ⟨none, rfl, rfl, rfl, rfl, rfl, rfl, (fun _ q => by cases q), trivial⟩
end
section
set_option maxHeartbeats 4000000 in
set_option maxRecDepth 100000 in
theorem C_setPart {l : Launch} {G : GT} {mi : Nat} {sk : Nat → Nat} {L : List Nat} {cl ln : Nat → Nat} {iv : Nat → Nat → Int} {rv : Nat → Nat → Option Nat}  {a0 : Nat} {r : Option Nat} {i : Int} {n : Int} (hW : WT (g0 G) sk L cl ln iv rv) (hS : SKL sk L cl) (t_a0 : ty L cl a0 15) (t_r : ∀ b, r = some b → ty L cl b 100) (h_i : -2147483648 ≤ i ∧ i ≤ 2147483647) (h_n : -2147483648 ≤ n ∧ n ≤ 2147483647) (hi : 0 ≤ i ∧ i ≤ 500 ∧ 0 ≤ n ∧ n ≤ 500 ∧ iv a0 7 ≤ 50000) : Mc l G mi (Phi (g0 G) sk) PHM yX6_setPart cX6_setPart 9 (some .int) 5 [.ref a0, va_rf r, .int (iI i), .int (iI n)] L cl ln iv rv 0 (fun v L2 cl2 ln2 iv2 rv2 => ∃ f : Int, v = some (.int (iI f)) ∧ L = L2 ∧ cl = cl2 ∧ ln = ln2 ∧ rv = rv2 ∧ fT [15, 53, 54, 55] L cl iv rv iv2 rv2 ∧ WT (g0 G) sk L2 cl2 ln2 iv2 rv2 ∧ (-2147483648 ≤ f ∧ f ≤ 2147483647) ∧ ((f = 0 ∨ f = 6 ∨ f = 7) ∧ iv2 a0 4 = iv a0 4 ∧ iv2 a0 7 ≤ iv a0 7 + 208 ∧ (f = 0 → (iv2 a0 7 ≤ iv a0 7 ∨ iv2 a0 7 ≤ 200)))) := by
  refine Mc.mk (by decide) (by cases r <;> exact Nat.le_of_ble_eq_true rfl) ?_
  intro p e s m args below meth c A C hM
  have hph := Phi.le hW hS
  refine c_lveq (show lv_args 0 [.ref a0, va_rf r, .int (iI i), .int (iI n)] = [(0, .ref a0), (1, (va_rf r)), (2, .int (iI i)), (3, .int (iI n))] from by cases r <;> rfl) ?_
  refine hv3 (show 0 ≤ iv a0 7 from (hW.int t_a0 7).1) (show XT L cl ln L cl ln from XT.refl) (show fT [15, 53, 54, 55] L cl iv rv iv rv from fT.refl) (fun hc00 hX0 hF0 => ?_)
  refine c_aloadr_n (j := 1) (r := r) C dX6_setPart_0 rfl ?_
  refine c_ifnonnull (r := r) (tgt := 6) C dX6_setPart_1 (by decide) (fun ob1 oq1 => ?_) (fun oq1 => ?_)
  · subst oq1
    have tob1 := t_r ob1 rfl
    refine c_lv (lv2 := [(0, .ref a0), (1, .ref ob1), (2, .int (iI i)), (3, .int (iI n))]) [0, 1, 2, 3] rfl ?_
    refine c_st (st2 := []) rfl ?_
    refine c_aload_n (j := 0) (x := a0) C dX6_setPart_6 rfl ?_
    refine c_iload_n (j := 2) C dX6_setPart_7 rfl ?_
    refine c_put (z := i) (k := 10) C ck_7 dX6_setPart_8 w1_152 (by decide) rfl t_a0 rfl rfl (by decide) rfl (by rfl) (by rfl) (fun iv1 pq1 => ?_)
    refine hv2 (hW.puti pq1 t_a0 (show 0 ≤ i ∧ i ≤ 500 by omega) rfl) (hF0.puti hX0 pq1 t_a0 rfl) (fun W1 F1 => ?_)
    refine c_aload_n (j := 0) (x := a0) C dX6_setPart_11 rfl ?_
    refine c_iload_n (j := 3) C dX6_setPart_12 rfl ?_
    refine c_put (z := n) (k := 11) C ck_7 dX6_setPart_13 w1_153 (by decide) rfl t_a0 rfl rfl (by decide) rfl (by rfl) (by rfl) (fun iv2 pq2 => ?_)
    refine hv2 (W1.puti pq2 t_a0 (show 0 ≤ n ∧ n ≤ 500 by omega) rfl) (F1.puti hX0 pq2 t_a0 rfl) (fun W2 F2 => ?_)
    have Lp1 : ∀ (nn : Nat) (cp : Option Nat) (aq : Int) (ivb1 : Nat → Nat → Int) , 509 - aq < (nn : Int) → WT (g0 G) sk L cl ln ivb1 rv → fT [15, 53, 54, 55] L cl iv rv ivb1 rv → (∀ b, cp = some b → ty L cl b 20) → (i ≤ aq ∧ aq ≤ 508) → (ivb1 a0 7 ≤ iv a0 7 ∨ ivb1 a0 7 ≤ 200) → (ivb1 a0 4 = iv a0 4) → cw p l e 5 ((PHM) + 0 - ((Phi (g0 G) sk) ln rv)) s m args below meth c G A 9 (MQ below (Qu G A (Qp G (Phi (g0 G) sk) ((Phi (g0 G) sk) ln rv) 0 (fun v L2 cl2 ln2 iv2 rv2 => ∃ f : Int, v = some (.int (iI f)) ∧ L = L2 ∧ cl = cl2 ∧ ln = ln2 ∧ rv = rv2 ∧ fT [15, 53, 54, 55] L cl iv rv iv2 rv2 ∧ WT (g0 G) sk L2 cl2 ln2 iv2 rv2 ∧ (-2147483648 ≤ f ∧ f ≤ 2147483647) ∧ ((f = 0 ∨ f = 6 ∨ f = 7) ∧ iv2 a0 4 = iv a0 4 ∧ iv2 a0 7 ≤ iv a0 7 + 208 ∧ (f = 0 → (iv2 a0 7 ≤ iv a0 7 ∨ iv2 a0 7 ≤ 200)))))) args s (((PHM) + 0 - ((Phi (g0 G) sk) ln rv)) / 16) ((PHM) + 0 - ((Phi (g0 G) sk) ln rv)) A) (Phi (g0 G) sk) ((Phi (g0 G) sk) ln rv) L cl ln ivb1 rv 0 39 [(4, (va_rf cp)), (5, .int (iI aq)), (0, .ref a0), (1, .ref ob1), (2, .int (iI i)), (3, .int (iI n))] [] := by
      intro nn
      induction nn with
      | zero =>
        intro cp aq ivb1 hm Wb1 Fb1 ty_cp hat hc7 hc4
        exact absurd hm (by omega)
      | succ nn ih1 =>
        intro cp aq ivb1 hm Wb1 Fb1 ty_cp hat hc7 hc4
        refine c_iload (j := 1) C dX6_setPart_39 rfl ?_
        refine c_iload_n (j := 5) C dX6_setPart_41 rfl ?_
        refine c_icmp_ge (tgt := 179) C ⟨by omega, by omega⟩ ⟨by omega, by omega⟩ dX6_setPart_42 (by decide) (fun c1 => ?_) (fun c1 => ?_)
        · refine c_iconst C dX6_setPart_179 ?_
          refine hv2 (show 0 ≤ ivb1 a0 4 ∧ ivb1 a0 4 ≤ 500 from Wb1.int t_a0 4) (show 0 ≤ ivb1 a0 7 ∧ ivb1 a0 7 ≤ 100000 from Wb1.int t_a0 7) (fun ri1 ri2 => ?_)
          exact c_iret C dX6_setPart_180 rfl (by decide) (rom0 hph hph (by decide)) ⟨0, rfl, rfl, rfl, rfl, rfl, Fb1, Wb1, ⟨by decide, by decide⟩, (by omega)⟩
        · refine c_aload_n (j := 2) (x := a0) C dX6_setPart_45 rfl ?_
          obtain ⟨rb1, rq1, trb1⟩ := Wb1.ref t_a0 0 rfl rfl rfl
          have lnrb1 : 500 ≤ ln rb1 ∧ ln rb1 ≤ 500 := Wb1.len trb1 rfl
          refine c_getr (k := 0) C ck_7 dX6_setPart_46 w1_136 (by decide) t_a0 rfl rfl (by decide) rfl rq1 ?_
          refine c_st (st2 := [.ref rb1]) rfl ?_
          refine c_iload (j := 1) C dX6_setPart_49 rfl ?_
          have ll1 : 500 ≤ ln rb1 ∧ ln rb1 ≤ 500 := Wb1.len trb1 rfl
          refine c_iald C dX6_setPart_51 trb1 rfl (by omega) (by omega) (by omega) ?_
          refine hv2 (show (-2147483648) ≤ ivb1 rb1 aq.toNat ∧ ivb1 rb1 aq.toNat ≤ 2147483647 from Wb1.int trb1 aq.toNat) (show ivb1 rb1 aq.toNat = iv rb1 aq.toNat from Fb1.i trb1 rfl aq.toNat) (fun ri3 ie3 => ?_)
          refine c_istore (lv2 := [(6, .int (iI (ivb1 rb1 aq.toNat))), (4, (va_rf cp)), (5, .int (iI aq)), (0, .ref a0), (1, .ref ob1), (2, .int (iI i)), (3, .int (iI n))]) C dX6_setPart_52 (by decide) rfl ?_
          refine c_aload_n (j := 3) (x := a0) C dX6_setPart_54 rfl ?_
          refine c_aload_n (j := 4) (x := ob1) C dX6_setPart_55 rfl ?_
          refine c_iload (j := 2) C dX6_setPart_56 rfl ?_
          refine d_callV (As := [.ref ob1, .int (iI aq)]) (rest := []) C hM (C_numberAhead (a0 := a0) (a1 := ob1) (i := aq) Wb1 hS t_a0 tob1 (by omega) (by show 0 ≤ aq ∧ aq < 500; omega)) dX6_setPart_58 kV_X6_90 rfl t_a0 rfl rfl (by decide) ck_7 rfl (Nat.le_of_ble_eq_true rfl) ⟨(Nat.le_of_ble_eq_true rfl), (Nat.le_of_ble_eq_true rfl)⟩ hph hph (show 0 + 0 = 0 from rfl) (by decide) (fun rh1 Lh1 clh1 lnh1 ivh1 rvh1 h1 => ?_)
          obtain ⟨f1, rfl, rfl, rfl, rfl, rfl, rfl, rgf1, exf1⟩ := h1
          refine c_st (st2 := [(va_rf f1)]) rfl ?_
          refine c_astorer (r := f1) (lv2 := [(7, (va_rf f1)), (6, .int (iI (ivb1 rb1 aq.toNat))), (4, (va_rf cp)), (5, .int (iI aq)), (0, .ref a0), (1, .ref ob1), (2, .int (iI i)), (3, .int (iI n))]) C dX6_setPart_61 (by decide) rfl ?_
          refine c_aload_n (j := 4) (x := a0) C dX6_setPart_63 rfl ?_
          refine c_aload_n (j := 5) (x := ob1) C dX6_setPart_64 rfl ?_
          refine c_iload (j := 3) C dX6_setPart_65 rfl ?_
          refine c_iload (j := 1) C dX6_setPart_67 rfl ?_
          refine d_callV (As := [.ref ob1, .int (iI aq), .int (iI (ivb1 rb1 aq.toNat))]) (rest := []) C hM (C_find (a0 := a0) (a1 := ob1) (i := aq) (x := ivb1 rb1 aq.toNat) Wb1 hS t_a0 tob1 (by omega) (by omega) (by show 0 ≤ aq ∧ aq ≤ 500; omega)) dX6_setPart_69 kV_X6_94 rfl t_a0 rfl rfl (by decide) ck_7 rfl (Nat.le_of_ble_eq_true rfl) ⟨(Nat.le_of_ble_eq_true rfl), (Nat.le_of_ble_eq_true rfl)⟩ hph hph (show 0 + 0 = 0 from rfl) (by decide) (fun rh2 Lh2 clh2 lnh2 ivh2 rvh2 h2 => ?_)
          obtain ⟨f2, rfl, rfl, rfl, rfl, rfl, fl2, W4, rgf2, exf2⟩ := h2
          have F3 := Fb1.call hX0 fl2 rfl
          refine c_st (st2 := [(va_rf f2)]) rfl ?_
          refine c_astorer (r := f2) (lv2 := [(8, (va_rf f2)), (7, (va_rf f1)), (6, .int (iI (ivb1 rb1 aq.toNat))), (4, (va_rf cp)), (5, .int (iI aq)), (0, .ref a0), (1, .ref ob1), (2, .int (iI i)), (3, .int (iI n))]) C dX6_setPart_72 (by decide) (by cases f1 <;> rfl) ?_
          refine c_aloadr (j := 0) (r := f2) C dX6_setPart_74 rfl ?_
          refine c_ifnonnull (r := f2) (tgt := 110) C dX6_setPart_76 (by decide) (fun ob2 oq2 => ?_) (fun oq2 => ?_)
          · subst oq2
            have tob2 := rgf2 ob2 rfl
            refine c_lv (lv2 := [(8, .ref ob2), (7, (va_rf f1)), (6, .int (iI (ivb1 rb1 aq.toNat))), (4, (va_rf cp)), (5, .int (iI aq)), (0, .ref a0), (1, .ref ob1), (2, .int (iI i)), (3, .int (iI n))]) [0, 1, 2, 3, 4, 5, 6, 7, 8] rfl ?_
            refine c_st (st2 := []) rfl ?_
            refine c_aload (j := 0) (x := ob2) C dX6_setPart_110 rfl ?_
            refine c_ifnonnull (r := (some ob2)) (tgt := 124) C dX6_setPart_112 (by decide) (fun _ _ => ?_) (fun q => by cases q)
            refine c_aload_n (j := 5) (x := a0) C dX6_setPart_124 rfl ?_
            refine c_iload (j := 4) C dX6_setPart_125 rfl ?_
            refine c_aload (j := 0) (x := ob2) C dX6_setPart_127 rfl ?_
            obtain ⟨rb2, rq2, trb2⟩ := W4.ref tob2 1 rfl rfl rfl
            have lnrb2 : 0 ≤ ln rb2 ∧ ln rb2 ≤ 8 := W4.len trb2 rfl
            refine c_getr (k := 1) C ck_6 dX6_setPart_129 w3_141 (by decide) tob2 rfl rfl (by decide) rfl rq2 ?_
            refine c_st (st2 := [.ref rb2, .int (iI aq), .ref a0]) rfl ?_
            have ll2 : 0 ≤ ln rb2 ∧ ln rb2 ≤ 8 := W4.len trb2 rfl
            refine c_alenI C dX6_setPart_132 trb2 rfl ?_
            refine d_callV (As := [.int (iI aq), .int (iI ((ln rb2 : Nat) : Int))]) (rest := []) C hM (C_markStart (a0 := a0) (i := aq) (n := ((ln rb2 : Nat) : Int)) W4 hS t_a0 (by omega) (by omega) (by show 0 ≤ aq ∧ aq ≤ 500 ∧ 0 ≤ ((ln rb2 : Nat) : Int) ∧ ((ln rb2 : Nat) : Int) ≤ 8; omega)) dX6_setPart_133 kV_X6_105 rfl t_a0 rfl rfl (by decide) ck_7 rfl (Nat.le_of_ble_eq_true rfl) ⟨(Nat.le_of_ble_eq_true rfl), (Nat.le_of_ble_eq_true rfl)⟩ hph hph (show 0 + 0 = 0 from rfl) (by decide) (fun rh3 Lh3 clh3 lnh3 ivh3 rvh3 h3 => ?_)
            obtain ⟨rfl, rfl, rfl, rfl, rfl, fl3, W5, exf3⟩ := h3
            have F4 := F3.call hX0 fl3 rfl
            refine c_st (st2 := []) rfl ?_
            refine c_aload_n (j := 5) (x := a0) C dX6_setPart_136 rfl ?_
            refine c_aloadr (j := 1) (r := f1) C dX6_setPart_137 rfl ?_
            refine hv6 (show 0 ≤ ivh3 a0 7 ∧ ivh3 a0 7 ≤ 100000 from W5.int t_a0 7) (show ivh3 a0 7 = ivh2 a0 7 from fl3.i t_a0 rfl 7) (show ivh2 a0 7 = ivb1 a0 7 from fl2.i t_a0 rfl 7) (show 0 ≤ ivh3 a0 4 ∧ ivh3 a0 4 ≤ 500 from W5.int t_a0 4) (show ivh3 a0 4 = ivh2 a0 4 from fl3.i t_a0 rfl 4) (show ivh2 a0 4 = ivb1 a0 4 from fl2.i t_a0 rfl 4) (fun ri4 ie4 ie5 ri5 ie7 ie8 => ?_)
            refine d_callV (As := [(va_rf f1)]) (rest := []) C hM (C_push (a0 := a0) (r := f1) W5 hS t_a0 rgf1  (by show ivh3 a0 7 ≤ 90000; omega)) dX6_setPart_139 kV_X6_86 rfl t_a0 rfl rfl (by decide) ck_7 rfl (Nat.le_of_ble_eq_true rfl) ⟨(Nat.le_of_ble_eq_true rfl), (Nat.le_of_ble_eq_true rfl)⟩ hph hph (show 0 + 0 = 0 from rfl) (by decide) (fun rh4 Lh4 clh4 lnh4 ivh4 rvh4 h4 => ?_)
            obtain ⟨rfl, rfl, rfl, rfl, rfl, fl4, W6, exf4⟩ := h4
            have F5 := F4.call hX0 fl4 rfl
            refine c_st (st2 := []) rfl ?_
            refine hv3 (show 0 ≤ ivh4 a0 4 ∧ ivh4 a0 4 ≤ 500 from W6.int t_a0 4) (show 0 ≤ ivh4 a0 7 ∧ ivh4 a0 7 ≤ 100000 from W6.int t_a0 7) (show ivh4 a0 4 = ivh3 a0 4 ∧ ivh3 a0 7 ≤ ivh4 a0 7 ∧ ivh4 a0 7 ≤ ivh3 a0 7 + 4 from exf4) (fun ri6 ri7 gf4 => ?_)
            refine c_aload_n (j := 5) (x := a0) C dX6_setPart_142 rfl ?_
            refine c_aload (j := 0) (x := ob2) C dX6_setPart_143 rfl ?_
            refine d_callV (As := [.ref ob2]) (rest := []) C hM (C_push (a0 := a0) (r := (some ob2)) W6 hS t_a0 (fun _ q => by cases q; exact tob2)  (by show ivh4 a0 7 ≤ 90000; omega)) dX6_setPart_145 kV_X6_86 rfl t_a0 rfl rfl (by decide) ck_7 rfl (Nat.le_of_ble_eq_true rfl) ⟨(Nat.le_of_ble_eq_true rfl), (Nat.le_of_ble_eq_true rfl)⟩ hph hph (show 0 + 0 = 0 from rfl) (by decide) (fun rh5 Lh5 clh5 lnh5 ivh5 rvh5 h5 => ?_)
            obtain ⟨rfl, rfl, rfl, rfl, rfl, fl5, W7, exf5⟩ := h5
            have F6 := F5.call hX0 fl5 rfl
            refine c_st (st2 := []) rfl ?_
            refine hv3 (show 0 ≤ ivh5 a0 4 ∧ ivh5 a0 4 ≤ 500 from W7.int t_a0 4) (show 0 ≤ ivh5 a0 7 ∧ ivh5 a0 7 ≤ 100000 from W7.int t_a0 7) (show ivh5 a0 4 = ivh4 a0 4 ∧ ivh4 a0 7 ≤ ivh5 a0 7 ∧ ivh5 a0 7 ≤ ivh4 a0 7 + 4 from exf5) (fun ri8 ri9 gf5 => ?_)
            refine c_aload_n (j := 5) (x := a0) C dX6_setPart_148 rfl ?_
            refine c_get (k := 7) C ck_7 dX6_setPart_149 w1_147 (by decide) t_a0 rfl rfl (by decide) rfl ?_
            refine c_sipush (z := 200) C dX6_setPart_152 (by decide) ?_
            refine c_icmp_le (tgt := 161) C (r32_c (lo := 0) (hi := 100000) ri9.1 ri9.2 (by decide) (by decide)) ⟨by decide, by decide⟩ dX6_setPart_155 (by decide) (fun c2 => ?_) (fun c2 => ?_)
            · refine c_iload (j := 4) C dX6_setPart_161 rfl ?_
              refine c_iconst C dX6_setPart_163 ?_
              refine c_aload (j := 0) (x := ob2) C dX6_setPart_164 rfl ?_
              refine c_getr (k := 1) C ck_6 dX6_setPart_166 w3_141 (by decide) tob2 rfl rfl (by decide) rfl rq2 ?_
              refine c_st (st2 := [.ref rb2, .int (iI 1), .int (iI aq)]) rfl ?_
              refine c_alenI C dX6_setPart_169 trb2 rfl ?_
              obtain ⟨mn1, hmn1, emn1⟩ := mmax_c (x := 1) (y := ((ln rb2 : Nat) : Int)) ⟨by decide, by decide⟩ ⟨by omega, by omega⟩
              refine c_mmax (w := iI mn1) C dX6_setPart_170 w4_130 w2_148 w1_14 w2_149 (by decide) (rom0 hph hph (by decide)) (Nat.le_of_ble_eq_true rfl) emn1 ?_
              refine c_iadd C dX6_setPart_173 ?_
              refine c_istore (lv2 := [(5, .int (iI (aq + mn1))), (8, .ref ob2), (7, (va_rf f1)), (6, .int (iI (ivb1 rb1 aq.toNat))), (4, (va_rf cp)), (0, .ref a0), (1, .ref ob1), (2, .int (iI i)), (3, .int (iI n))]) C dX6_setPart_174 (by decide) (by cases cp <;> rfl) ?_
              refine c_goto (tgt := 39) C dX6_setPart_176 (by decide) ?_
              refine c_lv (lv2 := [(4, (va_rf cp)), (5, .int (iI (aq + mn1))), (0, .ref a0), (1, .ref ob1), (2, .int (iI i)), (3, .int (iI n))]) [4, 0, 5, 6, 7, 8] rfl ?_
              exact ih1  cp (aq + mn1) _ (by omega) W7 F6 ty_cp (by omega) (by show ivh5 a0 7 ≤ iv a0 7 ∨ ivh5 a0 7 ≤ 200; omega) (by show ivh5 a0 4 = iv a0 4; omega)
            · refine c_bipush (z := 6) C dX6_setPart_158 (by decide) ?_
              exact c_iret C dX6_setPart_160 rfl (by decide) (rom0 hph hph (by decide)) ⟨6, rfl, rfl, rfl, rfl, rfl, F6, W7, ⟨by decide, by decide⟩, (by omega)⟩
          · subst oq2
            refine c_lv (lv2 := [(8, .null), (7, (va_rf f1)), (6, .int (iI (ivb1 rb1 aq.toNat))), (4, (va_rf cp)), (5, .int (iI aq)), (0, .ref a0), (1, .ref ob1), (2, .int (iI i)), (3, .int (iI n))]) [0, 1, 2, 3, 4, 5, 6, 7, 8] rfl ?_
            refine c_st (st2 := []) rfl ?_
            refine c_aloadr (j := 3) (r := cp) C dX6_setPart_79 rfl ?_
            refine c_ifnull (r := cp) (tgt := 110) C dX6_setPart_81 (by decide) (fun oq3 => ?_) (fun ob3 oq3 => ?_)
            · subst oq3
              refine c_lv (lv2 := [(8, .null), (7, (va_rf f1)), (6, .int (iI (ivb1 rb1 aq.toNat))), (4, .null), (5, .int (iI aq)), (0, .ref a0), (1, .ref ob1), (2, .int (iI i)), (3, .int (iI n))]) [0, 1, 2, 3, 4, 5, 6, 7, 8] rfl ?_
              refine c_st (st2 := []) rfl ?_
              refine c_aloadr (j := 0) (r := none) C dX6_setPart_110 rfl ?_
              refine c_st (st2 := [.null]) rfl ?_
              refine c_ifnonnull (r := none) (tgt := 124) C dX6_setPart_112 (by decide) (fun _ q => by cases q) (fun _ => ?_)
              refine c_aload_n (j := 5) (x := a0) C dX6_setPart_115 rfl ?_
              refine c_iload (j := 4) C dX6_setPart_116 rfl ?_
              refine c_put (z := aq) (k := 9) C ck_7 dX6_setPart_118 w1_151 (by decide) rfl t_a0 rfl rfl (by decide) rfl (by rfl) (by rfl) (fun iv3 pq3 => ?_)
              refine hv2 (W4.puti pq3 t_a0 (show (-2147483648) ≤ aq ∧ aq ≤ 2147483647 by omega) rfl) (F3.puti hX0 pq3 t_a0 rfl) (fun W8 F7 => ?_)
              refine c_bipush (z := 7) C dX6_setPart_121 (by decide) ?_
              refine hv6 (show 0 ≤ iv3 a0 4 ∧ iv3 a0 4 ≤ 500 from W8.int t_a0 4) (show iv3 a0 4 = ivh2 a0 4 from by rw [pq3]; exact up2_j (by decide)) (show ivh2 a0 4 = ivb1 a0 4 from fl2.i t_a0 rfl 4) (show 0 ≤ iv3 a0 7 ∧ iv3 a0 7 ≤ 100000 from W8.int t_a0 7) (show iv3 a0 7 = ivh2 a0 7 from by rw [pq3]; exact up2_j (by decide)) (show ivh2 a0 7 = ivb1 a0 7 from fl2.i t_a0 rfl 7) (fun ri10 ie14 ie15 ri11 ie17 ie18 => ?_)
              exact c_iret C dX6_setPart_123 rfl (by decide) (rom0 hph hph (by decide)) ⟨7, rfl, rfl, rfl, rfl, rfl, F7, W8, ⟨by decide, by decide⟩, (by omega)⟩
            · subst oq3
              have tob3 := ty_cp ob3 rfl
              refine c_lv (lv2 := [(8, .null), (7, (va_rf f1)), (6, .int (iI (ivb1 rb1 aq.toNat))), (4, .ref ob3), (5, .int (iI aq)), (0, .ref a0), (1, .ref ob1), (2, .int (iI i)), (3, .int (iI n))]) [0, 1, 2, 3, 4, 5, 6, 7, 8] rfl ?_
              refine c_st (st2 := []) rfl ?_
              refine c_iload (j := 2) C dX6_setPart_84 rfl ?_
              refine c_callSN0 (As := [.int (iI (ivb1 rb1 aq.toNat))]) (rest := []) C (fun L E => s11_isGreat (iI (ivb1 rb1 aq.toNat))) dX6_setPart_86 kSN_X6_98 rfl rfl (Nat.le_of_ble_eq_true rfl) ⟨(Nat.le_of_ble_eq_true rfl), (Nat.le_of_ble_eq_true rfl)⟩ (rom0 hph hph (by decide)) ?_
              rcases inn_c (x := ivb1 rb1 aq.toNat) (lo := 65) (hi := 90) (r32_c (lo := (-2147483648)) (hi := 2147483647) ri3.1 ri3.2 (by decide) (by decide)) ⟨by decide, by decide⟩ ⟨by decide, by decide⟩ with ⟨hs1a, hs1b, hs1e⟩ | ⟨hs1a, hs1e⟩
              · refine c_st (st2 := [.int (iI 1)]) (by rw [show inn (iI (ivb1 rb1 aq.toNat)) 65 90 = iI 1 from hs1e]) ?_
                refine c_if_eq (tgt := 110) C ⟨by decide, by decide⟩ dX6_setPart_89 (by decide) (fun z => absurd z (by omega)) (fun _ => ?_)
                refine c_aload (j := 3) (x := ob3) C dX6_setPart_92 rfl ?_
                refine c_astore (lv2 := [(7, .ref ob3), (8, .null), (6, .int (iI (ivb1 rb1 aq.toNat))), (4, .ref ob3), (5, .int (iI aq)), (0, .ref a0), (1, .ref ob1), (2, .int (iI i)), (3, .int (iI n))]) C dX6_setPart_94 (by decide) rfl ?_
                refine c_aload_n (j := 5) (x := a0) C dX6_setPart_96 rfl ?_
                refine c_aload_n (j := 6) (x := ob1) C dX6_setPart_97 rfl ?_
                refine c_iload (j := 4) C dX6_setPart_98 rfl ?_
                refine c_iload (j := 2) C dX6_setPart_100 rfl ?_
                refine c_bipush (z := 32) C dX6_setPart_102 (by decide) ?_
                refine c_iadd C dX6_setPart_104 ?_
                refine d_callV (As := [.ref ob1, .int (iI aq), .int (iI ((ivb1 rb1 aq.toNat) + 32))]) (rest := []) C hM (C_find (a0 := a0) (a1 := ob1) (i := aq) (x := (ivb1 rb1 aq.toNat) + 32) W4 hS t_a0 tob1 (by omega) (by omega) (by show 0 ≤ aq ∧ aq ≤ 500; omega)) dX6_setPart_105 kV_X6_94 rfl t_a0 rfl rfl (by decide) ck_7 rfl (Nat.le_of_ble_eq_true rfl) ⟨(Nat.le_of_ble_eq_true rfl), (Nat.le_of_ble_eq_true rfl)⟩ hph hph (show 0 + 0 = 0 from rfl) (by decide) (fun rh6 Lh6 clh6 lnh6 ivh6 rvh6 h6 => ?_)
                obtain ⟨f6, rfl, rfl, rfl, rfl, rfl, fl6, W9, rgf6, exf6⟩ := h6
                have F8 := F3.call hX0 fl6 rfl
                refine c_st (st2 := [(va_rf f6)]) rfl ?_
                refine c_astorer (r := f6) (lv2 := [(8, (va_rf f6)), (7, .ref ob3), (6, .int (iI (ivb1 rb1 aq.toNat))), (4, .ref ob3), (5, .int (iI aq)), (0, .ref a0), (1, .ref ob1), (2, .int (iI i)), (3, .int (iI n))]) C dX6_setPart_108 (by decide) rfl ?_
                refine c_aloadr (j := 0) (r := f6) C dX6_setPart_110 rfl ?_
                refine c_ifnonnull (r := f6) (tgt := 124) C dX6_setPart_112 (by decide) (fun ob4 oq4 => ?_) (fun oq4 => ?_)
                · subst oq4
                  have tob4 := rgf6 ob4 rfl
                  refine c_lv (lv2 := [(8, .ref ob4), (7, .ref ob3), (6, .int (iI (ivb1 rb1 aq.toNat))), (4, .ref ob3), (5, .int (iI aq)), (0, .ref a0), (1, .ref ob1), (2, .int (iI i)), (3, .int (iI n))]) [0, 1, 2, 3, 4, 5, 6, 7, 8] rfl ?_
                  refine c_st (st2 := []) rfl ?_
                  refine c_aload_n (j := 5) (x := a0) C dX6_setPart_124 rfl ?_
                  refine c_iload (j := 4) C dX6_setPart_125 rfl ?_
                  refine c_aload (j := 0) (x := ob4) C dX6_setPart_127 rfl ?_
                  obtain ⟨rb3, rq3, trb3⟩ := W9.ref tob4 1 rfl rfl rfl
                  have lnrb3 : 0 ≤ ln rb3 ∧ ln rb3 ≤ 8 := W9.len trb3 rfl
                  refine c_getr (k := 1) C ck_6 dX6_setPart_129 w3_141 (by decide) tob4 rfl rfl (by decide) rfl rq3 ?_
                  refine c_st (st2 := [.ref rb3, .int (iI aq), .ref a0]) rfl ?_
                  have ll3 : 0 ≤ ln rb3 ∧ ln rb3 ≤ 8 := W9.len trb3 rfl
                  refine c_alenI C dX6_setPart_132 trb3 rfl ?_
                  refine d_callV (As := [.int (iI aq), .int (iI ((ln rb3 : Nat) : Int))]) (rest := []) C hM (C_markStart (a0 := a0) (i := aq) (n := ((ln rb3 : Nat) : Int)) W9 hS t_a0 (by omega) (by omega) (by show 0 ≤ aq ∧ aq ≤ 500 ∧ 0 ≤ ((ln rb3 : Nat) : Int) ∧ ((ln rb3 : Nat) : Int) ≤ 8; omega)) dX6_setPart_133 kV_X6_105 rfl t_a0 rfl rfl (by decide) ck_7 rfl (Nat.le_of_ble_eq_true rfl) ⟨(Nat.le_of_ble_eq_true rfl), (Nat.le_of_ble_eq_true rfl)⟩ hph hph (show 0 + 0 = 0 from rfl) (by decide) (fun rh7 Lh7 clh7 lnh7 ivh7 rvh7 h7 => ?_)
                  obtain ⟨rfl, rfl, rfl, rfl, rfl, fl7, W10, exf7⟩ := h7
                  have F9 := F8.call hX0 fl7 rfl
                  refine c_st (st2 := []) rfl ?_
                  refine c_aload_n (j := 5) (x := a0) C dX6_setPart_136 rfl ?_
                  refine c_aload (j := 1) (x := ob3) C dX6_setPart_137 rfl ?_
                  refine hv8 (show 0 ≤ ivh7 a0 7 ∧ ivh7 a0 7 ≤ 100000 from W10.int t_a0 7) (show ivh7 a0 7 = ivh6 a0 7 from fl7.i t_a0 rfl 7) (show ivh6 a0 7 = ivh2 a0 7 from fl6.i t_a0 rfl 7) (show ivh2 a0 7 = ivb1 a0 7 from fl2.i t_a0 rfl 7) (show 0 ≤ ivh7 a0 4 ∧ ivh7 a0 4 ≤ 500 from W10.int t_a0 4) (show ivh7 a0 4 = ivh6 a0 4 from fl7.i t_a0 rfl 4) (show ivh6 a0 4 = ivh2 a0 4 from fl6.i t_a0 rfl 4) (show ivh2 a0 4 = ivb1 a0 4 from fl2.i t_a0 rfl 4) (fun ri12 ie20 ie21 ie22 ri13 ie24 ie25 ie26 => ?_)
                  refine d_callV (As := [.ref ob3]) (rest := []) C hM (C_push (a0 := a0) (r := (some ob3)) W10 hS t_a0 (fun _ q => by cases q; exact tob3)  (by show ivh7 a0 7 ≤ 90000; omega)) dX6_setPart_139 kV_X6_86 rfl t_a0 rfl rfl (by decide) ck_7 rfl (Nat.le_of_ble_eq_true rfl) ⟨(Nat.le_of_ble_eq_true rfl), (Nat.le_of_ble_eq_true rfl)⟩ hph hph (show 0 + 0 = 0 from rfl) (by decide) (fun rh8 Lh8 clh8 lnh8 ivh8 rvh8 h8 => ?_)
                  obtain ⟨rfl, rfl, rfl, rfl, rfl, fl8, W11, exf8⟩ := h8
                  have F10 := F9.call hX0 fl8 rfl
                  refine c_st (st2 := []) rfl ?_
                  refine hv3 (show 0 ≤ ivh8 a0 4 ∧ ivh8 a0 4 ≤ 500 from W11.int t_a0 4) (show 0 ≤ ivh8 a0 7 ∧ ivh8 a0 7 ≤ 100000 from W11.int t_a0 7) (show ivh8 a0 4 = ivh7 a0 4 ∧ ivh7 a0 7 ≤ ivh8 a0 7 ∧ ivh8 a0 7 ≤ ivh7 a0 7 + 4 from exf8) (fun ri14 ri15 gf8 => ?_)
                  refine c_aload_n (j := 5) (x := a0) C dX6_setPart_142 rfl ?_
                  refine c_aload (j := 0) (x := ob4) C dX6_setPart_143 rfl ?_
                  refine d_callV (As := [.ref ob4]) (rest := []) C hM (C_push (a0 := a0) (r := (some ob4)) W11 hS t_a0 (fun _ q => by cases q; exact tob4)  (by show ivh8 a0 7 ≤ 90000; omega)) dX6_setPart_145 kV_X6_86 rfl t_a0 rfl rfl (by decide) ck_7 rfl (Nat.le_of_ble_eq_true rfl) ⟨(Nat.le_of_ble_eq_true rfl), (Nat.le_of_ble_eq_true rfl)⟩ hph hph (show 0 + 0 = 0 from rfl) (by decide) (fun rh9 Lh9 clh9 lnh9 ivh9 rvh9 h9 => ?_)
                  obtain ⟨rfl, rfl, rfl, rfl, rfl, fl9, W12, exf9⟩ := h9
                  have F11 := F10.call hX0 fl9 rfl
                  refine c_st (st2 := []) rfl ?_
                  refine hv3 (show 0 ≤ ivh9 a0 4 ∧ ivh9 a0 4 ≤ 500 from W12.int t_a0 4) (show 0 ≤ ivh9 a0 7 ∧ ivh9 a0 7 ≤ 100000 from W12.int t_a0 7) (show ivh9 a0 4 = ivh8 a0 4 ∧ ivh8 a0 7 ≤ ivh9 a0 7 ∧ ivh9 a0 7 ≤ ivh8 a0 7 + 4 from exf9) (fun ri16 ri17 gf9 => ?_)
                  refine c_aload_n (j := 5) (x := a0) C dX6_setPart_148 rfl ?_
                  refine c_get (k := 7) C ck_7 dX6_setPart_149 w1_147 (by decide) t_a0 rfl rfl (by decide) rfl ?_
                  refine c_sipush (z := 200) C dX6_setPart_152 (by decide) ?_
                  refine c_icmp_le (tgt := 161) C (r32_c (lo := 0) (hi := 100000) ri17.1 ri17.2 (by decide) (by decide)) ⟨by decide, by decide⟩ dX6_setPart_155 (by decide) (fun c3 => ?_) (fun c3 => ?_)
                  · refine c_iload (j := 4) C dX6_setPart_161 rfl ?_
                    refine c_iconst C dX6_setPart_163 ?_
                    refine c_aload (j := 0) (x := ob4) C dX6_setPart_164 rfl ?_
                    refine c_getr (k := 1) C ck_6 dX6_setPart_166 w3_141 (by decide) tob4 rfl rfl (by decide) rfl rq3 ?_
                    refine c_st (st2 := [.ref rb3, .int (iI 1), .int (iI aq)]) rfl ?_
                    refine c_alenI C dX6_setPart_169 trb3 rfl ?_
                    obtain ⟨mn2, hmn2, emn2⟩ := mmax_c (x := 1) (y := ((ln rb3 : Nat) : Int)) ⟨by decide, by decide⟩ ⟨by omega, by omega⟩
                    refine c_mmax (w := iI mn2) C dX6_setPart_170 w4_130 w2_148 w1_14 w2_149 (by decide) (rom0 hph hph (by decide)) (Nat.le_of_ble_eq_true rfl) emn2 ?_
                    refine c_iadd C dX6_setPart_173 ?_
                    refine c_istore (lv2 := [(5, .int (iI (aq + mn2))), (8, .ref ob4), (7, .ref ob3), (6, .int (iI (ivb1 rb1 aq.toNat))), (4, .ref ob3), (0, .ref a0), (1, .ref ob1), (2, .int (iI i)), (3, .int (iI n))]) C dX6_setPart_174 (by decide) rfl ?_
                    refine c_goto (tgt := 39) C dX6_setPart_176 (by decide) ?_
                    refine c_lv (lv2 := [(4, .ref ob3), (5, .int (iI (aq + mn2))), (0, .ref a0), (1, .ref ob1), (2, .int (iI i)), (3, .int (iI n))]) [4, 0, 5, 6, 7, 8] rfl ?_
                    exact ih1  (some ob3) (aq + mn2) _ (by omega) W12 F11 (fun _ q => by cases q; exact tob3) (by omega) (by show ivh9 a0 7 ≤ iv a0 7 ∨ ivh9 a0 7 ≤ 200; omega) (by show ivh9 a0 4 = iv a0 4; omega)
                  · refine c_bipush (z := 6) C dX6_setPart_158 (by decide) ?_
                    exact c_iret C dX6_setPart_160 rfl (by decide) (rom0 hph hph (by decide)) ⟨6, rfl, rfl, rfl, rfl, rfl, F11, W12, ⟨by decide, by decide⟩, (by omega)⟩
                · subst oq4
                  refine c_lv (lv2 := [(8, .null), (7, .ref ob3), (6, .int (iI (ivb1 rb1 aq.toNat))), (4, .ref ob3), (5, .int (iI aq)), (0, .ref a0), (1, .ref ob1), (2, .int (iI i)), (3, .int (iI n))]) [0, 1, 2, 3, 4, 5, 6, 7, 8] rfl ?_
                  refine c_st (st2 := []) rfl ?_
                  refine c_aload_n (j := 5) (x := a0) C dX6_setPart_115 rfl ?_
                  refine c_iload (j := 4) C dX6_setPart_116 rfl ?_
                  refine c_put (z := aq) (k := 9) C ck_7 dX6_setPart_118 w1_151 (by decide) rfl t_a0 rfl rfl (by decide) rfl (by rfl) (by rfl) (fun iv4 pq4 => ?_)
                  refine hv2 (W9.puti pq4 t_a0 (show (-2147483648) ≤ aq ∧ aq ≤ 2147483647 by omega) rfl) (F8.puti hX0 pq4 t_a0 rfl) (fun W13 F12 => ?_)
                  refine c_bipush (z := 7) C dX6_setPart_121 (by decide) ?_
                  refine hv8 (show 0 ≤ iv4 a0 4 ∧ iv4 a0 4 ≤ 500 from W13.int t_a0 4) (show iv4 a0 4 = ivh6 a0 4 from by rw [pq4]; exact up2_j (by decide)) (show ivh6 a0 4 = ivh2 a0 4 from fl6.i t_a0 rfl 4) (show ivh2 a0 4 = ivb1 a0 4 from fl2.i t_a0 rfl 4) (show 0 ≤ iv4 a0 7 ∧ iv4 a0 7 ≤ 100000 from W13.int t_a0 7) (show iv4 a0 7 = ivh6 a0 7 from by rw [pq4]; exact up2_j (by decide)) (show ivh6 a0 7 = ivh2 a0 7 from fl6.i t_a0 rfl 7) (show ivh2 a0 7 = ivb1 a0 7 from fl2.i t_a0 rfl 7) (fun ri18 ie32 ie33 ie34 ri19 ie36 ie37 ie38 => ?_)
                  exact c_iret C dX6_setPart_123 rfl (by decide) (rom0 hph hph (by decide)) ⟨7, rfl, rfl, rfl, rfl, rfl, F12, W13, ⟨by decide, by decide⟩, (by omega)⟩
              · refine c_st (st2 := [.int (iI 0)]) (by rw [show inn (iI (ivb1 rb1 aq.toNat)) 65 90 = iI 0 from hs1e]) ?_
                refine c_if_eq (tgt := 110) C ⟨by decide, by decide⟩ dX6_setPart_89 (by decide) (fun _ => ?_) (fun z => absurd z (by omega))
                refine c_aloadr (j := 0) (r := none) C dX6_setPart_110 rfl ?_
                refine c_st (st2 := [.null]) rfl ?_
                refine c_ifnonnull (r := none) (tgt := 124) C dX6_setPart_112 (by decide) (fun _ q => by cases q) (fun _ => ?_)
                refine c_aload_n (j := 5) (x := a0) C dX6_setPart_115 rfl ?_
                refine c_iload (j := 4) C dX6_setPart_116 rfl ?_
                refine c_put (z := aq) (k := 9) C ck_7 dX6_setPart_118 w1_151 (by decide) rfl t_a0 rfl rfl (by decide) rfl (by rfl) (by rfl) (fun iv5 pq5 => ?_)
                refine hv2 (W4.puti pq5 t_a0 (show (-2147483648) ≤ aq ∧ aq ≤ 2147483647 by omega) rfl) (F3.puti hX0 pq5 t_a0 rfl) (fun W14 F13 => ?_)
                refine c_bipush (z := 7) C dX6_setPart_121 (by decide) ?_
                refine hv6 (show 0 ≤ iv5 a0 4 ∧ iv5 a0 4 ≤ 500 from W14.int t_a0 4) (show iv5 a0 4 = ivh2 a0 4 from by rw [pq5]; exact up2_j (by decide)) (show ivh2 a0 4 = ivb1 a0 4 from fl2.i t_a0 rfl 4) (show 0 ≤ iv5 a0 7 ∧ iv5 a0 7 ≤ 100000 from W14.int t_a0 7) (show iv5 a0 7 = ivh2 a0 7 from by rw [pq5]; exact up2_j (by decide)) (show ivh2 a0 7 = ivb1 a0 7 from fl2.i t_a0 rfl 7) (fun ri20 ie40 ie41 ri21 ie43 ie44 => ?_)
                exact c_iret C dX6_setPart_123 rfl (by decide) (rom0 hph hph (by decide)) ⟨7, rfl, rfl, rfl, rfl, rfl, F13, W14, ⟨by decide, by decide⟩, (by omega)⟩
    refine c_aload_n (j := 1) (x := ob1) C dX6_setPart_16 rfl ?_
    refine hv3 (show (-2147483648) ≤ iv2 ob1 0 ∧ iv2 ob1 0 ≤ 2147483647 from W2.int tob1 0) (show iv2 ob1 0 = iv1 ob1 0 from by rw [pq2]; exact up2_k (ne_ty tob1 t_a0 (by decide))) (show iv1 ob1 0 = iv ob1 0 from by rw [pq1]; exact up2_k (ne_ty tob1 t_a0 (by decide))) (fun ri22 ie46 ie47 => ?_)
    refine c_get (k := 0) C ck_10 dX6_setPart_17 w2_177 (by decide) tob1 rfl rfl (by decide) rfl ?_
    refine c_iconst C dX6_setPart_20 ?_
    refine c_icmp_gt (tgt := 33) C (r32_c (lo := (-2147483648)) (hi := 2147483647) ri22.1 ri22.2 (by decide) (by decide)) ⟨by decide, by decide⟩ dX6_setPart_21 (by decide) (fun c4 => ?_) (fun c4 => ?_)
    · refine c_null C dX6_setPart_33 ?_
      refine c_astorer (r := none) (lv2 := [(4, .null), (0, .ref a0), (1, .ref ob1), (2, .int (iI i)), (3, .int (iI n))]) C dX6_setPart_34 (by decide) rfl ?_
      refine c_iload_n (j := 3) C dX6_setPart_36 rfl ?_
      refine c_istore (lv2 := [(5, .int (iI i)), (4, .null), (0, .ref a0), (1, .ref ob1), (2, .int (iI i)), (3, .int (iI n))]) C dX6_setPart_37 (by decide) rfl ?_
      refine hv6 (show 0 ≤ iv2 a0 7 ∧ iv2 a0 7 ≤ 100000 from W2.int t_a0 7) (show iv2 a0 7 = iv1 a0 7 from by rw [pq2]; exact up2_j (by decide)) (show iv1 a0 7 = iv a0 7 from by rw [pq1]; exact up2_j (by decide)) (show 0 ≤ iv2 a0 4 ∧ iv2 a0 4 ≤ 500 from W2.int t_a0 4) (show iv2 a0 4 = iv1 a0 4 from by rw [pq2]; exact up2_j (by decide)) (show iv1 a0 4 = iv a0 4 from by rw [pq1]; exact up2_j (by decide)) (fun ri23 ie48 ie49 ri24 ie50 ie51 => ?_)
      refine c_lv (lv2 := [(4, .null), (5, .int (iI i)), (0, .ref a0), (1, .ref ob1), (2, .int (iI i)), (3, .int (iI n))]) [1, 0, 2, 3, 4, 5] rfl ?_
      exact Lp1 511 none i _ (by omega) W2 F2 (fun _ q => by cases q) (by omega) (by show iv2 a0 7 ≤ iv a0 7 ∨ iv2 a0 7 ≤ 200; omega) (ie50.trans ie51)
    · refine c_aload_n (j := 1) (x := ob1) C dX6_setPart_24 rfl ?_
      obtain ⟨rb4, rq4, trb4⟩ := W2.ref tob1 6 rfl rfl rfl
      have lnrb4 : 4 ≤ ln rb4 ∧ ln rb4 ≤ 4 := W2.len trb4 rfl
      refine c_getr (k := 6) C ck_10 dX6_setPart_25 w2_195 (by decide) tob1 rfl rfl (by decide) rfl rq4 ?_
      refine c_st (st2 := [.ref rb4]) rfl ?_
      refine c_iconst C dX6_setPart_28 ?_
      have ll4 : 4 ≤ ln rb4 ∧ ln rb4 ≤ 4 := W2.len trb4 rfl
      obtain ⟨nb1, nq1, tnb1⟩ := opt_n (W2.opt trb4 ((0 : Int).toNat) rfl rfl)
      have tnb1 : ∀ b, nb1 = some b → ty L cl b 20 := tnb1
      refine c_aaldR C dX6_setPart_29 trb4 rfl (by omega) (by omega) (by omega) nq1 ?_
      refine c_st (st2 := [(va_rf nb1)]) rfl ?_
      refine c_goto (tgt := 34) C dX6_setPart_30 (by decide) ?_
      refine c_astorer (r := nb1) (lv2 := [(4, (va_rf nb1)), (0, .ref a0), (1, .ref ob1), (2, .int (iI i)), (3, .int (iI n))]) C dX6_setPart_34 (by decide) rfl ?_
      refine c_iload_n (j := 3) C dX6_setPart_36 rfl ?_
      refine c_istore (lv2 := [(5, .int (iI i)), (4, (va_rf nb1)), (0, .ref a0), (1, .ref ob1), (2, .int (iI i)), (3, .int (iI n))]) C dX6_setPart_37 (by decide) (by cases nb1 <;> rfl) ?_
      refine hv6 (show 0 ≤ iv2 a0 7 ∧ iv2 a0 7 ≤ 100000 from W2.int t_a0 7) (show iv2 a0 7 = iv1 a0 7 from by rw [pq2]; exact up2_j (by decide)) (show iv1 a0 7 = iv a0 7 from by rw [pq1]; exact up2_j (by decide)) (show 0 ≤ iv2 a0 4 ∧ iv2 a0 4 ≤ 500 from W2.int t_a0 4) (show iv2 a0 4 = iv1 a0 4 from by rw [pq2]; exact up2_j (by decide)) (show iv1 a0 4 = iv a0 4 from by rw [pq1]; exact up2_j (by decide)) (fun ri25 ie52 ie53 ri26 ie54 ie55 => ?_)
      refine c_lv (lv2 := [(4, (va_rf nb1)), (5, .int (iI i)), (0, .ref a0), (1, .ref ob1), (2, .int (iI i)), (3, .int (iI n))]) [1, 0, 2, 3, 4, 5] rfl ?_
      exact Lp1 511 nb1 i _ (by omega) W2 F2 tnb1 (by omega) (by show iv2 a0 7 ≤ iv a0 7 ∨ iv2 a0 7 ≤ 200; omega) (ie54.trans ie55)
  · subst oq1
    refine c_lv (lv2 := [(0, .ref a0), (1, .null), (2, .int (iI i)), (3, .int (iI n))]) [0, 1, 2, 3] rfl ?_
    refine c_st (st2 := []) rfl ?_
    refine c_iconst C dX6_setPart_4 ?_
    refine hv2 (show 0 ≤ iv a0 4 ∧ iv a0 4 ≤ 500 from hW.int t_a0 4) (show 0 ≤ iv a0 7 ∧ iv a0 7 ≤ 100000 from hW.int t_a0 7) (fun ri27 ri28 => ?_)
    exact c_iret C dX6_setPart_5 rfl (by decide) (rom0 hph hph (by decide)) ⟨0, rfl, rfl, rfl, rfl, rfl, hF0, hW, ⟨by decide, by decide⟩, (by omega)⟩
set_option maxHeartbeats 4000000 in
set_option maxRecDepth 100000 in
theorem C_setBy {l : Launch} {G : GT} {mi : Nat} {sk : Nat → Nat} {L : List Nat} {cl ln : Nat → Nat} {iv : Nat → Nat → Int} {rv : Nat → Nat → Option Nat}  {a0 : Nat} {a1 : Nat} (hW : WT (g0 G) sk L cl ln iv rv) (hS : SKL sk L cl) (t_a0 : ty L cl a0 15) (t_a1 : ty L cl a1 100)  : Mc l G mi (Phi (g0 G) sk) PHM yX6_setBy cX6_setBy 9 (some .int) 6 [.ref a0, .ref a1] L cl ln iv rv 0 (fun v L2 cl2 ln2 iv2 rv2 => ∃ f : Int, v = some (.int (iI f)) ∧ L = L2 ∧ cl = cl2 ∧ ln = ln2 ∧ rv = rv2 ∧ fT [15, 53, 54, 55] L cl iv rv iv2 rv2 ∧ WT (g0 G) sk L2 cl2 ln2 iv2 rv2 ∧ (-2147483648 ≤ f ∧ f ≤ 2147483647) ∧ ((f = 0 ∨ f = 6 ∨ f = 7) ∧ iv2 a0 4 = iv a0 4 ∧ (f = 0 → iv2 a0 7 ≤ 200))) := by
  refine Mc.mk (by decide) (Nat.le_of_ble_eq_true rfl) ?_
  intro p e s m args below meth c A C hM
  refine hv3 (Phi.le hW hS) (show XT L cl ln L cl ln from XT.refl) (show fT [15, 53, 54, 55] L cl iv rv iv rv from fT.refl) (fun hph hX0 hF0 => ?_)
  refine c_aload_n (j := 0) (x := a0) C dX6_setBy_0 rfl ?_
  refine c_iconst C dX6_setBy_1 ?_
  refine c_put (z := 0) (k := 7) C ck_7 dX6_setBy_2 w1_147 (by decide) rfl t_a0 rfl rfl (by decide) rfl (by rfl) (by rfl) (fun iv1 pq1 => ?_)
  refine hv2 (hW.puti pq1 t_a0 ⟨by decide, by decide⟩ rfl) (hF0.puti hX0 pq1 t_a0 rfl) (fun W1 F1 => ?_)
  refine c_aload_n (j := 1) (x := a1) C dX6_setBy_5 rfl ?_
  refine hv2 (show (-2147483648) ≤ iv1 a1 0 ∧ iv1 a1 0 ≤ 2147483647 from W1.int t_a1 0) (show iv1 a1 0 = iv a1 0 from by rw [pq1]; exact up2_k (ne_ty t_a1 t_a0 (by decide))) (fun ri1 ie1 => ?_)
  refine c_get (k := 0) C ck_10 dX6_setBy_6 w2_177 (by decide) t_a1 rfl rfl (by decide) rfl ?_
  refine c_iconst C dX6_setBy_9 ?_
  refine c_icmp_ne (tgt := 17) C (r32_c (lo := (-2147483648)) (hi := 2147483647) ri1.1 ri1.2 (by decide) (by decide)) ⟨by decide, by decide⟩ dX6_setBy_10 (by decide) (fun c1 => ?_) (fun c1 => ?_)
  · refine c_iconst C dX6_setBy_17 ?_
    refine c_istore_n (lv2 := [(2, .int (iI 0)), (0, .ref a0), (1, .ref a1)]) C dX6_setBy_18 (by decide) rfl ?_
    refine c_iconst C dX6_setBy_19 ?_
    refine c_istore_n (lv2 := [(3, .int (iI 0)), (2, .int (iI 0)), (0, .ref a0), (1, .ref a1)]) C dX6_setBy_20 (by decide) rfl ?_
    refine c_iconst C dX6_setBy_21 ?_
    refine c_istore (lv2 := [(4, .int (iI 0)), (3, .int (iI 0)), (2, .int (iI 0)), (0, .ref a0), (1, .ref a1)]) C dX6_setBy_22 (by decide) rfl ?_
    refine c_iconst C dX6_setBy_24 ?_
    refine c_istore (lv2 := [(5, .int (iI 0)), (4, .int (iI 0)), (3, .int (iI 0)), (2, .int (iI 0)), (0, .ref a0), (1, .ref a1)]) C dX6_setBy_25 (by decide) rfl ?_
    have Lp1 : ∀ (nn : Nat) (sc fr k : Int) (ivb1 : Nat → Nat → Int) , iv a0 4 + 2 - k < (nn : Int) → WT (g0 G) sk L cl ln ivb1 rv → fT [15, 53, 54, 55] L cl iv rv ivb1 rv → (sc = 0 ∨ sc = 1) → (0 ≤ fr ∧ fr ≤ k) → (0 ≤ k ∧ k ≤ iv a0 4 + 1) → (ivb1 a0 7 ≤ 200 + 4 * k) → (ivb1 a0 4 = iv a0 4) → cw p l e 6 ((PHM) + 0 - ((Phi (g0 G) sk) ln rv)) s m args below meth c G A 9 (MQ below (Qu G A (Qp G (Phi (g0 G) sk) ((Phi (g0 G) sk) ln rv) 0 (fun v L2 cl2 ln2 iv2 rv2 => ∃ f : Int, v = some (.int (iI f)) ∧ L = L2 ∧ cl = cl2 ∧ ln = ln2 ∧ rv = rv2 ∧ fT [15, 53, 54, 55] L cl iv rv iv2 rv2 ∧ WT (g0 G) sk L2 cl2 ln2 iv2 rv2 ∧ (-2147483648 ≤ f ∧ f ≤ 2147483647) ∧ ((f = 0 ∨ f = 6 ∨ f = 7) ∧ iv2 a0 4 = iv a0 4 ∧ (f = 0 → iv2 a0 7 ≤ 200))))) args s (((PHM) + 0 - ((Phi (g0 G) sk) ln rv)) / 16) ((PHM) + 0 - ((Phi (g0 G) sk) ln rv)) A) (Phi (g0 G) sk) ((Phi (g0 G) sk) ln rv) L cl ln ivb1 rv 0 27 [(3, .int (iI sc)), (4, .int (iI fr)), (5, .int (iI k)), (2, .int (iI 0)), (0, .ref a0), (1, .ref a1)] [] := by
      intro nn
      induction nn with
      | zero =>
        intro  sc fr k ivb1 hm Wb1 Fb1  hsc hfr hk hc7 hc4
        exact absurd hm (by omega)
      | succ nn ih1 =>
        intro  sc fr k ivb1 hm Wb1 Fb1  hsc hfr hk hc7 hc4
        refine c_iload (j := 2) C dX6_setBy_27 rfl ?_
        refine c_aload_n (j := 4) (x := a0) C dX6_setBy_29 rfl ?_
        have ri2 : 0 ≤ ivb1 a0 4 ∧ ivb1 a0 4 ≤ 500 := Wb1.int t_a0 4
        refine c_get (k := 4) C ck_7 dX6_setBy_30 w1_140 (by decide) t_a0 rfl rfl (by decide) rfl ?_
        refine c_icmp_gt (tgt := 193) C ⟨by omega, by omega⟩ (r32_c (lo := 0) (hi := 500) ri2.1 ri2.2 (by decide) (by decide)) dX6_setBy_33 (by decide) (fun c2 => ?_) (fun c2 => ?_)
        · refine c_aload_n (j := 4) (x := a0) C dX6_setBy_193 rfl ?_
          have ri3 : 0 ≤ ivb1 a0 7 ∧ ivb1 a0 7 ≤ 100000 := Wb1.int t_a0 7
          refine c_get (k := 7) C ck_7 dX6_setBy_194 w1_147 (by decide) t_a0 rfl rfl (by decide) rfl ?_
          refine c_sipush (z := 200) C dX6_setBy_197 (by decide) ?_
          refine c_icmp_le (tgt := 208) C (r32_c (lo := 0) (hi := 100000) ri3.1 ri3.2 (by decide) (by decide)) ⟨by decide, by decide⟩ dX6_setBy_200 (by decide) (fun c3 => ?_) (fun c3 => ?_)
          · refine c_iconst C dX6_setBy_208 ?_
            exact c_iret C dX6_setBy_209 rfl (by decide) (rom0 hph hph (by decide)) ⟨0, rfl, rfl, rfl, rfl, rfl, Fb1, Wb1, ⟨by decide, by decide⟩, (by omega)⟩
          · refine c_bipush (z := 6) C dX6_setBy_203 (by decide) ?_
            refine c_goto (tgt := 209) C dX6_setBy_205 (by decide) ?_
            exact c_iret C dX6_setBy_209 rfl (by decide) (rom0 hph hph (by decide)) ⟨6, rfl, rfl, rfl, rfl, rfl, Fb1, Wb1, ⟨by decide, by decide⟩, (by omega)⟩
        · have J1 : ∀ (fs : Option Nat) (tn : Int) (ivb2 : Nat → Nat → Int) , WT (g0 G) sk L cl ln ivb2 rv → fT [15, 53, 54, 55] L cl iv rv ivb2 rv → (∀ b, fs = some b → ty L cl b 100) → (tn = 0 ∨ tn = 1) → (k ≤ iv a0 4) → (tn = 1 → k < iv a0 4) → (ivb2 a0 7 ≤ 200 + 4 * k) → (ivb2 a0 4 = iv a0 4) → cw p l e 6 ((PHM) + 0 - ((Phi (g0 G) sk) ln rv)) s m args below meth c G A 9 (MQ below (Qu G A (Qp G (Phi (g0 G) sk) ((Phi (g0 G) sk) ln rv) 0 (fun v L2 cl2 ln2 iv2 rv2 => ∃ f : Int, v = some (.int (iI f)) ∧ L = L2 ∧ cl = cl2 ∧ ln = ln2 ∧ rv = rv2 ∧ fT [15, 53, 54, 55] L cl iv rv iv2 rv2 ∧ WT (g0 G) sk L2 cl2 ln2 iv2 rv2 ∧ (-2147483648 ≤ f ∧ f ≤ 2147483647) ∧ ((f = 0 ∨ f = 6 ∨ f = 7) ∧ iv2 a0 4 = iv a0 4 ∧ (f = 0 → iv2 a0 7 ≤ 200))))) args s (((PHM) + 0 - ((Phi (g0 G) sk) ln rv)) / 16) ((PHM) + 0 - ((Phi (g0 G) sk) ln rv)) A) (Phi (g0 G) sk) ((Phi (g0 G) sk) ln rv) L cl ln ivb2 rv 0 108 [(6, .int (iI tn)), (7, (va_rf fs)), (3, .int (iI sc)), (4, .int (iI fr)), (5, .int (iI k)), (2, .int (iI 0)), (0, .ref a0), (1, .ref a1)] [] := by
            intro fs tn ivb2 Wb2 Fb2 ty_fs htn hki htk hd7 hd4
            have J2 : ∀ (wy : Int) (ivb3 : Nat → Nat → Int) , WT (g0 G) sk L cl ln ivb3 rv → fT [15, 53, 54, 55] L cl iv rv ivb3 rv → (wy = 0 ∨ wy = 6 ∨ wy = 7) → (wy = 0 → ivb3 a0 7 ≤ 204 + 4 * k) → (ivb3 a0 4 = iv a0 4) → cw p l e 6 ((PHM) + 0 - ((Phi (g0 G) sk) ln rv)) s m args below meth c G A 9 (MQ below (Qu G A (Qp G (Phi (g0 G) sk) ((Phi (g0 G) sk) ln rv) 0 (fun v L2 cl2 ln2 iv2 rv2 => ∃ f : Int, v = some (.int (iI f)) ∧ L = L2 ∧ cl = cl2 ∧ ln = ln2 ∧ rv = rv2 ∧ fT [15, 53, 54, 55] L cl iv rv iv2 rv2 ∧ WT (g0 G) sk L2 cl2 ln2 iv2 rv2 ∧ (-2147483648 ≤ f ∧ f ≤ 2147483647) ∧ ((f = 0 ∨ f = 6 ∨ f = 7) ∧ iv2 a0 4 = iv a0 4 ∧ (f = 0 → iv2 a0 7 ≤ 200))))) args s (((PHM) + 0 - ((Phi (g0 G) sk) ln rv)) / 16) ((PHM) + 0 - ((Phi (g0 G) sk) ln rv)) A) (Phi (g0 G) sk) ((Phi (g0 G) sk) ln rv) L cl ln ivb3 rv 0 163 [(8, .int (iI wy)), (6, .int (iI tn)), (7, (va_rf fs)), (3, .int (iI sc)), (4, .int (iI fr)), (5, .int (iI k)), (2, .int (iI 0)), (0, .ref a0), (1, .ref a1)] [] := by
              intro  wy ivb3 Wb3 Fb3  hwy he7 he4
              refine c_iload (j := 0) C dX6_setBy_163 rfl ?_
              refine c_if_eq (tgt := 171) C (r32_067 hwy) dX6_setBy_165 (by decide) (fun c4 => ?_) (fun c4 => ?_)
              · clear hwy
                replace he7 := (he7 c4)
                refine c_iload_n (j := 3) C dX6_setBy_171 rfl ?_
                refine c_if_ne (tgt := 179) C (r32_01 hsc) dX6_setBy_172 (by decide) (fun c5 => ?_) (fun c5 => ?_)
                · replace hsc := (hsc.resolve_left c5)
                  refine c_iconst C dX6_setBy_179 ?_
                  refine c_istore_n (lv2 := [(3, .int (iI 0)), (8, .int (iI wy)), (6, .int (iI tn)), (7, (va_rf fs)), (4, .int (iI fr)), (5, .int (iI k)), (2, .int (iI 0)), (0, .ref a0), (1, .ref a1)]) C dX6_setBy_180 (by decide) rfl ?_
                  refine c_iload (j := 5) C dX6_setBy_181 rfl ?_
                  refine c_iconst C dX6_setBy_183 ?_
                  refine c_iadd C dX6_setBy_184 ?_
                  refine c_istore (lv2 := [(4, .int (iI (k + 1))), (3, .int (iI 0)), (8, .int (iI wy)), (6, .int (iI tn)), (7, (va_rf fs)), (5, .int (iI k)), (2, .int (iI 0)), (0, .ref a0), (1, .ref a1)]) C dX6_setBy_185 (by decide) rfl ?_
                  refine c_iinc (z := k) (j := 5) (lv2 := [(5, .int (iI (k + 1))), (4, .int (iI (k + 1))), (3, .int (iI 0)), (8, .int (iI wy)), (6, .int (iI tn)), (7, (va_rf fs)), (2, .int (iI 0)), (0, .ref a0), (1, .ref a1)]) C dX6_setBy_187 rfl (by decide) rfl ?_
                  refine c_goto (tgt := 27) C dX6_setBy_190 (by decide) ?_
                  refine hv2 (show 0 ≤ ivb3 a0 7 ∧ ivb3 a0 7 ≤ 100000 from Wb3.int t_a0 7) (show 0 ≤ ivb3 a0 4 ∧ ivb3 a0 4 ≤ 500 from Wb3.int t_a0 4) (fun ri4 ri5 => ?_)
                  refine c_lv (lv2 := [(3, .int (iI 0)), (4, .int (iI (k + 1))), (5, .int (iI (k + 1))), (2, .int (iI 0)), (0, .ref a0), (1, .ref a1)]) [2, 1, 0, 6, 7, 8] rfl ?_
                  exact ih1  0 (k + 1) (k + 1) _ (by omega) Wb3 Fb3  (by omega) (by omega) (by omega) (by show ivb3 a0 7 ≤ 200 + 4 * (k + 1); omega) he4
                · clear hsc
                  refine c_iconst C dX6_setBy_175 ?_
                  refine c_goto (tgt := 180) C dX6_setBy_176 (by decide) ?_
                  refine c_istore_n (lv2 := [(3, .int (iI 1)), (8, .int (iI wy)), (6, .int (iI tn)), (7, (va_rf fs)), (4, .int (iI fr)), (5, .int (iI k)), (2, .int (iI 0)), (0, .ref a0), (1, .ref a1)]) C dX6_setBy_180 (by decide) rfl ?_
                  refine c_iload (j := 5) C dX6_setBy_181 rfl ?_
                  refine c_iconst C dX6_setBy_183 ?_
                  refine c_iadd C dX6_setBy_184 ?_
                  refine c_istore (lv2 := [(4, .int (iI (k + 1))), (3, .int (iI 1)), (8, .int (iI wy)), (6, .int (iI tn)), (7, (va_rf fs)), (5, .int (iI k)), (2, .int (iI 0)), (0, .ref a0), (1, .ref a1)]) C dX6_setBy_185 (by decide) rfl ?_
                  refine c_iinc (z := k) (j := 5) (lv2 := [(5, .int (iI (k + 1))), (4, .int (iI (k + 1))), (3, .int (iI 1)), (8, .int (iI wy)), (6, .int (iI tn)), (7, (va_rf fs)), (2, .int (iI 0)), (0, .ref a0), (1, .ref a1)]) C dX6_setBy_187 rfl (by decide) rfl ?_
                  refine c_goto (tgt := 27) C dX6_setBy_190 (by decide) ?_
                  refine hv2 (show 0 ≤ ivb3 a0 7 ∧ ivb3 a0 7 ≤ 100000 from Wb3.int t_a0 7) (show 0 ≤ ivb3 a0 4 ∧ ivb3 a0 4 ≤ 500 from Wb3.int t_a0 4) (fun ri6 ri7 => ?_)
                  refine c_lv (lv2 := [(3, .int (iI 1)), (4, .int (iI (k + 1))), (5, .int (iI (k + 1))), (2, .int (iI 0)), (0, .ref a0), (1, .ref a1)]) [2, 1, 0, 6, 7, 8] rfl ?_
                  exact ih1  1 (k + 1) (k + 1) _ (by omega) Wb3 Fb3  (by omega) (by omega) (by omega) (by show ivb3 a0 7 ≤ 200 + 4 * (k + 1); omega) he4
              · replace hwy := (hwy.resolve_left c4)
                clear he7
                refine c_iload (j := 0) C dX6_setBy_168 rfl ?_
                refine hv2 (show 0 ≤ ivb3 a0 4 ∧ ivb3 a0 4 ≤ 500 from Wb3.int t_a0 4) (show 0 ≤ ivb3 a0 7 ∧ ivb3 a0 7 ≤ 100000 from Wb3.int t_a0 7) (fun ri8 ri9 => ?_)
                exact c_iret C dX6_setBy_170 rfl (by decide) (rom0 hph hph (by decide)) ⟨wy, rfl, rfl, rfl, rfl, rfl, Fb3, Wb3, ⟨by omega, by omega⟩, (by omega)⟩
            refine c_aload_n (j := 6) (x := a0) C dX6_setBy_108 rfl ?_
            refine c_iload_n (j := 2) C dX6_setBy_109 rfl ?_
            refine c_if_eq (tgt := 120) C (r32_01 hsc) dX6_setBy_110 (by decide) (fun c6 => ?_) (fun c6 => ?_)
            · clear hsc
              refine c_aloadr (j := 1) (r := fs) C dX6_setBy_120 rfl ?_
              refine c_iload (j := 3) C dX6_setBy_122 rfl ?_
              refine c_iload (j := 4) C dX6_setBy_124 rfl ?_
              refine hv2 (show 0 ≤ ivb2 a0 7 ∧ ivb2 a0 7 ≤ 100000 from Wb2.int t_a0 7) (show 0 ≤ ivb2 a0 4 ∧ ivb2 a0 4 ≤ 500 from Wb2.int t_a0 4) (fun ri10 ri11 => ?_)
              refine d_callV (As := [(va_rf fs), .int (iI fr), .int (iI k)]) (rest := []) C hM (C_setPart (a0 := a0) (r := fs) (i := fr) (n := k) Wb2 hS t_a0 ty_fs (by omega) (by omega) (by show 0 ≤ fr ∧ fr ≤ 500 ∧ 0 ≤ k ∧ k ≤ 500 ∧ ivb2 a0 7 ≤ 50000; omega)) dX6_setBy_126 kV_X6_74 rfl t_a0 rfl rfl (by decide) ck_7 rfl (Nat.le_of_ble_eq_true rfl) ⟨(Nat.le_of_ble_eq_true rfl), (Nat.le_of_ble_eq_true rfl)⟩ hph hph (show 0 + 0 = 0 from rfl) (by decide) (fun rh1 Lh1 clh1 lnh1 ivh1 rvh1 h1 => ?_)
              obtain ⟨f1, rfl, rfl, rfl, rfl, rfl, fl1, W2, rgf1, exf1⟩ := h1
              have F2 := Fb2.call hX0 fl1 rfl
              refine c_st (st2 := [.int (iI f1)]) rfl ?_
              refine hv3 (show 0 ≤ ivh1 a0 4 ∧ ivh1 a0 4 ≤ 500 from W2.int t_a0 4) (show 0 ≤ ivh1 a0 7 ∧ ivh1 a0 7 ≤ 100000 from W2.int t_a0 7) (show (f1 = 0 ∨ f1 = 6 ∨ f1 = 7) ∧ ivh1 a0 4 = ivb2 a0 4 ∧ ivh1 a0 7 ≤ ivb2 a0 7 + 208 ∧ (f1 = 0 → (ivh1 a0 7 ≤ ivb2 a0 7 ∨ ivh1 a0 7 ≤ 200)) from exf1) (fun ri12 ri13 gf1 => ?_)
              refine c_istore (lv2 := [(8, .int (iI f1)), (6, .int (iI tn)), (7, (va_rf fs)), (3, .int (iI sc)), (4, .int (iI fr)), (5, .int (iI k)), (2, .int (iI 0)), (0, .ref a0), (1, .ref a1)]) C dX6_setBy_129 (by decide) (by cases fs <;> rfl) ?_
              refine c_iload (j := 0) C dX6_setBy_131 rfl ?_
              refine c_if_ne (tgt := 163) C (r32_067 gf1.1) dX6_setBy_133 (by decide) (fun c7 => ?_) (fun c7 => ?_)
              · replace gf1 := (And.intro (gf1.1.resolve_left c7) (And.intro gf1.2.1 (And.intro gf1.2.2.1 trivial)))
                refine c_lv (lv2 := [(8, .int (iI f1)), (6, .int (iI tn)), (7, (va_rf fs)), (3, .int (iI sc)), (4, .int (iI fr)), (5, .int (iI k)), (2, .int (iI 0)), (0, .ref a0), (1, .ref a1)]) [0, 1, 2, 3, 4, 5, 6, 7, 8] rfl ?_
                exact J2  f1 _  W2 F2  (by omega) (by show f1 = 0 → ivh1 a0 7 ≤ 204 + 4 * k; omega) (by show ivh1 a0 4 = iv a0 4; omega)
              · replace gf1 := (And.intro c7 (And.intro gf1.2.1 (And.intro gf1.2.2.1 (gf1.2.2.2 c7))))
                refine c_iload (j := 1) C dX6_setBy_136 rfl ?_
                refine c_if_eq (tgt := 163) C (r32_01 htn) dX6_setBy_138 (by decide) (fun c8 => ?_) (fun c8 => ?_)
                · clear htn
                  clear htk
                  refine c_lv (lv2 := [(8, .int (iI f1)), (6, .int (iI tn)), (7, (va_rf fs)), (3, .int (iI sc)), (4, .int (iI fr)), (5, .int (iI k)), (2, .int (iI 0)), (0, .ref a0), (1, .ref a1)]) [0, 1, 2, 3, 4, 5, 6, 7, 8] rfl ?_
                  exact J2  f1 _  W2 F2  (by omega) (by show f1 = 0 → ivh1 a0 7 ≤ 204 + 4 * k; omega) (by show ivh1 a0 4 = iv a0 4; omega)
                · replace htn := (htn.resolve_left c8)
                  refine c_aload_n (j := 7) (x := a0) C dX6_setBy_141 rfl ?_
                  refine c_aload_n (j := 8) (x := a1) C dX6_setBy_142 rfl ?_
                  obtain ⟨rb1, rq1, trb1⟩ := W2.ref t_a1 6 rfl rfl rfl
                  have lnrb1 : 4 ≤ ln rb1 ∧ ln rb1 ≤ 4 := W2.len trb1 rfl
                  refine c_getr (k := 6) C ck_10 dX6_setBy_143 w2_195 (by decide) t_a1 rfl rfl (by decide) rfl rq1 ?_
                  refine c_st (st2 := [.ref rb1, .ref a0]) rfl ?_
                  refine c_iload_n (j := 3) C dX6_setBy_146 rfl ?_
                  refine c_if_eq (tgt := 154) C ⟨by omega, by omega⟩ dX6_setBy_147 (by decide) (fun _ => ?_) (fun z => absurd z (by omega))
                  refine c_iconst C dX6_setBy_154 ?_
                  have ll1 : 4 ≤ ln rb1 ∧ ln rb1 ≤ 4 := W2.len trb1 rfl
                  obtain ⟨nb1, nq1, tnb1⟩ := opt_n (W2.opt trb1 ((2 : Int).toNat) rfl rfl)
                  have tnb1 : ∀ b, nb1 = some b → ty L cl b 20 := tnb1
                  refine c_aaldR C dX6_setBy_155 trb1 rfl (by omega) (by omega) (by omega) nq1 ?_
                  refine c_st (st2 := [(va_rf nb1), .ref a0]) rfl ?_
                  refine c_iload (j := 5) C dX6_setBy_156 rfl ?_
                  refine d_callV (As := [(va_rf nb1), .int (iI k)]) (rest := []) C hM (C_setTurn (a0 := a0) (r := nb1) (i := k) W2 hS t_a0 tnb1 (by omega) (by show ivh1 a0 7 ≤ 90000; omega)) dX6_setBy_158 kV_X6_82 rfl t_a0 rfl rfl (by decide) ck_7 rfl (Nat.le_of_ble_eq_true rfl) ⟨(Nat.le_of_ble_eq_true rfl), (Nat.le_of_ble_eq_true rfl)⟩ hph hph (show 0 + 0 = 0 from rfl) (by decide) (fun rh2 Lh2 clh2 lnh2 ivh2 rvh2 h2 => ?_)
                  obtain ⟨f2, rfl, rfl, rfl, rfl, rfl, fl2, W3, rgf2, exf2⟩ := h2
                  have F3 := F2.call hX0 fl2 rfl
                  refine c_st (st2 := [.int (iI f2)]) rfl ?_
                  refine hv3 (show 0 ≤ ivh2 a0 4 ∧ ivh2 a0 4 ≤ 500 from W3.int t_a0 4) (show 0 ≤ ivh2 a0 7 ∧ ivh2 a0 7 ≤ 100000 from W3.int t_a0 7) (show (f2 = 0 ∨ f2 = 7) ∧ ivh2 a0 4 = ivh1 a0 4 ∧ ivh1 a0 7 ≤ ivh2 a0 7 ∧ ivh2 a0 7 ≤ ivh1 a0 7 + 4 from exf2) (fun ri14 ri15 gf2 => ?_)
                  refine c_istore (lv2 := [(8, .int (iI f2)), (6, .int (iI tn)), (7, (va_rf fs)), (3, .int (iI sc)), (4, .int (iI fr)), (5, .int (iI k)), (2, .int (iI 0)), (0, .ref a0), (1, .ref a1)]) C dX6_setBy_161 (by decide) (by cases fs <;> rfl) ?_
                  refine c_lv (lv2 := [(8, .int (iI f2)), (6, .int (iI tn)), (7, (va_rf fs)), (3, .int (iI sc)), (4, .int (iI fr)), (5, .int (iI k)), (2, .int (iI 0)), (0, .ref a0), (1, .ref a1)]) [0, 1, 2, 3, 4, 5, 6, 7, 8] rfl ?_
                  exact J2  f2 _  W3 F3  (by omega) (by show f2 = 0 → ivh2 a0 7 ≤ 204 + 4 * k; omega) (by show ivh2 a0 4 = iv a0 4; omega)
            · replace hsc := (hsc.resolve_left c6)
              refine c_aload_n (j := 7) (x := a1) C dX6_setBy_113 rfl ?_
              obtain ⟨nb2, nq2, tnb2⟩ := opt_n (Wb2.opt t_a1 3 rfl rfl)
              have tnb2 : ∀ b, nb2 = some b → ty L cl b 100 := tnb2
              refine c_getr (k := 3) C ck_10 dX6_setBy_114 w2_185 (by decide) t_a1 rfl rfl (by decide) rfl nq2 ?_
              refine c_st (st2 := [(va_rf nb2), .ref a0]) rfl ?_
              refine c_goto (tgt := 122) C dX6_setBy_117 (by decide) ?_
              refine c_iload (j := 3) C dX6_setBy_122 rfl ?_
              refine c_iload (j := 4) C dX6_setBy_124 rfl ?_
              refine hv2 (show 0 ≤ ivb2 a0 7 ∧ ivb2 a0 7 ≤ 100000 from Wb2.int t_a0 7) (show 0 ≤ ivb2 a0 4 ∧ ivb2 a0 4 ≤ 500 from Wb2.int t_a0 4) (fun ri16 ri17 => ?_)
              refine d_callV (As := [(va_rf nb2), .int (iI fr), .int (iI k)]) (rest := []) C hM (C_setPart (a0 := a0) (r := nb2) (i := fr) (n := k) Wb2 hS t_a0 tnb2 (by omega) (by omega) (by show 0 ≤ fr ∧ fr ≤ 500 ∧ 0 ≤ k ∧ k ≤ 500 ∧ ivb2 a0 7 ≤ 50000; omega)) dX6_setBy_126 kV_X6_74 rfl t_a0 rfl rfl (by decide) ck_7 rfl (Nat.le_of_ble_eq_true rfl) ⟨(Nat.le_of_ble_eq_true rfl), (Nat.le_of_ble_eq_true rfl)⟩ hph hph (show 0 + 0 = 0 from rfl) (by decide) (fun rh3 Lh3 clh3 lnh3 ivh3 rvh3 h3 => ?_)
              obtain ⟨f3, rfl, rfl, rfl, rfl, rfl, fl3, W4, rgf3, exf3⟩ := h3
              have F4 := Fb2.call hX0 fl3 rfl
              refine c_st (st2 := [.int (iI f3)]) rfl ?_
              refine hv3 (show 0 ≤ ivh3 a0 4 ∧ ivh3 a0 4 ≤ 500 from W4.int t_a0 4) (show 0 ≤ ivh3 a0 7 ∧ ivh3 a0 7 ≤ 100000 from W4.int t_a0 7) (show (f3 = 0 ∨ f3 = 6 ∨ f3 = 7) ∧ ivh3 a0 4 = ivb2 a0 4 ∧ ivh3 a0 7 ≤ ivb2 a0 7 + 208 ∧ (f3 = 0 → (ivh3 a0 7 ≤ ivb2 a0 7 ∨ ivh3 a0 7 ≤ 200)) from exf3) (fun ri18 ri19 gf3 => ?_)
              refine c_istore (lv2 := [(8, .int (iI f3)), (6, .int (iI tn)), (7, (va_rf fs)), (3, .int (iI sc)), (4, .int (iI fr)), (5, .int (iI k)), (2, .int (iI 0)), (0, .ref a0), (1, .ref a1)]) C dX6_setBy_129 (by decide) (by cases fs <;> rfl) ?_
              refine c_iload (j := 0) C dX6_setBy_131 rfl ?_
              refine c_if_ne (tgt := 163) C (r32_067 gf3.1) dX6_setBy_133 (by decide) (fun c9 => ?_) (fun c9 => ?_)
              · replace gf3 := (And.intro (gf3.1.resolve_left c9) (And.intro gf3.2.1 (And.intro gf3.2.2.1 trivial)))
                refine c_lv (lv2 := [(8, .int (iI f3)), (6, .int (iI tn)), (7, (va_rf fs)), (3, .int (iI sc)), (4, .int (iI fr)), (5, .int (iI k)), (2, .int (iI 0)), (0, .ref a0), (1, .ref a1)]) [0, 1, 2, 3, 4, 5, 6, 7, 8] rfl ?_
                exact J2  f3 _  W4 F4  (by omega) (by show f3 = 0 → ivh3 a0 7 ≤ 204 + 4 * k; omega) (by show ivh3 a0 4 = iv a0 4; omega)
              · replace gf3 := (And.intro c9 (And.intro gf3.2.1 (And.intro gf3.2.2.1 (gf3.2.2.2 c9))))
                refine c_iload (j := 1) C dX6_setBy_136 rfl ?_
                refine c_if_eq (tgt := 163) C (r32_01 htn) dX6_setBy_138 (by decide) (fun c10 => ?_) (fun c10 => ?_)
                · clear htn
                  clear htk
                  refine c_lv (lv2 := [(8, .int (iI f3)), (6, .int (iI tn)), (7, (va_rf fs)), (3, .int (iI sc)), (4, .int (iI fr)), (5, .int (iI k)), (2, .int (iI 0)), (0, .ref a0), (1, .ref a1)]) [0, 1, 2, 3, 4, 5, 6, 7, 8] rfl ?_
                  exact J2  f3 _  W4 F4  (by omega) (by show f3 = 0 → ivh3 a0 7 ≤ 204 + 4 * k; omega) (by show ivh3 a0 4 = iv a0 4; omega)
                · replace htn := (htn.resolve_left c10)
                  refine c_aload_n (j := 7) (x := a0) C dX6_setBy_141 rfl ?_
                  refine c_aload_n (j := 8) (x := a1) C dX6_setBy_142 rfl ?_
                  obtain ⟨rb2, rq2, trb2⟩ := W4.ref t_a1 6 rfl rfl rfl
                  have lnrb2 : 4 ≤ ln rb2 ∧ ln rb2 ≤ 4 := W4.len trb2 rfl
                  refine c_getr (k := 6) C ck_10 dX6_setBy_143 w2_195 (by decide) t_a1 rfl rfl (by decide) rfl rq2 ?_
                  refine c_st (st2 := [.ref rb2, .ref a0]) rfl ?_
                  refine c_iload_n (j := 3) C dX6_setBy_146 rfl ?_
                  refine c_if_eq (tgt := 154) C ⟨by omega, by omega⟩ dX6_setBy_147 (by decide) (fun z => absurd z (by omega)) (fun _ => ?_)
                  refine c_iconst C dX6_setBy_150 ?_
                  refine c_goto (tgt := 155) C dX6_setBy_151 (by decide) ?_
                  have ll2 : 4 ≤ ln rb2 ∧ ln rb2 ≤ 4 := W4.len trb2 rfl
                  obtain ⟨nb3, nq3, tnb3⟩ := opt_n (W4.opt trb2 ((3 : Int).toNat) rfl rfl)
                  have tnb3 : ∀ b, nb3 = some b → ty L cl b 20 := tnb3
                  refine c_aaldR C dX6_setBy_155 trb2 rfl (by omega) (by omega) (by omega) nq3 ?_
                  refine c_st (st2 := [(va_rf nb3), .ref a0]) rfl ?_
                  refine c_iload (j := 5) C dX6_setBy_156 rfl ?_
                  refine d_callV (As := [(va_rf nb3), .int (iI k)]) (rest := []) C hM (C_setTurn (a0 := a0) (r := nb3) (i := k) W4 hS t_a0 tnb3 (by omega) (by show ivh3 a0 7 ≤ 90000; omega)) dX6_setBy_158 kV_X6_82 rfl t_a0 rfl rfl (by decide) ck_7 rfl (Nat.le_of_ble_eq_true rfl) ⟨(Nat.le_of_ble_eq_true rfl), (Nat.le_of_ble_eq_true rfl)⟩ hph hph (show 0 + 0 = 0 from rfl) (by decide) (fun rh4 Lh4 clh4 lnh4 ivh4 rvh4 h4 => ?_)
                  obtain ⟨f4, rfl, rfl, rfl, rfl, rfl, fl4, W5, rgf4, exf4⟩ := h4
                  have F5 := F4.call hX0 fl4 rfl
                  refine c_st (st2 := [.int (iI f4)]) rfl ?_
                  refine hv3 (show 0 ≤ ivh4 a0 4 ∧ ivh4 a0 4 ≤ 500 from W5.int t_a0 4) (show 0 ≤ ivh4 a0 7 ∧ ivh4 a0 7 ≤ 100000 from W5.int t_a0 7) (show (f4 = 0 ∨ f4 = 7) ∧ ivh4 a0 4 = ivh3 a0 4 ∧ ivh3 a0 7 ≤ ivh4 a0 7 ∧ ivh4 a0 7 ≤ ivh3 a0 7 + 4 from exf4) (fun ri20 ri21 gf4 => ?_)
                  refine c_istore (lv2 := [(8, .int (iI f4)), (6, .int (iI tn)), (7, (va_rf fs)), (3, .int (iI sc)), (4, .int (iI fr)), (5, .int (iI k)), (2, .int (iI 0)), (0, .ref a0), (1, .ref a1)]) C dX6_setBy_161 (by decide) (by cases fs <;> rfl) ?_
                  refine c_lv (lv2 := [(8, .int (iI f4)), (6, .int (iI tn)), (7, (va_rf fs)), (3, .int (iI sc)), (4, .int (iI fr)), (5, .int (iI k)), (2, .int (iI 0)), (0, .ref a0), (1, .ref a1)]) [0, 1, 2, 3, 4, 5, 6, 7, 8] rfl ?_
                  exact J2  f4 _  W5 F5  (by omega) (by show f4 = 0 → ivh4 a0 7 ≤ 204 + 4 * k; omega) (by show ivh4 a0 4 = iv a0 4; omega)
          refine c_iload_n (j := 3) C dX6_setBy_36 rfl ?_
          refine c_if_eq (tgt := 74) C ⟨by decide, by decide⟩ dX6_setBy_37 (by decide) (fun _ => ?_) (fun z => absurd z (by omega))
          refine c_iconst C dX6_setBy_74 ?_
          refine c_istore (lv2 := [(6, .int (iI 0)), (3, .int (iI sc)), (4, .int (iI fr)), (5, .int (iI k)), (2, .int (iI 0)), (0, .ref a0), (1, .ref a1)]) C dX6_setBy_75 (by decide) rfl ?_
          refine c_iload (j := 3) C dX6_setBy_77 rfl ?_
          refine c_aload_n (j := 5) (x := a0) C dX6_setBy_79 rfl ?_
          refine c_get (k := 4) C ck_7 dX6_setBy_80 w1_140 (by decide) t_a0 rfl rfl (by decide) rfl ?_
          refine c_icmp_ge (tgt := 94) C ⟨by omega, by omega⟩ (r32_c (lo := 0) (hi := 500) ri2.1 ri2.2 (by decide) (by decide)) dX6_setBy_83 (by decide) (fun c11 => ?_) (fun c11 => ?_)
          · refine c_iload_n (j := 4) C dX6_setBy_94 rfl ?_
            refine c_if_eq (tgt := 105) C ⟨by decide, by decide⟩ dX6_setBy_95 (by decide) (fun _ => ?_) (fun z => absurd z (by omega))
            refine c_aload_n (j := 6) (x := a1) C dX6_setBy_105 rfl ?_
            refine c_astore (lv2 := [(7, .ref a1), (6, .int (iI 0)), (3, .int (iI sc)), (4, .int (iI fr)), (5, .int (iI k)), (2, .int (iI 0)), (0, .ref a0), (1, .ref a1)]) C dX6_setBy_106 (by decide) rfl ?_
            have ri22 : 0 ≤ ivb1 a0 7 ∧ ivb1 a0 7 ≤ 100000 := Wb1.int t_a0 7
            refine c_lv (lv2 := [(6, .int (iI 0)), (7, .ref a1), (3, .int (iI sc)), (4, .int (iI fr)), (5, .int (iI k)), (2, .int (iI 0)), (0, .ref a0), (1, .ref a1)]) [1, 0, 2, 3, 4, 5, 6, 7] rfl ?_
            exact J1  (some a1) 0 _  Wb1 Fb1 (fun _ q => by cases q; exact t_a1) (by omega) (by omega) (fun q => absurd q (by omega)) (by show ivb1 a0 7 ≤ 200 + 4 * k; omega) hc4
          · refine c_iload (j := 0) C dX6_setBy_86 rfl ?_
            refine c_if_ne (tgt := 94) C ⟨by decide, by decide⟩ dX6_setBy_88 (by decide) (fun z => absurd z (by omega)) (fun _ => ?_)
            refine c_goto (tgt := 187) C dX6_setBy_91 (by decide) ?_
            refine c_iinc (z := k) (j := 3) (lv2 := [(5, .int (iI (k + 1))), (6, .int (iI 0)), (3, .int (iI sc)), (4, .int (iI fr)), (2, .int (iI 0)), (0, .ref a0), (1, .ref a1)]) C dX6_setBy_187 rfl (by decide) rfl ?_
            refine c_goto (tgt := 27) C dX6_setBy_190 (by decide) ?_
            have ri23 : 0 ≤ ivb1 a0 7 ∧ ivb1 a0 7 ≤ 100000 := Wb1.int t_a0 7
            refine c_lv (lv2 := [(3, .int (iI sc)), (4, .int (iI fr)), (5, .int (iI (k + 1))), (2, .int (iI 0)), (0, .ref a0), (1, .ref a1)]) [2, 3, 0, 4, 5, 6] rfl ?_
            exact ih1  sc fr (k + 1) _ (by omega) Wb1 Fb1  (by omega) (by omega) (by omega) (by show ivb1 a0 7 ≤ 200 + 4 * (k + 1); omega) hc4
    refine hv4 (show 0 ≤ iv1 a0 7 ∧ iv1 a0 7 ≤ 100000 from W1.int t_a0 7) (show iv1 a0 7 = 0 from by rw [pq1]; exact up2_s) (show 0 ≤ iv1 a0 4 ∧ iv1 a0 4 ≤ 500 from W1.int t_a0 4) (show iv1 a0 4 = iv a0 4 from by rw [pq1]; exact up2_j (by decide)) (fun ri24 ie24 ri25 ie25 => ?_)
    refine c_lv (lv2 := [(3, .int (iI 0)), (4, .int (iI 0)), (5, .int (iI 0)), (2, .int (iI 0)), (0, .ref a0), (1, .ref a1)]) [2, 1, 0, 3, 4, 5] rfl ?_
    exact Lp1 503 0 0 0 _ (by omega) W1 F1  (by omega) (by omega) (by omega) (by show iv1 a0 7 ≤ 200 + 4 * 0; omega) ie25
  · refine c_iconst C dX6_setBy_13 ?_
    refine c_goto (tgt := 18) C dX6_setBy_14 (by decide) ?_
    refine c_istore_n (lv2 := [(2, .int (iI 1)), (0, .ref a0), (1, .ref a1)]) C dX6_setBy_18 (by decide) rfl ?_
    refine c_iconst C dX6_setBy_19 ?_
    refine c_istore_n (lv2 := [(3, .int (iI 0)), (2, .int (iI 1)), (0, .ref a0), (1, .ref a1)]) C dX6_setBy_20 (by decide) rfl ?_
    refine c_iconst C dX6_setBy_21 ?_
    refine c_istore (lv2 := [(4, .int (iI 0)), (3, .int (iI 0)), (2, .int (iI 1)), (0, .ref a0), (1, .ref a1)]) C dX6_setBy_22 (by decide) rfl ?_
    refine c_iconst C dX6_setBy_24 ?_
    refine c_istore (lv2 := [(5, .int (iI 0)), (4, .int (iI 0)), (3, .int (iI 0)), (2, .int (iI 1)), (0, .ref a0), (1, .ref a1)]) C dX6_setBy_25 (by decide) rfl ?_
    have Lp2 : ∀ (nn : Nat) (sc fr k : Int) (ivb4 : Nat → Nat → Int) , iv a0 4 + 2 - k < (nn : Int) → WT (g0 G) sk L cl ln ivb4 rv → fT [15, 53, 54, 55] L cl iv rv ivb4 rv → (sc = 0 ∨ sc = 1) → (0 ≤ fr ∧ fr ≤ k) → (0 ≤ k ∧ k ≤ iv a0 4 + 1) → (ivb4 a0 7 ≤ 200 + 4 * k) → (ivb4 a0 4 = iv a0 4) → cw p l e 6 ((PHM) + 0 - ((Phi (g0 G) sk) ln rv)) s m args below meth c G A 9 (MQ below (Qu G A (Qp G (Phi (g0 G) sk) ((Phi (g0 G) sk) ln rv) 0 (fun v L2 cl2 ln2 iv2 rv2 => ∃ f : Int, v = some (.int (iI f)) ∧ L = L2 ∧ cl = cl2 ∧ ln = ln2 ∧ rv = rv2 ∧ fT [15, 53, 54, 55] L cl iv rv iv2 rv2 ∧ WT (g0 G) sk L2 cl2 ln2 iv2 rv2 ∧ (-2147483648 ≤ f ∧ f ≤ 2147483647) ∧ ((f = 0 ∨ f = 6 ∨ f = 7) ∧ iv2 a0 4 = iv a0 4 ∧ (f = 0 → iv2 a0 7 ≤ 200))))) args s (((PHM) + 0 - ((Phi (g0 G) sk) ln rv)) / 16) ((PHM) + 0 - ((Phi (g0 G) sk) ln rv)) A) (Phi (g0 G) sk) ((Phi (g0 G) sk) ln rv) L cl ln ivb4 rv 0 27 [(3, .int (iI sc)), (4, .int (iI fr)), (5, .int (iI k)), (2, .int (iI 1)), (0, .ref a0), (1, .ref a1)] [] := by
      intro nn
      induction nn with
      | zero =>
        intro  sc fr k ivb4 hm Wb4 Fb4  hsc hfr hk hc7 hc4
        exact absurd hm (by omega)
      | succ nn ih2 =>
        intro  sc fr k ivb4 hm Wb4 Fb4  hsc hfr hk hc7 hc4
        refine c_iload (j := 2) C dX6_setBy_27 rfl ?_
        refine c_aload_n (j := 4) (x := a0) C dX6_setBy_29 rfl ?_
        have ri26 : 0 ≤ ivb4 a0 4 ∧ ivb4 a0 4 ≤ 500 := Wb4.int t_a0 4
        refine c_get (k := 4) C ck_7 dX6_setBy_30 w1_140 (by decide) t_a0 rfl rfl (by decide) rfl ?_
        refine c_icmp_gt (tgt := 193) C ⟨by omega, by omega⟩ (r32_c (lo := 0) (hi := 500) ri26.1 ri26.2 (by decide) (by decide)) dX6_setBy_33 (by decide) (fun c12 => ?_) (fun c12 => ?_)
        · refine c_aload_n (j := 4) (x := a0) C dX6_setBy_193 rfl ?_
          have ri27 : 0 ≤ ivb4 a0 7 ∧ ivb4 a0 7 ≤ 100000 := Wb4.int t_a0 7
          refine c_get (k := 7) C ck_7 dX6_setBy_194 w1_147 (by decide) t_a0 rfl rfl (by decide) rfl ?_
          refine c_sipush (z := 200) C dX6_setBy_197 (by decide) ?_
          refine c_icmp_le (tgt := 208) C (r32_c (lo := 0) (hi := 100000) ri27.1 ri27.2 (by decide) (by decide)) ⟨by decide, by decide⟩ dX6_setBy_200 (by decide) (fun c13 => ?_) (fun c13 => ?_)
          · refine c_iconst C dX6_setBy_208 ?_
            exact c_iret C dX6_setBy_209 rfl (by decide) (rom0 hph hph (by decide)) ⟨0, rfl, rfl, rfl, rfl, rfl, Fb4, Wb4, ⟨by decide, by decide⟩, (by omega)⟩
          · refine c_bipush (z := 6) C dX6_setBy_203 (by decide) ?_
            refine c_goto (tgt := 209) C dX6_setBy_205 (by decide) ?_
            exact c_iret C dX6_setBy_209 rfl (by decide) (rom0 hph hph (by decide)) ⟨6, rfl, rfl, rfl, rfl, rfl, Fb4, Wb4, ⟨by decide, by decide⟩, (by omega)⟩
        · have J3 : ∀ (fs : Option Nat) (tn : Int) (ivb5 : Nat → Nat → Int) , WT (g0 G) sk L cl ln ivb5 rv → fT [15, 53, 54, 55] L cl iv rv ivb5 rv → (∀ b, fs = some b → ty L cl b 100) → (tn = 0 ∨ tn = 1) → (k ≤ iv a0 4) → (tn = 1 → k < iv a0 4) → (ivb5 a0 7 ≤ 200 + 4 * k) → (ivb5 a0 4 = iv a0 4) → cw p l e 6 ((PHM) + 0 - ((Phi (g0 G) sk) ln rv)) s m args below meth c G A 9 (MQ below (Qu G A (Qp G (Phi (g0 G) sk) ((Phi (g0 G) sk) ln rv) 0 (fun v L2 cl2 ln2 iv2 rv2 => ∃ f : Int, v = some (.int (iI f)) ∧ L = L2 ∧ cl = cl2 ∧ ln = ln2 ∧ rv = rv2 ∧ fT [15, 53, 54, 55] L cl iv rv iv2 rv2 ∧ WT (g0 G) sk L2 cl2 ln2 iv2 rv2 ∧ (-2147483648 ≤ f ∧ f ≤ 2147483647) ∧ ((f = 0 ∨ f = 6 ∨ f = 7) ∧ iv2 a0 4 = iv a0 4 ∧ (f = 0 → iv2 a0 7 ≤ 200))))) args s (((PHM) + 0 - ((Phi (g0 G) sk) ln rv)) / 16) ((PHM) + 0 - ((Phi (g0 G) sk) ln rv)) A) (Phi (g0 G) sk) ((Phi (g0 G) sk) ln rv) L cl ln ivb5 rv 0 108 [(6, .int (iI tn)), (7, (va_rf fs)), (3, .int (iI sc)), (4, .int (iI fr)), (5, .int (iI k)), (2, .int (iI 1)), (0, .ref a0), (1, .ref a1)] [] := by
            intro fs tn ivb5 Wb5 Fb5 ty_fs htn hki htk hd7 hd4
            have J4 : ∀ (wy : Int) (ivb6 : Nat → Nat → Int) , WT (g0 G) sk L cl ln ivb6 rv → fT [15, 53, 54, 55] L cl iv rv ivb6 rv → (wy = 0 ∨ wy = 6 ∨ wy = 7) → (wy = 0 → ivb6 a0 7 ≤ 204 + 4 * k) → (ivb6 a0 4 = iv a0 4) → cw p l e 6 ((PHM) + 0 - ((Phi (g0 G) sk) ln rv)) s m args below meth c G A 9 (MQ below (Qu G A (Qp G (Phi (g0 G) sk) ((Phi (g0 G) sk) ln rv) 0 (fun v L2 cl2 ln2 iv2 rv2 => ∃ f : Int, v = some (.int (iI f)) ∧ L = L2 ∧ cl = cl2 ∧ ln = ln2 ∧ rv = rv2 ∧ fT [15, 53, 54, 55] L cl iv rv iv2 rv2 ∧ WT (g0 G) sk L2 cl2 ln2 iv2 rv2 ∧ (-2147483648 ≤ f ∧ f ≤ 2147483647) ∧ ((f = 0 ∨ f = 6 ∨ f = 7) ∧ iv2 a0 4 = iv a0 4 ∧ (f = 0 → iv2 a0 7 ≤ 200))))) args s (((PHM) + 0 - ((Phi (g0 G) sk) ln rv)) / 16) ((PHM) + 0 - ((Phi (g0 G) sk) ln rv)) A) (Phi (g0 G) sk) ((Phi (g0 G) sk) ln rv) L cl ln ivb6 rv 0 163 [(8, .int (iI wy)), (6, .int (iI tn)), (7, (va_rf fs)), (3, .int (iI sc)), (4, .int (iI fr)), (5, .int (iI k)), (2, .int (iI 1)), (0, .ref a0), (1, .ref a1)] [] := by
              intro  wy ivb6 Wb6 Fb6  hwy he7 he4
              refine c_iload (j := 0) C dX6_setBy_163 rfl ?_
              refine c_if_eq (tgt := 171) C (r32_067 hwy) dX6_setBy_165 (by decide) (fun c14 => ?_) (fun c14 => ?_)
              · clear hwy
                replace he7 := (he7 c14)
                refine c_iload_n (j := 3) C dX6_setBy_171 rfl ?_
                refine c_if_ne (tgt := 179) C (r32_01 hsc) dX6_setBy_172 (by decide) (fun c15 => ?_) (fun c15 => ?_)
                · replace hsc := (hsc.resolve_left c15)
                  refine c_iconst C dX6_setBy_179 ?_
                  refine c_istore_n (lv2 := [(3, .int (iI 0)), (8, .int (iI wy)), (6, .int (iI tn)), (7, (va_rf fs)), (4, .int (iI fr)), (5, .int (iI k)), (2, .int (iI 1)), (0, .ref a0), (1, .ref a1)]) C dX6_setBy_180 (by decide) rfl ?_
                  refine c_iload (j := 5) C dX6_setBy_181 rfl ?_
                  refine c_iconst C dX6_setBy_183 ?_
                  refine c_iadd C dX6_setBy_184 ?_
                  refine c_istore (lv2 := [(4, .int (iI (k + 1))), (3, .int (iI 0)), (8, .int (iI wy)), (6, .int (iI tn)), (7, (va_rf fs)), (5, .int (iI k)), (2, .int (iI 1)), (0, .ref a0), (1, .ref a1)]) C dX6_setBy_185 (by decide) rfl ?_
                  refine c_iinc (z := k) (j := 5) (lv2 := [(5, .int (iI (k + 1))), (4, .int (iI (k + 1))), (3, .int (iI 0)), (8, .int (iI wy)), (6, .int (iI tn)), (7, (va_rf fs)), (2, .int (iI 1)), (0, .ref a0), (1, .ref a1)]) C dX6_setBy_187 rfl (by decide) rfl ?_
                  refine c_goto (tgt := 27) C dX6_setBy_190 (by decide) ?_
                  refine hv2 (show 0 ≤ ivb6 a0 7 ∧ ivb6 a0 7 ≤ 100000 from Wb6.int t_a0 7) (show 0 ≤ ivb6 a0 4 ∧ ivb6 a0 4 ≤ 500 from Wb6.int t_a0 4) (fun ri28 ri29 => ?_)
                  refine c_lv (lv2 := [(3, .int (iI 0)), (4, .int (iI (k + 1))), (5, .int (iI (k + 1))), (2, .int (iI 1)), (0, .ref a0), (1, .ref a1)]) [2, 1, 0, 6, 7, 8] rfl ?_
                  exact ih2  0 (k + 1) (k + 1) _ (by omega) Wb6 Fb6  (by omega) (by omega) (by omega) (by show ivb6 a0 7 ≤ 200 + 4 * (k + 1); omega) he4
                · clear hsc
                  refine c_iconst C dX6_setBy_175 ?_
                  refine c_goto (tgt := 180) C dX6_setBy_176 (by decide) ?_
                  refine c_istore_n (lv2 := [(3, .int (iI 1)), (8, .int (iI wy)), (6, .int (iI tn)), (7, (va_rf fs)), (4, .int (iI fr)), (5, .int (iI k)), (2, .int (iI 1)), (0, .ref a0), (1, .ref a1)]) C dX6_setBy_180 (by decide) rfl ?_
                  refine c_iload (j := 5) C dX6_setBy_181 rfl ?_
                  refine c_iconst C dX6_setBy_183 ?_
                  refine c_iadd C dX6_setBy_184 ?_
                  refine c_istore (lv2 := [(4, .int (iI (k + 1))), (3, .int (iI 1)), (8, .int (iI wy)), (6, .int (iI tn)), (7, (va_rf fs)), (5, .int (iI k)), (2, .int (iI 1)), (0, .ref a0), (1, .ref a1)]) C dX6_setBy_185 (by decide) rfl ?_
                  refine c_iinc (z := k) (j := 5) (lv2 := [(5, .int (iI (k + 1))), (4, .int (iI (k + 1))), (3, .int (iI 1)), (8, .int (iI wy)), (6, .int (iI tn)), (7, (va_rf fs)), (2, .int (iI 1)), (0, .ref a0), (1, .ref a1)]) C dX6_setBy_187 rfl (by decide) rfl ?_
                  refine c_goto (tgt := 27) C dX6_setBy_190 (by decide) ?_
                  refine hv2 (show 0 ≤ ivb6 a0 7 ∧ ivb6 a0 7 ≤ 100000 from Wb6.int t_a0 7) (show 0 ≤ ivb6 a0 4 ∧ ivb6 a0 4 ≤ 500 from Wb6.int t_a0 4) (fun ri30 ri31 => ?_)
                  refine c_lv (lv2 := [(3, .int (iI 1)), (4, .int (iI (k + 1))), (5, .int (iI (k + 1))), (2, .int (iI 1)), (0, .ref a0), (1, .ref a1)]) [2, 1, 0, 6, 7, 8] rfl ?_
                  exact ih2  1 (k + 1) (k + 1) _ (by omega) Wb6 Fb6  (by omega) (by omega) (by omega) (by show ivb6 a0 7 ≤ 200 + 4 * (k + 1); omega) he4
              · replace hwy := (hwy.resolve_left c14)
                clear he7
                refine c_iload (j := 0) C dX6_setBy_168 rfl ?_
                refine hv2 (show 0 ≤ ivb6 a0 4 ∧ ivb6 a0 4 ≤ 500 from Wb6.int t_a0 4) (show 0 ≤ ivb6 a0 7 ∧ ivb6 a0 7 ≤ 100000 from Wb6.int t_a0 7) (fun ri32 ri33 => ?_)
                exact c_iret C dX6_setBy_170 rfl (by decide) (rom0 hph hph (by decide)) ⟨wy, rfl, rfl, rfl, rfl, rfl, Fb6, Wb6, ⟨by omega, by omega⟩, (by omega)⟩
            refine c_aload_n (j := 6) (x := a0) C dX6_setBy_108 rfl ?_
            refine c_iload_n (j := 2) C dX6_setBy_109 rfl ?_
            refine c_if_eq (tgt := 120) C (r32_01 hsc) dX6_setBy_110 (by decide) (fun c16 => ?_) (fun c16 => ?_)
            · clear hsc
              refine c_aloadr (j := 1) (r := fs) C dX6_setBy_120 rfl ?_
              refine c_iload (j := 3) C dX6_setBy_122 rfl ?_
              refine c_iload (j := 4) C dX6_setBy_124 rfl ?_
              refine hv2 (show 0 ≤ ivb5 a0 7 ∧ ivb5 a0 7 ≤ 100000 from Wb5.int t_a0 7) (show 0 ≤ ivb5 a0 4 ∧ ivb5 a0 4 ≤ 500 from Wb5.int t_a0 4) (fun ri34 ri35 => ?_)
              refine d_callV (As := [(va_rf fs), .int (iI fr), .int (iI k)]) (rest := []) C hM (C_setPart (a0 := a0) (r := fs) (i := fr) (n := k) Wb5 hS t_a0 ty_fs (by omega) (by omega) (by show 0 ≤ fr ∧ fr ≤ 500 ∧ 0 ≤ k ∧ k ≤ 500 ∧ ivb5 a0 7 ≤ 50000; omega)) dX6_setBy_126 kV_X6_74 rfl t_a0 rfl rfl (by decide) ck_7 rfl (Nat.le_of_ble_eq_true rfl) ⟨(Nat.le_of_ble_eq_true rfl), (Nat.le_of_ble_eq_true rfl)⟩ hph hph (show 0 + 0 = 0 from rfl) (by decide) (fun rh5 Lh5 clh5 lnh5 ivh5 rvh5 h5 => ?_)
              obtain ⟨f5, rfl, rfl, rfl, rfl, rfl, fl5, W6, rgf5, exf5⟩ := h5
              have F6 := Fb5.call hX0 fl5 rfl
              refine c_st (st2 := [.int (iI f5)]) rfl ?_
              refine hv3 (show 0 ≤ ivh5 a0 4 ∧ ivh5 a0 4 ≤ 500 from W6.int t_a0 4) (show 0 ≤ ivh5 a0 7 ∧ ivh5 a0 7 ≤ 100000 from W6.int t_a0 7) (show (f5 = 0 ∨ f5 = 6 ∨ f5 = 7) ∧ ivh5 a0 4 = ivb5 a0 4 ∧ ivh5 a0 7 ≤ ivb5 a0 7 + 208 ∧ (f5 = 0 → (ivh5 a0 7 ≤ ivb5 a0 7 ∨ ivh5 a0 7 ≤ 200)) from exf5) (fun ri36 ri37 gf5 => ?_)
              refine c_istore (lv2 := [(8, .int (iI f5)), (6, .int (iI tn)), (7, (va_rf fs)), (3, .int (iI sc)), (4, .int (iI fr)), (5, .int (iI k)), (2, .int (iI 1)), (0, .ref a0), (1, .ref a1)]) C dX6_setBy_129 (by decide) (by cases fs <;> rfl) ?_
              refine c_iload (j := 0) C dX6_setBy_131 rfl ?_
              refine c_if_ne (tgt := 163) C (r32_067 gf5.1) dX6_setBy_133 (by decide) (fun c17 => ?_) (fun c17 => ?_)
              · replace gf5 := (And.intro (gf5.1.resolve_left c17) (And.intro gf5.2.1 (And.intro gf5.2.2.1 trivial)))
                refine c_lv (lv2 := [(8, .int (iI f5)), (6, .int (iI tn)), (7, (va_rf fs)), (3, .int (iI sc)), (4, .int (iI fr)), (5, .int (iI k)), (2, .int (iI 1)), (0, .ref a0), (1, .ref a1)]) [0, 1, 2, 3, 4, 5, 6, 7, 8] rfl ?_
                exact J4  f5 _  W6 F6  (by omega) (by show f5 = 0 → ivh5 a0 7 ≤ 204 + 4 * k; omega) (by show ivh5 a0 4 = iv a0 4; omega)
              · replace gf5 := (And.intro c17 (And.intro gf5.2.1 (And.intro gf5.2.2.1 (gf5.2.2.2 c17))))
                refine c_iload (j := 1) C dX6_setBy_136 rfl ?_
                refine c_if_eq (tgt := 163) C (r32_01 htn) dX6_setBy_138 (by decide) (fun c18 => ?_) (fun c18 => ?_)
                · clear htn
                  clear htk
                  refine c_lv (lv2 := [(8, .int (iI f5)), (6, .int (iI tn)), (7, (va_rf fs)), (3, .int (iI sc)), (4, .int (iI fr)), (5, .int (iI k)), (2, .int (iI 1)), (0, .ref a0), (1, .ref a1)]) [0, 1, 2, 3, 4, 5, 6, 7, 8] rfl ?_
                  exact J4  f5 _  W6 F6  (by omega) (by show f5 = 0 → ivh5 a0 7 ≤ 204 + 4 * k; omega) (by show ivh5 a0 4 = iv a0 4; omega)
                · replace htn := (htn.resolve_left c18)
                  refine c_aload_n (j := 7) (x := a0) C dX6_setBy_141 rfl ?_
                  refine c_aload_n (j := 8) (x := a1) C dX6_setBy_142 rfl ?_
                  obtain ⟨rb3, rq3, trb3⟩ := W6.ref t_a1 6 rfl rfl rfl
                  have lnrb3 : 4 ≤ ln rb3 ∧ ln rb3 ≤ 4 := W6.len trb3 rfl
                  refine c_getr (k := 6) C ck_10 dX6_setBy_143 w2_195 (by decide) t_a1 rfl rfl (by decide) rfl rq3 ?_
                  refine c_st (st2 := [.ref rb3, .ref a0]) rfl ?_
                  refine c_iload_n (j := 3) C dX6_setBy_146 rfl ?_
                  refine c_if_eq (tgt := 154) C ⟨by omega, by omega⟩ dX6_setBy_147 (by decide) (fun _ => ?_) (fun z => absurd z (by omega))
                  refine c_iconst C dX6_setBy_154 ?_
                  have ll3 : 4 ≤ ln rb3 ∧ ln rb3 ≤ 4 := W6.len trb3 rfl
                  obtain ⟨nb4, nq4, tnb4⟩ := opt_n (W6.opt trb3 ((2 : Int).toNat) rfl rfl)
                  have tnb4 : ∀ b, nb4 = some b → ty L cl b 20 := tnb4
                  refine c_aaldR C dX6_setBy_155 trb3 rfl (by omega) (by omega) (by omega) nq4 ?_
                  refine c_st (st2 := [(va_rf nb4), .ref a0]) rfl ?_
                  refine c_iload (j := 5) C dX6_setBy_156 rfl ?_
                  refine d_callV (As := [(va_rf nb4), .int (iI k)]) (rest := []) C hM (C_setTurn (a0 := a0) (r := nb4) (i := k) W6 hS t_a0 tnb4 (by omega) (by show ivh5 a0 7 ≤ 90000; omega)) dX6_setBy_158 kV_X6_82 rfl t_a0 rfl rfl (by decide) ck_7 rfl (Nat.le_of_ble_eq_true rfl) ⟨(Nat.le_of_ble_eq_true rfl), (Nat.le_of_ble_eq_true rfl)⟩ hph hph (show 0 + 0 = 0 from rfl) (by decide) (fun rh6 Lh6 clh6 lnh6 ivh6 rvh6 h6 => ?_)
                  obtain ⟨f6, rfl, rfl, rfl, rfl, rfl, fl6, W7, rgf6, exf6⟩ := h6
                  have F7 := F6.call hX0 fl6 rfl
                  refine c_st (st2 := [.int (iI f6)]) rfl ?_
                  refine hv3 (show 0 ≤ ivh6 a0 4 ∧ ivh6 a0 4 ≤ 500 from W7.int t_a0 4) (show 0 ≤ ivh6 a0 7 ∧ ivh6 a0 7 ≤ 100000 from W7.int t_a0 7) (show (f6 = 0 ∨ f6 = 7) ∧ ivh6 a0 4 = ivh5 a0 4 ∧ ivh5 a0 7 ≤ ivh6 a0 7 ∧ ivh6 a0 7 ≤ ivh5 a0 7 + 4 from exf6) (fun ri38 ri39 gf6 => ?_)
                  refine c_istore (lv2 := [(8, .int (iI f6)), (6, .int (iI tn)), (7, (va_rf fs)), (3, .int (iI sc)), (4, .int (iI fr)), (5, .int (iI k)), (2, .int (iI 1)), (0, .ref a0), (1, .ref a1)]) C dX6_setBy_161 (by decide) (by cases fs <;> rfl) ?_
                  refine c_lv (lv2 := [(8, .int (iI f6)), (6, .int (iI tn)), (7, (va_rf fs)), (3, .int (iI sc)), (4, .int (iI fr)), (5, .int (iI k)), (2, .int (iI 1)), (0, .ref a0), (1, .ref a1)]) [0, 1, 2, 3, 4, 5, 6, 7, 8] rfl ?_
                  exact J4  f6 _  W7 F7  (by omega) (by show f6 = 0 → ivh6 a0 7 ≤ 204 + 4 * k; omega) (by show ivh6 a0 4 = iv a0 4; omega)
            · replace hsc := (hsc.resolve_left c16)
              refine c_aload_n (j := 7) (x := a1) C dX6_setBy_113 rfl ?_
              obtain ⟨nb5, nq5, tnb5⟩ := opt_n (Wb5.opt t_a1 3 rfl rfl)
              have tnb5 : ∀ b, nb5 = some b → ty L cl b 100 := tnb5
              refine c_getr (k := 3) C ck_10 dX6_setBy_114 w2_185 (by decide) t_a1 rfl rfl (by decide) rfl nq5 ?_
              refine c_st (st2 := [(va_rf nb5), .ref a0]) rfl ?_
              refine c_goto (tgt := 122) C dX6_setBy_117 (by decide) ?_
              refine c_iload (j := 3) C dX6_setBy_122 rfl ?_
              refine c_iload (j := 4) C dX6_setBy_124 rfl ?_
              refine hv2 (show 0 ≤ ivb5 a0 7 ∧ ivb5 a0 7 ≤ 100000 from Wb5.int t_a0 7) (show 0 ≤ ivb5 a0 4 ∧ ivb5 a0 4 ≤ 500 from Wb5.int t_a0 4) (fun ri40 ri41 => ?_)
              refine d_callV (As := [(va_rf nb5), .int (iI fr), .int (iI k)]) (rest := []) C hM (C_setPart (a0 := a0) (r := nb5) (i := fr) (n := k) Wb5 hS t_a0 tnb5 (by omega) (by omega) (by show 0 ≤ fr ∧ fr ≤ 500 ∧ 0 ≤ k ∧ k ≤ 500 ∧ ivb5 a0 7 ≤ 50000; omega)) dX6_setBy_126 kV_X6_74 rfl t_a0 rfl rfl (by decide) ck_7 rfl (Nat.le_of_ble_eq_true rfl) ⟨(Nat.le_of_ble_eq_true rfl), (Nat.le_of_ble_eq_true rfl)⟩ hph hph (show 0 + 0 = 0 from rfl) (by decide) (fun rh7 Lh7 clh7 lnh7 ivh7 rvh7 h7 => ?_)
              obtain ⟨f7, rfl, rfl, rfl, rfl, rfl, fl7, W8, rgf7, exf7⟩ := h7
              have F8 := Fb5.call hX0 fl7 rfl
              refine c_st (st2 := [.int (iI f7)]) rfl ?_
              refine hv3 (show 0 ≤ ivh7 a0 4 ∧ ivh7 a0 4 ≤ 500 from W8.int t_a0 4) (show 0 ≤ ivh7 a0 7 ∧ ivh7 a0 7 ≤ 100000 from W8.int t_a0 7) (show (f7 = 0 ∨ f7 = 6 ∨ f7 = 7) ∧ ivh7 a0 4 = ivb5 a0 4 ∧ ivh7 a0 7 ≤ ivb5 a0 7 + 208 ∧ (f7 = 0 → (ivh7 a0 7 ≤ ivb5 a0 7 ∨ ivh7 a0 7 ≤ 200)) from exf7) (fun ri42 ri43 gf7 => ?_)
              refine c_istore (lv2 := [(8, .int (iI f7)), (6, .int (iI tn)), (7, (va_rf fs)), (3, .int (iI sc)), (4, .int (iI fr)), (5, .int (iI k)), (2, .int (iI 1)), (0, .ref a0), (1, .ref a1)]) C dX6_setBy_129 (by decide) (by cases fs <;> rfl) ?_
              refine c_iload (j := 0) C dX6_setBy_131 rfl ?_
              refine c_if_ne (tgt := 163) C (r32_067 gf7.1) dX6_setBy_133 (by decide) (fun c19 => ?_) (fun c19 => ?_)
              · replace gf7 := (And.intro (gf7.1.resolve_left c19) (And.intro gf7.2.1 (And.intro gf7.2.2.1 trivial)))
                refine c_lv (lv2 := [(8, .int (iI f7)), (6, .int (iI tn)), (7, (va_rf fs)), (3, .int (iI sc)), (4, .int (iI fr)), (5, .int (iI k)), (2, .int (iI 1)), (0, .ref a0), (1, .ref a1)]) [0, 1, 2, 3, 4, 5, 6, 7, 8] rfl ?_
                exact J4  f7 _  W8 F8  (by omega) (by show f7 = 0 → ivh7 a0 7 ≤ 204 + 4 * k; omega) (by show ivh7 a0 4 = iv a0 4; omega)
              · replace gf7 := (And.intro c19 (And.intro gf7.2.1 (And.intro gf7.2.2.1 (gf7.2.2.2 c19))))
                refine c_iload (j := 1) C dX6_setBy_136 rfl ?_
                refine c_if_eq (tgt := 163) C (r32_01 htn) dX6_setBy_138 (by decide) (fun c20 => ?_) (fun c20 => ?_)
                · clear htn
                  clear htk
                  refine c_lv (lv2 := [(8, .int (iI f7)), (6, .int (iI tn)), (7, (va_rf fs)), (3, .int (iI sc)), (4, .int (iI fr)), (5, .int (iI k)), (2, .int (iI 1)), (0, .ref a0), (1, .ref a1)]) [0, 1, 2, 3, 4, 5, 6, 7, 8] rfl ?_
                  exact J4  f7 _  W8 F8  (by omega) (by show f7 = 0 → ivh7 a0 7 ≤ 204 + 4 * k; omega) (by show ivh7 a0 4 = iv a0 4; omega)
                · replace htn := (htn.resolve_left c20)
                  refine c_aload_n (j := 7) (x := a0) C dX6_setBy_141 rfl ?_
                  refine c_aload_n (j := 8) (x := a1) C dX6_setBy_142 rfl ?_
                  obtain ⟨rb4, rq4, trb4⟩ := W8.ref t_a1 6 rfl rfl rfl
                  have lnrb4 : 4 ≤ ln rb4 ∧ ln rb4 ≤ 4 := W8.len trb4 rfl
                  refine c_getr (k := 6) C ck_10 dX6_setBy_143 w2_195 (by decide) t_a1 rfl rfl (by decide) rfl rq4 ?_
                  refine c_st (st2 := [.ref rb4, .ref a0]) rfl ?_
                  refine c_iload_n (j := 3) C dX6_setBy_146 rfl ?_
                  refine c_if_eq (tgt := 154) C ⟨by omega, by omega⟩ dX6_setBy_147 (by decide) (fun z => absurd z (by omega)) (fun _ => ?_)
                  refine c_iconst C dX6_setBy_150 ?_
                  refine c_goto (tgt := 155) C dX6_setBy_151 (by decide) ?_
                  have ll4 : 4 ≤ ln rb4 ∧ ln rb4 ≤ 4 := W8.len trb4 rfl
                  obtain ⟨nb6, nq6, tnb6⟩ := opt_n (W8.opt trb4 ((3 : Int).toNat) rfl rfl)
                  have tnb6 : ∀ b, nb6 = some b → ty L cl b 20 := tnb6
                  refine c_aaldR C dX6_setBy_155 trb4 rfl (by omega) (by omega) (by omega) nq6 ?_
                  refine c_st (st2 := [(va_rf nb6), .ref a0]) rfl ?_
                  refine c_iload (j := 5) C dX6_setBy_156 rfl ?_
                  refine d_callV (As := [(va_rf nb6), .int (iI k)]) (rest := []) C hM (C_setTurn (a0 := a0) (r := nb6) (i := k) W8 hS t_a0 tnb6 (by omega) (by show ivh7 a0 7 ≤ 90000; omega)) dX6_setBy_158 kV_X6_82 rfl t_a0 rfl rfl (by decide) ck_7 rfl (Nat.le_of_ble_eq_true rfl) ⟨(Nat.le_of_ble_eq_true rfl), (Nat.le_of_ble_eq_true rfl)⟩ hph hph (show 0 + 0 = 0 from rfl) (by decide) (fun rh8 Lh8 clh8 lnh8 ivh8 rvh8 h8 => ?_)
                  obtain ⟨f8, rfl, rfl, rfl, rfl, rfl, fl8, W9, rgf8, exf8⟩ := h8
                  have F9 := F8.call hX0 fl8 rfl
                  refine c_st (st2 := [.int (iI f8)]) rfl ?_
                  refine hv3 (show 0 ≤ ivh8 a0 4 ∧ ivh8 a0 4 ≤ 500 from W9.int t_a0 4) (show 0 ≤ ivh8 a0 7 ∧ ivh8 a0 7 ≤ 100000 from W9.int t_a0 7) (show (f8 = 0 ∨ f8 = 7) ∧ ivh8 a0 4 = ivh7 a0 4 ∧ ivh7 a0 7 ≤ ivh8 a0 7 ∧ ivh8 a0 7 ≤ ivh7 a0 7 + 4 from exf8) (fun ri44 ri45 gf8 => ?_)
                  refine c_istore (lv2 := [(8, .int (iI f8)), (6, .int (iI tn)), (7, (va_rf fs)), (3, .int (iI sc)), (4, .int (iI fr)), (5, .int (iI k)), (2, .int (iI 1)), (0, .ref a0), (1, .ref a1)]) C dX6_setBy_161 (by decide) (by cases fs <;> rfl) ?_
                  refine c_lv (lv2 := [(8, .int (iI f8)), (6, .int (iI tn)), (7, (va_rf fs)), (3, .int (iI sc)), (4, .int (iI fr)), (5, .int (iI k)), (2, .int (iI 1)), (0, .ref a0), (1, .ref a1)]) [0, 1, 2, 3, 4, 5, 6, 7, 8] rfl ?_
                  exact J4  f8 _  W9 F9  (by omega) (by show f8 = 0 → ivh8 a0 7 ≤ 204 + 4 * k; omega) (by show ivh8 a0 4 = iv a0 4; omega)
          refine c_iload_n (j := 3) C dX6_setBy_36 rfl ?_
          refine c_if_eq (tgt := 74) C ⟨by decide, by decide⟩ dX6_setBy_37 (by decide) (fun z => absurd z (by omega)) (fun _ => ?_)
          refine c_iload (j := 2) C dX6_setBy_40 rfl ?_
          refine c_aload_n (j := 4) (x := a0) C dX6_setBy_42 rfl ?_
          refine c_get (k := 4) C ck_7 dX6_setBy_43 w1_140 (by decide) t_a0 rfl rfl (by decide) rfl ?_
          refine c_icmp_ge (tgt := 74) C ⟨by omega, by omega⟩ (r32_c (lo := 0) (hi := 500) ri26.1 ri26.2 (by decide) (by decide)) dX6_setBy_46 (by decide) (fun c21 => ?_) (fun c21 => ?_)
          · refine c_iconst C dX6_setBy_74 ?_
            refine c_istore (lv2 := [(6, .int (iI 0)), (3, .int (iI sc)), (4, .int (iI fr)), (5, .int (iI k)), (2, .int (iI 1)), (0, .ref a0), (1, .ref a1)]) C dX6_setBy_75 (by decide) rfl ?_
            refine c_iload (j := 3) C dX6_setBy_77 rfl ?_
            refine c_aload_n (j := 5) (x := a0) C dX6_setBy_79 rfl ?_
            refine c_get (k := 4) C ck_7 dX6_setBy_80 w1_140 (by decide) t_a0 rfl rfl (by decide) rfl ?_
            refine c_icmp_ge (tgt := 94) C ⟨by omega, by omega⟩ (r32_c (lo := 0) (hi := 500) ri26.1 ri26.2 (by decide) (by decide)) dX6_setBy_83 (by decide) (fun _ => ?_) (fun z => absurd z (by omega))
            refine c_iload_n (j := 4) C dX6_setBy_94 rfl ?_
            refine c_if_eq (tgt := 105) C ⟨by decide, by decide⟩ dX6_setBy_95 (by decide) (fun z => absurd z (by omega)) (fun _ => ?_)
            refine c_aload_n (j := 6) (x := a1) C dX6_setBy_98 rfl ?_
            obtain ⟨nb7, nq7, tnb7⟩ := opt_n (Wb4.opt t_a1 2 rfl rfl)
            have tnb7 : ∀ b, nb7 = some b → ty L cl b 100 := tnb7
            refine c_getr (k := 2) C ck_10 dX6_setBy_99 w2_182 (by decide) t_a1 rfl rfl (by decide) rfl nq7 ?_
            refine c_st (st2 := [(va_rf nb7)]) rfl ?_
            refine c_goto (tgt := 106) C dX6_setBy_102 (by decide) ?_
            refine c_astorer (r := nb7) (lv2 := [(7, (va_rf nb7)), (6, .int (iI 0)), (3, .int (iI sc)), (4, .int (iI fr)), (5, .int (iI k)), (2, .int (iI 1)), (0, .ref a0), (1, .ref a1)]) C dX6_setBy_106 (by decide) rfl ?_
            have ri46 : 0 ≤ ivb4 a0 7 ∧ ivb4 a0 7 ≤ 100000 := Wb4.int t_a0 7
            refine c_lv (lv2 := [(6, .int (iI 0)), (7, (va_rf nb7)), (3, .int (iI sc)), (4, .int (iI fr)), (5, .int (iI k)), (2, .int (iI 1)), (0, .ref a0), (1, .ref a1)]) [1, 0, 2, 3, 4, 5, 6, 7] rfl ?_
            exact J3  nb7 0 _  Wb4 Fb4 tnb7 (by omega) (by omega) (fun q => absurd q (by omega)) (by show ivb4 a0 7 ≤ 200 + 4 * k; omega) hc4
          · refine c_aload_n (j := 4) (x := a0) C dX6_setBy_49 rfl ?_
            obtain ⟨rb5, rq5, trb5⟩ := Wb4.ref t_a0 0 rfl rfl rfl
            have lnrb5 : 500 ≤ ln rb5 ∧ ln rb5 ≤ 500 := Wb4.len trb5 rfl
            refine c_getr (k := 0) C ck_7 dX6_setBy_50 w1_136 (by decide) t_a0 rfl rfl (by decide) rfl rq5 ?_
            refine c_st (st2 := [.ref rb5]) rfl ?_
            refine c_iload (j := 2) C dX6_setBy_53 rfl ?_
            have ll5 : 500 ≤ ln rb5 ∧ ln rb5 ≤ 500 := Wb4.len trb5 rfl
            refine c_iald C dX6_setBy_55 trb5 rfl (by omega) (by omega) (by omega) ?_
            refine hv2 (show (-2147483648) ≤ ivb4 rb5 k.toNat ∧ ivb4 rb5 k.toNat ≤ 2147483647 from Wb4.int trb5 k.toNat) (show ivb4 rb5 k.toNat = iv rb5 k.toNat from Fb4.i trb5 rfl k.toNat) (fun ri47 ie47 => ?_)
            refine c_iload_n (j := 0) C dX6_setBy_56 rfl ?_
            refine c_if_eq (tgt := 65) C (r32_01 hsc) dX6_setBy_57 (by decide) (fun c22 => ?_) (fun c22 => ?_)
            · clear hsc
              refine c_bipush (z := 60) C dX6_setBy_65 (by decide) ?_
              refine c_icmp_ne (tgt := 74) C (r32_c (lo := (-2147483648)) (hi := 2147483647) ri47.1 ri47.2 (by decide) (by decide)) ⟨by decide, by decide⟩ dX6_setBy_67 (by decide) (fun c23 => ?_) (fun c23 => ?_)
              · refine c_iconst C dX6_setBy_74 ?_
                refine c_istore (lv2 := [(6, .int (iI 0)), (3, .int (iI sc)), (4, .int (iI fr)), (5, .int (iI k)), (2, .int (iI 1)), (0, .ref a0), (1, .ref a1)]) C dX6_setBy_75 (by decide) rfl ?_
                refine c_iload (j := 3) C dX6_setBy_77 rfl ?_
                refine c_aload_n (j := 5) (x := a0) C dX6_setBy_79 rfl ?_
                refine c_get (k := 4) C ck_7 dX6_setBy_80 w1_140 (by decide) t_a0 rfl rfl (by decide) rfl ?_
                refine c_icmp_ge (tgt := 94) C ⟨by omega, by omega⟩ (r32_c (lo := 0) (hi := 500) ri26.1 ri26.2 (by decide) (by decide)) dX6_setBy_83 (by decide) (fun z => absurd z (by omega)) (fun _ => ?_)
                refine c_iload (j := 0) C dX6_setBy_86 rfl ?_
                refine c_if_ne (tgt := 94) C ⟨by decide, by decide⟩ dX6_setBy_88 (by decide) (fun z => absurd z (by omega)) (fun _ => ?_)
                refine c_goto (tgt := 187) C dX6_setBy_91 (by decide) ?_
                refine c_iinc (z := k) (j := 3) (lv2 := [(5, .int (iI (k + 1))), (6, .int (iI 0)), (3, .int (iI sc)), (4, .int (iI fr)), (2, .int (iI 1)), (0, .ref a0), (1, .ref a1)]) C dX6_setBy_187 rfl (by decide) rfl ?_
                refine c_goto (tgt := 27) C dX6_setBy_190 (by decide) ?_
                have ri48 : 0 ≤ ivb4 a0 7 ∧ ivb4 a0 7 ≤ 100000 := Wb4.int t_a0 7
                refine c_lv (lv2 := [(3, .int (iI sc)), (4, .int (iI fr)), (5, .int (iI (k + 1))), (2, .int (iI 1)), (0, .ref a0), (1, .ref a1)]) [2, 3, 0, 4, 5, 6] rfl ?_
                exact ih2  sc fr (k + 1) _ (by omega) Wb4 Fb4  (by omega) (by omega) (by omega) (by show ivb4 a0 7 ≤ 200 + 4 * (k + 1); omega) hc4
              · refine c_iconst C dX6_setBy_70 ?_
                refine c_goto (tgt := 75) C dX6_setBy_71 (by decide) ?_
                refine c_istore (lv2 := [(6, .int (iI 1)), (3, .int (iI sc)), (4, .int (iI fr)), (5, .int (iI k)), (2, .int (iI 1)), (0, .ref a0), (1, .ref a1)]) C dX6_setBy_75 (by decide) rfl ?_
                refine c_iload (j := 3) C dX6_setBy_77 rfl ?_
                refine c_aload_n (j := 5) (x := a0) C dX6_setBy_79 rfl ?_
                refine c_get (k := 4) C ck_7 dX6_setBy_80 w1_140 (by decide) t_a0 rfl rfl (by decide) rfl ?_
                refine c_icmp_ge (tgt := 94) C ⟨by omega, by omega⟩ (r32_c (lo := 0) (hi := 500) ri26.1 ri26.2 (by decide) (by decide)) dX6_setBy_83 (by decide) (fun z => absurd z (by omega)) (fun _ => ?_)
                refine c_iload (j := 0) C dX6_setBy_86 rfl ?_
                refine c_if_ne (tgt := 94) C ⟨by decide, by decide⟩ dX6_setBy_88 (by decide) (fun _ => ?_) (fun z => absurd z (by omega))
                refine c_iload_n (j := 4) C dX6_setBy_94 rfl ?_
                refine c_if_eq (tgt := 105) C ⟨by decide, by decide⟩ dX6_setBy_95 (by decide) (fun z => absurd z (by omega)) (fun _ => ?_)
                refine c_aload_n (j := 6) (x := a1) C dX6_setBy_98 rfl ?_
                obtain ⟨nb8, nq8, tnb8⟩ := opt_n (Wb4.opt t_a1 2 rfl rfl)
                have tnb8 : ∀ b, nb8 = some b → ty L cl b 100 := tnb8
                refine c_getr (k := 2) C ck_10 dX6_setBy_99 w2_182 (by decide) t_a1 rfl rfl (by decide) rfl nq8 ?_
                refine c_st (st2 := [(va_rf nb8)]) rfl ?_
                refine c_goto (tgt := 106) C dX6_setBy_102 (by decide) ?_
                refine c_astorer (r := nb8) (lv2 := [(7, (va_rf nb8)), (6, .int (iI 1)), (3, .int (iI sc)), (4, .int (iI fr)), (5, .int (iI k)), (2, .int (iI 1)), (0, .ref a0), (1, .ref a1)]) C dX6_setBy_106 (by decide) rfl ?_
                have ri49 : 0 ≤ ivb4 a0 7 ∧ ivb4 a0 7 ≤ 100000 := Wb4.int t_a0 7
                refine c_lv (lv2 := [(6, .int (iI 1)), (7, (va_rf nb8)), (3, .int (iI sc)), (4, .int (iI fr)), (5, .int (iI k)), (2, .int (iI 1)), (0, .ref a0), (1, .ref a1)]) [1, 0, 2, 3, 4, 5, 6, 7] rfl ?_
                exact J3  nb8 1 _  Wb4 Fb4 tnb8 (by omega) (by omega) (fun _ => by omega) (by show ivb4 a0 7 ≤ 200 + 4 * k; omega) hc4
            · replace hsc := (hsc.resolve_left c22)
              refine c_bipush (z := 62) C dX6_setBy_60 (by decide) ?_
              refine c_goto (tgt := 67) C dX6_setBy_62 (by decide) ?_
              refine c_icmp_ne (tgt := 74) C (r32_c (lo := (-2147483648)) (hi := 2147483647) ri47.1 ri47.2 (by decide) (by decide)) ⟨by decide, by decide⟩ dX6_setBy_67 (by decide) (fun c24 => ?_) (fun c24 => ?_)
              · refine c_iconst C dX6_setBy_74 ?_
                refine c_istore (lv2 := [(6, .int (iI 0)), (3, .int (iI sc)), (4, .int (iI fr)), (5, .int (iI k)), (2, .int (iI 1)), (0, .ref a0), (1, .ref a1)]) C dX6_setBy_75 (by decide) rfl ?_
                refine c_iload (j := 3) C dX6_setBy_77 rfl ?_
                refine c_aload_n (j := 5) (x := a0) C dX6_setBy_79 rfl ?_
                refine c_get (k := 4) C ck_7 dX6_setBy_80 w1_140 (by decide) t_a0 rfl rfl (by decide) rfl ?_
                refine c_icmp_ge (tgt := 94) C ⟨by omega, by omega⟩ (r32_c (lo := 0) (hi := 500) ri26.1 ri26.2 (by decide) (by decide)) dX6_setBy_83 (by decide) (fun z => absurd z (by omega)) (fun _ => ?_)
                refine c_iload (j := 0) C dX6_setBy_86 rfl ?_
                refine c_if_ne (tgt := 94) C ⟨by decide, by decide⟩ dX6_setBy_88 (by decide) (fun z => absurd z (by omega)) (fun _ => ?_)
                refine c_goto (tgt := 187) C dX6_setBy_91 (by decide) ?_
                refine c_iinc (z := k) (j := 3) (lv2 := [(5, .int (iI (k + 1))), (6, .int (iI 0)), (3, .int (iI sc)), (4, .int (iI fr)), (2, .int (iI 1)), (0, .ref a0), (1, .ref a1)]) C dX6_setBy_187 rfl (by decide) rfl ?_
                refine c_goto (tgt := 27) C dX6_setBy_190 (by decide) ?_
                have ri50 : 0 ≤ ivb4 a0 7 ∧ ivb4 a0 7 ≤ 100000 := Wb4.int t_a0 7
                refine c_lv (lv2 := [(3, .int (iI sc)), (4, .int (iI fr)), (5, .int (iI (k + 1))), (2, .int (iI 1)), (0, .ref a0), (1, .ref a1)]) [2, 3, 0, 4, 5, 6] rfl ?_
                exact ih2  sc fr (k + 1) _ (by omega) Wb4 Fb4  (by omega) (by omega) (by omega) (by show ivb4 a0 7 ≤ 200 + 4 * (k + 1); omega) hc4
              · refine c_iconst C dX6_setBy_70 ?_
                refine c_goto (tgt := 75) C dX6_setBy_71 (by decide) ?_
                refine c_istore (lv2 := [(6, .int (iI 1)), (3, .int (iI sc)), (4, .int (iI fr)), (5, .int (iI k)), (2, .int (iI 1)), (0, .ref a0), (1, .ref a1)]) C dX6_setBy_75 (by decide) rfl ?_
                refine c_iload (j := 3) C dX6_setBy_77 rfl ?_
                refine c_aload_n (j := 5) (x := a0) C dX6_setBy_79 rfl ?_
                refine c_get (k := 4) C ck_7 dX6_setBy_80 w1_140 (by decide) t_a0 rfl rfl (by decide) rfl ?_
                refine c_icmp_ge (tgt := 94) C ⟨by omega, by omega⟩ (r32_c (lo := 0) (hi := 500) ri26.1 ri26.2 (by decide) (by decide)) dX6_setBy_83 (by decide) (fun z => absurd z (by omega)) (fun _ => ?_)
                refine c_iload (j := 0) C dX6_setBy_86 rfl ?_
                refine c_if_ne (tgt := 94) C ⟨by decide, by decide⟩ dX6_setBy_88 (by decide) (fun _ => ?_) (fun z => absurd z (by omega))
                refine c_iload_n (j := 4) C dX6_setBy_94 rfl ?_
                refine c_if_eq (tgt := 105) C ⟨by decide, by decide⟩ dX6_setBy_95 (by decide) (fun z => absurd z (by omega)) (fun _ => ?_)
                refine c_aload_n (j := 6) (x := a1) C dX6_setBy_98 rfl ?_
                obtain ⟨nb9, nq9, tnb9⟩ := opt_n (Wb4.opt t_a1 2 rfl rfl)
                have tnb9 : ∀ b, nb9 = some b → ty L cl b 100 := tnb9
                refine c_getr (k := 2) C ck_10 dX6_setBy_99 w2_182 (by decide) t_a1 rfl rfl (by decide) rfl nq9 ?_
                refine c_st (st2 := [(va_rf nb9)]) rfl ?_
                refine c_goto (tgt := 106) C dX6_setBy_102 (by decide) ?_
                refine c_astorer (r := nb9) (lv2 := [(7, (va_rf nb9)), (6, .int (iI 1)), (3, .int (iI sc)), (4, .int (iI fr)), (5, .int (iI k)), (2, .int (iI 1)), (0, .ref a0), (1, .ref a1)]) C dX6_setBy_106 (by decide) rfl ?_
                have ri51 : 0 ≤ ivb4 a0 7 ∧ ivb4 a0 7 ≤ 100000 := Wb4.int t_a0 7
                refine c_lv (lv2 := [(6, .int (iI 1)), (7, (va_rf nb9)), (3, .int (iI sc)), (4, .int (iI fr)), (5, .int (iI k)), (2, .int (iI 1)), (0, .ref a0), (1, .ref a1)]) [1, 0, 2, 3, 4, 5, 6, 7] rfl ?_
                exact J3  nb9 1 _  Wb4 Fb4 tnb9 (by omega) (by omega) (fun _ => by omega) (by show ivb4 a0 7 ≤ 200 + 4 * k; omega) hc4
    refine hv4 (show 0 ≤ iv1 a0 7 ∧ iv1 a0 7 ≤ 100000 from W1.int t_a0 7) (show iv1 a0 7 = 0 from by rw [pq1]; exact up2_s) (show 0 ≤ iv1 a0 4 ∧ iv1 a0 4 ≤ 500 from W1.int t_a0 4) (show iv1 a0 4 = iv a0 4 from by rw [pq1]; exact up2_j (by decide)) (fun ri52 ie52 ri53 ie53 => ?_)
    refine c_lv (lv2 := [(3, .int (iI 0)), (4, .int (iI 0)), (5, .int (iI 0)), (2, .int (iI 1)), (0, .ref a0), (1, .ref a1)]) [2, 1, 0, 3, 4, 5] rfl ?_
    exact Lp2 503 0 0 0 _ (by omega) W1 F1  (by omega) (by omega) (by omega) (by show iv1 a0 7 ≤ 200 + 4 * 0; omega) ie53
end
