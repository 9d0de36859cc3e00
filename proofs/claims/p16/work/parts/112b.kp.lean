def TX (L : List Nat) (cl : Nat → Nat) (L2 : List Nat) (cl2 : Nat → Nat) : Prop := ∀ b T, raw T = false → ty L cl b T → ty L2 cl2 b T
def KP (L : List Nat) (cl : Nat → Nat) (C Q S X : Nat → Prop) (N : Nat → Nat → Prop) (iv : Nat → Nat → Int) (rv : Nat → Nat → Option Nat) (iv2 : Nat → Nat → Int) (rv2 : Nat → Nat → Option Nat) : Prop := (∀ b, ty L cl b 100 → rv2 b 2 = rv b 2 ∧ rv2 b 3 = rv b 3 ∧ rv2 b 4 = rv b 4 ∧ rv2 b 5 = rv b 5 ∧ rv2 b 6 = rv b 6) ∧ (∀ b, ty L cl b 20 → iv2 b 0 = iv b 0 ∧ rv2 b 1 = rv b 1 ∧ rv2 b 2 = rv b 2) ∧ (∀ b, ty L cl b 20 → ¬ C b → iv2 b 3 = iv b 3) ∧ (∀ b, ty L cl b 21 → iv2 b 3 = iv b 3 ∧ rv2 b 2 = rv b 2) ∧ (∀ b, ty L cl b 65 → ∀ k, iv2 b k = iv b k) ∧ (∀ b, ty L cl b 66 → ∀ k, iv2 b k = iv b k) ∧ (∀ b, ty L cl b 68 → ∀ k, ¬ N b k → rv2 b k = rv b k) ∧ (∀ b, ty L cl b 26 → ¬ Q b → iv2 b 2 = iv b 2 ∧ ∀ r : Nat, (r : Int) < iv b 2 → el rv2 b r = el rv b r) ∧ (∀ b, ty L cl b 12 → (¬ S b → iv2 b 2 = iv b 2 ∧ rv2 b 1 = rv b 1)) ∧ (∀ b, ty L cl b 42 → ¬ X b → ∀ k, iv2 b k = iv b k)
theorem KP.tb {L : List Nat} {cl : Nat → Nat} {C Q S X : Nat → Prop} {N : Nat → Nat → Prop} {iv : Nat → Nat → Int} {rv : Nat → Nat → Option Nat} {iv2 : Nat → Nat → Int} {rv2 : Nat → Nat → Option Nat} (h : KP L cl C Q S X N iv rv iv2 rv2) : ∀ b, ty L cl b 100 → rv2 b 2 = rv b 2 ∧ rv2 b 3 = rv b 3 ∧ rv2 b 4 = rv b 4 ∧ rv2 b 5 = rv b 5 ∧ rv2 b 6 = rv b 6 := h.1
theorem KP.rw0 {L : List Nat} {cl : Nat → Nat} {C Q S X : Nat → Prop} {N : Nat → Nat → Prop} {iv : Nat → Nat → Int} {rv : Nat → Nat → Option Nat} {iv2 : Nat → Nat → Int} {rv2 : Nat → Nat → Option Nat} (h : KP L cl C Q S X N iv rv iv2 rv2) : ∀ b, ty L cl b 20 → iv2 b 0 = iv b 0 ∧ rv2 b 1 = rv b 1 ∧ rv2 b 2 = rv b 2 := h.2.1
theorem KP.rwc {L : List Nat} {cl : Nat → Nat} {C Q S X : Nat → Prop} {N : Nat → Nat → Prop} {iv : Nat → Nat → Int} {rv : Nat → Nat → Option Nat} {iv2 : Nat → Nat → Int} {rv2 : Nat → Nat → Option Nat} (h : KP L cl C Q S X N iv rv iv2 rv2) : ∀ b, ty L cl b 20 → ¬ C b → iv2 b 3 = iv b 3 := h.2.2.1
theorem KP.ch {L : List Nat} {cl : Nat → Nat} {C Q S X : Nat → Prop} {N : Nat → Nat → Prop} {iv : Nat → Nat → Int} {rv : Nat → Nat → Option Nat} {iv2 : Nat → Nat → Int} {rv2 : Nat → Nat → Option Nat} (h : KP L cl C Q S X N iv rv iv2 rv2) : ∀ b, ty L cl b 21 → iv2 b 3 = iv b 3 ∧ rv2 b 2 = rv b 2 := h.2.2.2.1
theorem KP.le {L : List Nat} {cl : Nat → Nat} {C Q S X : Nat → Prop} {N : Nat → Nat → Prop} {iv : Nat → Nat → Int} {rv : Nat → Nat → Option Nat} {iv2 : Nat → Nat → Int} {rv2 : Nat → Nat → Option Nat} (h : KP L cl C Q S X N iv rv iv2 rv2) : ∀ b, ty L cl b 65 → ∀ k, iv2 b k = iv b k := h.2.2.2.2.1
theorem KP.ce {L : List Nat} {cl : Nat → Nat} {C Q S X : Nat → Prop} {N : Nat → Nat → Prop} {iv : Nat → Nat → Int} {rv : Nat → Nat → Option Nat} {iv2 : Nat → Nat → Int} {rv2 : Nat → Nat → Option Nat} (h : KP L cl C Q S X N iv rv iv2 rv2) : ∀ b, ty L cl b 66 → ∀ k, iv2 b k = iv b k := h.2.2.2.2.2.1
theorem KP.nd {L : List Nat} {cl : Nat → Nat} {C Q S X : Nat → Prop} {N : Nat → Nat → Prop} {iv : Nat → Nat → Int} {rv : Nat → Nat → Option Nat} {iv2 : Nat → Nat → Int} {rv2 : Nat → Nat → Option Nat} (h : KP L cl C Q S X N iv rv iv2 rv2) : ∀ b, ty L cl b 68 → ∀ k, ¬ N b k → rv2 b k = rv b k := h.2.2.2.2.2.2.1
theorem KP.li {L : List Nat} {cl : Nat → Nat} {C Q S X : Nat → Prop} {N : Nat → Nat → Prop} {iv : Nat → Nat → Int} {rv : Nat → Nat → Option Nat} {iv2 : Nat → Nat → Int} {rv2 : Nat → Nat → Option Nat} (h : KP L cl C Q S X N iv rv iv2 rv2) : ∀ b, ty L cl b 26 → ¬ Q b → iv2 b 2 = iv b 2 ∧ ∀ r : Nat, (r : Int) < iv b 2 → el rv2 b r = el rv b r := h.2.2.2.2.2.2.2.1
theorem KP.it {L : List Nat} {cl : Nat → Nat} {C Q S X : Nat → Prop} {N : Nat → Nat → Prop} {iv : Nat → Nat → Int} {rv : Nat → Nat → Option Nat} {iv2 : Nat → Nat → Int} {rv2 : Nat → Nat → Option Nat} (h : KP L cl C Q S X N iv rv iv2 rv2) : ∀ b, ty L cl b 12 → (¬ S b → iv2 b 2 = iv b 2 ∧ rv2 b 1 = rv b 1) := h.2.2.2.2.2.2.2.2.1
theorem KP.ia {L : List Nat} {cl : Nat → Nat} {C Q S X : Nat → Prop} {N : Nat → Nat → Prop} {iv : Nat → Nat → Int} {rv : Nat → Nat → Option Nat} {iv2 : Nat → Nat → Int} {rv2 : Nat → Nat → Option Nat} (h : KP L cl C Q S X N iv rv iv2 rv2) : ∀ b, ty L cl b 42 → ¬ X b → ∀ k, iv2 b k = iv b k := h.2.2.2.2.2.2.2.2.2
def kpl (ls : List Nat) : Bool := ([100, 20, 21, 65, 66, 68, 26, 1004, 12, 42] : List Nat).all (fun t => !ls.contains t)
def okI (T k : Nat) : Bool := match T with
  | 20 => k != 0 && k != 3
  | 21 => k != 3
  | 65 => false
  | 66 => false
  | 42 => false
  | 26 => k != 2
  | 12 => k != 2
  | _ => true
def okR (T k : Nat) : Bool := match T with
  | 100 => !([2, 3, 4, 5, 6] : List Nat).contains k
  | 20 => k != 1 && k != 2
  | 21 => k != 2
  | 68 => false
  | 26 => k != 1
  | 1004 => false
  | 12 => k != 1
  | _ => true
section KPS
variable {g : Nat} {sk : Nat → Nat} {L L1 L2 : List Nat} {cl ln cl1 ln1 cl2 ln2 : Nat → Nat} {iv iv1 iv2 : Nat → Nat → Int} {rv rv1 rv2 : Nat → Nat → Option Nat} {C Q S X C2 Q2 S2 X2 : Nat → Prop} {N N2 : Nat → Nat → Prop} {ls : List Nat} {a k q t T : Nat} {z : Int} {y : Option Nat}
theorem TX.refl : TX L cl L cl := fun _ _ _ h => h
theorem TX.xt (h : TX L cl L1 cl1) (hX : XT L1 cl1 ln1 L2 cl2 ln2) : TX L cl L2 cl2 := fun b T hr hb => hX.ty (h b T hr hb)
theorem TX.rt (h : TX L cl L1 cl1) (hc : cl2 = va_up cl1 q t) (tq : ty L1 cl1 q T) (hr : raw T = true) : TX L cl L1 cl2 := fun b T2 hr2 hb => ⟨(h b T2 hr2 hb).1, by rw [hc, va_up_ne _ _ (ne_ty (h b T2 hr2 hb) tq (fun e => by rw [e, hr] at hr2; cases hr2))]; exact (h b T2 hr2 hb).2⟩
theorem KP.refl : KP L cl C Q S X N iv rv iv rv := ⟨fun _ _ => ⟨rfl, rfl, rfl, rfl, rfl⟩, fun _ _ => ⟨rfl, rfl, rfl⟩, fun _ _ _ => rfl, fun _ _ => ⟨rfl, rfl⟩, fun _ _ _ => rfl, fun _ _ _ => rfl, fun _ _ _ _ => rfl, fun _ _ _ => ⟨rfl, fun _ _ => rfl⟩, fun _ _ _ => ⟨rfl, rfl⟩, fun _ _ _ _ => rfl⟩
theorem KP.trans (h : KP L cl C Q S X N iv rv iv1 rv1) (hX : TX L cl L1 cl1) (h2 : KP L1 cl1 C Q S X N iv1 rv1 iv2 rv2) : KP L cl C Q S X N iv rv iv2 rv2 := by
  refine ⟨fun b tb => ?_, fun b tb => ?_, fun b tb hc => ?_, fun b tb => ?_, fun b tb k => ?_, fun b tb k => ?_, fun b tb k hn => ?_, fun b tb hq => ?_, fun b tb hs => ?_, fun b tb hx k => ?_⟩
  · have q1 := h.tb b tb
    have q2 := h2.tb b (hX b _ rfl tb)
    exact ⟨q2.1.trans q1.1, q2.2.1.trans q1.2.1, q2.2.2.1.trans q1.2.2.1, q2.2.2.2.1.trans q1.2.2.2.1, q2.2.2.2.2.trans q1.2.2.2.2⟩
  · have q1 := h.rw0 b tb
    have q2 := h2.rw0 b (hX b _ rfl tb)
    exact ⟨q2.1.trans q1.1, q2.2.1.trans q1.2.1, q2.2.2.trans q1.2.2⟩
  · exact (h2.rwc b (hX b _ rfl tb) hc).trans (h.rwc b tb hc)
  · have q1 := h.ch b tb
    have q2 := h2.ch b (hX b _ rfl tb)
    exact ⟨q2.1.trans q1.1, q2.2.trans q1.2⟩
  · exact (h2.le b (hX b _ rfl tb) k).trans (h.le b tb k)
  · exact (h2.ce b (hX b _ rfl tb) k).trans (h.ce b tb k)
  · exact (h2.nd b (hX b _ rfl tb) k hn).trans (h.nd b tb k hn)
  · have q1 := h.li b tb hq
    have q2 := h2.li b (hX b _ rfl tb) hq
    exact ⟨q2.1.trans q1.1, fun r hr => (q2.2 r (by rw [q1.1]; exact hr)).trans (q1.2 r hr)⟩
  · have q1 := h.it b tb hs
    have q2 := h2.it b (hX b _ rfl tb) hs
    exact ⟨q2.1.trans q1.1, q2.2.trans q1.2⟩
  · exact (h2.ia b (hX b _ rfl tb) hx k).trans (h.ia b tb hx k)
theorem KP.mono (h : KP L cl C Q S X N iv rv iv2 rv2) (hC : ∀ b ∈ L, C b → C2 b) (hQ : ∀ b ∈ L, Q b → Q2 b) (hS : ∀ b ∈ L, S b → S2 b) (hX : ∀ b ∈ L, X b → X2 b) (hN : ∀ b ∈ L, ∀ k, N b k → N2 b k) : KP L cl C2 Q2 S2 X2 N2 iv rv iv2 rv2 :=
  ⟨h.tb, h.rw0, fun b tb q => h.rwc b tb (fun e => q (hC b tb.1 e)), h.ch, h.le, h.ce, fun b tb k q => h.nd b tb k (fun e => q (hN b tb.1 k e)), fun b tb q => h.li b tb (fun e => q (hQ b tb.1 e)), fun b tb q => h.it b tb (fun e => q (hS b tb.1 e)), fun b tb q => h.ia b tb (fun e => q (hX b tb.1 e))⟩
theorem kpl_no (h : kpl ls = true) : ls.contains 100 = false ∧ ls.contains 20 = false ∧ ls.contains 21 = false ∧ ls.contains 65 = false ∧ ls.contains 66 = false ∧ ls.contains 68 = false ∧ ls.contains 26 = false ∧ ls.contains 1004 = false ∧ ls.contains 12 = false ∧ ls.contains 42 = false := by
  have g : ∀ t, t ∈ ([100, 20, 21, 65, 66, 68, 26, 1004, 12, 42] : List Nat) → ls.contains t = false := fun t ht => by have := List.all_eq_true.mp h t ht; simpa using this
  exact ⟨g _ (by decide), g _ (by decide), g _ (by decide), g _ (by decide), g _ (by decide), g _ (by decide), g _ (by decide), g _ (by decide), g _ (by decide), g _ (by decide)⟩
theorem KP.fr (h : WT g sk L cl ln iv rv) (hF : fT ls L cl iv rv iv2 rv2) (hl : kpl ls = true) : KP L cl C Q S X N iv rv iv2 rv2 := by
  obtain ⟨a1, a2, a3, a4, a5, a6, a7, a8, a9, a10⟩ := kpl_no hl
  exact ⟨fun b tb => ⟨hF.r tb a1 2, hF.r tb a1 3, hF.r tb a1 4, hF.r tb a1 5, hF.r tb a1 6⟩, fun b tb => ⟨hF.i tb a2 0, hF.r tb a2 1, hF.r tb a2 2⟩, fun b tb _ => hF.i tb a2 3, fun b tb => ⟨hF.i tb a3 3, hF.r tb a3 2⟩, fun b tb k => hF.i tb a4 k, fun b tb k => hF.i tb a5 k, fun b tb k _ => hF.r tb a6 k, fun b tb _ => ⟨hF.i tb a7 2, fun r hr => el_kp h tb (hF.r tb a7 1) (fun b2 tb2 _ k => hF.r tb2 a8 k) hr⟩, fun b tb _ => ⟨hF.i tb a9 2, hF.r tb a9 1⟩, fun b tb _ k => hF.i tb a10 k⟩
theorem KP.call (h : KP L cl C Q S X N iv rv iv1 rv1) (hX : TX L cl L1 cl1) (hW : WT g sk L1 cl1 ln1 iv1 rv1) (hF : fT ls L1 cl1 iv1 rv1 iv2 rv2) (hl : kpl ls = true) : KP L cl C Q S X N iv rv iv2 rv2 := h.trans hX (KP.fr hW hF hl)
theorem KP.l26 (h : WT g sk L cl ln iv rv) (hF : fT [26, 1004] L cl iv rv iv2 rv2) (ho : ∀ bb, ty L cl bb 26 → bb ≠ a → iv2 bb 2 = iv bb 2 ∧ ∀ r : Nat, (r : Int) < iv bb 2 → el rv2 bb r = el rv bb r) : KP L cl C (fun b => b = a) S X N iv rv iv2 rv2 :=
  ⟨fun b tb => ⟨hF.r tb rfl 2, hF.r tb rfl 3, hF.r tb rfl 4, hF.r tb rfl 5, hF.r tb rfl 6⟩, fun b tb => ⟨hF.i tb rfl 0, hF.r tb rfl 1, hF.r tb rfl 2⟩, fun b tb _ => hF.i tb rfl 3, fun b tb => ⟨hF.i tb rfl 3, hF.r tb rfl 2⟩, fun b tb k => hF.i tb rfl k, fun b tb k => hF.i tb rfl k, fun b tb k _ => hF.r tb rfl k, fun b tb hq => ho b tb hq, fun b tb _ => ⟨hF.i tb rfl 2, hF.r tb rfl 1⟩, fun b tb _ k => hF.i tb rfl k⟩
theorem KP.i12 (h : WT g sk L cl ln iv rv) (hF : fT ls L cl iv rv iv2 rv2) (hl : kpl (ls.filter (fun t => t != 12 && t != 42)) = true) (ho : ∀ bb, ty L cl bb 12 → bb ≠ a → iv2 bb 2 = iv bb 2 ∧ rv2 bb 1 = rv bb 1) (hx : ∀ bb, ty L cl bb 42 → ¬ X bb → ∀ k, iv2 bb k = iv bb k) : KP L cl C Q (fun b => b = a) X N iv rv iv2 rv2 := by
  obtain ⟨a1, a2, a3, a4, a5, a6, a7, a8, _, _⟩ := kpl_no hl
  have g : ∀ t, (t != 12 && t != 42) = true → (ls.filter (fun t => t != 12 && t != 42)).contains t = false → ls.contains t = false := by
    intro t ht hc
    cases e : ls.contains t with
    | false => rfl
    | true =>
      exfalso
      have m : t ∈ ls.filter (fun t => t != 12 && t != 42) := List.mem_filter.mpr ⟨by simpa using e, ht⟩
      have : (ls.filter (fun t => t != 12 && t != 42)).contains t = true := by simpa using m
      rw [this] at hc; cases hc
  have b1 := g _ rfl a1; have b2 := g _ rfl a2; have b3 := g _ rfl a3; have b4 := g _ rfl a4; have b5 := g _ rfl a5; have b6 := g _ rfl a6; have b7 := g _ rfl a7; have b8 := g _ rfl a8
  exact ⟨fun b tb => ⟨hF.r tb b1 2, hF.r tb b1 3, hF.r tb b1 4, hF.r tb b1 5, hF.r tb b1 6⟩, fun b tb => ⟨hF.i tb b2 0, hF.r tb b2 1, hF.r tb b2 2⟩, fun b tb _ => hF.i tb b2 3, fun b tb => ⟨hF.i tb b3 3, hF.r tb b3 2⟩, fun b tb k => hF.i tb b4 k, fun b tb k => hF.i tb b5 k, fun b tb k _ => hF.r tb b6 k, fun b tb _ => ⟨hF.i tb b7 2, fun r hr => el_kp h tb (hF.r tb b7 1) (fun c tc _ k => hF.r tc b8 k) hr⟩, fun b tb hq => ho b tb hq, fun b tb hq k => hx b tb hq k⟩
theorem KP.sl (h : WT g sk L cl ln iv rv) (hF : fT [T] L cl iv rv iv2 rv2) (hT : T = 65 ∨ T = 66) (ho : ∀ bb, ty L cl bb T → ∀ k, iv2 bb k = iv bb k) : KP L cl C Q S X N iv rv iv2 rv2 := by
  rcases hT with rfl | rfl
  · exact ⟨fun b tb => ⟨hF.r tb rfl 2, hF.r tb rfl 3, hF.r tb rfl 4, hF.r tb rfl 5, hF.r tb rfl 6⟩, fun b tb => ⟨hF.i tb rfl 0, hF.r tb rfl 1, hF.r tb rfl 2⟩, fun b tb _ => hF.i tb rfl 3, fun b tb => ⟨hF.i tb rfl 3, hF.r tb rfl 2⟩, fun b tb k => ho b tb k, fun b tb k => hF.i tb rfl k, fun b tb k _ => hF.r tb rfl k, fun b tb _ => ⟨hF.i tb rfl 2, fun r hr => el_kp h tb (hF.r tb rfl 1) (fun c tc _ k => hF.r tc rfl k) hr⟩, fun b tb _ => ⟨hF.i tb rfl 2, hF.r tb rfl 1⟩, fun b tb _ k => hF.i tb rfl k⟩
  · exact ⟨fun b tb => ⟨hF.r tb rfl 2, hF.r tb rfl 3, hF.r tb rfl 4, hF.r tb rfl 5, hF.r tb rfl 6⟩, fun b tb => ⟨hF.i tb rfl 0, hF.r tb rfl 1, hF.r tb rfl 2⟩, fun b tb _ => hF.i tb rfl 3, fun b tb => ⟨hF.i tb rfl 3, hF.r tb rfl 2⟩, fun b tb k => hF.i tb rfl k, fun b tb k => ho b tb k, fun b tb k _ => hF.r tb rfl k, fun b tb _ => ⟨hF.i tb rfl 2, fun r hr => el_kp h tb (hF.r tb rfl 1) (fun c tc _ k => hF.r tc rfl k) hr⟩, fun b tb _ => ⟨hF.i tb rfl 2, hF.r tb rfl 1⟩, fun b tb _ k => hF.i tb rfl k⟩
theorem KP.new (h : KP L cl C Q S X N iv rv iv1 rv1) (hX : TX L cl L1 cl1) (hW : WT g sk L1 cl1 ln1 iv1 rv1) (hq : q ∉ L1) (hi : iv2 = up0 iv1 q 0) (hr : rv2 = up0 rv1 q none) : KP L cl C Q S X N iv rv iv2 rv2 :=
  h.call (ls := []) hX hW (fun b hb _ => ⟨by rw [hi, up0_a (ne_in hb hq)], by rw [hr, up0_a (ne_in hb hq)]⟩) rfl
theorem okI_k (h : okI T k = true) : (T ≠ 20 ∨ (k ≠ 0 ∧ k ≠ 3)) ∧ (T ≠ 21 ∨ k ≠ 3) ∧ T ≠ 65 ∧ T ≠ 66 ∧ T ≠ 42 ∧ (T ≠ 26 ∨ k ≠ 2) ∧ (T ≠ 12 ∨ k ≠ 2) := by
  unfold okI at h
  split at h <;> simp_all
theorem okR_k (h : okR T k = true) : (T ≠ 100 ∨ (k ≠ 2 ∧ k ≠ 3 ∧ k ≠ 4 ∧ k ≠ 5 ∧ k ≠ 6)) ∧ (T ≠ 20 ∨ (k ≠ 1 ∧ k ≠ 2)) ∧ (T ≠ 21 ∨ k ≠ 2) ∧ T ≠ 68 ∧ (T ≠ 26 ∨ k ≠ 1) ∧ T ≠ 1004 ∧ (T ≠ 12 ∨ k ≠ 1) := by
  unfold okR at h
  split at h <;> simp_all
theorem up2_ty {b Tb j : Nat} (hb : ty L1 cl1 b Tb) (ha : ty L1 cl1 a T) (h : T ≠ Tb ∨ k ≠ j) : up2 iv1 a k z b j = iv1 b j := by
  rcases h with e | e
  · exact up2_k (ne_ty hb ha (Ne.symm e))
  · exact up2_j (Ne.symm e)
theorem upr_ty {b Tb j : Nat} (hb : ty L1 cl1 b Tb) (ha : ty L1 cl1 a T) (h : T ≠ Tb ∨ k ≠ j) : upr rv1 a k y b j = rv1 b j := by
  rcases h with e | e
  · exact congrFun (upr_a (ne_ty hb ha (Ne.symm e))) j
  · exact upr_j (Ne.symm e)
theorem KP.puti (h : KP L cl C Q S X N iv rv iv1 rv1) (hX : TX L cl L1 cl1) (he : iv2 = up2 iv1 a k z) (ha : ty L1 cl1 a T) (hk : okI T k = true) : KP L cl C Q S X N iv rv iv2 rv1 := by
  obtain ⟨a1, a2, a3, a4, a5, a6, a7⟩ := okI_k hk
  subst he
  refine h.trans hX ⟨fun _ _ => ⟨rfl, rfl, rfl, rfl, rfl⟩, fun b tb => ⟨up2_ty tb ha (by omega), rfl, rfl⟩, fun b tb _ => up2_ty tb ha (by omega), fun b tb => ⟨up2_ty tb ha (by omega), rfl⟩, fun b tb j => up2_ty tb ha (Or.inl a3), fun b tb j => up2_ty tb ha (Or.inl a4), fun _ _ _ _ => rfl, fun b tb _ => ⟨up2_ty tb ha (by omega), fun _ _ => rfl⟩, fun b tb _ => ⟨up2_ty tb ha (by omega), rfl⟩, fun b tb _ j => up2_ty tb ha (Or.inl a5)⟩
theorem KP.putiN (h : KP L cl C Q S X N iv rv iv1 rv1) (he : iv2 = up2 iv1 a k z) (hn : a ∉ L) : KP L cl C Q S X N iv rv iv2 rv1 := by
  subst he
  have g : ∀ b, b ∈ L → ∀ j, up2 iv1 a k z b j = iv1 b j := fun b hb j => up2_k (ne_in hb hn)
  exact ⟨h.tb, fun b tb => ⟨(g b tb.1 0).trans (h.rw0 b tb).1, (h.rw0 b tb).2⟩, fun b tb hc => (g b tb.1 3).trans (h.rwc b tb hc), fun b tb => ⟨(g b tb.1 3).trans (h.ch b tb).1, (h.ch b tb).2⟩, fun b tb j => (g b tb.1 j).trans (h.le b tb j), fun b tb j => (g b tb.1 j).trans (h.ce b tb j), h.nd, fun b tb hq => ⟨(g b tb.1 2).trans (h.li b tb hq).1, (h.li b tb hq).2⟩, fun b tb hs => ⟨(g b tb.1 2).trans (h.it b tb hs).1, (h.it b tb hs).2⟩, fun b tb hx j => (g b tb.1 j).trans (h.ia b tb hx j)⟩
theorem KP.putiC (h : KP L cl C Q S X N iv rv iv1 rv1) (hX : TX L cl L1 cl1) (he : iv2 = up2 iv1 a 3 z) (ha : ty L1 cl1 a 20) (hc : C a) : KP L cl C Q S X N iv rv iv2 rv1 := by
  subst he
  have g : ∀ b T, ty L cl b T → raw T = false → T ≠ 20 → ∀ j, up2 iv1 a 3 z b j = iv1 b j := fun b T tb hr ht j => up2_ty (hX b T hr tb) ha (Or.inl (Ne.symm ht))
  exact ⟨h.tb, fun b tb => ⟨(up2_ty (hX b _ rfl tb) ha (Or.inr (by decide))).trans (h.rw0 b tb).1, (h.rw0 b tb).2⟩, fun b tb hcb => (up2_k (fun e => hcb (by rw [e]; exact hc))).trans (h.rwc b tb hcb), fun b tb => ⟨(g b _ tb rfl (by decide) 3).trans (h.ch b tb).1, (h.ch b tb).2⟩, fun b tb j => (g b _ tb rfl (by decide) j).trans (h.le b tb j), fun b tb j => (g b _ tb rfl (by decide) j).trans (h.ce b tb j), h.nd, fun b tb hq => ⟨(g b _ tb rfl (by decide) 2).trans (h.li b tb hq).1, (h.li b tb hq).2⟩, fun b tb hs => ⟨(g b _ tb rfl (by decide) 2).trans (h.it b tb hs).1, (h.it b tb hs).2⟩, fun b tb hx j => (g b _ tb rfl (by decide) j).trans (h.ia b tb hx j)⟩
theorem KP.putr (h : KP L cl C Q S X N iv rv iv1 rv1) (hX : TX L cl L1 cl1) (hW : WT g sk L1 cl1 ln1 iv1 rv1) (he : rv2 = upr rv1 a k y) (ha : ty L1 cl1 a T) (hk : okR T k = true) : KP L cl C Q S X N iv rv iv1 rv2 := by
  obtain ⟨a1, a2, a3, a4, a5, a6, a7⟩ := okR_k hk
  subst he
  refine h.trans hX ⟨fun b tb => ⟨upr_ty tb ha (by omega), upr_ty tb ha (by omega), upr_ty tb ha (by omega), upr_ty tb ha (by omega), upr_ty tb ha (by omega)⟩, fun b tb => ⟨rfl, upr_ty tb ha (by omega), upr_ty tb ha (by omega)⟩, fun _ _ _ => rfl, fun b tb => ⟨rfl, upr_ty tb ha (by omega)⟩, fun _ _ _ => rfl, fun _ _ _ => rfl, fun b tb j _ => upr_ty tb ha (Or.inl a4), fun b tb _ => ⟨rfl, fun r hr => el_kp hW tb (upr_ty tb ha (by omega)) (fun c tc _ j => upr_ty tc ha (Or.inl a6)) hr⟩, fun b tb _ => ⟨rfl, upr_ty tb ha (by omega)⟩, fun _ _ _ _ => rfl⟩
theorem KP.putrI (h : KP L cl C Q S X N iv rv iv1 rv1) (hX : TX L cl L1 cl1) (hW : WT g sk L1 cl1 ln1 iv1 rv1) (he : rv2 = upr rv1 a k y) (ha : ty L1 cl1 a 68) (hn : N a k) : KP L cl C Q S X N iv rv iv1 rv2 := by
  subst he
  refine h.trans hX ⟨fun b tb => ⟨upr_ty tb ha (Or.inl (by decide)), upr_ty tb ha (Or.inl (by decide)), upr_ty tb ha (Or.inl (by decide)), upr_ty tb ha (Or.inl (by decide)), upr_ty tb ha (Or.inl (by decide))⟩, fun b tb => ⟨rfl, upr_ty tb ha (Or.inl (by decide)), upr_ty tb ha (Or.inl (by decide))⟩, fun _ _ _ => rfl, fun b tb => ⟨rfl, upr_ty tb ha (Or.inl (by decide))⟩, fun _ _ _ => rfl, fun _ _ _ => rfl, fun b tb j hj => ?_, fun b tb _ => ⟨rfl, fun r hr => el_kp hW tb (upr_ty tb ha (Or.inl (by decide))) (fun c tc _ j => upr_ty tc ha (Or.inl (by decide))) hr⟩, fun b tb _ => ⟨rfl, upr_ty tb ha (Or.inl (by decide))⟩, fun _ _ _ _ => rfl⟩
  by_cases e : b = a
  · subst e
    by_cases e2 : j = k
    · subst e2; exact absurd hn hj
    · exact upr_j e2
  · exact congrFun (upr_a e) j
end KPS
