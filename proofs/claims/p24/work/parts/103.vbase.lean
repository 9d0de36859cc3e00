section
section NEWS
variable {g : Nat} {sk : Nat → Nat} {L : List Nat} {cl ln cl2 ln2 : Nat → Nat} {iv iv2 : Nat → Nat → Int} {rv rv2 : Nat → Nat → Option Nat} {a b q t T k : Nat} {z : Int}
theorem rok.mono {L2 : List Nat} {x : Option Nat} (h : rok L cl g a k x) (hL : ∀ w ∈ L, w ∈ L2 ∧ cl2 w = cl w) (ha : cl2 a = cl a) : rok L2 cl2 g a k x := by
  intro hr
  rw [ha] at hr ⊢
  obtain ⟨h1, h2⟩ := h hr
  refine ⟨h1, fun b hb => ?_⟩
  rcases h2 b hb with w | w
  · refine Or.inl ⟨(hL b w.1).1, by rw [(hL b w.1).2]; exact w.2.1, ?_, ?_⟩
    · rw [ha, (hL b w.1).2]; exact w.2.2.1
    · rw [ha, (hL b w.1).2]; exact w.2.2.2
  · exact Or.inr w
theorem WT.ed (h : WT g sk L cl ln iv rv) (ha : a ∈ L) (hs : szd (bt (cl a)) = true) (hb : rv a 1 = some b) : b ∈ L ∨ b = g := by
  rcases (h.2.1 a ha 1 (by unfold raw; unfold szd lst at hs; simp at hs ⊢; omega)).2 b hb with w | w
  · exact Or.inl w.1
  · exact Or.inr w.1
theorem WT.new (h : WT g sk L cl ln iv rv) (hq : q ∉ L) (hg : q ≠ g) (hcl : cl2 = va_up cl q t) (hln : ∀ b, b ≠ q → ln2 b = ln b) (hiv : iv2 = up0 iv q 0) (hrv : rv2 = up0 rv q none) (hb : ∀ k, ilo (bt t) k ≤ 0 ∧ 0 ≤ ihi (bt t) k) (hn : raw (bt t) = true ∨ ∀ k, nul (bt t) k = true) (hlen : arr (bt t) = true → llo (bt t) ≤ ln2 q ∧ ln2 q ≤ lhi (bt t)) (hs : szd (bt t) = false) (hu : uq t = false) : WT g sk (L ++ [q]) cl2 ln2 iv2 rv2 := by
  subst hcl; subst hiv; subst hrv
  have hne : ∀ w, w ∈ L → w ≠ q := fun w hw e => hq (e ▸ hw)
  have hL : ∀ w ∈ L, w ∈ L ++ [q] ∧ va_up cl q t w = cl w := fun w hw => ⟨List.mem_append_left _ hw, va_up_ne _ _ (hne w hw)⟩
  have cas : ∀ w ∈ L ++ [q], w ∈ L ∨ w = q := fun w hw => by
    rcases List.mem_append.mp hw with e | e
    · exact Or.inl e
    · exact Or.inr (List.mem_singleton.mp e)
  obtain ⟨h1, h2, h3, h4, h5, h6, h7⟩ := id h
  refine ⟨fun w hw j => ?_, fun w hw j => ?_, fun w hw => ?_, fun w hw => ?_, fun w hw => ?_, fun w hw => ?_, fun hgm => ?_⟩
  · rcases cas w hw with e | e
    · rw [(hL w e).2, up0_a (hne w e)]; exact h1 w e j
    · subst e; rw [va_up_self, up0_s]; exact hb j
  · rcases cas w hw with e | e
    · rw [up0_a (hne w e)]; exact (h2 w e j).mono hL (hL w e).2
    · subst e
      rw [up0_s]
      intro hr
      rw [va_up_self] at hr ⊢
      refine ⟨fun _ => ?_, fun b hb => by cases hb⟩
      rcases hn with w | w
      · rw [hr] at w; cases w
      · exact w j
  · rcases cas w hw with e | e
    · rw [(hL w e).2, hln w (hne w e)]; exact h3 w e
    · subst e; rw [va_up_self]; exact hlen
  · rcases cas w hw with e | e
    · rw [(hL w e).2, up0_a (hne w e), up0_a (hne w e)]
      intro hz b hb
      rcases h4 w e hz b hb with q1 | q1
      · exact Or.inl q1
      · exact Or.inr ⟨List.mem_append_left _ q1.1, by rw [hln b (hne b q1.1)]; exact q1.2⟩
    · subst e; rw [va_up_self, hs]; intro hz; cases hz
  · rcases cas w hw with e | e
    · rw [(hL w e).2, up0_a (hne w e), up0_a (hne w e)]
      intro hz b hb i hi
      have hbq : b ≠ q := by
        rcases WT.ed h e (lst_szd hz) hb with q1 | q1
        · exact hne b q1
        · rw [q1]; exact hg.symm
      rw [up0_a hbq]
      exact h5 w e hz b hb i hi
    · subst e; rw [va_up_self]; intro hz; rw [lst_szd hz] at hs; cases hs
  · rcases cas w hw with e | e
    · rw [(hL w e).2]; exact h6 w e
    · subst e; rw [va_up_self, hu]; intro hz; cases hz
  · rcases cas g hgm with e | e
    · exact h7 e
    · exact hg e.symm
theorem XT.new (hq : q ∉ L) (hcl : cl2 = va_up cl q t) (hln : ∀ b, b ≠ q → ln2 b = ln b) : XT L cl ln (L ++ [q]) cl2 ln2 := fun a ha => ⟨List.mem_append_left _ ha, by rw [hcl]; exact va_up_ne _ _ (fun e => hq (e ▸ ha)), hln a (fun e => hq (e ▸ ha))⟩
theorem ty_new (hcl : cl2 = va_up cl q t) : ty (L ++ [q]) cl2 q (bt t) := ⟨List.mem_append_right _ List.mem_cons_self, by rw [hcl, va_up_self]⟩
theorem fT.new {ls L0 : List Nat} {cl0 ln0 : Nat → Nat} {iv0 iv3 : Nat → Nat → Int} {rv0 rv3 : Nat → Nat → Option Nat} (h : fT ls L0 cl0 iv0 rv0 iv rv) (hX : XT L0 cl0 ln0 L cl ln) (hq : q ∉ L) (hiv : iv3 = up0 iv q 0) (hrv : rv3 = up0 rv q none) : fT ls L0 cl0 iv0 rv0 iv3 rv3 := by
  intro b hb hl
  have hne : b ≠ q := fun e => hq (e ▸ (hX b hb).1)
  rw [hiv, hrv, up0_a hne, up0_a hne]
  exact h b hb hl
theorem Phi.new (h : WT g sk L cl ln iv rv) (hS : SKL sk L cl) (hq : q ∉ L) (hln : ∀ b, b ≠ q → ln2 b = ln b) (hrv : rv2 = up0 rv q none) : Phi g sk ln2 rv2 = Phi g sk ln rv := by
  have hne : ∀ t, uq t = true → sk t ≠ q := fun t ht e => hq (e ▸ (hS t ht).1)
  refine Phi.congr (fun t ht hp => ?_) (fun t b ht hp hs hb hg => ?_)
  · rw [hrv, up0_a (hne t ht)]
  · refine hln b (fun e => ?_)
    rcases WT.ed h (hS t ht).1 (by
      rw [(hS t ht).2]
      unfold szd lst at hs ⊢
      simp at hs ⊢
      unfold bt
      split <;> (try split) <;> (try split) <;> omega) hb with q1 | q1
    · exact hq (e ▸ q1)
    · exact hg q1
theorem WT.retag (h : WT g sk L cl ln iv rv) (hq : q ∈ L) (hraw : raw (bt (cl q)) = true) (hcl : cl2 = va_up cl q t) (hb : ∀ k, ilo (bt t) k ≤ iv q k ∧ iv q k ≤ ihi (bt t) k) (hr : ∀ k, rok L cl2 g q k (rv q k)) (ha : arr (bt t) = false) (hs : szd (bt t) = true → ∀ b, rv q 1 = some b → (b = g ∧ iv q 2 = 0) ∨ (b ∈ L ∧ iv q 2 ≤ ((ln b : Nat) : Int))) (hl : lst (bt t) = true → ∀ b, rv q 1 = some b → ∀ i : Nat, (i : Int) < iv q 2 → rv b i ≠ none) (hu : uq t = false) : WT g sk L cl2 ln iv rv := by
  subst hcl
  have ho : ∀ w, w ≠ q → va_up cl q t w = cl w := fun w hw => va_up_ne _ _ hw
  obtain ⟨h1, h2, h3, h4, h5, h6, h7⟩ := id h
  have tg0 : ∀ T k, raw (tgt T k) = false := by
    intro T k
    unfold tgt raw
    split <;> (try split) <;> rfl
  refine ⟨fun w hw j => ?_, fun w hw j => ?_, fun w hw => ?_, fun w hw => ?_, fun w hw => ?_, fun w hw => ?_, h7⟩
  · by_cases e : w = q
    · subst e; rw [va_up_self]; exact hb j
    · rw [ho w e]; exact h1 w hw j
  · by_cases e : w = q
    · subst e; exact hr j
    · intro hrw
      rw [ho w e] at hrw ⊢
      obtain ⟨g1, g2⟩ := h2 w hw j hrw
      refine ⟨g1, fun b hb => ?_⟩
      rcases g2 b hb with c1 | c1
      · have hbq : b ≠ q := fun e2 => by rw [← e2, c1.2.1, tg0] at hraw; cases hraw
        refine Or.inl ⟨c1.1, by rw [ho b hbq]; exact c1.2.1, ?_, ?_⟩
        · rw [ho w e, ho b hbq]; exact c1.2.2.1
        · rw [ho w e, ho b hbq]; exact c1.2.2.2
      · exact Or.inr c1
  · by_cases e : w = q
    · subst e; rw [va_up_self, ha]; intro z; cases z
    · rw [ho w e]; exact h3 w hw
  · by_cases e : w = q
    · subst e; rw [va_up_self]; exact hs
    · rw [ho w e]; exact h4 w hw
  · by_cases e : w = q
    · subst e; rw [va_up_self]; exact hl
    · rw [ho w e]; exact h5 w hw
  · by_cases e : w = q
    · subst e; rw [va_up_self, hu]; intro z; cases z
    · rw [ho w e]; exact h6 w hw
theorem WT.putit (h : WT g sk L cl ln iv rv) (he : rv2 = upr rv a 1 (some b)) (ha : ty L cl a T) (hT : szd T = true) (hl : lst T = false) (hb : ty L cl b (tgt T 1)) (hs : iv a 2 ≤ ((ln b : Nat) : Int)) : WT g sk L cl ln iv rv2 := by
  subst he
  obtain ⟨h1, h2, h3, h4, h5, h6, h7⟩ := id h
  refine ⟨h1, fun w hw j => ?_, h3, fun w hw hz => ?_, fun w hw hz c hc i hi => ?_, h6, h7⟩
  · by_cases e : w = a
    · subst e
      by_cases ej : j = 1
      · subst ej
        rw [upr_s]
        intro hr
        refine ⟨(fun q => by cases q), fun c hc => ?_⟩
        cases hc
        refine Or.inl ⟨hb.1, by rw [hb.2, ha.2], ?_, ?_⟩
        · intro q; rw [ha.2] at q; subst q; cases hT
        · intro q; rw [ha.2, hl] at q; cases q
      · rw [upr_j ej]; exact h2 w hw j
    · rw [upr_a e]; exact h2 w hw j
  · by_cases e : w = a
    · subst e
      intro c hc
      rw [upr_s] at hc; cases hc
      exact Or.inr ⟨hb.1, hs⟩
    · rw [upr_a e]; exact h4 w hw hz
  · have e : w ≠ a := fun e => by subst e; rw [ha.2, hl] at hz; cases hz
    rw [upr_a e] at hc
    have hca : c ≠ a := by
      intro e2
      subst e2
      rcases (h2 w hw 1 (by unfold raw; unfold lst at hz; simp at hz ⊢; omega)).2 c hc with q | q
      · rw [ha.2, tgt_list hz] at q; unfold szd lst at hT; simp at hT; omega
      · exact h7 (q.1 ▸ ha.1)
    rw [upr_a hca]
    exact h5 w hw hz c hc i hi
theorem cap_up {x : Nat} (hx : x ≠ a) : cap g ln (upr rv a k (some b)) x = cap g ln rv x := by unfold cap; rw [upr_a hx]
theorem cap_s (hg : b ≠ g) : cap g ln (upr rv a 1 (some b)) a = ln b := by unfold cap; rw [upr_s]; show (if b = g then 0 else ln b) = ln b; rw [if_neg hg]
theorem cap_of (h : rv a 1 = some b) (hg : b ≠ g) : cap g ln rv a = ln b := by unfold cap; rw [h]; show (if b = g then 0 else ln b) = ln b; rw [if_neg hg]
theorem cap_g (h : rv a 1 = some g) : cap g ln rv a = 0 := by unfold cap; rw [h]; show (if g = g then 0 else ln g) = 0; rw [if_pos rfl]
theorem sk_ne (hS : SKL sk L cl) {t u : Nat} (ht : uq t = true) (hu : uq u = true) (h : t ≠ u) : sk t ≠ sk u := fun e => h (by rw [← (hS t ht).2, ← (hS u hu).2, e])
theorem Phi.grow (hS : SKL sk L cl) (he : rv2 = upr rv (sk t) 1 (some b)) (hg : b ≠ g) (ht : (2 ≤ t ∧ t ≤ 11) ∨ t = 24 ∨ t = 25) : Phi g sk ln rv2 + (if t < 20 then 3 else 8) * cap g ln rv (sk t) = Phi g sk ln rv + (if t < 20 then 3 else 8) * ln b := by
  subst he
  have : t = 2 ∨ t = 3 ∨ t = 4 ∨ t = 5 ∨ t = 6 ∨ t = 7 ∨ t = 8 ∨ t = 9 ∨ t = 10 ∨ t = 11 ∨ t = 24 ∨ t = 25 := by omega
  rcases this with rfl | rfl | rfl | rfl | rfl | rfl | rfl | rfl | rfl | rfl | rfl | rfl
  · have e1 := cap_s (g := g) (ln := ln) (rv := rv) (a := sk 2) hg
    refine hv13 (cap_up (g := g) (ln := ln) (rv := rv) (a := sk 2) (k := 1) (b := b) (sk_ne hS (t := 3) (u := 2) rfl rfl (by decide))) (cap_up (g := g) (ln := ln) (rv := rv) (a := sk 2) (k := 1) (b := b) (sk_ne hS (t := 4) (u := 2) rfl rfl (by decide))) (cap_up (g := g) (ln := ln) (rv := rv) (a := sk 2) (k := 1) (b := b) (sk_ne hS (t := 5) (u := 2) rfl rfl (by decide))) (cap_up (g := g) (ln := ln) (rv := rv) (a := sk 2) (k := 1) (b := b) (sk_ne hS (t := 6) (u := 2) rfl rfl (by decide))) (cap_up (g := g) (ln := ln) (rv := rv) (a := sk 2) (k := 1) (b := b) (sk_ne hS (t := 7) (u := 2) rfl rfl (by decide))) (cap_up (g := g) (ln := ln) (rv := rv) (a := sk 2) (k := 1) (b := b) (sk_ne hS (t := 8) (u := 2) rfl rfl (by decide))) (cap_up (g := g) (ln := ln) (rv := rv) (a := sk 2) (k := 1) (b := b) (sk_ne hS (t := 9) (u := 2) rfl rfl (by decide))) (cap_up (g := g) (ln := ln) (rv := rv) (a := sk 2) (k := 1) (b := b) (sk_ne hS (t := 10) (u := 2) rfl rfl (by decide))) (cap_up (g := g) (ln := ln) (rv := rv) (a := sk 2) (k := 1) (b := b) (sk_ne hS (t := 11) (u := 2) rfl rfl (by decide))) (cap_up (g := g) (ln := ln) (rv := rv) (a := sk 2) (k := 1) (b := b) (sk_ne hS (t := 24) (u := 2) rfl rfl (by decide))) (cap_up (g := g) (ln := ln) (rv := rv) (a := sk 2) (k := 1) (b := b) (sk_ne hS (t := 25) (u := 2) rfl rfl (by decide))) (show upr rv (sk 2) 1 (some b) (sk 67) = rv (sk 67) from upr_a (sk_ne hS (t := 67) (u := 2) rfl rfl (by decide))) (show upr rv (sk 2) 1 (some b) (sk 69) = rv (sk 69) from upr_a (sk_ne hS (t := 69) (u := 2) rfl rfl (by decide))) (fun c3 c4 c5 c6 c7 c8 c9 c10 c11 c24 c25 r1 r2 => ?_)
    unfold Phi
    rw [e1, c3, c4, c5, c6, c7, c8, c9, c10, c11, c24, c25, r1, r2]
    show _ + 3 * _ = _ + 3 * _
    omega
  · have e1 := cap_s (g := g) (ln := ln) (rv := rv) (a := sk 3) hg
    refine hv13 (cap_up (g := g) (ln := ln) (rv := rv) (a := sk 3) (k := 1) (b := b) (sk_ne hS (t := 2) (u := 3) rfl rfl (by decide))) (cap_up (g := g) (ln := ln) (rv := rv) (a := sk 3) (k := 1) (b := b) (sk_ne hS (t := 4) (u := 3) rfl rfl (by decide))) (cap_up (g := g) (ln := ln) (rv := rv) (a := sk 3) (k := 1) (b := b) (sk_ne hS (t := 5) (u := 3) rfl rfl (by decide))) (cap_up (g := g) (ln := ln) (rv := rv) (a := sk 3) (k := 1) (b := b) (sk_ne hS (t := 6) (u := 3) rfl rfl (by decide))) (cap_up (g := g) (ln := ln) (rv := rv) (a := sk 3) (k := 1) (b := b) (sk_ne hS (t := 7) (u := 3) rfl rfl (by decide))) (cap_up (g := g) (ln := ln) (rv := rv) (a := sk 3) (k := 1) (b := b) (sk_ne hS (t := 8) (u := 3) rfl rfl (by decide))) (cap_up (g := g) (ln := ln) (rv := rv) (a := sk 3) (k := 1) (b := b) (sk_ne hS (t := 9) (u := 3) rfl rfl (by decide))) (cap_up (g := g) (ln := ln) (rv := rv) (a := sk 3) (k := 1) (b := b) (sk_ne hS (t := 10) (u := 3) rfl rfl (by decide))) (cap_up (g := g) (ln := ln) (rv := rv) (a := sk 3) (k := 1) (b := b) (sk_ne hS (t := 11) (u := 3) rfl rfl (by decide))) (cap_up (g := g) (ln := ln) (rv := rv) (a := sk 3) (k := 1) (b := b) (sk_ne hS (t := 24) (u := 3) rfl rfl (by decide))) (cap_up (g := g) (ln := ln) (rv := rv) (a := sk 3) (k := 1) (b := b) (sk_ne hS (t := 25) (u := 3) rfl rfl (by decide))) (show upr rv (sk 3) 1 (some b) (sk 67) = rv (sk 67) from upr_a (sk_ne hS (t := 67) (u := 3) rfl rfl (by decide))) (show upr rv (sk 3) 1 (some b) (sk 69) = rv (sk 69) from upr_a (sk_ne hS (t := 69) (u := 3) rfl rfl (by decide))) (fun c2 c4 c5 c6 c7 c8 c9 c10 c11 c24 c25 r1 r2 => ?_)
    unfold Phi
    rw [e1, c2, c4, c5, c6, c7, c8, c9, c10, c11, c24, c25, r1, r2]
    show _ + 3 * _ = _ + 3 * _
    omega
  · have e1 := cap_s (g := g) (ln := ln) (rv := rv) (a := sk 4) hg
    refine hv13 (cap_up (g := g) (ln := ln) (rv := rv) (a := sk 4) (k := 1) (b := b) (sk_ne hS (t := 2) (u := 4) rfl rfl (by decide))) (cap_up (g := g) (ln := ln) (rv := rv) (a := sk 4) (k := 1) (b := b) (sk_ne hS (t := 3) (u := 4) rfl rfl (by decide))) (cap_up (g := g) (ln := ln) (rv := rv) (a := sk 4) (k := 1) (b := b) (sk_ne hS (t := 5) (u := 4) rfl rfl (by decide))) (cap_up (g := g) (ln := ln) (rv := rv) (a := sk 4) (k := 1) (b := b) (sk_ne hS (t := 6) (u := 4) rfl rfl (by decide))) (cap_up (g := g) (ln := ln) (rv := rv) (a := sk 4) (k := 1) (b := b) (sk_ne hS (t := 7) (u := 4) rfl rfl (by decide))) (cap_up (g := g) (ln := ln) (rv := rv) (a := sk 4) (k := 1) (b := b) (sk_ne hS (t := 8) (u := 4) rfl rfl (by decide))) (cap_up (g := g) (ln := ln) (rv := rv) (a := sk 4) (k := 1) (b := b) (sk_ne hS (t := 9) (u := 4) rfl rfl (by decide))) (cap_up (g := g) (ln := ln) (rv := rv) (a := sk 4) (k := 1) (b := b) (sk_ne hS (t := 10) (u := 4) rfl rfl (by decide))) (cap_up (g := g) (ln := ln) (rv := rv) (a := sk 4) (k := 1) (b := b) (sk_ne hS (t := 11) (u := 4) rfl rfl (by decide))) (cap_up (g := g) (ln := ln) (rv := rv) (a := sk 4) (k := 1) (b := b) (sk_ne hS (t := 24) (u := 4) rfl rfl (by decide))) (cap_up (g := g) (ln := ln) (rv := rv) (a := sk 4) (k := 1) (b := b) (sk_ne hS (t := 25) (u := 4) rfl rfl (by decide))) (show upr rv (sk 4) 1 (some b) (sk 67) = rv (sk 67) from upr_a (sk_ne hS (t := 67) (u := 4) rfl rfl (by decide))) (show upr rv (sk 4) 1 (some b) (sk 69) = rv (sk 69) from upr_a (sk_ne hS (t := 69) (u := 4) rfl rfl (by decide))) (fun c2 c3 c5 c6 c7 c8 c9 c10 c11 c24 c25 r1 r2 => ?_)
    unfold Phi
    rw [e1, c2, c3, c5, c6, c7, c8, c9, c10, c11, c24, c25, r1, r2]
    show _ + 3 * _ = _ + 3 * _
    omega
  · have e1 := cap_s (g := g) (ln := ln) (rv := rv) (a := sk 5) hg
    refine hv13 (cap_up (g := g) (ln := ln) (rv := rv) (a := sk 5) (k := 1) (b := b) (sk_ne hS (t := 2) (u := 5) rfl rfl (by decide))) (cap_up (g := g) (ln := ln) (rv := rv) (a := sk 5) (k := 1) (b := b) (sk_ne hS (t := 3) (u := 5) rfl rfl (by decide))) (cap_up (g := g) (ln := ln) (rv := rv) (a := sk 5) (k := 1) (b := b) (sk_ne hS (t := 4) (u := 5) rfl rfl (by decide))) (cap_up (g := g) (ln := ln) (rv := rv) (a := sk 5) (k := 1) (b := b) (sk_ne hS (t := 6) (u := 5) rfl rfl (by decide))) (cap_up (g := g) (ln := ln) (rv := rv) (a := sk 5) (k := 1) (b := b) (sk_ne hS (t := 7) (u := 5) rfl rfl (by decide))) (cap_up (g := g) (ln := ln) (rv := rv) (a := sk 5) (k := 1) (b := b) (sk_ne hS (t := 8) (u := 5) rfl rfl (by decide))) (cap_up (g := g) (ln := ln) (rv := rv) (a := sk 5) (k := 1) (b := b) (sk_ne hS (t := 9) (u := 5) rfl rfl (by decide))) (cap_up (g := g) (ln := ln) (rv := rv) (a := sk 5) (k := 1) (b := b) (sk_ne hS (t := 10) (u := 5) rfl rfl (by decide))) (cap_up (g := g) (ln := ln) (rv := rv) (a := sk 5) (k := 1) (b := b) (sk_ne hS (t := 11) (u := 5) rfl rfl (by decide))) (cap_up (g := g) (ln := ln) (rv := rv) (a := sk 5) (k := 1) (b := b) (sk_ne hS (t := 24) (u := 5) rfl rfl (by decide))) (cap_up (g := g) (ln := ln) (rv := rv) (a := sk 5) (k := 1) (b := b) (sk_ne hS (t := 25) (u := 5) rfl rfl (by decide))) (show upr rv (sk 5) 1 (some b) (sk 67) = rv (sk 67) from upr_a (sk_ne hS (t := 67) (u := 5) rfl rfl (by decide))) (show upr rv (sk 5) 1 (some b) (sk 69) = rv (sk 69) from upr_a (sk_ne hS (t := 69) (u := 5) rfl rfl (by decide))) (fun c2 c3 c4 c6 c7 c8 c9 c10 c11 c24 c25 r1 r2 => ?_)
    unfold Phi
    rw [e1, c2, c3, c4, c6, c7, c8, c9, c10, c11, c24, c25, r1, r2]
    show _ + 3 * _ = _ + 3 * _
    omega
  · have e1 := cap_s (g := g) (ln := ln) (rv := rv) (a := sk 6) hg
    refine hv13 (cap_up (g := g) (ln := ln) (rv := rv) (a := sk 6) (k := 1) (b := b) (sk_ne hS (t := 2) (u := 6) rfl rfl (by decide))) (cap_up (g := g) (ln := ln) (rv := rv) (a := sk 6) (k := 1) (b := b) (sk_ne hS (t := 3) (u := 6) rfl rfl (by decide))) (cap_up (g := g) (ln := ln) (rv := rv) (a := sk 6) (k := 1) (b := b) (sk_ne hS (t := 4) (u := 6) rfl rfl (by decide))) (cap_up (g := g) (ln := ln) (rv := rv) (a := sk 6) (k := 1) (b := b) (sk_ne hS (t := 5) (u := 6) rfl rfl (by decide))) (cap_up (g := g) (ln := ln) (rv := rv) (a := sk 6) (k := 1) (b := b) (sk_ne hS (t := 7) (u := 6) rfl rfl (by decide))) (cap_up (g := g) (ln := ln) (rv := rv) (a := sk 6) (k := 1) (b := b) (sk_ne hS (t := 8) (u := 6) rfl rfl (by decide))) (cap_up (g := g) (ln := ln) (rv := rv) (a := sk 6) (k := 1) (b := b) (sk_ne hS (t := 9) (u := 6) rfl rfl (by decide))) (cap_up (g := g) (ln := ln) (rv := rv) (a := sk 6) (k := 1) (b := b) (sk_ne hS (t := 10) (u := 6) rfl rfl (by decide))) (cap_up (g := g) (ln := ln) (rv := rv) (a := sk 6) (k := 1) (b := b) (sk_ne hS (t := 11) (u := 6) rfl rfl (by decide))) (cap_up (g := g) (ln := ln) (rv := rv) (a := sk 6) (k := 1) (b := b) (sk_ne hS (t := 24) (u := 6) rfl rfl (by decide))) (cap_up (g := g) (ln := ln) (rv := rv) (a := sk 6) (k := 1) (b := b) (sk_ne hS (t := 25) (u := 6) rfl rfl (by decide))) (show upr rv (sk 6) 1 (some b) (sk 67) = rv (sk 67) from upr_a (sk_ne hS (t := 67) (u := 6) rfl rfl (by decide))) (show upr rv (sk 6) 1 (some b) (sk 69) = rv (sk 69) from upr_a (sk_ne hS (t := 69) (u := 6) rfl rfl (by decide))) (fun c2 c3 c4 c5 c7 c8 c9 c10 c11 c24 c25 r1 r2 => ?_)
    unfold Phi
    rw [e1, c2, c3, c4, c5, c7, c8, c9, c10, c11, c24, c25, r1, r2]
    show _ + 3 * _ = _ + 3 * _
    omega
  · have e1 := cap_s (g := g) (ln := ln) (rv := rv) (a := sk 7) hg
    refine hv13 (cap_up (g := g) (ln := ln) (rv := rv) (a := sk 7) (k := 1) (b := b) (sk_ne hS (t := 2) (u := 7) rfl rfl (by decide))) (cap_up (g := g) (ln := ln) (rv := rv) (a := sk 7) (k := 1) (b := b) (sk_ne hS (t := 3) (u := 7) rfl rfl (by decide))) (cap_up (g := g) (ln := ln) (rv := rv) (a := sk 7) (k := 1) (b := b) (sk_ne hS (t := 4) (u := 7) rfl rfl (by decide))) (cap_up (g := g) (ln := ln) (rv := rv) (a := sk 7) (k := 1) (b := b) (sk_ne hS (t := 5) (u := 7) rfl rfl (by decide))) (cap_up (g := g) (ln := ln) (rv := rv) (a := sk 7) (k := 1) (b := b) (sk_ne hS (t := 6) (u := 7) rfl rfl (by decide))) (cap_up (g := g) (ln := ln) (rv := rv) (a := sk 7) (k := 1) (b := b) (sk_ne hS (t := 8) (u := 7) rfl rfl (by decide))) (cap_up (g := g) (ln := ln) (rv := rv) (a := sk 7) (k := 1) (b := b) (sk_ne hS (t := 9) (u := 7) rfl rfl (by decide))) (cap_up (g := g) (ln := ln) (rv := rv) (a := sk 7) (k := 1) (b := b) (sk_ne hS (t := 10) (u := 7) rfl rfl (by decide))) (cap_up (g := g) (ln := ln) (rv := rv) (a := sk 7) (k := 1) (b := b) (sk_ne hS (t := 11) (u := 7) rfl rfl (by decide))) (cap_up (g := g) (ln := ln) (rv := rv) (a := sk 7) (k := 1) (b := b) (sk_ne hS (t := 24) (u := 7) rfl rfl (by decide))) (cap_up (g := g) (ln := ln) (rv := rv) (a := sk 7) (k := 1) (b := b) (sk_ne hS (t := 25) (u := 7) rfl rfl (by decide))) (show upr rv (sk 7) 1 (some b) (sk 67) = rv (sk 67) from upr_a (sk_ne hS (t := 67) (u := 7) rfl rfl (by decide))) (show upr rv (sk 7) 1 (some b) (sk 69) = rv (sk 69) from upr_a (sk_ne hS (t := 69) (u := 7) rfl rfl (by decide))) (fun c2 c3 c4 c5 c6 c8 c9 c10 c11 c24 c25 r1 r2 => ?_)
    unfold Phi
    rw [e1, c2, c3, c4, c5, c6, c8, c9, c10, c11, c24, c25, r1, r2]
    show _ + 3 * _ = _ + 3 * _
    omega
  · have e1 := cap_s (g := g) (ln := ln) (rv := rv) (a := sk 8) hg
    refine hv13 (cap_up (g := g) (ln := ln) (rv := rv) (a := sk 8) (k := 1) (b := b) (sk_ne hS (t := 2) (u := 8) rfl rfl (by decide))) (cap_up (g := g) (ln := ln) (rv := rv) (a := sk 8) (k := 1) (b := b) (sk_ne hS (t := 3) (u := 8) rfl rfl (by decide))) (cap_up (g := g) (ln := ln) (rv := rv) (a := sk 8) (k := 1) (b := b) (sk_ne hS (t := 4) (u := 8) rfl rfl (by decide))) (cap_up (g := g) (ln := ln) (rv := rv) (a := sk 8) (k := 1) (b := b) (sk_ne hS (t := 5) (u := 8) rfl rfl (by decide))) (cap_up (g := g) (ln := ln) (rv := rv) (a := sk 8) (k := 1) (b := b) (sk_ne hS (t := 6) (u := 8) rfl rfl (by decide))) (cap_up (g := g) (ln := ln) (rv := rv) (a := sk 8) (k := 1) (b := b) (sk_ne hS (t := 7) (u := 8) rfl rfl (by decide))) (cap_up (g := g) (ln := ln) (rv := rv) (a := sk 8) (k := 1) (b := b) (sk_ne hS (t := 9) (u := 8) rfl rfl (by decide))) (cap_up (g := g) (ln := ln) (rv := rv) (a := sk 8) (k := 1) (b := b) (sk_ne hS (t := 10) (u := 8) rfl rfl (by decide))) (cap_up (g := g) (ln := ln) (rv := rv) (a := sk 8) (k := 1) (b := b) (sk_ne hS (t := 11) (u := 8) rfl rfl (by decide))) (cap_up (g := g) (ln := ln) (rv := rv) (a := sk 8) (k := 1) (b := b) (sk_ne hS (t := 24) (u := 8) rfl rfl (by decide))) (cap_up (g := g) (ln := ln) (rv := rv) (a := sk 8) (k := 1) (b := b) (sk_ne hS (t := 25) (u := 8) rfl rfl (by decide))) (show upr rv (sk 8) 1 (some b) (sk 67) = rv (sk 67) from upr_a (sk_ne hS (t := 67) (u := 8) rfl rfl (by decide))) (show upr rv (sk 8) 1 (some b) (sk 69) = rv (sk 69) from upr_a (sk_ne hS (t := 69) (u := 8) rfl rfl (by decide))) (fun c2 c3 c4 c5 c6 c7 c9 c10 c11 c24 c25 r1 r2 => ?_)
    unfold Phi
    rw [e1, c2, c3, c4, c5, c6, c7, c9, c10, c11, c24, c25, r1, r2]
    show _ + 3 * _ = _ + 3 * _
    omega
  · have e1 := cap_s (g := g) (ln := ln) (rv := rv) (a := sk 9) hg
    refine hv13 (cap_up (g := g) (ln := ln) (rv := rv) (a := sk 9) (k := 1) (b := b) (sk_ne hS (t := 2) (u := 9) rfl rfl (by decide))) (cap_up (g := g) (ln := ln) (rv := rv) (a := sk 9) (k := 1) (b := b) (sk_ne hS (t := 3) (u := 9) rfl rfl (by decide))) (cap_up (g := g) (ln := ln) (rv := rv) (a := sk 9) (k := 1) (b := b) (sk_ne hS (t := 4) (u := 9) rfl rfl (by decide))) (cap_up (g := g) (ln := ln) (rv := rv) (a := sk 9) (k := 1) (b := b) (sk_ne hS (t := 5) (u := 9) rfl rfl (by decide))) (cap_up (g := g) (ln := ln) (rv := rv) (a := sk 9) (k := 1) (b := b) (sk_ne hS (t := 6) (u := 9) rfl rfl (by decide))) (cap_up (g := g) (ln := ln) (rv := rv) (a := sk 9) (k := 1) (b := b) (sk_ne hS (t := 7) (u := 9) rfl rfl (by decide))) (cap_up (g := g) (ln := ln) (rv := rv) (a := sk 9) (k := 1) (b := b) (sk_ne hS (t := 8) (u := 9) rfl rfl (by decide))) (cap_up (g := g) (ln := ln) (rv := rv) (a := sk 9) (k := 1) (b := b) (sk_ne hS (t := 10) (u := 9) rfl rfl (by decide))) (cap_up (g := g) (ln := ln) (rv := rv) (a := sk 9) (k := 1) (b := b) (sk_ne hS (t := 11) (u := 9) rfl rfl (by decide))) (cap_up (g := g) (ln := ln) (rv := rv) (a := sk 9) (k := 1) (b := b) (sk_ne hS (t := 24) (u := 9) rfl rfl (by decide))) (cap_up (g := g) (ln := ln) (rv := rv) (a := sk 9) (k := 1) (b := b) (sk_ne hS (t := 25) (u := 9) rfl rfl (by decide))) (show upr rv (sk 9) 1 (some b) (sk 67) = rv (sk 67) from upr_a (sk_ne hS (t := 67) (u := 9) rfl rfl (by decide))) (show upr rv (sk 9) 1 (some b) (sk 69) = rv (sk 69) from upr_a (sk_ne hS (t := 69) (u := 9) rfl rfl (by decide))) (fun c2 c3 c4 c5 c6 c7 c8 c10 c11 c24 c25 r1 r2 => ?_)
    unfold Phi
    rw [e1, c2, c3, c4, c5, c6, c7, c8, c10, c11, c24, c25, r1, r2]
    show _ + 3 * _ = _ + 3 * _
    omega
  · have e1 := cap_s (g := g) (ln := ln) (rv := rv) (a := sk 10) hg
    refine hv13 (cap_up (g := g) (ln := ln) (rv := rv) (a := sk 10) (k := 1) (b := b) (sk_ne hS (t := 2) (u := 10) rfl rfl (by decide))) (cap_up (g := g) (ln := ln) (rv := rv) (a := sk 10) (k := 1) (b := b) (sk_ne hS (t := 3) (u := 10) rfl rfl (by decide))) (cap_up (g := g) (ln := ln) (rv := rv) (a := sk 10) (k := 1) (b := b) (sk_ne hS (t := 4) (u := 10) rfl rfl (by decide))) (cap_up (g := g) (ln := ln) (rv := rv) (a := sk 10) (k := 1) (b := b) (sk_ne hS (t := 5) (u := 10) rfl rfl (by decide))) (cap_up (g := g) (ln := ln) (rv := rv) (a := sk 10) (k := 1) (b := b) (sk_ne hS (t := 6) (u := 10) rfl rfl (by decide))) (cap_up (g := g) (ln := ln) (rv := rv) (a := sk 10) (k := 1) (b := b) (sk_ne hS (t := 7) (u := 10) rfl rfl (by decide))) (cap_up (g := g) (ln := ln) (rv := rv) (a := sk 10) (k := 1) (b := b) (sk_ne hS (t := 8) (u := 10) rfl rfl (by decide))) (cap_up (g := g) (ln := ln) (rv := rv) (a := sk 10) (k := 1) (b := b) (sk_ne hS (t := 9) (u := 10) rfl rfl (by decide))) (cap_up (g := g) (ln := ln) (rv := rv) (a := sk 10) (k := 1) (b := b) (sk_ne hS (t := 11) (u := 10) rfl rfl (by decide))) (cap_up (g := g) (ln := ln) (rv := rv) (a := sk 10) (k := 1) (b := b) (sk_ne hS (t := 24) (u := 10) rfl rfl (by decide))) (cap_up (g := g) (ln := ln) (rv := rv) (a := sk 10) (k := 1) (b := b) (sk_ne hS (t := 25) (u := 10) rfl rfl (by decide))) (show upr rv (sk 10) 1 (some b) (sk 67) = rv (sk 67) from upr_a (sk_ne hS (t := 67) (u := 10) rfl rfl (by decide))) (show upr rv (sk 10) 1 (some b) (sk 69) = rv (sk 69) from upr_a (sk_ne hS (t := 69) (u := 10) rfl rfl (by decide))) (fun c2 c3 c4 c5 c6 c7 c8 c9 c11 c24 c25 r1 r2 => ?_)
    unfold Phi
    rw [e1, c2, c3, c4, c5, c6, c7, c8, c9, c11, c24, c25, r1, r2]
    show _ + 3 * _ = _ + 3 * _
    omega
  · have e1 := cap_s (g := g) (ln := ln) (rv := rv) (a := sk 11) hg
    refine hv13 (cap_up (g := g) (ln := ln) (rv := rv) (a := sk 11) (k := 1) (b := b) (sk_ne hS (t := 2) (u := 11) rfl rfl (by decide))) (cap_up (g := g) (ln := ln) (rv := rv) (a := sk 11) (k := 1) (b := b) (sk_ne hS (t := 3) (u := 11) rfl rfl (by decide))) (cap_up (g := g) (ln := ln) (rv := rv) (a := sk 11) (k := 1) (b := b) (sk_ne hS (t := 4) (u := 11) rfl rfl (by decide))) (cap_up (g := g) (ln := ln) (rv := rv) (a := sk 11) (k := 1) (b := b) (sk_ne hS (t := 5) (u := 11) rfl rfl (by decide))) (cap_up (g := g) (ln := ln) (rv := rv) (a := sk 11) (k := 1) (b := b) (sk_ne hS (t := 6) (u := 11) rfl rfl (by decide))) (cap_up (g := g) (ln := ln) (rv := rv) (a := sk 11) (k := 1) (b := b) (sk_ne hS (t := 7) (u := 11) rfl rfl (by decide))) (cap_up (g := g) (ln := ln) (rv := rv) (a := sk 11) (k := 1) (b := b) (sk_ne hS (t := 8) (u := 11) rfl rfl (by decide))) (cap_up (g := g) (ln := ln) (rv := rv) (a := sk 11) (k := 1) (b := b) (sk_ne hS (t := 9) (u := 11) rfl rfl (by decide))) (cap_up (g := g) (ln := ln) (rv := rv) (a := sk 11) (k := 1) (b := b) (sk_ne hS (t := 10) (u := 11) rfl rfl (by decide))) (cap_up (g := g) (ln := ln) (rv := rv) (a := sk 11) (k := 1) (b := b) (sk_ne hS (t := 24) (u := 11) rfl rfl (by decide))) (cap_up (g := g) (ln := ln) (rv := rv) (a := sk 11) (k := 1) (b := b) (sk_ne hS (t := 25) (u := 11) rfl rfl (by decide))) (show upr rv (sk 11) 1 (some b) (sk 67) = rv (sk 67) from upr_a (sk_ne hS (t := 67) (u := 11) rfl rfl (by decide))) (show upr rv (sk 11) 1 (some b) (sk 69) = rv (sk 69) from upr_a (sk_ne hS (t := 69) (u := 11) rfl rfl (by decide))) (fun c2 c3 c4 c5 c6 c7 c8 c9 c10 c24 c25 r1 r2 => ?_)
    unfold Phi
    rw [e1, c2, c3, c4, c5, c6, c7, c8, c9, c10, c24, c25, r1, r2]
    show _ + 3 * _ = _ + 3 * _
    omega
  · have e1 := cap_s (g := g) (ln := ln) (rv := rv) (a := sk 24) hg
    refine hv13 (cap_up (g := g) (ln := ln) (rv := rv) (a := sk 24) (k := 1) (b := b) (sk_ne hS (t := 2) (u := 24) rfl rfl (by decide))) (cap_up (g := g) (ln := ln) (rv := rv) (a := sk 24) (k := 1) (b := b) (sk_ne hS (t := 3) (u := 24) rfl rfl (by decide))) (cap_up (g := g) (ln := ln) (rv := rv) (a := sk 24) (k := 1) (b := b) (sk_ne hS (t := 4) (u := 24) rfl rfl (by decide))) (cap_up (g := g) (ln := ln) (rv := rv) (a := sk 24) (k := 1) (b := b) (sk_ne hS (t := 5) (u := 24) rfl rfl (by decide))) (cap_up (g := g) (ln := ln) (rv := rv) (a := sk 24) (k := 1) (b := b) (sk_ne hS (t := 6) (u := 24) rfl rfl (by decide))) (cap_up (g := g) (ln := ln) (rv := rv) (a := sk 24) (k := 1) (b := b) (sk_ne hS (t := 7) (u := 24) rfl rfl (by decide))) (cap_up (g := g) (ln := ln) (rv := rv) (a := sk 24) (k := 1) (b := b) (sk_ne hS (t := 8) (u := 24) rfl rfl (by decide))) (cap_up (g := g) (ln := ln) (rv := rv) (a := sk 24) (k := 1) (b := b) (sk_ne hS (t := 9) (u := 24) rfl rfl (by decide))) (cap_up (g := g) (ln := ln) (rv := rv) (a := sk 24) (k := 1) (b := b) (sk_ne hS (t := 10) (u := 24) rfl rfl (by decide))) (cap_up (g := g) (ln := ln) (rv := rv) (a := sk 24) (k := 1) (b := b) (sk_ne hS (t := 11) (u := 24) rfl rfl (by decide))) (cap_up (g := g) (ln := ln) (rv := rv) (a := sk 24) (k := 1) (b := b) (sk_ne hS (t := 25) (u := 24) rfl rfl (by decide))) (show upr rv (sk 24) 1 (some b) (sk 67) = rv (sk 67) from upr_a (sk_ne hS (t := 67) (u := 24) rfl rfl (by decide))) (show upr rv (sk 24) 1 (some b) (sk 69) = rv (sk 69) from upr_a (sk_ne hS (t := 69) (u := 24) rfl rfl (by decide))) (fun c2 c3 c4 c5 c6 c7 c8 c9 c10 c11 c25 r1 r2 => ?_)
    unfold Phi
    rw [e1, c2, c3, c4, c5, c6, c7, c8, c9, c10, c11, c25, r1, r2]
    show _ + 8 * _ = _ + 8 * _
    omega
  · have e1 := cap_s (g := g) (ln := ln) (rv := rv) (a := sk 25) hg
    refine hv13 (cap_up (g := g) (ln := ln) (rv := rv) (a := sk 25) (k := 1) (b := b) (sk_ne hS (t := 2) (u := 25) rfl rfl (by decide))) (cap_up (g := g) (ln := ln) (rv := rv) (a := sk 25) (k := 1) (b := b) (sk_ne hS (t := 3) (u := 25) rfl rfl (by decide))) (cap_up (g := g) (ln := ln) (rv := rv) (a := sk 25) (k := 1) (b := b) (sk_ne hS (t := 4) (u := 25) rfl rfl (by decide))) (cap_up (g := g) (ln := ln) (rv := rv) (a := sk 25) (k := 1) (b := b) (sk_ne hS (t := 5) (u := 25) rfl rfl (by decide))) (cap_up (g := g) (ln := ln) (rv := rv) (a := sk 25) (k := 1) (b := b) (sk_ne hS (t := 6) (u := 25) rfl rfl (by decide))) (cap_up (g := g) (ln := ln) (rv := rv) (a := sk 25) (k := 1) (b := b) (sk_ne hS (t := 7) (u := 25) rfl rfl (by decide))) (cap_up (g := g) (ln := ln) (rv := rv) (a := sk 25) (k := 1) (b := b) (sk_ne hS (t := 8) (u := 25) rfl rfl (by decide))) (cap_up (g := g) (ln := ln) (rv := rv) (a := sk 25) (k := 1) (b := b) (sk_ne hS (t := 9) (u := 25) rfl rfl (by decide))) (cap_up (g := g) (ln := ln) (rv := rv) (a := sk 25) (k := 1) (b := b) (sk_ne hS (t := 10) (u := 25) rfl rfl (by decide))) (cap_up (g := g) (ln := ln) (rv := rv) (a := sk 25) (k := 1) (b := b) (sk_ne hS (t := 11) (u := 25) rfl rfl (by decide))) (cap_up (g := g) (ln := ln) (rv := rv) (a := sk 25) (k := 1) (b := b) (sk_ne hS (t := 24) (u := 25) rfl rfl (by decide))) (show upr rv (sk 25) 1 (some b) (sk 67) = rv (sk 67) from upr_a (sk_ne hS (t := 67) (u := 25) rfl rfl (by decide))) (show upr rv (sk 25) 1 (some b) (sk 69) = rv (sk 69) from upr_a (sk_ne hS (t := 69) (u := 25) rfl rfl (by decide))) (fun c2 c3 c4 c5 c6 c7 c8 c9 c10 c11 c24 r1 r2 => ?_)
    unfold Phi
    rw [e1, c2, c3, c4, c5, c6, c7, c8, c9, c10, c11, c24, r1, r2]
    show _ + 8 * _ = _ + 8 * _
    omega
end NEWS
theorem rom0 {P K c0 ph pm : Nat} (h1 : ph ≤ pm) (h2 : P ≤ pm) (h3 : K ≤ c0) : P + K ≤ (pm + c0 - ph) + ph := by omega
theorem rom1 {P K c0 c2 ph pm : Nat} (h1 : ph ≤ pm) (h2 : P ≤ pm) (h3 : K + c2 ≤ c0) : P + K + (pm + c2 - P) ≤ (pm + c0 - ph) + ph := by omega
theorem rom2 {P K c0 x ph pm : Nat} (h1 : ph ≤ pm) (h2 : P ≤ pm) (h3 : K + x ≤ c0) : P + K + x ≤ (pm + c0 - ph) + ph := by omega
section DQ
variable {p : Program} {l : Launch} {e : Env} {d0 c0 : Nat} {s : State} {m : MethodId} {args : Array Value} {below : List Frame} {meth : Method} {c : Code} {cc : ByteArray} {y : MethodName} {ret : Option FieldType} {G : GT} {A : Nat → Prop} {nL mi : Nat} {Q : State → Prop} {Pf : PF} {ph pm : Nat} {L : List Nat} {cl ln : Nat → Nat} {iv : Nat → Nat → Int} {rv : Nat → Nat → Option Nat} {K K2 pc : Nat} {lv : List (Nat × Value)} {st : List Value}
theorem c_retag {q t : Nat} (hk : kd (bt t) = kd (bt (cl q))) (k : ∀ cl2, cl2 = va_up cl q t → cw p l e d0 (pm + c0 - ph) s m args below meth c G A nL Q Pf ph L cl2 ln iv rv K pc lv st) : cw p l e d0 (pm + c0 - ph) s m args below meth c G A nL Q Pf ph L cl ln iv rv K pc lv st := by
  have e : enc G (va_up cl q t) ln iv rv = enc G cl ln iv rv := by
    funext b
    by_cases h : b = q
    · subst h; exact enc_ext (by rw [va_up_self, hk]) rfl rfl rfl
    · exact enc_ext (by rw [va_up_ne _ _ h]) rfl rfl rfl
  intro u hu
  have q1 := k _ rfl u hu
  rw [e] at q1
  exact q1
theorem d_callV (C : Cq p s m args meth c cc y ret G A nL) (hM : Mir mi s) {y2 : MethodName} {cc2 : ByteArray} {n2 d2 c2 idx k2 : Nat} {P2 : PC} {As rest : List Value} {b ci N T : Nat} {ret2 : Option FieldType} {TT : u_T} {tyy : Nat → FieldType} (M : Mc l G mi Pf pm y2 cc2 n2 ret2 d2 (.ref b :: As) L cl ln iv rv c2 P2) (d : decode cc pc = .ok (.invokevirtual idx, 3)) (hw : Wv y.cls idx y2 cc2 n2 ret2 k2) (hk : As.length = k2) (hb : ty L cl b T) (hT : kd T = ci) (hN : nf ci = N) (h13 : ci < 13) (ck : Ck ci y2.cls TT N tyy) (hst : st = As.reverse ++ .ref b :: rest) (hcat : (rest.map fun v => v.category).sum ≤ 8) (hR : d2 + 1 ≤ d0 ∧ 8 + (n2 + 11) + 64 * d2 ≤ 64 * d0) (hph : ph ≤ pm) (hp : Pf ln rv ≤ pm) (hK : K + c2 = K2) (hKc : K2 ≤ c0) (kk : ∀ (v : Option Value) (L2 : List Nat) (cl2 ln2 : Nat → Nat) (iv2 : Nat → Nat → Int) (rv2 : Nat → Nat → Option Nat), P2 v L2 cl2 ln2 iv2 rv2 → cw p l e d0 (pm + c0 - ph) s m args below meth c G A nL Q Pf ph L2 cl2 ln2 iv2 rv2 K2 (pc + 3) lv (v.toList ++ rest)) : cw p l e d0 (pm + c0 - ph) s m args below meth c G A nL Q Pf ph L cl ln iv rv K pc lv st := c_callV C hM M d hw hk hb hT hN h13 ck hst hcat hR (rom1 hph hp (by omega)) (fun v L2 cl2 ln2 iv2 rv2 h => ⟨K2, fun u2 q => by omega, kk v L2 cl2 ln2 iv2 rv2 h⟩)
theorem d_callS (C : Cq p s m args meth c cc y ret G A nL) (hM : Mir mi s) {y2 : MethodName} {cc2 : ByteArray} {n2 d2 c2 idx k2 : Nat} {P2 : PC} {As rest : List Value} {ret2 : Option FieldType} (M : Mc l G mi Pf pm y2 cc2 n2 ret2 d2 As L cl ln iv rv c2 P2) (d : decode cc pc = .ok (.invokestatic idx, 3)) (hw : Ws y.cls idx y2 cc2 n2 ret2 k2) (hk : As.length = k2) (hst : st = As.reverse ++ rest) (hcat : (rest.map fun v => v.category).sum ≤ 8) (hR : d2 + 1 ≤ d0 ∧ 8 + (n2 + 11) + 64 * d2 ≤ 64 * d0) (hph : ph ≤ pm) (hp : Pf ln rv ≤ pm) (hK : K + c2 = K2) (hKc : K2 ≤ c0) (kk : ∀ (v : Option Value) (L2 : List Nat) (cl2 ln2 : Nat → Nat) (iv2 : Nat → Nat → Int) (rv2 : Nat → Nat → Option Nat), P2 v L2 cl2 ln2 iv2 rv2 → cw p l e d0 (pm + c0 - ph) s m args below meth c G A nL Q Pf ph L2 cl2 ln2 iv2 rv2 K2 (pc + 3) lv (v.toList ++ rest)) : cw p l e d0 (pm + c0 - ph) s m args below meth c G A nL Q Pf ph L cl ln iv rv K pc lv st := c_callS C hM M d hw hk hst hcat hR (rom1 hph hp (by omega)) (fun v L2 cl2 ln2 iv2 rv2 h => ⟨K2, fun u2 q => by omega, kk v L2 cl2 ln2 iv2 rv2 h⟩)
end DQ
def zPf : PF := fun _ _ => 0
theorem z_in {K x K2 : Nat} {ln ln2 : Nat → Nat} {rv rv2 : Nat → Nat → Option Nat} (h : K + x ≤ K2) : zPf ln rv + K + x ≤ zPf ln2 rv2 + K2 := by unfold zPf; omega
theorem p_in {P P2 K x K2 : Nat} (e : P2 = P) (h : K + x ≤ K2) : P + K + x ≤ P2 + K2 := by omega
theorem zk1 {P P2 K c2 : Nat} {ln ln2 : Nat → Nat} {rv rv2 : Nat → Nat → Option Nat} (e : P2 = P) : ∀ u2 : Nat, u2 + zPf ln rv ≤ zPf ln2 rv2 + c2 → u2 + P + K ≤ P2 + (K + c2) := by unfold zPf; intro u2 h; omega
theorem zk0 {K c2 : Nat} {ln ln2 : Nat → Nat} {rv rv2 : Nat → Nat → Option Nat} : ∀ u2 : Nat, u2 + zPf ln rv ≤ zPf ln2 rv2 + c2 → u2 + zPf ln rv + K ≤ zPf ln2 rv2 + (K + c2) := by unfold zPf; intro u2 h; omega
theorem rz1 {P K c0 c2 ph pm : Nat} {ln : Nat → Nat} {rv : Nat → Nat → Option Nat} (h1 : ph ≤ pm) (h2 : P ≤ pm) (h3 : K + c2 ≤ c0) : P + K + (0 + c2 - zPf ln rv) ≤ (pm + c0 - ph) + ph := by unfold zPf; omega
theorem rz0 {K c0 c2 : Nat} {ln : Nat → Nat} {rv : Nat → Nat → Option Nat} {ln2 : Nat → Nat} {rv2 : Nat → Nat → Option Nat} (h1 : zPf ln2 rv2 ≤ 0) (h3 : K + c2 ≤ c0) : zPf ln rv + K + (0 + c2 - zPf ln rv) ≤ (0 + c0 - zPf ln2 rv2) + zPf ln2 rv2 := by unfold zPf; omega
theorem Phi.fr {g : Nat} {sk : Nat → Nat} {ls L L2 : List Nat} {cl ln cl2 ln2 : Nat → Nat} {iv iv2 : Nat → Nat → Int} {rv rv2 : Nat → Nat → Option Nat} (h : WT g sk L cl ln iv rv) (hS : SKL sk L cl) (hX : XT L cl ln L2 cl2 ln2) (hF : fT ls L cl iv rv iv2 rv2) (hp : ls.all (fun t => !pot t) = true) : Phi g sk ln2 rv2 = Phi g sk ln rv := by
  refine Phi.congr (fun t ht hq => ?_) (fun t b ht hq hs hb hg => ?_)
  · refine (hF _ (hS t ht).1 ?_).2
    rw [(hS t ht).2]
    cases e : ls.contains (bt t) with
    | false => rfl
    | true =>
      have h2 := List.all_eq_true.mp hp _ (List.contains_iff_mem.mp e)
      rw [hq] at h2; cases h2
  · rcases WT.ed h (hS t ht).1 (by
      rw [(hS t ht).2]
      unfold szd lst at hs ⊢
      simp at hs ⊢
      unfold bt
      split <;> (try split) <;> (try split) <;> omega) hb with q1 | q1
    · exact (hX b q1).2.2
    · exact absurd q1 hg
theorem Phi.frn {g : Nat} {sk : Nat → Nat} {ls L : List Nat} {cl ln : Nat → Nat} {iv iv2 : Nat → Nat → Int} {rv rv2 : Nat → Nat → Option Nat} (hS : SKL sk L cl) (hF : fT ls L cl iv rv iv2 rv2) (hp : ls.all (fun t => !pot t) = true) : Phi g sk ln rv2 = Phi g sk ln rv := by
  refine Phi.congr (fun t ht hq => ?_) (fun _ _ _ _ _ _ _ => rfl)
  refine (hF _ (hS t ht).1 ?_).2
  rw [(hS t ht).2]
  cases e : ls.contains (bt t) with
  | false => rfl
  | true =>
    have h2 := List.all_eq_true.mp hp _ (List.contains_iff_mem.mp e)
    rw [hq] at h2; cases h2
theorem bt_id {x t : Nat} (h : bt x = t) (ht : t < 18 ∨ (18 < t ∧ t < 67)) : x = t := by
  unfold bt at h
  split at h
  · split at h
    · omega
    · split at h <;> omega
  · split at h
    · omega
    · split at h <;> omega
theorem WT.sk {g : Nat} {sk : Nat → Nat} {L : List Nat} {cl ln : Nat → Nat} {iv : Nat → Nat → Int} {rv : Nat → Nat → Option Nat} {a t : Nat} (h : WT g sk L cl ln iv rv) (ha : ty L cl a t) (ht : t < 18 ∨ (18 < t ∧ t < 67)) (hu : uq t = true) : a = sk t := by
  have e := bt_id ha.2 ht
  have q := h.2.2.2.2.2.1 a ha.1 (by rw [e]; exact hu)
  rw [e] at q; exact q
def limT (t : Nat) : Nat := match t with
  | 2 => 3000
  | 3 => 500
  | 4 => 4000
  | 5 => 200
  | 6 => 6003
  | 7 => 6003
  | 8 => 40200
  | 9 => 40200
  | 10 => 4001
  | 11 => 40000
  | 12 => 200
  | _ => 0
theorem Phi.slack {g : Nat} {sk : Nat → Nat} {L : List Nat} {cl ln : Nat → Nat} {iv : Nat → Nat → Int} {rv : Nat → Nat → Option Nat} {t n : Nat} (h : WT g sk L cl ln iv rv) (hS : SKL sk L cl) (ht : 2 ≤ t ∧ t ≤ 11) (hn : cap g ln rv (sk t) = n) (hc : n ≤ limT t) : Phi g sk ln rv + 3 * n ≤ PHM := by
  refine hv14 (cap_le (t := 2) (m := 6000) h hS rfl rfl rfl rfl rfl) (cap_le (t := 3) (m := 1000) h hS rfl rfl rfl rfl rfl) (cap_le (t := 4) (m := 8000) h hS rfl rfl rfl rfl rfl) (cap_le (t := 5) (m := 400) h hS rfl rfl rfl rfl rfl) (cap_le (t := 6) (m := 12006) h hS rfl rfl rfl rfl rfl) (cap_le (t := 7) (m := 12006) h hS rfl rfl rfl rfl rfl) (cap_le (t := 8) (m := 80400) h hS rfl rfl rfl rfl rfl) (cap_le (t := 9) (m := 80400) h hS rfl rfl rfl rfl rfl) (cap_le (t := 10) (m := 8002) h hS rfl rfl rfl rfl rfl) (cap_le (t := 11) (m := 80000) h hS rfl rfl rfl rfl rfl) (cap_le (t := 24) (m := 9100) h hS rfl rfl rfl rfl rfl) (cap_le (t := 25) (m := 9100) h hS rfl rfl rfl rfl rfl) (nn_le (rv (sk 67)) 200) (nn_le (rv (sk 69)) 200) (fun c2 c3 c4 c5 c6 c7 c8 c9 c10 c11 c24 c25 n1 n2 => ?_)
  have : t = 2 ∨ t = 3 ∨ t = 4 ∨ t = 5 ∨ t = 6 ∨ t = 7 ∨ t = 8 ∨ t = 9 ∨ t = 10 ∨ t = 11 := by omega
  rcases this with rfl | rfl | rfl | rfl | rfl | rfl | rfl | rfl | rfl | rfl
  · unfold Phi
    show _ ≤ 1110000
    have hc2 : n ≤ 3000 := hc
    omega
  · unfold Phi
    show _ ≤ 1110000
    have hc2 : n ≤ 500 := hc
    omega
  · unfold Phi
    show _ ≤ 1110000
    have hc2 : n ≤ 4000 := hc
    omega
  · unfold Phi
    show _ ≤ 1110000
    have hc2 : n ≤ 200 := hc
    omega
  · unfold Phi
    show _ ≤ 1110000
    have hc2 : n ≤ 6003 := hc
    omega
  · unfold Phi
    show _ ≤ 1110000
    have hc2 : n ≤ 6003 := hc
    omega
  · unfold Phi
    show _ ≤ 1110000
    have hc2 : n ≤ 40200 := hc
    omega
  · unfold Phi
    show _ ≤ 1110000
    have hc2 : n ≤ 40200 := hc
    omega
  · unfold Phi
    show _ ≤ 1110000
    have hc2 : n ≤ 4001 := hc
    omega
  · unfold Phi
    show _ ≤ 1110000
    have hc2 : n ≤ 40000 := hc
    omega
theorem dv_0 : ∀ j, j < 3 → defaultValue (tyJx4a65c j) = ofv 0 (fun _ => 0) (fun _ => none) j := fun j hj => match j, hj with
  | 0, _ => rfl
  | 1, _ => rfl
  | 2, _ => rfl
  | n + 3, h => absurd h (by omega)
theorem dv_1 : ∀ j, j < 4 → defaultValue (tyX0 j) = ofv 1 (fun _ => 0) (fun _ => none) j := fun j hj => match j, hj with
  | 0, _ => rfl
  | 1, _ => rfl
  | 2, _ => rfl
  | 3, _ => rfl
  | n + 4, h => absurd h (by omega)
theorem dv_2 : ∀ j, j < 3 → defaultValue (tyX1 j) = ofv 2 (fun _ => 0) (fun _ => none) j := fun j hj => match j, hj with
  | 0, _ => rfl
  | 1, _ => rfl
  | 2, _ => rfl
  | n + 3, h => absurd h (by omega)
theorem dv_3 : ∀ j, j < 3 → defaultValue (tyX2 j) = ofv 3 (fun _ => 0) (fun _ => none) j := fun j hj => match j, hj with
  | 0, _ => rfl
  | 1, _ => rfl
  | 2, _ => rfl
  | n + 3, h => absurd h (by omega)
theorem dv_4 : ∀ j, j < 8 → defaultValue (tyX3 j) = ofv 4 (fun _ => 0) (fun _ => none) j := fun j hj => match j, hj with
  | 0, _ => rfl
  | 1, _ => rfl
  | 2, _ => rfl
  | 3, _ => rfl
  | 4, _ => rfl
  | 5, _ => rfl
  | 6, _ => rfl
  | 7, _ => rfl
  | n + 8, h => absurd h (by omega)
theorem dv_5 : ∀ j, j < 11 → defaultValue (tyX4 j) = ofv 5 (fun _ => 0) (fun _ => none) j := fun j hj => match j, hj with
  | 0, _ => rfl
  | 1, _ => rfl
  | 2, _ => rfl
  | 3, _ => rfl
  | 4, _ => rfl
  | 5, _ => rfl
  | 6, _ => rfl
  | 7, _ => rfl
  | 8, _ => rfl
  | 9, _ => rfl
  | 10, _ => rfl
  | n + 11, h => absurd h (by omega)
theorem dv_6 : ∀ j, j < 4 → defaultValue (tyX5 j) = ofv 6 (fun _ => 0) (fun _ => none) j := fun j hj => match j, hj with
  | 0, _ => rfl
  | 1, _ => rfl
  | 2, _ => rfl
  | 3, _ => rfl
  | n + 4, h => absurd h (by omega)
theorem dv_7 : ∀ j, j < 12 → defaultValue (tyX6 j) = ofv 7 (fun _ => 0) (fun _ => none) j := fun j hj => match j, hj with
  | 0, _ => rfl
  | 1, _ => rfl
  | 2, _ => rfl
  | 3, _ => rfl
  | 4, _ => rfl
  | 5, _ => rfl
  | 6, _ => rfl
  | 7, _ => rfl
  | 8, _ => rfl
  | 9, _ => rfl
  | 10, _ => rfl
  | 11, _ => rfl
  | n + 12, h => absurd h (by omega)
theorem dv_8 : ∀ j, j < 3 → defaultValue (tyX7 j) = ofv 8 (fun _ => 0) (fun _ => none) j := fun j hj => match j, hj with
  | 0, _ => rfl
  | 1, _ => rfl
  | 2, _ => rfl
  | n + 3, h => absurd h (by omega)
theorem dv_9 : ∀ j, j < 8 → defaultValue (tyX8 j) = ofv 9 (fun _ => 0) (fun _ => none) j := fun j hj => match j, hj with
  | 0, _ => rfl
  | 1, _ => rfl
  | 2, _ => rfl
  | 3, _ => rfl
  | 4, _ => rfl
  | 5, _ => rfl
  | 6, _ => rfl
  | 7, _ => rfl
  | n + 8, h => absurd h (by omega)
theorem dv_10 : ∀ j, j < 8 → defaultValue (tyX9 j) = ofv 10 (fun _ => 0) (fun _ => none) j := fun j hj => match j, hj with
  | 0, _ => rfl
  | 1, _ => rfl
  | 2, _ => rfl
  | 3, _ => rfl
  | 4, _ => rfl
  | 5, _ => rfl
  | 6, _ => rfl
  | 7, _ => rfl
  | n + 8, h => absurd h (by omega)
theorem dv_11 : ∀ j, j < 2 → defaultValue (tyX10 j) = ofv 11 (fun _ => 0) (fun _ => none) j := fun j hj => match j, hj with
  | 0, _ => rfl
  | 1, _ => rfl
  | n + 2, h => absurd h (by omega)
end
section
def sgn (x : Int32) : Int32 := if x < 48 ∨ (57 < x ∧ x < 65) ∨ (90 < x ∧ x < 97) ∨ 122 < x then 1 else 0
theorem sgn_c (x : Int32) : ∃ z : Int, (z = 0 ∨ z = 1) ∧ sgn x = iI z := by
  unfold sgn
  split
  · exact ⟨1, Or.inr rfl, rfl⟩
  · exact ⟨0, Or.inl rfl, rfl⟩
set_option maxHeartbeats 4000000 in
set_option maxRecDepth 100000 in
theorem s11_isDigit {l : Launch} {G : GT} {L : List Nat} {E : Nat → va_E} (x : Int32) : Mq l G yX11_isDigit cX11_isDigit 1 (some .boolean) 0 [.int x] L E 0 0 (fun v L2 E2 => v = some (.int (inn x 48 57)) ∧ L2 = L ∧ E2 = E) := by
  refine Mq.mk (by decide) (Nat.le_of_ble_eq_true rfl) ?_
  intro p e s m args below meth c A C
  refine q_iload_n (j := 0) C dX11_isDigit_0 rfl ?_
  refine q_bipush (v := 48) C dX11_isDigit_1 (by decide) ?_
  refine q_icmp_lt (tgt := 16) C dX11_isDigit_3 (by decide) (fun c1 => ?_) (fun c1 => ?_)
  · refine q_iconst (v := 0) C dX11_isDigit_16 (by decide) ?_
    exact q_zret C dX11_isDigit_17 rfl (by decide) (Nat.le_of_ble_eq_true rfl) (Nat.le_of_ble_eq_true rfl) ⟨(by refine congrArg (fun z => some (Value.int z)) ?_; unfold inn; (try simp only [i32_lt, i32_le, i32_eq, inn_f, Decidable.not_not, tn_m1, tn_0, tn_1, tn_2, tn_3, tn_4, tn_5, tn_6, tn_7, tn_8, tn_10, tn_30, tn_31, tn_32, tn_36, tn_40, tn_50, tn_100, tn_126, tn_200, tn_255, tn_500, tn_512, tn_3000, tn_5000] at c1); split <;> rename_i hz <;> (try simp only [i32_lt, i32_le, i32_eq, inn_f, Decidable.not_not, tn_m1, tn_0, tn_1, tn_2, tn_3, tn_4, tn_5, tn_6, tn_7, tn_8, tn_10, tn_30, tn_31, tn_32, tn_36, tn_40, tn_50, tn_100, tn_126, tn_200, tn_255, tn_500, tn_512, tn_3000, tn_5000] at hz) <;> first | rfl | (exfalso; omega)), rfl, rfl⟩
  · refine q_iload_n (j := 0) C dX11_isDigit_6 rfl ?_
    refine q_bipush (v := 57) C dX11_isDigit_7 (by decide) ?_
    refine q_icmp_gt (tgt := 16) C dX11_isDigit_9 (by decide) (fun c2 => ?_) (fun c2 => ?_)
    · refine q_iconst (v := 0) C dX11_isDigit_16 (by decide) ?_
      exact q_zret C dX11_isDigit_17 rfl (by decide) (Nat.le_of_ble_eq_true rfl) (Nat.le_of_ble_eq_true rfl) ⟨(by refine congrArg (fun z => some (Value.int z)) ?_; unfold inn; (try simp only [i32_lt, i32_le, i32_eq, inn_f, Decidable.not_not, tn_m1, tn_0, tn_1, tn_2, tn_3, tn_4, tn_5, tn_6, tn_7, tn_8, tn_10, tn_30, tn_31, tn_32, tn_36, tn_40, tn_50, tn_100, tn_126, tn_200, tn_255, tn_500, tn_512, tn_3000, tn_5000] at c1); (try simp only [i32_lt, i32_le, i32_eq, inn_f, Decidable.not_not, tn_m1, tn_0, tn_1, tn_2, tn_3, tn_4, tn_5, tn_6, tn_7, tn_8, tn_10, tn_30, tn_31, tn_32, tn_36, tn_40, tn_50, tn_100, tn_126, tn_200, tn_255, tn_500, tn_512, tn_3000, tn_5000] at c2); split <;> rename_i hz <;> (try simp only [i32_lt, i32_le, i32_eq, inn_f, Decidable.not_not, tn_m1, tn_0, tn_1, tn_2, tn_3, tn_4, tn_5, tn_6, tn_7, tn_8, tn_10, tn_30, tn_31, tn_32, tn_36, tn_40, tn_50, tn_100, tn_126, tn_200, tn_255, tn_500, tn_512, tn_3000, tn_5000] at hz) <;> first | rfl | (exfalso; omega)), rfl, rfl⟩
    · refine q_iconst (v := 1) C dX11_isDigit_12 (by decide) ?_
      refine q_goto (tgt := 17) C dX11_isDigit_13 (by decide) ?_
      exact q_zret C dX11_isDigit_17 rfl (by decide) (Nat.le_of_ble_eq_true rfl) (Nat.le_of_ble_eq_true rfl) ⟨(by refine congrArg (fun z => some (Value.int z)) ?_; unfold inn; (try simp only [i32_lt, i32_le, i32_eq, inn_f, Decidable.not_not, tn_m1, tn_0, tn_1, tn_2, tn_3, tn_4, tn_5, tn_6, tn_7, tn_8, tn_10, tn_30, tn_31, tn_32, tn_36, tn_40, tn_50, tn_100, tn_126, tn_200, tn_255, tn_500, tn_512, tn_3000, tn_5000] at c1); (try simp only [i32_lt, i32_le, i32_eq, inn_f, Decidable.not_not, tn_m1, tn_0, tn_1, tn_2, tn_3, tn_4, tn_5, tn_6, tn_7, tn_8, tn_10, tn_30, tn_31, tn_32, tn_36, tn_40, tn_50, tn_100, tn_126, tn_200, tn_255, tn_500, tn_512, tn_3000, tn_5000] at c2); split <;> rename_i hz <;> (try simp only [i32_lt, i32_le, i32_eq, inn_f, Decidable.not_not, tn_m1, tn_0, tn_1, tn_2, tn_3, tn_4, tn_5, tn_6, tn_7, tn_8, tn_10, tn_30, tn_31, tn_32, tn_36, tn_40, tn_50, tn_100, tn_126, tn_200, tn_255, tn_500, tn_512, tn_3000, tn_5000] at hz) <;> first | rfl | (exfalso; omega)), rfl, rfl⟩
set_option maxHeartbeats 4000000 in
set_option maxRecDepth 100000 in
theorem s11_isGreat {l : Launch} {G : GT} {L : List Nat} {E : Nat → va_E} (x : Int32) : Mq l G yX11_isGreat cX11_isGreat 1 (some .boolean) 0 [.int x] L E 0 0 (fun v L2 E2 => v = some (.int (inn x 65 90)) ∧ L2 = L ∧ E2 = E) := by
  refine Mq.mk (by decide) (Nat.le_of_ble_eq_true rfl) ?_
  intro p e s m args below meth c A C
  refine q_iload_n (j := 0) C dX11_isGreat_0 rfl ?_
  refine q_bipush (v := 65) C dX11_isGreat_1 (by decide) ?_
  refine q_icmp_lt (tgt := 16) C dX11_isGreat_3 (by decide) (fun c1 => ?_) (fun c1 => ?_)
  · refine q_iconst (v := 0) C dX11_isGreat_16 (by decide) ?_
    exact q_zret C dX11_isGreat_17 rfl (by decide) (Nat.le_of_ble_eq_true rfl) (Nat.le_of_ble_eq_true rfl) ⟨(by refine congrArg (fun z => some (Value.int z)) ?_; unfold inn; (try simp only [i32_lt, i32_le, i32_eq, inn_f, Decidable.not_not, tn_m1, tn_0, tn_1, tn_2, tn_3, tn_4, tn_5, tn_6, tn_7, tn_8, tn_10, tn_30, tn_31, tn_32, tn_36, tn_40, tn_50, tn_100, tn_126, tn_200, tn_255, tn_500, tn_512, tn_3000, tn_5000] at c1); split <;> rename_i hz <;> (try simp only [i32_lt, i32_le, i32_eq, inn_f, Decidable.not_not, tn_m1, tn_0, tn_1, tn_2, tn_3, tn_4, tn_5, tn_6, tn_7, tn_8, tn_10, tn_30, tn_31, tn_32, tn_36, tn_40, tn_50, tn_100, tn_126, tn_200, tn_255, tn_500, tn_512, tn_3000, tn_5000] at hz) <;> first | rfl | (exfalso; omega)), rfl, rfl⟩
  · refine q_iload_n (j := 0) C dX11_isGreat_6 rfl ?_
    refine q_bipush (v := 90) C dX11_isGreat_7 (by decide) ?_
    refine q_icmp_gt (tgt := 16) C dX11_isGreat_9 (by decide) (fun c2 => ?_) (fun c2 => ?_)
    · refine q_iconst (v := 0) C dX11_isGreat_16 (by decide) ?_
      exact q_zret C dX11_isGreat_17 rfl (by decide) (Nat.le_of_ble_eq_true rfl) (Nat.le_of_ble_eq_true rfl) ⟨(by refine congrArg (fun z => some (Value.int z)) ?_; unfold inn; (try simp only [i32_lt, i32_le, i32_eq, inn_f, Decidable.not_not, tn_m1, tn_0, tn_1, tn_2, tn_3, tn_4, tn_5, tn_6, tn_7, tn_8, tn_10, tn_30, tn_31, tn_32, tn_36, tn_40, tn_50, tn_100, tn_126, tn_200, tn_255, tn_500, tn_512, tn_3000, tn_5000] at c1); (try simp only [i32_lt, i32_le, i32_eq, inn_f, Decidable.not_not, tn_m1, tn_0, tn_1, tn_2, tn_3, tn_4, tn_5, tn_6, tn_7, tn_8, tn_10, tn_30, tn_31, tn_32, tn_36, tn_40, tn_50, tn_100, tn_126, tn_200, tn_255, tn_500, tn_512, tn_3000, tn_5000] at c2); split <;> rename_i hz <;> (try simp only [i32_lt, i32_le, i32_eq, inn_f, Decidable.not_not, tn_m1, tn_0, tn_1, tn_2, tn_3, tn_4, tn_5, tn_6, tn_7, tn_8, tn_10, tn_30, tn_31, tn_32, tn_36, tn_40, tn_50, tn_100, tn_126, tn_200, tn_255, tn_500, tn_512, tn_3000, tn_5000] at hz) <;> first | rfl | (exfalso; omega)), rfl, rfl⟩
    · refine q_iconst (v := 1) C dX11_isGreat_12 (by decide) ?_
      refine q_goto (tgt := 17) C dX11_isGreat_13 (by decide) ?_
      exact q_zret C dX11_isGreat_17 rfl (by decide) (Nat.le_of_ble_eq_true rfl) (Nat.le_of_ble_eq_true rfl) ⟨(by refine congrArg (fun z => some (Value.int z)) ?_; unfold inn; (try simp only [i32_lt, i32_le, i32_eq, inn_f, Decidable.not_not, tn_m1, tn_0, tn_1, tn_2, tn_3, tn_4, tn_5, tn_6, tn_7, tn_8, tn_10, tn_30, tn_31, tn_32, tn_36, tn_40, tn_50, tn_100, tn_126, tn_200, tn_255, tn_500, tn_512, tn_3000, tn_5000] at c1); (try simp only [i32_lt, i32_le, i32_eq, inn_f, Decidable.not_not, tn_m1, tn_0, tn_1, tn_2, tn_3, tn_4, tn_5, tn_6, tn_7, tn_8, tn_10, tn_30, tn_31, tn_32, tn_36, tn_40, tn_50, tn_100, tn_126, tn_200, tn_255, tn_500, tn_512, tn_3000, tn_5000] at c2); split <;> rename_i hz <;> (try simp only [i32_lt, i32_le, i32_eq, inn_f, Decidable.not_not, tn_m1, tn_0, tn_1, tn_2, tn_3, tn_4, tn_5, tn_6, tn_7, tn_8, tn_10, tn_30, tn_31, tn_32, tn_36, tn_40, tn_50, tn_100, tn_126, tn_200, tn_255, tn_500, tn_512, tn_3000, tn_5000] at hz) <;> first | rfl | (exfalso; omega)), rfl, rfl⟩
set_option maxHeartbeats 4000000 in
set_option maxRecDepth 100000 in
theorem s11_isSmall {l : Launch} {G : GT} {L : List Nat} {E : Nat → va_E} (x : Int32) : Mq l G yX11_isSmall cX11_isSmall 1 (some .boolean) 0 [.int x] L E 0 0 (fun v L2 E2 => v = some (.int (inn x 97 122)) ∧ L2 = L ∧ E2 = E) := by
  refine Mq.mk (by decide) (Nat.le_of_ble_eq_true rfl) ?_
  intro p e s m args below meth c A C
  refine q_iload_n (j := 0) C dX11_isSmall_0 rfl ?_
  refine q_bipush (v := 97) C dX11_isSmall_1 (by decide) ?_
  refine q_icmp_lt (tgt := 16) C dX11_isSmall_3 (by decide) (fun c1 => ?_) (fun c1 => ?_)
  · refine q_iconst (v := 0) C dX11_isSmall_16 (by decide) ?_
    exact q_zret C dX11_isSmall_17 rfl (by decide) (Nat.le_of_ble_eq_true rfl) (Nat.le_of_ble_eq_true rfl) ⟨(by refine congrArg (fun z => some (Value.int z)) ?_; unfold inn; (try simp only [i32_lt, i32_le, i32_eq, inn_f, Decidable.not_not, tn_m1, tn_0, tn_1, tn_2, tn_3, tn_4, tn_5, tn_6, tn_7, tn_8, tn_10, tn_30, tn_31, tn_32, tn_36, tn_40, tn_50, tn_100, tn_126, tn_200, tn_255, tn_500, tn_512, tn_3000, tn_5000] at c1); split <;> rename_i hz <;> (try simp only [i32_lt, i32_le, i32_eq, inn_f, Decidable.not_not, tn_m1, tn_0, tn_1, tn_2, tn_3, tn_4, tn_5, tn_6, tn_7, tn_8, tn_10, tn_30, tn_31, tn_32, tn_36, tn_40, tn_50, tn_100, tn_126, tn_200, tn_255, tn_500, tn_512, tn_3000, tn_5000] at hz) <;> first | rfl | (exfalso; omega)), rfl, rfl⟩
  · refine q_iload_n (j := 0) C dX11_isSmall_6 rfl ?_
    refine q_bipush (v := 122) C dX11_isSmall_7 (by decide) ?_
    refine q_icmp_gt (tgt := 16) C dX11_isSmall_9 (by decide) (fun c2 => ?_) (fun c2 => ?_)
    · refine q_iconst (v := 0) C dX11_isSmall_16 (by decide) ?_
      exact q_zret C dX11_isSmall_17 rfl (by decide) (Nat.le_of_ble_eq_true rfl) (Nat.le_of_ble_eq_true rfl) ⟨(by refine congrArg (fun z => some (Value.int z)) ?_; unfold inn; (try simp only [i32_lt, i32_le, i32_eq, inn_f, Decidable.not_not, tn_m1, tn_0, tn_1, tn_2, tn_3, tn_4, tn_5, tn_6, tn_7, tn_8, tn_10, tn_30, tn_31, tn_32, tn_36, tn_40, tn_50, tn_100, tn_126, tn_200, tn_255, tn_500, tn_512, tn_3000, tn_5000] at c1); (try simp only [i32_lt, i32_le, i32_eq, inn_f, Decidable.not_not, tn_m1, tn_0, tn_1, tn_2, tn_3, tn_4, tn_5, tn_6, tn_7, tn_8, tn_10, tn_30, tn_31, tn_32, tn_36, tn_40, tn_50, tn_100, tn_126, tn_200, tn_255, tn_500, tn_512, tn_3000, tn_5000] at c2); split <;> rename_i hz <;> (try simp only [i32_lt, i32_le, i32_eq, inn_f, Decidable.not_not, tn_m1, tn_0, tn_1, tn_2, tn_3, tn_4, tn_5, tn_6, tn_7, tn_8, tn_10, tn_30, tn_31, tn_32, tn_36, tn_40, tn_50, tn_100, tn_126, tn_200, tn_255, tn_500, tn_512, tn_3000, tn_5000] at hz) <;> first | rfl | (exfalso; omega)), rfl, rfl⟩
    · refine q_iconst (v := 1) C dX11_isSmall_12 (by decide) ?_
      refine q_goto (tgt := 17) C dX11_isSmall_13 (by decide) ?_
      exact q_zret C dX11_isSmall_17 rfl (by decide) (Nat.le_of_ble_eq_true rfl) (Nat.le_of_ble_eq_true rfl) ⟨(by refine congrArg (fun z => some (Value.int z)) ?_; unfold inn; (try simp only [i32_lt, i32_le, i32_eq, inn_f, Decidable.not_not, tn_m1, tn_0, tn_1, tn_2, tn_3, tn_4, tn_5, tn_6, tn_7, tn_8, tn_10, tn_30, tn_31, tn_32, tn_36, tn_40, tn_50, tn_100, tn_126, tn_200, tn_255, tn_500, tn_512, tn_3000, tn_5000] at c1); (try simp only [i32_lt, i32_le, i32_eq, inn_f, Decidable.not_not, tn_m1, tn_0, tn_1, tn_2, tn_3, tn_4, tn_5, tn_6, tn_7, tn_8, tn_10, tn_30, tn_31, tn_32, tn_36, tn_40, tn_50, tn_100, tn_126, tn_200, tn_255, tn_500, tn_512, tn_3000, tn_5000] at c2); split <;> rename_i hz <;> (try simp only [i32_lt, i32_le, i32_eq, inn_f, Decidable.not_not, tn_m1, tn_0, tn_1, tn_2, tn_3, tn_4, tn_5, tn_6, tn_7, tn_8, tn_10, tn_30, tn_31, tn_32, tn_36, tn_40, tn_50, tn_100, tn_126, tn_200, tn_255, tn_500, tn_512, tn_3000, tn_5000] at hz) <;> first | rfl | (exfalso; omega)), rfl, rfl⟩
set_option maxHeartbeats 4000000 in
set_option maxRecDepth 100000 in
theorem s11_isCondition {l : Launch} {G : GT} {L : List Nat} {E : Nat → va_E} (x : Int32) : Mq l G yX11_isCondition cX11_isCondition 1 (some .boolean) 0 [.int x] L E 0 0 (fun v L2 E2 => v = some (.int (inn x 0 5)) ∧ L2 = L ∧ E2 = E) := by
  refine Mq.mk (by decide) (Nat.le_of_ble_eq_true rfl) ?_
  intro p e s m args below meth c A C
  refine q_iload_n (j := 0) C dX11_isCondition_0 rfl ?_
  refine q_if_lt (tgt := 13) C dX11_isCondition_1 (by decide) (fun c1 => ?_) (fun c1 => ?_)
  · refine q_iconst (v := 0) C dX11_isCondition_13 (by decide) ?_
    exact q_zret C dX11_isCondition_14 rfl (by decide) (Nat.le_of_ble_eq_true rfl) (Nat.le_of_ble_eq_true rfl) ⟨(by refine congrArg (fun z => some (Value.int z)) ?_; unfold inn; (try simp only [i32_lt, i32_le, i32_eq, inn_f, Decidable.not_not, tn_m1, tn_0, tn_1, tn_2, tn_3, tn_4, tn_5, tn_6, tn_7, tn_8, tn_10, tn_30, tn_31, tn_32, tn_36, tn_40, tn_50, tn_100, tn_126, tn_200, tn_255, tn_500, tn_512, tn_3000, tn_5000] at c1); split <;> rename_i hz <;> (try simp only [i32_lt, i32_le, i32_eq, inn_f, Decidable.not_not, tn_m1, tn_0, tn_1, tn_2, tn_3, tn_4, tn_5, tn_6, tn_7, tn_8, tn_10, tn_30, tn_31, tn_32, tn_36, tn_40, tn_50, tn_100, tn_126, tn_200, tn_255, tn_500, tn_512, tn_3000, tn_5000] at hz) <;> first | rfl | (exfalso; omega)), rfl, rfl⟩
  · refine q_iload_n (j := 0) C dX11_isCondition_4 rfl ?_
    refine q_iconst (v := 5) C dX11_isCondition_5 (by decide) ?_
    refine q_icmp_gt (tgt := 13) C dX11_isCondition_6 (by decide) (fun c2 => ?_) (fun c2 => ?_)
    · refine q_iconst (v := 0) C dX11_isCondition_13 (by decide) ?_
      exact q_zret C dX11_isCondition_14 rfl (by decide) (Nat.le_of_ble_eq_true rfl) (Nat.le_of_ble_eq_true rfl) ⟨(by refine congrArg (fun z => some (Value.int z)) ?_; unfold inn; (try simp only [i32_lt, i32_le, i32_eq, inn_f, Decidable.not_not, tn_m1, tn_0, tn_1, tn_2, tn_3, tn_4, tn_5, tn_6, tn_7, tn_8, tn_10, tn_30, tn_31, tn_32, tn_36, tn_40, tn_50, tn_100, tn_126, tn_200, tn_255, tn_500, tn_512, tn_3000, tn_5000] at c1); (try simp only [i32_lt, i32_le, i32_eq, inn_f, Decidable.not_not, tn_m1, tn_0, tn_1, tn_2, tn_3, tn_4, tn_5, tn_6, tn_7, tn_8, tn_10, tn_30, tn_31, tn_32, tn_36, tn_40, tn_50, tn_100, tn_126, tn_200, tn_255, tn_500, tn_512, tn_3000, tn_5000] at c2); split <;> rename_i hz <;> (try simp only [i32_lt, i32_le, i32_eq, inn_f, Decidable.not_not, tn_m1, tn_0, tn_1, tn_2, tn_3, tn_4, tn_5, tn_6, tn_7, tn_8, tn_10, tn_30, tn_31, tn_32, tn_36, tn_40, tn_50, tn_100, tn_126, tn_200, tn_255, tn_500, tn_512, tn_3000, tn_5000] at hz) <;> first | rfl | (exfalso; omega)), rfl, rfl⟩
    · refine q_iconst (v := 1) C dX11_isCondition_9 (by decide) ?_
      refine q_goto (tgt := 14) C dX11_isCondition_10 (by decide) ?_
      exact q_zret C dX11_isCondition_14 rfl (by decide) (Nat.le_of_ble_eq_true rfl) (Nat.le_of_ble_eq_true rfl) ⟨(by refine congrArg (fun z => some (Value.int z)) ?_; unfold inn; (try simp only [i32_lt, i32_le, i32_eq, inn_f, Decidable.not_not, tn_m1, tn_0, tn_1, tn_2, tn_3, tn_4, tn_5, tn_6, tn_7, tn_8, tn_10, tn_30, tn_31, tn_32, tn_36, tn_40, tn_50, tn_100, tn_126, tn_200, tn_255, tn_500, tn_512, tn_3000, tn_5000] at c1); (try simp only [i32_lt, i32_le, i32_eq, inn_f, Decidable.not_not, tn_m1, tn_0, tn_1, tn_2, tn_3, tn_4, tn_5, tn_6, tn_7, tn_8, tn_10, tn_30, tn_31, tn_32, tn_36, tn_40, tn_50, tn_100, tn_126, tn_200, tn_255, tn_500, tn_512, tn_3000, tn_5000] at c2); split <;> rename_i hz <;> (try simp only [i32_lt, i32_le, i32_eq, inn_f, Decidable.not_not, tn_m1, tn_0, tn_1, tn_2, tn_3, tn_4, tn_5, tn_6, tn_7, tn_8, tn_10, tn_30, tn_31, tn_32, tn_36, tn_40, tn_50, tn_100, tn_126, tn_200, tn_255, tn_500, tn_512, tn_3000, tn_5000] at hz) <;> first | rfl | (exfalso; omega)), rfl, rfl⟩
set_option maxHeartbeats 4000000 in
set_option maxRecDepth 100000 in
theorem s6_isSign {l : Launch} {G : GT} {L : List Nat} {E : Nat → va_E} (x : Int32) : Mq l G yX6_isSign cX6_isSign 1 (some .boolean) 0 [.int x] L E 0 0 (fun v L2 E2 => v = some (.int (sgn x)) ∧ L2 = L ∧ E2 = E) := by
  refine Mq.mk (by decide) (Nat.le_of_ble_eq_true rfl) ?_
  intro p e s m args below meth c A C
  refine q_iload_n (j := 0) C dX6_isSign_0 rfl ?_
  refine q_bipush (v := 48) C dX6_isSign_1 (by decide) ?_
  refine q_icmp_lt (tgt := 36) C dX6_isSign_3 (by decide) (fun c1 => ?_) (fun c1 => ?_)
  · refine q_iconst (v := 1) C dX6_isSign_36 (by decide) ?_
    refine q_goto (tgt := 41) C dX6_isSign_37 (by decide) ?_
    exact q_zret C dX6_isSign_41 rfl (by decide) (Nat.le_of_ble_eq_true rfl) (Nat.le_of_ble_eq_true rfl) ⟨(by refine congrArg (fun z => some (Value.int z)) ?_; unfold sgn; (try simp only [i32_lt, i32_le, i32_eq, inn_f, Decidable.not_not, tn_m1, tn_0, tn_1, tn_2, tn_3, tn_4, tn_5, tn_6, tn_7, tn_8, tn_10, tn_30, tn_31, tn_32, tn_36, tn_40, tn_50, tn_100, tn_126, tn_200, tn_255, tn_500, tn_512, tn_3000, tn_5000] at c1); split <;> rename_i hz <;> (try simp only [i32_lt, i32_le, i32_eq, inn_f, Decidable.not_not, tn_m1, tn_0, tn_1, tn_2, tn_3, tn_4, tn_5, tn_6, tn_7, tn_8, tn_10, tn_30, tn_31, tn_32, tn_36, tn_40, tn_50, tn_100, tn_126, tn_200, tn_255, tn_500, tn_512, tn_3000, tn_5000] at hz) <;> first | rfl | (exfalso; omega)), rfl, rfl⟩
  · refine q_iload_n (j := 0) C dX6_isSign_6 rfl ?_
    refine q_bipush (v := 57) C dX6_isSign_7 (by decide) ?_
    refine q_icmp_le (tgt := 18) C dX6_isSign_9 (by decide) (fun c2 => ?_) (fun c2 => ?_)
    · refine q_iload_n (j := 0) C dX6_isSign_18 rfl ?_
      refine q_bipush (v := 90) C dX6_isSign_19 (by decide) ?_
      refine q_icmp_le (tgt := 30) C dX6_isSign_21 (by decide) (fun c3 => ?_) (fun c3 => ?_)
      · refine q_iload_n (j := 0) C dX6_isSign_30 rfl ?_
        refine q_bipush (v := 122) C dX6_isSign_31 (by decide) ?_
        refine q_icmp_le (tgt := 40) C dX6_isSign_33 (by decide) (fun c4 => ?_) (fun c4 => ?_)
        · refine q_iconst (v := 0) C dX6_isSign_40 (by decide) ?_
          exact q_zret C dX6_isSign_41 rfl (by decide) (Nat.le_of_ble_eq_true rfl) (Nat.le_of_ble_eq_true rfl) ⟨(by refine congrArg (fun z => some (Value.int z)) ?_; unfold sgn; (try simp only [i32_lt, i32_le, i32_eq, inn_f, Decidable.not_not, tn_m1, tn_0, tn_1, tn_2, tn_3, tn_4, tn_5, tn_6, tn_7, tn_8, tn_10, tn_30, tn_31, tn_32, tn_36, tn_40, tn_50, tn_100, tn_126, tn_200, tn_255, tn_500, tn_512, tn_3000, tn_5000] at c1); (try simp only [i32_lt, i32_le, i32_eq, inn_f, Decidable.not_not, tn_m1, tn_0, tn_1, tn_2, tn_3, tn_4, tn_5, tn_6, tn_7, tn_8, tn_10, tn_30, tn_31, tn_32, tn_36, tn_40, tn_50, tn_100, tn_126, tn_200, tn_255, tn_500, tn_512, tn_3000, tn_5000] at c2); (try simp only [i32_lt, i32_le, i32_eq, inn_f, Decidable.not_not, tn_m1, tn_0, tn_1, tn_2, tn_3, tn_4, tn_5, tn_6, tn_7, tn_8, tn_10, tn_30, tn_31, tn_32, tn_36, tn_40, tn_50, tn_100, tn_126, tn_200, tn_255, tn_500, tn_512, tn_3000, tn_5000] at c3); (try simp only [i32_lt, i32_le, i32_eq, inn_f, Decidable.not_not, tn_m1, tn_0, tn_1, tn_2, tn_3, tn_4, tn_5, tn_6, tn_7, tn_8, tn_10, tn_30, tn_31, tn_32, tn_36, tn_40, tn_50, tn_100, tn_126, tn_200, tn_255, tn_500, tn_512, tn_3000, tn_5000] at c4); split <;> rename_i hz <;> (try simp only [i32_lt, i32_le, i32_eq, inn_f, Decidable.not_not, tn_m1, tn_0, tn_1, tn_2, tn_3, tn_4, tn_5, tn_6, tn_7, tn_8, tn_10, tn_30, tn_31, tn_32, tn_36, tn_40, tn_50, tn_100, tn_126, tn_200, tn_255, tn_500, tn_512, tn_3000, tn_5000] at hz) <;> first | rfl | (exfalso; omega)), rfl, rfl⟩
        · refine q_iconst (v := 1) C dX6_isSign_36 (by decide) ?_
          refine q_goto (tgt := 41) C dX6_isSign_37 (by decide) ?_
          exact q_zret C dX6_isSign_41 rfl (by decide) (Nat.le_of_ble_eq_true rfl) (Nat.le_of_ble_eq_true rfl) ⟨(by refine congrArg (fun z => some (Value.int z)) ?_; unfold sgn; (try simp only [i32_lt, i32_le, i32_eq, inn_f, Decidable.not_not, tn_m1, tn_0, tn_1, tn_2, tn_3, tn_4, tn_5, tn_6, tn_7, tn_8, tn_10, tn_30, tn_31, tn_32, tn_36, tn_40, tn_50, tn_100, tn_126, tn_200, tn_255, tn_500, tn_512, tn_3000, tn_5000] at c1); (try simp only [i32_lt, i32_le, i32_eq, inn_f, Decidable.not_not, tn_m1, tn_0, tn_1, tn_2, tn_3, tn_4, tn_5, tn_6, tn_7, tn_8, tn_10, tn_30, tn_31, tn_32, tn_36, tn_40, tn_50, tn_100, tn_126, tn_200, tn_255, tn_500, tn_512, tn_3000, tn_5000] at c2); (try simp only [i32_lt, i32_le, i32_eq, inn_f, Decidable.not_not, tn_m1, tn_0, tn_1, tn_2, tn_3, tn_4, tn_5, tn_6, tn_7, tn_8, tn_10, tn_30, tn_31, tn_32, tn_36, tn_40, tn_50, tn_100, tn_126, tn_200, tn_255, tn_500, tn_512, tn_3000, tn_5000] at c3); (try simp only [i32_lt, i32_le, i32_eq, inn_f, Decidable.not_not, tn_m1, tn_0, tn_1, tn_2, tn_3, tn_4, tn_5, tn_6, tn_7, tn_8, tn_10, tn_30, tn_31, tn_32, tn_36, tn_40, tn_50, tn_100, tn_126, tn_200, tn_255, tn_500, tn_512, tn_3000, tn_5000] at c4); split <;> rename_i hz <;> (try simp only [i32_lt, i32_le, i32_eq, inn_f, Decidable.not_not, tn_m1, tn_0, tn_1, tn_2, tn_3, tn_4, tn_5, tn_6, tn_7, tn_8, tn_10, tn_30, tn_31, tn_32, tn_36, tn_40, tn_50, tn_100, tn_126, tn_200, tn_255, tn_500, tn_512, tn_3000, tn_5000] at hz) <;> first | rfl | (exfalso; omega)), rfl, rfl⟩
      · refine q_iload_n (j := 0) C dX6_isSign_24 rfl ?_
        refine q_bipush (v := 97) C dX6_isSign_25 (by decide) ?_
        refine q_icmp_lt (tgt := 36) C dX6_isSign_27 (by decide) (fun c5 => ?_) (fun c5 => ?_)
        · refine q_iconst (v := 1) C dX6_isSign_36 (by decide) ?_
          refine q_goto (tgt := 41) C dX6_isSign_37 (by decide) ?_
          exact q_zret C dX6_isSign_41 rfl (by decide) (Nat.le_of_ble_eq_true rfl) (Nat.le_of_ble_eq_true rfl) ⟨(by refine congrArg (fun z => some (Value.int z)) ?_; unfold sgn; (try simp only [i32_lt, i32_le, i32_eq, inn_f, Decidable.not_not, tn_m1, tn_0, tn_1, tn_2, tn_3, tn_4, tn_5, tn_6, tn_7, tn_8, tn_10, tn_30, tn_31, tn_32, tn_36, tn_40, tn_50, tn_100, tn_126, tn_200, tn_255, tn_500, tn_512, tn_3000, tn_5000] at c1); (try simp only [i32_lt, i32_le, i32_eq, inn_f, Decidable.not_not, tn_m1, tn_0, tn_1, tn_2, tn_3, tn_4, tn_5, tn_6, tn_7, tn_8, tn_10, tn_30, tn_31, tn_32, tn_36, tn_40, tn_50, tn_100, tn_126, tn_200, tn_255, tn_500, tn_512, tn_3000, tn_5000] at c2); (try simp only [i32_lt, i32_le, i32_eq, inn_f, Decidable.not_not, tn_m1, tn_0, tn_1, tn_2, tn_3, tn_4, tn_5, tn_6, tn_7, tn_8, tn_10, tn_30, tn_31, tn_32, tn_36, tn_40, tn_50, tn_100, tn_126, tn_200, tn_255, tn_500, tn_512, tn_3000, tn_5000] at c3); (try simp only [i32_lt, i32_le, i32_eq, inn_f, Decidable.not_not, tn_m1, tn_0, tn_1, tn_2, tn_3, tn_4, tn_5, tn_6, tn_7, tn_8, tn_10, tn_30, tn_31, tn_32, tn_36, tn_40, tn_50, tn_100, tn_126, tn_200, tn_255, tn_500, tn_512, tn_3000, tn_5000] at c5); split <;> rename_i hz <;> (try simp only [i32_lt, i32_le, i32_eq, inn_f, Decidable.not_not, tn_m1, tn_0, tn_1, tn_2, tn_3, tn_4, tn_5, tn_6, tn_7, tn_8, tn_10, tn_30, tn_31, tn_32, tn_36, tn_40, tn_50, tn_100, tn_126, tn_200, tn_255, tn_500, tn_512, tn_3000, tn_5000] at hz) <;> first | rfl | (exfalso; omega)), rfl, rfl⟩
        · refine q_iload_n (j := 0) C dX6_isSign_30 rfl ?_
          refine q_bipush (v := 122) C dX6_isSign_31 (by decide) ?_
          refine q_icmp_le (tgt := 40) C dX6_isSign_33 (by decide) (fun c6 => ?_) (fun c6 => ?_)
          · refine q_iconst (v := 0) C dX6_isSign_40 (by decide) ?_
            exact q_zret C dX6_isSign_41 rfl (by decide) (Nat.le_of_ble_eq_true rfl) (Nat.le_of_ble_eq_true rfl) ⟨(by refine congrArg (fun z => some (Value.int z)) ?_; unfold sgn; (try simp only [i32_lt, i32_le, i32_eq, inn_f, Decidable.not_not, tn_m1, tn_0, tn_1, tn_2, tn_3, tn_4, tn_5, tn_6, tn_7, tn_8, tn_10, tn_30, tn_31, tn_32, tn_36, tn_40, tn_50, tn_100, tn_126, tn_200, tn_255, tn_500, tn_512, tn_3000, tn_5000] at c1); (try simp only [i32_lt, i32_le, i32_eq, inn_f, Decidable.not_not, tn_m1, tn_0, tn_1, tn_2, tn_3, tn_4, tn_5, tn_6, tn_7, tn_8, tn_10, tn_30, tn_31, tn_32, tn_36, tn_40, tn_50, tn_100, tn_126, tn_200, tn_255, tn_500, tn_512, tn_3000, tn_5000] at c2); (try simp only [i32_lt, i32_le, i32_eq, inn_f, Decidable.not_not, tn_m1, tn_0, tn_1, tn_2, tn_3, tn_4, tn_5, tn_6, tn_7, tn_8, tn_10, tn_30, tn_31, tn_32, tn_36, tn_40, tn_50, tn_100, tn_126, tn_200, tn_255, tn_500, tn_512, tn_3000, tn_5000] at c3); (try simp only [i32_lt, i32_le, i32_eq, inn_f, Decidable.not_not, tn_m1, tn_0, tn_1, tn_2, tn_3, tn_4, tn_5, tn_6, tn_7, tn_8, tn_10, tn_30, tn_31, tn_32, tn_36, tn_40, tn_50, tn_100, tn_126, tn_200, tn_255, tn_500, tn_512, tn_3000, tn_5000] at c5); (try simp only [i32_lt, i32_le, i32_eq, inn_f, Decidable.not_not, tn_m1, tn_0, tn_1, tn_2, tn_3, tn_4, tn_5, tn_6, tn_7, tn_8, tn_10, tn_30, tn_31, tn_32, tn_36, tn_40, tn_50, tn_100, tn_126, tn_200, tn_255, tn_500, tn_512, tn_3000, tn_5000] at c6); split <;> rename_i hz <;> (try simp only [i32_lt, i32_le, i32_eq, inn_f, Decidable.not_not, tn_m1, tn_0, tn_1, tn_2, tn_3, tn_4, tn_5, tn_6, tn_7, tn_8, tn_10, tn_30, tn_31, tn_32, tn_36, tn_40, tn_50, tn_100, tn_126, tn_200, tn_255, tn_500, tn_512, tn_3000, tn_5000] at hz) <;> first | rfl | (exfalso; omega)), rfl, rfl⟩
          · refine q_iconst (v := 1) C dX6_isSign_36 (by decide) ?_
            refine q_goto (tgt := 41) C dX6_isSign_37 (by decide) ?_
            exact q_zret C dX6_isSign_41 rfl (by decide) (Nat.le_of_ble_eq_true rfl) (Nat.le_of_ble_eq_true rfl) ⟨(by refine congrArg (fun z => some (Value.int z)) ?_; unfold sgn; (try simp only [i32_lt, i32_le, i32_eq, inn_f, Decidable.not_not, tn_m1, tn_0, tn_1, tn_2, tn_3, tn_4, tn_5, tn_6, tn_7, tn_8, tn_10, tn_30, tn_31, tn_32, tn_36, tn_40, tn_50, tn_100, tn_126, tn_200, tn_255, tn_500, tn_512, tn_3000, tn_5000] at c1); (try simp only [i32_lt, i32_le, i32_eq, inn_f, Decidable.not_not, tn_m1, tn_0, tn_1, tn_2, tn_3, tn_4, tn_5, tn_6, tn_7, tn_8, tn_10, tn_30, tn_31, tn_32, tn_36, tn_40, tn_50, tn_100, tn_126, tn_200, tn_255, tn_500, tn_512, tn_3000, tn_5000] at c2); (try simp only [i32_lt, i32_le, i32_eq, inn_f, Decidable.not_not, tn_m1, tn_0, tn_1, tn_2, tn_3, tn_4, tn_5, tn_6, tn_7, tn_8, tn_10, tn_30, tn_31, tn_32, tn_36, tn_40, tn_50, tn_100, tn_126, tn_200, tn_255, tn_500, tn_512, tn_3000, tn_5000] at c3); (try simp only [i32_lt, i32_le, i32_eq, inn_f, Decidable.not_not, tn_m1, tn_0, tn_1, tn_2, tn_3, tn_4, tn_5, tn_6, tn_7, tn_8, tn_10, tn_30, tn_31, tn_32, tn_36, tn_40, tn_50, tn_100, tn_126, tn_200, tn_255, tn_500, tn_512, tn_3000, tn_5000] at c5); (try simp only [i32_lt, i32_le, i32_eq, inn_f, Decidable.not_not, tn_m1, tn_0, tn_1, tn_2, tn_3, tn_4, tn_5, tn_6, tn_7, tn_8, tn_10, tn_30, tn_31, tn_32, tn_36, tn_40, tn_50, tn_100, tn_126, tn_200, tn_255, tn_500, tn_512, tn_3000, tn_5000] at c6); split <;> rename_i hz <;> (try simp only [i32_lt, i32_le, i32_eq, inn_f, Decidable.not_not, tn_m1, tn_0, tn_1, tn_2, tn_3, tn_4, tn_5, tn_6, tn_7, tn_8, tn_10, tn_30, tn_31, tn_32, tn_36, tn_40, tn_50, tn_100, tn_126, tn_200, tn_255, tn_500, tn_512, tn_3000, tn_5000] at hz) <;> first | rfl | (exfalso; omega)), rfl, rfl⟩
    · refine q_iload_n (j := 0) C dX6_isSign_12 rfl ?_
      refine q_bipush (v := 65) C dX6_isSign_13 (by decide) ?_
      refine q_icmp_lt (tgt := 36) C dX6_isSign_15 (by decide) (fun c7 => ?_) (fun c7 => ?_)
      · refine q_iconst (v := 1) C dX6_isSign_36 (by decide) ?_
        refine q_goto (tgt := 41) C dX6_isSign_37 (by decide) ?_
        exact q_zret C dX6_isSign_41 rfl (by decide) (Nat.le_of_ble_eq_true rfl) (Nat.le_of_ble_eq_true rfl) ⟨(by refine congrArg (fun z => some (Value.int z)) ?_; unfold sgn; (try simp only [i32_lt, i32_le, i32_eq, inn_f, Decidable.not_not, tn_m1, tn_0, tn_1, tn_2, tn_3, tn_4, tn_5, tn_6, tn_7, tn_8, tn_10, tn_30, tn_31, tn_32, tn_36, tn_40, tn_50, tn_100, tn_126, tn_200, tn_255, tn_500, tn_512, tn_3000, tn_5000] at c1); (try simp only [i32_lt, i32_le, i32_eq, inn_f, Decidable.not_not, tn_m1, tn_0, tn_1, tn_2, tn_3, tn_4, tn_5, tn_6, tn_7, tn_8, tn_10, tn_30, tn_31, tn_32, tn_36, tn_40, tn_50, tn_100, tn_126, tn_200, tn_255, tn_500, tn_512, tn_3000, tn_5000] at c2); (try simp only [i32_lt, i32_le, i32_eq, inn_f, Decidable.not_not, tn_m1, tn_0, tn_1, tn_2, tn_3, tn_4, tn_5, tn_6, tn_7, tn_8, tn_10, tn_30, tn_31, tn_32, tn_36, tn_40, tn_50, tn_100, tn_126, tn_200, tn_255, tn_500, tn_512, tn_3000, tn_5000] at c7); split <;> rename_i hz <;> (try simp only [i32_lt, i32_le, i32_eq, inn_f, Decidable.not_not, tn_m1, tn_0, tn_1, tn_2, tn_3, tn_4, tn_5, tn_6, tn_7, tn_8, tn_10, tn_30, tn_31, tn_32, tn_36, tn_40, tn_50, tn_100, tn_126, tn_200, tn_255, tn_500, tn_512, tn_3000, tn_5000] at hz) <;> first | rfl | (exfalso; omega)), rfl, rfl⟩
      · refine q_iload_n (j := 0) C dX6_isSign_18 rfl ?_
        refine q_bipush (v := 90) C dX6_isSign_19 (by decide) ?_
        refine q_icmp_le (tgt := 30) C dX6_isSign_21 (by decide) (fun c8 => ?_) (fun c8 => ?_)
        · refine q_iload_n (j := 0) C dX6_isSign_30 rfl ?_
          refine q_bipush (v := 122) C dX6_isSign_31 (by decide) ?_
          refine q_icmp_le (tgt := 40) C dX6_isSign_33 (by decide) (fun c9 => ?_) (fun c9 => ?_)
          · refine q_iconst (v := 0) C dX6_isSign_40 (by decide) ?_
            exact q_zret C dX6_isSign_41 rfl (by decide) (Nat.le_of_ble_eq_true rfl) (Nat.le_of_ble_eq_true rfl) ⟨(by refine congrArg (fun z => some (Value.int z)) ?_; unfold sgn; (try simp only [i32_lt, i32_le, i32_eq, inn_f, Decidable.not_not, tn_m1, tn_0, tn_1, tn_2, tn_3, tn_4, tn_5, tn_6, tn_7, tn_8, tn_10, tn_30, tn_31, tn_32, tn_36, tn_40, tn_50, tn_100, tn_126, tn_200, tn_255, tn_500, tn_512, tn_3000, tn_5000] at c1); (try simp only [i32_lt, i32_le, i32_eq, inn_f, Decidable.not_not, tn_m1, tn_0, tn_1, tn_2, tn_3, tn_4, tn_5, tn_6, tn_7, tn_8, tn_10, tn_30, tn_31, tn_32, tn_36, tn_40, tn_50, tn_100, tn_126, tn_200, tn_255, tn_500, tn_512, tn_3000, tn_5000] at c2); (try simp only [i32_lt, i32_le, i32_eq, inn_f, Decidable.not_not, tn_m1, tn_0, tn_1, tn_2, tn_3, tn_4, tn_5, tn_6, tn_7, tn_8, tn_10, tn_30, tn_31, tn_32, tn_36, tn_40, tn_50, tn_100, tn_126, tn_200, tn_255, tn_500, tn_512, tn_3000, tn_5000] at c7); (try simp only [i32_lt, i32_le, i32_eq, inn_f, Decidable.not_not, tn_m1, tn_0, tn_1, tn_2, tn_3, tn_4, tn_5, tn_6, tn_7, tn_8, tn_10, tn_30, tn_31, tn_32, tn_36, tn_40, tn_50, tn_100, tn_126, tn_200, tn_255, tn_500, tn_512, tn_3000, tn_5000] at c8); (try simp only [i32_lt, i32_le, i32_eq, inn_f, Decidable.not_not, tn_m1, tn_0, tn_1, tn_2, tn_3, tn_4, tn_5, tn_6, tn_7, tn_8, tn_10, tn_30, tn_31, tn_32, tn_36, tn_40, tn_50, tn_100, tn_126, tn_200, tn_255, tn_500, tn_512, tn_3000, tn_5000] at c9); split <;> rename_i hz <;> (try simp only [i32_lt, i32_le, i32_eq, inn_f, Decidable.not_not, tn_m1, tn_0, tn_1, tn_2, tn_3, tn_4, tn_5, tn_6, tn_7, tn_8, tn_10, tn_30, tn_31, tn_32, tn_36, tn_40, tn_50, tn_100, tn_126, tn_200, tn_255, tn_500, tn_512, tn_3000, tn_5000] at hz) <;> first | rfl | (exfalso; omega)), rfl, rfl⟩
          · refine q_iconst (v := 1) C dX6_isSign_36 (by decide) ?_
            refine q_goto (tgt := 41) C dX6_isSign_37 (by decide) ?_
            exact q_zret C dX6_isSign_41 rfl (by decide) (Nat.le_of_ble_eq_true rfl) (Nat.le_of_ble_eq_true rfl) ⟨(by refine congrArg (fun z => some (Value.int z)) ?_; unfold sgn; (try simp only [i32_lt, i32_le, i32_eq, inn_f, Decidable.not_not, tn_m1, tn_0, tn_1, tn_2, tn_3, tn_4, tn_5, tn_6, tn_7, tn_8, tn_10, tn_30, tn_31, tn_32, tn_36, tn_40, tn_50, tn_100, tn_126, tn_200, tn_255, tn_500, tn_512, tn_3000, tn_5000] at c1); (try simp only [i32_lt, i32_le, i32_eq, inn_f, Decidable.not_not, tn_m1, tn_0, tn_1, tn_2, tn_3, tn_4, tn_5, tn_6, tn_7, tn_8, tn_10, tn_30, tn_31, tn_32, tn_36, tn_40, tn_50, tn_100, tn_126, tn_200, tn_255, tn_500, tn_512, tn_3000, tn_5000] at c2); (try simp only [i32_lt, i32_le, i32_eq, inn_f, Decidable.not_not, tn_m1, tn_0, tn_1, tn_2, tn_3, tn_4, tn_5, tn_6, tn_7, tn_8, tn_10, tn_30, tn_31, tn_32, tn_36, tn_40, tn_50, tn_100, tn_126, tn_200, tn_255, tn_500, tn_512, tn_3000, tn_5000] at c7); (try simp only [i32_lt, i32_le, i32_eq, inn_f, Decidable.not_not, tn_m1, tn_0, tn_1, tn_2, tn_3, tn_4, tn_5, tn_6, tn_7, tn_8, tn_10, tn_30, tn_31, tn_32, tn_36, tn_40, tn_50, tn_100, tn_126, tn_200, tn_255, tn_500, tn_512, tn_3000, tn_5000] at c8); (try simp only [i32_lt, i32_le, i32_eq, inn_f, Decidable.not_not, tn_m1, tn_0, tn_1, tn_2, tn_3, tn_4, tn_5, tn_6, tn_7, tn_8, tn_10, tn_30, tn_31, tn_32, tn_36, tn_40, tn_50, tn_100, tn_126, tn_200, tn_255, tn_500, tn_512, tn_3000, tn_5000] at c9); split <;> rename_i hz <;> (try simp only [i32_lt, i32_le, i32_eq, inn_f, Decidable.not_not, tn_m1, tn_0, tn_1, tn_2, tn_3, tn_4, tn_5, tn_6, tn_7, tn_8, tn_10, tn_30, tn_31, tn_32, tn_36, tn_40, tn_50, tn_100, tn_126, tn_200, tn_255, tn_500, tn_512, tn_3000, tn_5000] at hz) <;> first | rfl | (exfalso; omega)), rfl, rfl⟩
        · refine q_iload_n (j := 0) C dX6_isSign_24 rfl ?_
          refine q_bipush (v := 97) C dX6_isSign_25 (by decide) ?_
          refine q_icmp_lt (tgt := 36) C dX6_isSign_27 (by decide) (fun c10 => ?_) (fun c10 => ?_)
          · refine q_iconst (v := 1) C dX6_isSign_36 (by decide) ?_
            refine q_goto (tgt := 41) C dX6_isSign_37 (by decide) ?_
            exact q_zret C dX6_isSign_41 rfl (by decide) (Nat.le_of_ble_eq_true rfl) (Nat.le_of_ble_eq_true rfl) ⟨(by refine congrArg (fun z => some (Value.int z)) ?_; unfold sgn; (try simp only [i32_lt, i32_le, i32_eq, inn_f, Decidable.not_not, tn_m1, tn_0, tn_1, tn_2, tn_3, tn_4, tn_5, tn_6, tn_7, tn_8, tn_10, tn_30, tn_31, tn_32, tn_36, tn_40, tn_50, tn_100, tn_126, tn_200, tn_255, tn_500, tn_512, tn_3000, tn_5000] at c1); (try simp only [i32_lt, i32_le, i32_eq, inn_f, Decidable.not_not, tn_m1, tn_0, tn_1, tn_2, tn_3, tn_4, tn_5, tn_6, tn_7, tn_8, tn_10, tn_30, tn_31, tn_32, tn_36, tn_40, tn_50, tn_100, tn_126, tn_200, tn_255, tn_500, tn_512, tn_3000, tn_5000] at c10); (try simp only [i32_lt, i32_le, i32_eq, inn_f, Decidable.not_not, tn_m1, tn_0, tn_1, tn_2, tn_3, tn_4, tn_5, tn_6, tn_7, tn_8, tn_10, tn_30, tn_31, tn_32, tn_36, tn_40, tn_50, tn_100, tn_126, tn_200, tn_255, tn_500, tn_512, tn_3000, tn_5000] at c2); (try simp only [i32_lt, i32_le, i32_eq, inn_f, Decidable.not_not, tn_m1, tn_0, tn_1, tn_2, tn_3, tn_4, tn_5, tn_6, tn_7, tn_8, tn_10, tn_30, tn_31, tn_32, tn_36, tn_40, tn_50, tn_100, tn_126, tn_200, tn_255, tn_500, tn_512, tn_3000, tn_5000] at c7); (try simp only [i32_lt, i32_le, i32_eq, inn_f, Decidable.not_not, tn_m1, tn_0, tn_1, tn_2, tn_3, tn_4, tn_5, tn_6, tn_7, tn_8, tn_10, tn_30, tn_31, tn_32, tn_36, tn_40, tn_50, tn_100, tn_126, tn_200, tn_255, tn_500, tn_512, tn_3000, tn_5000] at c8); split <;> rename_i hz <;> (try simp only [i32_lt, i32_le, i32_eq, inn_f, Decidable.not_not, tn_m1, tn_0, tn_1, tn_2, tn_3, tn_4, tn_5, tn_6, tn_7, tn_8, tn_10, tn_30, tn_31, tn_32, tn_36, tn_40, tn_50, tn_100, tn_126, tn_200, tn_255, tn_500, tn_512, tn_3000, tn_5000] at hz) <;> first | rfl | (exfalso; omega)), rfl, rfl⟩
          · refine q_iload_n (j := 0) C dX6_isSign_30 rfl ?_
            refine q_bipush (v := 122) C dX6_isSign_31 (by decide) ?_
            refine q_icmp_le (tgt := 40) C dX6_isSign_33 (by decide) (fun c11 => ?_) (fun c11 => ?_)
            · refine q_iconst (v := 0) C dX6_isSign_40 (by decide) ?_
              exact q_zret C dX6_isSign_41 rfl (by decide) (Nat.le_of_ble_eq_true rfl) (Nat.le_of_ble_eq_true rfl) ⟨(by refine congrArg (fun z => some (Value.int z)) ?_; unfold sgn; (try simp only [i32_lt, i32_le, i32_eq, inn_f, Decidable.not_not, tn_m1, tn_0, tn_1, tn_2, tn_3, tn_4, tn_5, tn_6, tn_7, tn_8, tn_10, tn_30, tn_31, tn_32, tn_36, tn_40, tn_50, tn_100, tn_126, tn_200, tn_255, tn_500, tn_512, tn_3000, tn_5000] at c1); (try simp only [i32_lt, i32_le, i32_eq, inn_f, Decidable.not_not, tn_m1, tn_0, tn_1, tn_2, tn_3, tn_4, tn_5, tn_6, tn_7, tn_8, tn_10, tn_30, tn_31, tn_32, tn_36, tn_40, tn_50, tn_100, tn_126, tn_200, tn_255, tn_500, tn_512, tn_3000, tn_5000] at c10); (try simp only [i32_lt, i32_le, i32_eq, inn_f, Decidable.not_not, tn_m1, tn_0, tn_1, tn_2, tn_3, tn_4, tn_5, tn_6, tn_7, tn_8, tn_10, tn_30, tn_31, tn_32, tn_36, tn_40, tn_50, tn_100, tn_126, tn_200, tn_255, tn_500, tn_512, tn_3000, tn_5000] at c11); (try simp only [i32_lt, i32_le, i32_eq, inn_f, Decidable.not_not, tn_m1, tn_0, tn_1, tn_2, tn_3, tn_4, tn_5, tn_6, tn_7, tn_8, tn_10, tn_30, tn_31, tn_32, tn_36, tn_40, tn_50, tn_100, tn_126, tn_200, tn_255, tn_500, tn_512, tn_3000, tn_5000] at c2); (try simp only [i32_lt, i32_le, i32_eq, inn_f, Decidable.not_not, tn_m1, tn_0, tn_1, tn_2, tn_3, tn_4, tn_5, tn_6, tn_7, tn_8, tn_10, tn_30, tn_31, tn_32, tn_36, tn_40, tn_50, tn_100, tn_126, tn_200, tn_255, tn_500, tn_512, tn_3000, tn_5000] at c7); (try simp only [i32_lt, i32_le, i32_eq, inn_f, Decidable.not_not, tn_m1, tn_0, tn_1, tn_2, tn_3, tn_4, tn_5, tn_6, tn_7, tn_8, tn_10, tn_30, tn_31, tn_32, tn_36, tn_40, tn_50, tn_100, tn_126, tn_200, tn_255, tn_500, tn_512, tn_3000, tn_5000] at c8); split <;> rename_i hz <;> (try simp only [i32_lt, i32_le, i32_eq, inn_f, Decidable.not_not, tn_m1, tn_0, tn_1, tn_2, tn_3, tn_4, tn_5, tn_6, tn_7, tn_8, tn_10, tn_30, tn_31, tn_32, tn_36, tn_40, tn_50, tn_100, tn_126, tn_200, tn_255, tn_500, tn_512, tn_3000, tn_5000] at hz) <;> first | rfl | (exfalso; omega)), rfl, rfl⟩
            · refine q_iconst (v := 1) C dX6_isSign_36 (by decide) ?_
              refine q_goto (tgt := 41) C dX6_isSign_37 (by decide) ?_
              exact q_zret C dX6_isSign_41 rfl (by decide) (Nat.le_of_ble_eq_true rfl) (Nat.le_of_ble_eq_true rfl) ⟨(by refine congrArg (fun z => some (Value.int z)) ?_; unfold sgn; (try simp only [i32_lt, i32_le, i32_eq, inn_f, Decidable.not_not, tn_m1, tn_0, tn_1, tn_2, tn_3, tn_4, tn_5, tn_6, tn_7, tn_8, tn_10, tn_30, tn_31, tn_32, tn_36, tn_40, tn_50, tn_100, tn_126, tn_200, tn_255, tn_500, tn_512, tn_3000, tn_5000] at c1); (try simp only [i32_lt, i32_le, i32_eq, inn_f, Decidable.not_not, tn_m1, tn_0, tn_1, tn_2, tn_3, tn_4, tn_5, tn_6, tn_7, tn_8, tn_10, tn_30, tn_31, tn_32, tn_36, tn_40, tn_50, tn_100, tn_126, tn_200, tn_255, tn_500, tn_512, tn_3000, tn_5000] at c10); (try simp only [i32_lt, i32_le, i32_eq, inn_f, Decidable.not_not, tn_m1, tn_0, tn_1, tn_2, tn_3, tn_4, tn_5, tn_6, tn_7, tn_8, tn_10, tn_30, tn_31, tn_32, tn_36, tn_40, tn_50, tn_100, tn_126, tn_200, tn_255, tn_500, tn_512, tn_3000, tn_5000] at c11); (try simp only [i32_lt, i32_le, i32_eq, inn_f, Decidable.not_not, tn_m1, tn_0, tn_1, tn_2, tn_3, tn_4, tn_5, tn_6, tn_7, tn_8, tn_10, tn_30, tn_31, tn_32, tn_36, tn_40, tn_50, tn_100, tn_126, tn_200, tn_255, tn_500, tn_512, tn_3000, tn_5000] at c2); (try simp only [i32_lt, i32_le, i32_eq, inn_f, Decidable.not_not, tn_m1, tn_0, tn_1, tn_2, tn_3, tn_4, tn_5, tn_6, tn_7, tn_8, tn_10, tn_30, tn_31, tn_32, tn_36, tn_40, tn_50, tn_100, tn_126, tn_200, tn_255, tn_500, tn_512, tn_3000, tn_5000] at c7); (try simp only [i32_lt, i32_le, i32_eq, inn_f, Decidable.not_not, tn_m1, tn_0, tn_1, tn_2, tn_3, tn_4, tn_5, tn_6, tn_7, tn_8, tn_10, tn_30, tn_31, tn_32, tn_36, tn_40, tn_50, tn_100, tn_126, tn_200, tn_255, tn_500, tn_512, tn_3000, tn_5000] at c8); split <;> rename_i hz <;> (try simp only [i32_lt, i32_le, i32_eq, inn_f, Decidable.not_not, tn_m1, tn_0, tn_1, tn_2, tn_3, tn_4, tn_5, tn_6, tn_7, tn_8, tn_10, tn_30, tn_31, tn_32, tn_36, tn_40, tn_50, tn_100, tn_126, tn_200, tn_255, tn_500, tn_512, tn_3000, tn_5000] at hz) <;> first | rfl | (exfalso; omega)), rfl, rfl⟩
theorem c_lveq {p : Program} {l : Launch} {e : Env} {d0 r0 : Nat} {s : State} {m : MethodId} {args : Array Value} {below : List Frame} {meth : Method} {c : Code} {G : GT} {A : Nat → Prop} {nL : Nat} {Q : State → Prop} {Pf : PF} {ph : Nat} {L : List Nat} {cl ln : Nat → Nat} {iv : Nat → Nat → Int} {rv : Nat → Nat → Option Nat} {K pc : Nat} {lv lv2 : List (Nat × Value)} {st : List Value} (h : lv = lv2) (k : cw p l e d0 r0 s m args below meth c G A nL Q Pf ph L cl ln iv rv K pc lv2 st) : cw p l e d0 r0 s m args below meth c G A nL Q Pf ph L cl ln iv rv K pc lv st := by subst h; exact k
theorem nar2 {z : Int} (h : z = 0 ∨ z = 1) : narrow .boolean (.int (iI z)) = .int (iI z) ∧ fits .boolean (.int (iI z)) = true := by rcases h with rfl | rfl <;> exact ⟨by decide, by decide⟩
theorem WT.copy {g : Nat} {sk : Nat → Nat} {L : List Nat} {cl ln : Nat → Nat} {iv iv2 : Nat → Nat → Int} {rv : Nat → Nat → Option Nat} {a b T T2 : Nat} {P : Nat → Prop} {F : Nat → Nat} [DecidablePred P] (h : WT g sk L cl ln iv rv) (he : iv2 = fun w j => if w = b then (if P j then iv a (F j) else iv b j) else iv w j) (hb : ty L cl b T2) (ha : ty L cl a T) (h1 : ∀ k, ilo T k = -2147483648) (h2 : ∀ k, ihi T k = 2147483647) (h3 : ∀ k, ilo T2 k = -2147483648) (h4 : ∀ k, ihi T2 k = 2147483647) (hs : szd T2 = false) : WT g sk L cl ln iv2 rv := by
  subst he
  obtain ⟨q1, q2, q3, q4, q5, q6⟩ := id h
  have hk : ∀ w, szd (bt (cl w)) = true → (fun j => if w = b then (if P j then iv a (F j) else iv b j) else iv w j) = iv w := by
    intro w hw
    funext j
    rw [if_neg (fun e => by subst e; rw [hb.2, hs] at hw; cases hw)]
  refine ⟨fun w hw k => ?_, q2, q3, fun w hw hz => ?_, fun w hw hz => ?_, q6⟩
  · by_cases e : w = b
    · subst e
      show ilo _ k ≤ (if w = w then (if P k then iv a (F k) else iv w k) else iv w k) ∧ (if w = w then (if P k then iv a (F k) else iv w k) else iv w k) ≤ ihi _ k
      rw [if_pos rfl]
      by_cases hp : P k
      · rw [if_pos hp, hb.2, h3, h4]
        have q := h.int ha (F k)
        rw [h1, h2] at q; exact q
      · rw [if_neg hp]; exact q1 w hw k
    · show ilo _ k ≤ (if w = b then (if P k then iv a (F k) else iv b k) else iv w k) ∧ (if w = b then (if P k then iv a (F k) else iv b k) else iv w k) ≤ ihi _ k
      rw [if_neg e]; exact q1 w hw k
  · have e2 := congrFun (hk w hz) 2
    dsimp only at e2 ⊢
    rw [e2]; exact q4 w hw hz
  · have e2 := congrFun (hk w (lst_szd hz)) 2
    dsimp only at e2 ⊢
    rw [e2]; exact q5 w hw hz
theorem fT.copy {ls : List Nat} {L L2 : List Nat} {cl ln cl2 ln2 : Nat → Nat} {iv iv2 iv3 : Nat → Nat → Int} {rv rv2 : Nat → Nat → Option Nat} {b T : Nat} {X : Nat → Int} (h : fT ls L cl iv rv iv2 rv2) (hX : XT L cl ln L2 cl2 ln2) (he : iv3 = fun w j => if w = b then X j else iv2 w j) (hb : ty L2 cl2 b T) (hc : ls.contains T = true) : fT ls L cl iv rv iv3 rv2 := by
  intro w hw hq
  refine ⟨?_, (h w hw hq).2⟩
  rw [he]
  funext j
  dsimp only
  rw [if_neg (fun e => ?_)]
  · rw [(h w hw hq).1]
  · subst e; rw [← (hX w hw).2.1, hb.2, hc] at hq; cases hq
theorem narr (x : Option Nat) {t : FieldType} (h : (∃ n, t = .object n) ∨ ∃ u, t = .array u) : narrow t (va_rf x) = va_rf x ∧ fits t (va_rf x) = true := by
  rcases h with ⟨n, rfl⟩ | ⟨n, rfl⟩ <;> cases x <;> exact ⟨rfl, rfl⟩
theorem zp2 {K K2 : Nat} {ln ln2 : Nat → Nat} {rv rv2 : Nat → Nat → Option Nat} (h : K ≤ K2) : zPf ln rv + K ≤ zPf ln2 rv2 + K2 := by unfold zPf; omega
theorem rok_some {L : List Nat} {cl : Nat → Nat} {g a k b T T2 : Nat} (ha : ty L cl a T) (hb : ty L cl b T2) (ht : tgt T k = T2) (h1 : T ≠ 100) (h2 : lst T = false) : rok L cl g a k (some b) := by
  intro _
  refine ⟨fun q => (by cases q), fun c hc => ?_⟩
  cases hc
  refine Or.inl ⟨hb.1, by rw [hb.2, ha.2, ht], ?_, ?_⟩
  · intro q; rw [ha.2] at q; exact absurd q h1
  · intro q; rw [ha.2, h2] at q; cases q
end
section
def CT (iv : Nat → Nat → Int) (rv : Nat → Nat → Option Nat) (q : Nat) (ss : Nat → Int) : Prop := ∀ b, rv q 1 = some b → ∀ j : Nat, (j : Int) < iv q 2 → iv b j = ss j
section CTS
variable {g : Nat} {sk : Nat → Nat} {L : List Nat} {cl ln : Nat → Nat} {iv iv2 : Nat → Nat → Int} {rv rv2 : Nat → Nat → Option Nat} {q T : Nat} {ls : List Nat} {ss : Nat → Int}
theorem CT.zero (h : iv q 2 = 0) : CT iv rv q ss := fun _ _ j hj => absurd hj (by omega)
theorem CT.cut (h : CT iv rv q ss) (hW : WT g sk L cl ln iv rv) (tq : ty L cl q T) (hF : fT ls L cl iv rv iv2 rv2) (h2 : ls.contains (tgt T 1) = false) (hr : raw T = false) (hl : (lst T && 1 == 1) = false) (hn : nul T 1 = false) (hv : rv2 q 1 = rv q 1) (hs : iv2 q 2 ≤ iv q 2) : CT iv2 rv2 q ss := by
  obtain ⟨b, hb, tb⟩ := hW.ref tq 1 hr hl hn
  intro b2 hb2 j hj
  rw [hv, hb] at hb2
  cases hb2
  rw [hF.i tb h2 j]
  exact h b hb j (by omega)
theorem CT.fr (h : CT iv rv q ss) (hW : WT g sk L cl ln iv rv) (tq : ty L cl q T) (hF : fT ls L cl iv rv iv2 rv2) (h1 : ls.contains T = false) (h2 : ls.contains (tgt T 1) = false) (hr : raw T = false) (hl : (lst T && 1 == 1) = false) (hn : nul T 1 = false) : CT iv2 rv2 q ss :=
  h.cut hW tq hF h2 hr hl hn (hF.r tq h1 1) (by rw [hF.i tq h1 2]; omega)
theorem CT.frn (h : CT iv rv q ss) (hW : WT g sk L cl ln iv2 rv) (tq : ty L cl q T) (hF : fT ls L cl iv rv iv2 rv) (h1 : ls.contains T = false) (h2 : ls.contains (tgt T 1) = false) (hr : raw T = false) (hl : (lst T && 1 == 1) = false) (hn : nul T 1 = false) : CT iv2 rv q ss := by
  obtain ⟨b, hb, tb⟩ := hW.ref tq 1 hr hl hn
  intro b2 hb2 j hj
  rw [hb] at hb2
  cases hb2
  rw [hF.i tq h1 2] at hj
  rw [hF.i tb h2 j]
  exact h b hb j hj
def APD (iv : Nat → Nat → Int) (rv : Nat → Nat → Option Nat) (q r : Nat) (iv2 : Nat → Nat → Int) (rv2 : Nat → Nat → Option Nat) : Prop := ∀ ss tt, CT iv rv r ss → CT iv rv q tt → iv q 2 + iv r 2 ≤ 500 → CT iv2 rv2 q (apd tt (iv q 2).toNat ss)
theorem APD.zero {r : Nat} : APD iv rv q r iv rv := fun ss tt _ h2 _ b hb j hj => by
  rw [h2 b hb j hj]
  unfold apd
  rw [if_pos (by omega)]
theorem APD.step {r : Nat} {iv1 : Nat → Nat → Int} {rv1 : Nat → Nat → Option Nat} {x k : Int} (h : APD iv rv q r iv1 rv1) (g : ∀ ss, CT iv1 rv1 q ss → iv1 q 2 < 500 → CT iv2 rv2 q (va_up ss (iv1 q 2).toNat x)) (hm : iv1 q 2 = min (iv q 2 + k) 500) (hx : ∀ ss, CT iv rv r ss → x = ss k.toNat) (hk : 0 ≤ k ∧ k < iv r 2) (h0 : 0 ≤ iv q 2) : APD iv rv q r iv2 rv2 := fun ss tt h1 h2 h3 => by
  have w := g _ (h ss tt h1 h2 h3) (by omega)
  have e : va_up (apd tt (iv q 2).toNat ss) (iv1 q 2).toNat x = apd tt (iv q 2).toNat ss := by
    funext j
    unfold va_up
    split
    · rename_i e
      rw [e, hx ss h1]
      unfold apd
      rw [if_neg (by omega)]
      exact congrArg ss (by omega)
    · rfl
  rw [e] at w
  exact w
def byx (x : Int) (i : Nat) : Int := (((iI x).toUInt32 >>> ((iI (24 - 8 * (i : Int))).toUInt32 &&& Int32.toUInt32 31)).toInt32 &&& iI 255).toInt
def fdp (ss : Nat → Int) (n : Nat) (x : Int) : Nat → (Nat → Int)
  | 0 => ss
  | i + 1 => va_up (fdp ss n x i) (n + i) (byx x i)
def fd5 (ss : Nat → Int) (n : Nat) (x1 x2 x3 x4 x5 : Int) : Nat → Int := fdp (fdp (fdp (fdp (fdp ss n x1 4) (n + 4) x2 4) (n + 8) x3 4) (n + 12) x4 4) (n + 16) x5 4
theorem fdp_step {n i i2 m : Nat} {x z : Int} (hq : CT iv rv q (va_up (fdp ss n x i) m z)) (hi : i2 = i + 1) (hm : m = n + i) (hz : z = byx x i) : CT iv rv q (fdp ss n x i2) := by subst hi; subst hm; subst hz; exact hq
theorem byx_of {x k z1 z2 : Int} {i : Nat} (hk : k = 24 - 8 * (i : Int)) (e1 : ((iI x).toUInt32 >>> ((iI k).toUInt32 &&& Int32.toUInt32 31)).toInt32 = iI z1) (e2 : iI z1 &&& iI 255 = iI z2) (h2 : R32 z2) : z2 = byx x i := by
  subst hk; unfold byx; rw [e1, e2, iI_int h2]
end CTS
end
section
set_option maxHeartbeats 4000000 in
set_option maxRecDepth 100000 in
theorem C_at_2 {l : Launch} {G : GT} {mi : Nat} {sk : Nat → Nat} {L : List Nat} {cl ln : Nat → Nat} {iv : Nat → Nat → Int} {rv : Nat → Nat → Option Nat}  {a0 : Nat} {i : Int} (hW : WT (g0 G) sk L cl ln iv rv) (hS : SKL sk L cl) (t_a0 : ty L cl a0 2) (h_i : -2147483648 ≤ i ∧ i ≤ 2147483647)  : Mc l G mi (Phi (g0 G) sk) PHM yX1_at cX1_at 2 (some .int) 0 [.ref a0, .int (iI i)] L cl ln iv rv 0 (fun v L2 cl2 ln2 iv2 rv2 => ∃ f : Int, v = some (.int (iI f)) ∧ L = L2 ∧ cl = cl2 ∧ ln = ln2 ∧ iv = iv2 ∧ rv = rv2 ∧ (-2147483648 ≤ f ∧ f ≤ 2147483647) ∧ (((0 ≤ i ∧ i < iv a0 2) ∨ f = 0) ∧ ∀ ss, CT iv rv a0 ss → 0 ≤ i → i < iv a0 2 → f = ss i.toNat)) := by
  refine Mc.mk (by decide) (Nat.le_of_ble_eq_true rfl) ?_
  intro p e s m args below meth c A C hM
  refine hv3 (Phi.le hW hS) (show XT L cl ln L cl ln from XT.refl) (show fT [] L cl iv rv iv rv from fT.refl) (fun hph hX0 hF0 => ?_)
  refine c_iload_n (j := 1) C dX1_at_0 rfl ?_
  refine c_if_lt (tgt := 21) C ⟨by omega, by omega⟩ dX1_at_1 (by decide) (fun c1 => ?_) (fun c1 => ?_)
  · refine c_iconst C dX1_at_21 ?_
    exact c_iret C dX1_at_22 rfl (by decide) (rom0 hph hph (by decide)) ⟨0, rfl, rfl, rfl, rfl, rfl, rfl, ⟨by decide, by decide⟩, ⟨by omega, fun ss hs h1 h2 => absurd h2 (by omega)⟩⟩
  · refine c_iload_n (j := 1) C dX1_at_4 rfl ?_
    refine c_aload_n (j := 0) (x := a0) C dX1_at_5 rfl ?_
    have ri1 : 0 ≤ iv a0 2 ∧ iv a0 2 ≤ 3000 := hW.int t_a0 2
    refine c_get (k := 2) C ck_2 dX1_at_6 w1_43 (by decide) t_a0 rfl rfl (by decide) rfl ?_
    refine c_icmp_ge (tgt := 21) C ⟨by omega, by omega⟩ (r32_c (lo := 0) (hi := 3000) ri1.1 ri1.2 (by decide) (by decide)) dX1_at_9 (by decide) (fun c2 => ?_) (fun c2 => ?_)
    · refine c_iconst C dX1_at_21 ?_
      exact c_iret C dX1_at_22 rfl (by decide) (rom0 hph hph (by decide)) ⟨0, rfl, rfl, rfl, rfl, rfl, rfl, ⟨by decide, by decide⟩, ⟨by omega, fun ss hs h1 h2 => absurd h2 (by omega)⟩⟩
    · refine c_aload_n (j := 0) (x := a0) C dX1_at_12 rfl ?_
      obtain ⟨rb1, rq1, trb1⟩ := hW.ref t_a0 1 rfl rfl rfl
      refine hv2 (show 16 ≤ ln rb1 ∧ ln rb1 ≤ 6000 from hW.len trb1 rfl) (hW.isz t_a0 rfl rfl rq1) (fun lnrb1 szrb1 => ?_)
      refine c_getr (k := 1) C ck_2 dX1_at_13 w1_39 (by decide) t_a0 rfl rfl (by decide) rfl rq1 ?_
      refine c_st (st2 := [.ref rb1]) rfl ?_
      refine c_iload_n (j := 1) C dX1_at_16 rfl ?_
      have ll1 : 16 ≤ ln rb1 ∧ ln rb1 ≤ 6000 := hW.len trb1 rfl
      refine c_iald C dX1_at_17 trb1 rfl (by omega) (by omega) (by omega) ?_
      have ri2 : (-2147483648) ≤ iv rb1 i.toNat ∧ iv rb1 i.toNat ≤ 2147483647 := hW.int trb1 i.toNat
      refine c_goto (tgt := 22) C dX1_at_18 (by decide) ?_
      exact c_iret C dX1_at_22 rfl (by decide) (rom0 hph hph (by decide)) ⟨(iv rb1 i.toNat), rfl, rfl, rfl, rfl, rfl, rfl, ⟨by omega, by omega⟩, ⟨by omega, fun ss hs h1 h2 => hs rb1 rq1 i.toNat (by omega)⟩⟩
set_option maxHeartbeats 4000000 in
set_option maxRecDepth 100000 in
theorem C_clear_2 {l : Launch} {G : GT} {mi : Nat} {sk : Nat → Nat} {L : List Nat} {cl ln : Nat → Nat} {iv : Nat → Nat → Int} {rv : Nat → Nat → Option Nat}  {a0 : Nat} (hW : WT (g0 G) sk L cl ln iv rv) (hS : SKL sk L cl) (t_a0 : ty L cl a0 2)  : Mc l G mi (Phi (g0 G) sk) PHM yX1_clear cX1_clear 1 none 0 [.ref a0] L cl ln iv rv 0 (fun v L2 cl2 ln2 iv2 rv2 => v = none ∧ L = L2 ∧ cl = cl2 ∧ ln = ln2 ∧ rv = rv2 ∧ fT [2] L cl iv rv iv2 rv2 ∧ WT (g0 G) sk L2 cl2 ln2 iv2 rv2 ∧ (iv2 a0 2 = 0)) := by
  refine Mc.mk (by decide) (Nat.le_of_ble_eq_true rfl) ?_
  intro p e s m args below meth c A C hM
  refine hv3 (Phi.le hW hS) (show XT L cl ln L cl ln from XT.refl) (show fT [2] L cl iv rv iv rv from fT.refl) (fun hph hX0 hF0 => ?_)
  refine c_aload_n (j := 0) (x := a0) C dX1_clear_0 rfl ?_
  refine c_iconst C dX1_clear_1 ?_
  refine c_put (z := 0) (k := 2) C ck_2 dX1_clear_2 w1_43 (by decide) rfl t_a0 rfl rfl (by decide) rfl (by rfl) (by rfl) (fun iv1 pq1 => ?_)
  obtain ⟨rb1, rq1, trb1⟩ := hW.ref t_a0 1 rfl rfl rfl
  refine hv3 (hW.isz t_a0 rfl rfl rq1) (hF0.puti hX0 pq1 t_a0 rfl) (show iv1 a0 2 = 0 from by rw [pq1]; exact up2_s) (fun szrb1 F1 ie1 => ?_)
  have W1 := hW.isz_put pq1 t_a0 (show 0 ≤ 0 ∧ 0 ≤ 3000 by omega) rfl rfl rq1 (show 0 ≤ ((ln rb1 : Nat) : Int) by omega)
  have ri1 : 0 ≤ iv1 a0 2 ∧ iv1 a0 2 ≤ 3000 := W1.int t_a0 2
  exact c_vret C dX1_clear_5 rfl (by decide) (rom0 hph hph (by decide)) ⟨rfl, rfl, rfl, rfl, rfl, F1, W1, (by omega)⟩
set_option maxHeartbeats 4000000 in
set_option maxRecDepth 100000 in
theorem C_at_3 {l : Launch} {G : GT} {mi : Nat} {sk : Nat → Nat} {L : List Nat} {cl ln : Nat → Nat} {iv : Nat → Nat → Int} {rv : Nat → Nat → Option Nat}  {a0 : Nat} {i : Int} (hW : WT (g0 G) sk L cl ln iv rv) (hS : SKL sk L cl) (t_a0 : ty L cl a0 3) (h_i : -2147483648 ≤ i ∧ i ≤ 2147483647)  : Mc l G mi (Phi (g0 G) sk) PHM yX1_at cX1_at 2 (some .int) 0 [.ref a0, .int (iI i)] L cl ln iv rv 0 (fun v L2 cl2 ln2 iv2 rv2 => ∃ f : Int, v = some (.int (iI f)) ∧ L = L2 ∧ cl = cl2 ∧ ln = ln2 ∧ iv = iv2 ∧ rv = rv2 ∧ (-2147483648 ≤ f ∧ f ≤ 2147483647) ∧ (((0 ≤ i ∧ i < iv a0 2) ∨ f = 0) ∧ ∀ ss, CT iv rv a0 ss → 0 ≤ i → i < iv a0 2 → f = ss i.toNat)) := by
  refine Mc.mk (by decide) (Nat.le_of_ble_eq_true rfl) ?_
  intro p e s m args below meth c A C hM
  refine hv3 (Phi.le hW hS) (show XT L cl ln L cl ln from XT.refl) (show fT [] L cl iv rv iv rv from fT.refl) (fun hph hX0 hF0 => ?_)
  refine c_iload_n (j := 1) C dX1_at_0 rfl ?_
  refine c_if_lt (tgt := 21) C ⟨by omega, by omega⟩ dX1_at_1 (by decide) (fun c1 => ?_) (fun c1 => ?_)
  · refine c_iconst C dX1_at_21 ?_
    exact c_iret C dX1_at_22 rfl (by decide) (rom0 hph hph (by decide)) ⟨0, rfl, rfl, rfl, rfl, rfl, rfl, ⟨by decide, by decide⟩, ⟨by omega, fun ss hs h1 h2 => absurd h2 (by omega)⟩⟩
  · refine c_iload_n (j := 1) C dX1_at_4 rfl ?_
    refine c_aload_n (j := 0) (x := a0) C dX1_at_5 rfl ?_
    have ri1 : 0 ≤ iv a0 2 ∧ iv a0 2 ≤ 500 := hW.int t_a0 2
    refine c_get (k := 2) C ck_2 dX1_at_6 w1_43 (by decide) t_a0 rfl rfl (by decide) rfl ?_
    refine c_icmp_ge (tgt := 21) C ⟨by omega, by omega⟩ (r32_c (lo := 0) (hi := 500) ri1.1 ri1.2 (by decide) (by decide)) dX1_at_9 (by decide) (fun c2 => ?_) (fun c2 => ?_)
    · refine c_iconst C dX1_at_21 ?_
      exact c_iret C dX1_at_22 rfl (by decide) (rom0 hph hph (by decide)) ⟨0, rfl, rfl, rfl, rfl, rfl, rfl, ⟨by decide, by decide⟩, ⟨by omega, fun ss hs h1 h2 => absurd h2 (by omega)⟩⟩
    · refine c_aload_n (j := 0) (x := a0) C dX1_at_12 rfl ?_
      obtain ⟨rb1, rq1, trb1⟩ := hW.ref t_a0 1 rfl rfl rfl
      refine hv2 (show 16 ≤ ln rb1 ∧ ln rb1 ≤ 1000 from hW.len trb1 rfl) (hW.isz t_a0 rfl rfl rq1) (fun lnrb1 szrb1 => ?_)
      refine c_getr (k := 1) C ck_2 dX1_at_13 w1_39 (by decide) t_a0 rfl rfl (by decide) rfl rq1 ?_
      refine c_st (st2 := [.ref rb1]) rfl ?_
      refine c_iload_n (j := 1) C dX1_at_16 rfl ?_
      have ll1 : 16 ≤ ln rb1 ∧ ln rb1 ≤ 1000 := hW.len trb1 rfl
      refine c_iald C dX1_at_17 trb1 rfl (by omega) (by omega) (by omega) ?_
      have ri2 : (-2147483648) ≤ iv rb1 i.toNat ∧ iv rb1 i.toNat ≤ 2147483647 := hW.int trb1 i.toNat
      refine c_goto (tgt := 22) C dX1_at_18 (by decide) ?_
      exact c_iret C dX1_at_22 rfl (by decide) (rom0 hph hph (by decide)) ⟨(iv rb1 i.toNat), rfl, rfl, rfl, rfl, rfl, rfl, ⟨by omega, by omega⟩, ⟨by omega, fun ss hs h1 h2 => hs rb1 rq1 i.toNat (by omega)⟩⟩
set_option maxHeartbeats 4000000 in
set_option maxRecDepth 100000 in
theorem C_clear_3 {l : Launch} {G : GT} {mi : Nat} {sk : Nat → Nat} {L : List Nat} {cl ln : Nat → Nat} {iv : Nat → Nat → Int} {rv : Nat → Nat → Option Nat}  {a0 : Nat} (hW : WT (g0 G) sk L cl ln iv rv) (hS : SKL sk L cl) (t_a0 : ty L cl a0 3)  : Mc l G mi (Phi (g0 G) sk) PHM yX1_clear cX1_clear 1 none 0 [.ref a0] L cl ln iv rv 0 (fun v L2 cl2 ln2 iv2 rv2 => v = none ∧ L = L2 ∧ cl = cl2 ∧ ln = ln2 ∧ rv = rv2 ∧ fT [3] L cl iv rv iv2 rv2 ∧ WT (g0 G) sk L2 cl2 ln2 iv2 rv2 ∧ (iv2 a0 2 = 0)) := by
  refine Mc.mk (by decide) (Nat.le_of_ble_eq_true rfl) ?_
  intro p e s m args below meth c A C hM
  refine hv3 (Phi.le hW hS) (show XT L cl ln L cl ln from XT.refl) (show fT [3] L cl iv rv iv rv from fT.refl) (fun hph hX0 hF0 => ?_)
  refine c_aload_n (j := 0) (x := a0) C dX1_clear_0 rfl ?_
  refine c_iconst C dX1_clear_1 ?_
  refine c_put (z := 0) (k := 2) C ck_2 dX1_clear_2 w1_43 (by decide) rfl t_a0 rfl rfl (by decide) rfl (by rfl) (by rfl) (fun iv1 pq1 => ?_)
  obtain ⟨rb1, rq1, trb1⟩ := hW.ref t_a0 1 rfl rfl rfl
  refine hv3 (hW.isz t_a0 rfl rfl rq1) (hF0.puti hX0 pq1 t_a0 rfl) (show iv1 a0 2 = 0 from by rw [pq1]; exact up2_s) (fun szrb1 F1 ie1 => ?_)
  have W1 := hW.isz_put pq1 t_a0 (show 0 ≤ 0 ∧ 0 ≤ 500 by omega) rfl rfl rq1 (show 0 ≤ ((ln rb1 : Nat) : Int) by omega)
  have ri1 : 0 ≤ iv1 a0 2 ∧ iv1 a0 2 ≤ 500 := W1.int t_a0 2
  exact c_vret C dX1_clear_5 rfl (by decide) (rom0 hph hph (by decide)) ⟨rfl, rfl, rfl, rfl, rfl, F1, W1, (by omega)⟩
set_option maxHeartbeats 4000000 in
set_option maxRecDepth 100000 in
theorem C_at_4 {l : Launch} {G : GT} {mi : Nat} {sk : Nat → Nat} {L : List Nat} {cl ln : Nat → Nat} {iv : Nat → Nat → Int} {rv : Nat → Nat → Option Nat}  {a0 : Nat} {i : Int} (hW : WT (g0 G) sk L cl ln iv rv) (hS : SKL sk L cl) (t_a0 : ty L cl a0 4) (h_i : -2147483648 ≤ i ∧ i ≤ 2147483647)  : Mc l G mi (Phi (g0 G) sk) PHM yX1_at cX1_at 2 (some .int) 0 [.ref a0, .int (iI i)] L cl ln iv rv 0 (fun v L2 cl2 ln2 iv2 rv2 => ∃ f : Int, v = some (.int (iI f)) ∧ L = L2 ∧ cl = cl2 ∧ ln = ln2 ∧ iv = iv2 ∧ rv = rv2 ∧ (-2147483648 ≤ f ∧ f ≤ 2147483647) ∧ (((0 ≤ i ∧ i < iv a0 2) ∨ f = 0) ∧ ∀ ss, CT iv rv a0 ss → 0 ≤ i → i < iv a0 2 → f = ss i.toNat)) := by
  refine Mc.mk (by decide) (Nat.le_of_ble_eq_true rfl) ?_
  intro p e s m args below meth c A C hM
  refine hv3 (Phi.le hW hS) (show XT L cl ln L cl ln from XT.refl) (show fT [] L cl iv rv iv rv from fT.refl) (fun hph hX0 hF0 => ?_)
  refine c_iload_n (j := 1) C dX1_at_0 rfl ?_
  refine c_if_lt (tgt := 21) C ⟨by omega, by omega⟩ dX1_at_1 (by decide) (fun c1 => ?_) (fun c1 => ?_)
  · refine c_iconst C dX1_at_21 ?_
    exact c_iret C dX1_at_22 rfl (by decide) (rom0 hph hph (by decide)) ⟨0, rfl, rfl, rfl, rfl, rfl, rfl, ⟨by decide, by decide⟩, ⟨by omega, fun ss hs h1 h2 => absurd h2 (by omega)⟩⟩
  · refine c_iload_n (j := 1) C dX1_at_4 rfl ?_
    refine c_aload_n (j := 0) (x := a0) C dX1_at_5 rfl ?_
    have ri1 : 0 ≤ iv a0 2 ∧ iv a0 2 ≤ 4000 := hW.int t_a0 2
    refine c_get (k := 2) C ck_2 dX1_at_6 w1_43 (by decide) t_a0 rfl rfl (by decide) rfl ?_
    refine c_icmp_ge (tgt := 21) C ⟨by omega, by omega⟩ (r32_c (lo := 0) (hi := 4000) ri1.1 ri1.2 (by decide) (by decide)) dX1_at_9 (by decide) (fun c2 => ?_) (fun c2 => ?_)
    · refine c_iconst C dX1_at_21 ?_
      exact c_iret C dX1_at_22 rfl (by decide) (rom0 hph hph (by decide)) ⟨0, rfl, rfl, rfl, rfl, rfl, rfl, ⟨by decide, by decide⟩, ⟨by omega, fun ss hs h1 h2 => absurd h2 (by omega)⟩⟩
    · refine c_aload_n (j := 0) (x := a0) C dX1_at_12 rfl ?_
      obtain ⟨rb1, rq1, trb1⟩ := hW.ref t_a0 1 rfl rfl rfl
      refine hv2 (show 16 ≤ ln rb1 ∧ ln rb1 ≤ 8000 from hW.len trb1 rfl) (hW.isz t_a0 rfl rfl rq1) (fun lnrb1 szrb1 => ?_)
      refine c_getr (k := 1) C ck_2 dX1_at_13 w1_39 (by decide) t_a0 rfl rfl (by decide) rfl rq1 ?_
      refine c_st (st2 := [.ref rb1]) rfl ?_
      refine c_iload_n (j := 1) C dX1_at_16 rfl ?_
      have ll1 : 16 ≤ ln rb1 ∧ ln rb1 ≤ 8000 := hW.len trb1 rfl
      refine c_iald C dX1_at_17 trb1 rfl (by omega) (by omega) (by omega) ?_
      have ri2 : (-2147483648) ≤ iv rb1 i.toNat ∧ iv rb1 i.toNat ≤ 2147483647 := hW.int trb1 i.toNat
      refine c_goto (tgt := 22) C dX1_at_18 (by decide) ?_
      exact c_iret C dX1_at_22 rfl (by decide) (rom0 hph hph (by decide)) ⟨(iv rb1 i.toNat), rfl, rfl, rfl, rfl, rfl, rfl, ⟨by omega, by omega⟩, ⟨by omega, fun ss hs h1 h2 => hs rb1 rq1 i.toNat (by omega)⟩⟩
set_option maxHeartbeats 4000000 in
set_option maxRecDepth 100000 in
theorem C_clear_4 {l : Launch} {G : GT} {mi : Nat} {sk : Nat → Nat} {L : List Nat} {cl ln : Nat → Nat} {iv : Nat → Nat → Int} {rv : Nat → Nat → Option Nat}  {a0 : Nat} (hW : WT (g0 G) sk L cl ln iv rv) (hS : SKL sk L cl) (t_a0 : ty L cl a0 4)  : Mc l G mi (Phi (g0 G) sk) PHM yX1_clear cX1_clear 1 none 0 [.ref a0] L cl ln iv rv 0 (fun v L2 cl2 ln2 iv2 rv2 => v = none ∧ L = L2 ∧ cl = cl2 ∧ ln = ln2 ∧ rv = rv2 ∧ fT [4] L cl iv rv iv2 rv2 ∧ WT (g0 G) sk L2 cl2 ln2 iv2 rv2 ∧ (iv2 a0 2 = 0)) := by
  refine Mc.mk (by decide) (Nat.le_of_ble_eq_true rfl) ?_
  intro p e s m args below meth c A C hM
  refine hv3 (Phi.le hW hS) (show XT L cl ln L cl ln from XT.refl) (show fT [4] L cl iv rv iv rv from fT.refl) (fun hph hX0 hF0 => ?_)
  refine c_aload_n (j := 0) (x := a0) C dX1_clear_0 rfl ?_
  refine c_iconst C dX1_clear_1 ?_
  refine c_put (z := 0) (k := 2) C ck_2 dX1_clear_2 w1_43 (by decide) rfl t_a0 rfl rfl (by decide) rfl (by rfl) (by rfl) (fun iv1 pq1 => ?_)
  obtain ⟨rb1, rq1, trb1⟩ := hW.ref t_a0 1 rfl rfl rfl
  refine hv3 (hW.isz t_a0 rfl rfl rq1) (hF0.puti hX0 pq1 t_a0 rfl) (show iv1 a0 2 = 0 from by rw [pq1]; exact up2_s) (fun szrb1 F1 ie1 => ?_)
  have W1 := hW.isz_put pq1 t_a0 (show 0 ≤ 0 ∧ 0 ≤ 4000 by omega) rfl rfl rq1 (show 0 ≤ ((ln rb1 : Nat) : Int) by omega)
  have ri1 : 0 ≤ iv1 a0 2 ∧ iv1 a0 2 ≤ 4000 := W1.int t_a0 2
  exact c_vret C dX1_clear_5 rfl (by decide) (rom0 hph hph (by decide)) ⟨rfl, rfl, rfl, rfl, rfl, F1, W1, (by omega)⟩
set_option maxHeartbeats 4000000 in
set_option maxRecDepth 100000 in
theorem C_at_5 {l : Launch} {G : GT} {mi : Nat} {sk : Nat → Nat} {L : List Nat} {cl ln : Nat → Nat} {iv : Nat → Nat → Int} {rv : Nat → Nat → Option Nat}  {a0 : Nat} {i : Int} (hW : WT (g0 G) sk L cl ln iv rv) (hS : SKL sk L cl) (t_a0 : ty L cl a0 5) (h_i : -2147483648 ≤ i ∧ i ≤ 2147483647)  : Mc l G mi (Phi (g0 G) sk) PHM yX1_at cX1_at 2 (some .int) 0 [.ref a0, .int (iI i)] L cl ln iv rv 0 (fun v L2 cl2 ln2 iv2 rv2 => ∃ f : Int, v = some (.int (iI f)) ∧ L = L2 ∧ cl = cl2 ∧ ln = ln2 ∧ iv = iv2 ∧ rv = rv2 ∧ (-2147483648 ≤ f ∧ f ≤ 2147483647) ∧ (((0 ≤ i ∧ i < iv a0 2) ∨ f = 0) ∧ ∀ ss, CT iv rv a0 ss → 0 ≤ i → i < iv a0 2 → f = ss i.toNat)) := by
  refine Mc.mk (by decide) (Nat.le_of_ble_eq_true rfl) ?_
  intro p e s m args below meth c A C hM
  refine hv3 (Phi.le hW hS) (show XT L cl ln L cl ln from XT.refl) (show fT [] L cl iv rv iv rv from fT.refl) (fun hph hX0 hF0 => ?_)
  refine c_iload_n (j := 1) C dX1_at_0 rfl ?_
  refine c_if_lt (tgt := 21) C ⟨by omega, by omega⟩ dX1_at_1 (by decide) (fun c1 => ?_) (fun c1 => ?_)
  · refine c_iconst C dX1_at_21 ?_
    exact c_iret C dX1_at_22 rfl (by decide) (rom0 hph hph (by decide)) ⟨0, rfl, rfl, rfl, rfl, rfl, rfl, ⟨by decide, by decide⟩, ⟨by omega, fun ss hs h1 h2 => absurd h2 (by omega)⟩⟩
  · refine c_iload_n (j := 1) C dX1_at_4 rfl ?_
    refine c_aload_n (j := 0) (x := a0) C dX1_at_5 rfl ?_
    have ri1 : 0 ≤ iv a0 2 ∧ iv a0 2 ≤ 200 := hW.int t_a0 2
    refine c_get (k := 2) C ck_2 dX1_at_6 w1_43 (by decide) t_a0 rfl rfl (by decide) rfl ?_
    refine c_icmp_ge (tgt := 21) C ⟨by omega, by omega⟩ (r32_c (lo := 0) (hi := 200) ri1.1 ri1.2 (by decide) (by decide)) dX1_at_9 (by decide) (fun c2 => ?_) (fun c2 => ?_)
    · refine c_iconst C dX1_at_21 ?_
      exact c_iret C dX1_at_22 rfl (by decide) (rom0 hph hph (by decide)) ⟨0, rfl, rfl, rfl, rfl, rfl, rfl, ⟨by decide, by decide⟩, ⟨by omega, fun ss hs h1 h2 => absurd h2 (by omega)⟩⟩
    · refine c_aload_n (j := 0) (x := a0) C dX1_at_12 rfl ?_
      obtain ⟨rb1, rq1, trb1⟩ := hW.ref t_a0 1 rfl rfl rfl
      refine hv2 (show 16 ≤ ln rb1 ∧ ln rb1 ≤ 400 from hW.len trb1 rfl) (hW.isz t_a0 rfl rfl rq1) (fun lnrb1 szrb1 => ?_)
      refine c_getr (k := 1) C ck_2 dX1_at_13 w1_39 (by decide) t_a0 rfl rfl (by decide) rfl rq1 ?_
      refine c_st (st2 := [.ref rb1]) rfl ?_
      refine c_iload_n (j := 1) C dX1_at_16 rfl ?_
      have ll1 : 16 ≤ ln rb1 ∧ ln rb1 ≤ 400 := hW.len trb1 rfl
      refine c_iald C dX1_at_17 trb1 rfl (by omega) (by omega) (by omega) ?_
      have ri2 : (-2147483648) ≤ iv rb1 i.toNat ∧ iv rb1 i.toNat ≤ 2147483647 := hW.int trb1 i.toNat
      refine c_goto (tgt := 22) C dX1_at_18 (by decide) ?_
      exact c_iret C dX1_at_22 rfl (by decide) (rom0 hph hph (by decide)) ⟨(iv rb1 i.toNat), rfl, rfl, rfl, rfl, rfl, rfl, ⟨by omega, by omega⟩, ⟨by omega, fun ss hs h1 h2 => hs rb1 rq1 i.toNat (by omega)⟩⟩
set_option maxHeartbeats 4000000 in
set_option maxRecDepth 100000 in
theorem C_clear_5 {l : Launch} {G : GT} {mi : Nat} {sk : Nat → Nat} {L : List Nat} {cl ln : Nat → Nat} {iv : Nat → Nat → Int} {rv : Nat → Nat → Option Nat}  {a0 : Nat} (hW : WT (g0 G) sk L cl ln iv rv) (hS : SKL sk L cl) (t_a0 : ty L cl a0 5)  : Mc l G mi (Phi (g0 G) sk) PHM yX1_clear cX1_clear 1 none 0 [.ref a0] L cl ln iv rv 0 (fun v L2 cl2 ln2 iv2 rv2 => v = none ∧ L = L2 ∧ cl = cl2 ∧ ln = ln2 ∧ rv = rv2 ∧ fT [5] L cl iv rv iv2 rv2 ∧ WT (g0 G) sk L2 cl2 ln2 iv2 rv2 ∧ (iv2 a0 2 = 0)) := by
  refine Mc.mk (by decide) (Nat.le_of_ble_eq_true rfl) ?_
  intro p e s m args below meth c A C hM
  refine hv3 (Phi.le hW hS) (show XT L cl ln L cl ln from XT.refl) (show fT [5] L cl iv rv iv rv from fT.refl) (fun hph hX0 hF0 => ?_)
  refine c_aload_n (j := 0) (x := a0) C dX1_clear_0 rfl ?_
  refine c_iconst C dX1_clear_1 ?_
  refine c_put (z := 0) (k := 2) C ck_2 dX1_clear_2 w1_43 (by decide) rfl t_a0 rfl rfl (by decide) rfl (by rfl) (by rfl) (fun iv1 pq1 => ?_)
  obtain ⟨rb1, rq1, trb1⟩ := hW.ref t_a0 1 rfl rfl rfl
  refine hv3 (hW.isz t_a0 rfl rfl rq1) (hF0.puti hX0 pq1 t_a0 rfl) (show iv1 a0 2 = 0 from by rw [pq1]; exact up2_s) (fun szrb1 F1 ie1 => ?_)
  have W1 := hW.isz_put pq1 t_a0 (show 0 ≤ 0 ∧ 0 ≤ 200 by omega) rfl rfl rq1 (show 0 ≤ ((ln rb1 : Nat) : Int) by omega)
  have ri1 : 0 ≤ iv1 a0 2 ∧ iv1 a0 2 ≤ 200 := W1.int t_a0 2
  exact c_vret C dX1_clear_5 rfl (by decide) (rom0 hph hph (by decide)) ⟨rfl, rfl, rfl, rfl, rfl, F1, W1, (by omega)⟩
set_option maxHeartbeats 4000000 in
set_option maxRecDepth 100000 in
theorem C_clear_6 {l : Launch} {G : GT} {mi : Nat} {sk : Nat → Nat} {L : List Nat} {cl ln : Nat → Nat} {iv : Nat → Nat → Int} {rv : Nat → Nat → Option Nat}  {a0 : Nat} (hW : WT (g0 G) sk L cl ln iv rv) (hS : SKL sk L cl) (t_a0 : ty L cl a0 6)  : Mc l G mi (Phi (g0 G) sk) PHM yX1_clear cX1_clear 1 none 0 [.ref a0] L cl ln iv rv 0 (fun v L2 cl2 ln2 iv2 rv2 => v = none ∧ L = L2 ∧ cl = cl2 ∧ ln = ln2 ∧ rv = rv2 ∧ fT [6] L cl iv rv iv2 rv2 ∧ WT (g0 G) sk L2 cl2 ln2 iv2 rv2 ∧ (iv2 a0 2 = 0)) := by
  refine Mc.mk (by decide) (Nat.le_of_ble_eq_true rfl) ?_
  intro p e s m args below meth c A C hM
  refine hv3 (Phi.le hW hS) (show XT L cl ln L cl ln from XT.refl) (show fT [6] L cl iv rv iv rv from fT.refl) (fun hph hX0 hF0 => ?_)
  refine c_aload_n (j := 0) (x := a0) C dX1_clear_0 rfl ?_
  refine c_iconst C dX1_clear_1 ?_
  refine c_put (z := 0) (k := 2) C ck_2 dX1_clear_2 w1_43 (by decide) rfl t_a0 rfl rfl (by decide) rfl (by rfl) (by rfl) (fun iv1 pq1 => ?_)
  obtain ⟨rb1, rq1, trb1⟩ := hW.ref t_a0 1 rfl rfl rfl
  refine hv3 (hW.isz t_a0 rfl rfl rq1) (hF0.puti hX0 pq1 t_a0 rfl) (show iv1 a0 2 = 0 from by rw [pq1]; exact up2_s) (fun szrb1 F1 ie1 => ?_)
  have W1 := hW.isz_put pq1 t_a0 (show 0 ≤ 0 ∧ 0 ≤ 6003 by omega) rfl rfl rq1 (show 0 ≤ ((ln rb1 : Nat) : Int) by omega)
  have ri1 : 0 ≤ iv1 a0 2 ∧ iv1 a0 2 ≤ 6003 := W1.int t_a0 2
  exact c_vret C dX1_clear_5 rfl (by decide) (rom0 hph hph (by decide)) ⟨rfl, rfl, rfl, rfl, rfl, F1, W1, (by omega)⟩
set_option maxHeartbeats 4000000 in
set_option maxRecDepth 100000 in
theorem C_clear_7 {l : Launch} {G : GT} {mi : Nat} {sk : Nat → Nat} {L : List Nat} {cl ln : Nat → Nat} {iv : Nat → Nat → Int} {rv : Nat → Nat → Option Nat}  {a0 : Nat} (hW : WT (g0 G) sk L cl ln iv rv) (hS : SKL sk L cl) (t_a0 : ty L cl a0 7)  : Mc l G mi (Phi (g0 G) sk) PHM yX1_clear cX1_clear 1 none 0 [.ref a0] L cl ln iv rv 0 (fun v L2 cl2 ln2 iv2 rv2 => v = none ∧ L = L2 ∧ cl = cl2 ∧ ln = ln2 ∧ rv = rv2 ∧ fT [7] L cl iv rv iv2 rv2 ∧ WT (g0 G) sk L2 cl2 ln2 iv2 rv2 ∧ (iv2 a0 2 = 0)) := by
  refine Mc.mk (by decide) (Nat.le_of_ble_eq_true rfl) ?_
  intro p e s m args below meth c A C hM
  refine hv3 (Phi.le hW hS) (show XT L cl ln L cl ln from XT.refl) (show fT [7] L cl iv rv iv rv from fT.refl) (fun hph hX0 hF0 => ?_)
  refine c_aload_n (j := 0) (x := a0) C dX1_clear_0 rfl ?_
  refine c_iconst C dX1_clear_1 ?_
  refine c_put (z := 0) (k := 2) C ck_2 dX1_clear_2 w1_43 (by decide) rfl t_a0 rfl rfl (by decide) rfl (by rfl) (by rfl) (fun iv1 pq1 => ?_)
  obtain ⟨rb1, rq1, trb1⟩ := hW.ref t_a0 1 rfl rfl rfl
  refine hv3 (hW.isz t_a0 rfl rfl rq1) (hF0.puti hX0 pq1 t_a0 rfl) (show iv1 a0 2 = 0 from by rw [pq1]; exact up2_s) (fun szrb1 F1 ie1 => ?_)
  have W1 := hW.isz_put pq1 t_a0 (show 0 ≤ 0 ∧ 0 ≤ 6003 by omega) rfl rfl rq1 (show 0 ≤ ((ln rb1 : Nat) : Int) by omega)
  have ri1 : 0 ≤ iv1 a0 2 ∧ iv1 a0 2 ≤ 6003 := W1.int t_a0 2
  exact c_vret C dX1_clear_5 rfl (by decide) (rom0 hph hph (by decide)) ⟨rfl, rfl, rfl, rfl, rfl, F1, W1, (by omega)⟩
set_option maxHeartbeats 4000000 in
set_option maxRecDepth 100000 in
theorem C_at_8 {l : Launch} {G : GT} {mi : Nat} {sk : Nat → Nat} {L : List Nat} {cl ln : Nat → Nat} {iv : Nat → Nat → Int} {rv : Nat → Nat → Option Nat}  {a0 : Nat} {i : Int} (hW : WT (g0 G) sk L cl ln iv rv) (hS : SKL sk L cl) (t_a0 : ty L cl a0 8) (h_i : -2147483648 ≤ i ∧ i ≤ 2147483647)  : Mc l G mi (Phi (g0 G) sk) PHM yX1_at cX1_at 2 (some .int) 0 [.ref a0, .int (iI i)] L cl ln iv rv 0 (fun v L2 cl2 ln2 iv2 rv2 => ∃ f : Int, v = some (.int (iI f)) ∧ L = L2 ∧ cl = cl2 ∧ ln = ln2 ∧ iv = iv2 ∧ rv = rv2 ∧ (-2147483648 ≤ f ∧ f ≤ 2147483647) ∧ (((0 ≤ i ∧ i < iv a0 2) ∨ f = 0) ∧ ∀ ss, CT iv rv a0 ss → 0 ≤ i → i < iv a0 2 → f = ss i.toNat)) := by
  refine Mc.mk (by decide) (Nat.le_of_ble_eq_true rfl) ?_
  intro p e s m args below meth c A C hM
  refine hv3 (Phi.le hW hS) (show XT L cl ln L cl ln from XT.refl) (show fT [] L cl iv rv iv rv from fT.refl) (fun hph hX0 hF0 => ?_)
  refine c_iload_n (j := 1) C dX1_at_0 rfl ?_
  refine c_if_lt (tgt := 21) C ⟨by omega, by omega⟩ dX1_at_1 (by decide) (fun c1 => ?_) (fun c1 => ?_)
  · refine c_iconst C dX1_at_21 ?_
    exact c_iret C dX1_at_22 rfl (by decide) (rom0 hph hph (by decide)) ⟨0, rfl, rfl, rfl, rfl, rfl, rfl, ⟨by decide, by decide⟩, ⟨by omega, fun ss hs h1 h2 => absurd h2 (by omega)⟩⟩
  · refine c_iload_n (j := 1) C dX1_at_4 rfl ?_
    refine c_aload_n (j := 0) (x := a0) C dX1_at_5 rfl ?_
    have ri1 : 0 ≤ iv a0 2 ∧ iv a0 2 ≤ 40200 := hW.int t_a0 2
    refine c_get (k := 2) C ck_2 dX1_at_6 w1_43 (by decide) t_a0 rfl rfl (by decide) rfl ?_
    refine c_icmp_ge (tgt := 21) C ⟨by omega, by omega⟩ (r32_c (lo := 0) (hi := 40200) ri1.1 ri1.2 (by decide) (by decide)) dX1_at_9 (by decide) (fun c2 => ?_) (fun c2 => ?_)
    · refine c_iconst C dX1_at_21 ?_
      exact c_iret C dX1_at_22 rfl (by decide) (rom0 hph hph (by decide)) ⟨0, rfl, rfl, rfl, rfl, rfl, rfl, ⟨by decide, by decide⟩, ⟨by omega, fun ss hs h1 h2 => absurd h2 (by omega)⟩⟩
    · refine c_aload_n (j := 0) (x := a0) C dX1_at_12 rfl ?_
      obtain ⟨rb1, rq1, trb1⟩ := hW.ref t_a0 1 rfl rfl rfl
      refine hv2 (show 16 ≤ ln rb1 ∧ ln rb1 ≤ 80400 from hW.len trb1 rfl) (hW.isz t_a0 rfl rfl rq1) (fun lnrb1 szrb1 => ?_)
      refine c_getr (k := 1) C ck_2 dX1_at_13 w1_39 (by decide) t_a0 rfl rfl (by decide) rfl rq1 ?_
      refine c_st (st2 := [.ref rb1]) rfl ?_
      refine c_iload_n (j := 1) C dX1_at_16 rfl ?_
      have ll1 : 16 ≤ ln rb1 ∧ ln rb1 ≤ 80400 := hW.len trb1 rfl
      refine c_iald C dX1_at_17 trb1 rfl (by omega) (by omega) (by omega) ?_
      have ri2 : (-2147483648) ≤ iv rb1 i.toNat ∧ iv rb1 i.toNat ≤ 2147483647 := hW.int trb1 i.toNat
      refine c_goto (tgt := 22) C dX1_at_18 (by decide) ?_
      exact c_iret C dX1_at_22 rfl (by decide) (rom0 hph hph (by decide)) ⟨(iv rb1 i.toNat), rfl, rfl, rfl, rfl, rfl, rfl, ⟨by omega, by omega⟩, ⟨by omega, fun ss hs h1 h2 => hs rb1 rq1 i.toNat (by omega)⟩⟩
set_option maxHeartbeats 4000000 in
set_option maxRecDepth 100000 in
theorem C_clear_8 {l : Launch} {G : GT} {mi : Nat} {sk : Nat → Nat} {L : List Nat} {cl ln : Nat → Nat} {iv : Nat → Nat → Int} {rv : Nat → Nat → Option Nat}  {a0 : Nat} (hW : WT (g0 G) sk L cl ln iv rv) (hS : SKL sk L cl) (t_a0 : ty L cl a0 8)  : Mc l G mi (Phi (g0 G) sk) PHM yX1_clear cX1_clear 1 none 0 [.ref a0] L cl ln iv rv 0 (fun v L2 cl2 ln2 iv2 rv2 => v = none ∧ L = L2 ∧ cl = cl2 ∧ ln = ln2 ∧ rv = rv2 ∧ fT [8] L cl iv rv iv2 rv2 ∧ WT (g0 G) sk L2 cl2 ln2 iv2 rv2 ∧ (iv2 a0 2 = 0)) := by
  refine Mc.mk (by decide) (Nat.le_of_ble_eq_true rfl) ?_
  intro p e s m args below meth c A C hM
  refine hv3 (Phi.le hW hS) (show XT L cl ln L cl ln from XT.refl) (show fT [8] L cl iv rv iv rv from fT.refl) (fun hph hX0 hF0 => ?_)
  refine c_aload_n (j := 0) (x := a0) C dX1_clear_0 rfl ?_
  refine c_iconst C dX1_clear_1 ?_
  refine c_put (z := 0) (k := 2) C ck_2 dX1_clear_2 w1_43 (by decide) rfl t_a0 rfl rfl (by decide) rfl (by rfl) (by rfl) (fun iv1 pq1 => ?_)
  obtain ⟨rb1, rq1, trb1⟩ := hW.ref t_a0 1 rfl rfl rfl
  refine hv3 (hW.isz t_a0 rfl rfl rq1) (hF0.puti hX0 pq1 t_a0 rfl) (show iv1 a0 2 = 0 from by rw [pq1]; exact up2_s) (fun szrb1 F1 ie1 => ?_)
  have W1 := hW.isz_put pq1 t_a0 (show 0 ≤ 0 ∧ 0 ≤ 40200 by omega) rfl rfl rq1 (show 0 ≤ ((ln rb1 : Nat) : Int) by omega)
  have ri1 : 0 ≤ iv1 a0 2 ∧ iv1 a0 2 ≤ 40200 := W1.int t_a0 2
  exact c_vret C dX1_clear_5 rfl (by decide) (rom0 hph hph (by decide)) ⟨rfl, rfl, rfl, rfl, rfl, F1, W1, (by omega)⟩
set_option maxHeartbeats 4000000 in
set_option maxRecDepth 100000 in
theorem C_at_9 {l : Launch} {G : GT} {mi : Nat} {sk : Nat → Nat} {L : List Nat} {cl ln : Nat → Nat} {iv : Nat → Nat → Int} {rv : Nat → Nat → Option Nat}  {a0 : Nat} {i : Int} (hW : WT (g0 G) sk L cl ln iv rv) (hS : SKL sk L cl) (t_a0 : ty L cl a0 9) (h_i : -2147483648 ≤ i ∧ i ≤ 2147483647)  : Mc l G mi (Phi (g0 G) sk) PHM yX1_at cX1_at 2 (some .int) 0 [.ref a0, .int (iI i)] L cl ln iv rv 0 (fun v L2 cl2 ln2 iv2 rv2 => ∃ f : Int, v = some (.int (iI f)) ∧ L = L2 ∧ cl = cl2 ∧ ln = ln2 ∧ iv = iv2 ∧ rv = rv2 ∧ (-2147483648 ≤ f ∧ f ≤ 2147483647) ∧ (((0 ≤ i ∧ i < iv a0 2) ∨ f = 0) ∧ ∀ ss, CT iv rv a0 ss → 0 ≤ i → i < iv a0 2 → f = ss i.toNat)) := by
  refine Mc.mk (by decide) (Nat.le_of_ble_eq_true rfl) ?_
  intro p e s m args below meth c A C hM
  refine hv3 (Phi.le hW hS) (show XT L cl ln L cl ln from XT.refl) (show fT [] L cl iv rv iv rv from fT.refl) (fun hph hX0 hF0 => ?_)
  refine c_iload_n (j := 1) C dX1_at_0 rfl ?_
  refine c_if_lt (tgt := 21) C ⟨by omega, by omega⟩ dX1_at_1 (by decide) (fun c1 => ?_) (fun c1 => ?_)
  · refine c_iconst C dX1_at_21 ?_
    exact c_iret C dX1_at_22 rfl (by decide) (rom0 hph hph (by decide)) ⟨0, rfl, rfl, rfl, rfl, rfl, rfl, ⟨by decide, by decide⟩, ⟨by omega, fun ss hs h1 h2 => absurd h2 (by omega)⟩⟩
  · refine c_iload_n (j := 1) C dX1_at_4 rfl ?_
    refine c_aload_n (j := 0) (x := a0) C dX1_at_5 rfl ?_
    have ri1 : 0 ≤ iv a0 2 ∧ iv a0 2 ≤ 40200 := hW.int t_a0 2
    refine c_get (k := 2) C ck_2 dX1_at_6 w1_43 (by decide) t_a0 rfl rfl (by decide) rfl ?_
    refine c_icmp_ge (tgt := 21) C ⟨by omega, by omega⟩ (r32_c (lo := 0) (hi := 40200) ri1.1 ri1.2 (by decide) (by decide)) dX1_at_9 (by decide) (fun c2 => ?_) (fun c2 => ?_)
    · refine c_iconst C dX1_at_21 ?_
      exact c_iret C dX1_at_22 rfl (by decide) (rom0 hph hph (by decide)) ⟨0, rfl, rfl, rfl, rfl, rfl, rfl, ⟨by decide, by decide⟩, ⟨by omega, fun ss hs h1 h2 => absurd h2 (by omega)⟩⟩
    · refine c_aload_n (j := 0) (x := a0) C dX1_at_12 rfl ?_
      obtain ⟨rb1, rq1, trb1⟩ := hW.ref t_a0 1 rfl rfl rfl
      refine hv2 (show 16 ≤ ln rb1 ∧ ln rb1 ≤ 80400 from hW.len trb1 rfl) (hW.isz t_a0 rfl rfl rq1) (fun lnrb1 szrb1 => ?_)
      refine c_getr (k := 1) C ck_2 dX1_at_13 w1_39 (by decide) t_a0 rfl rfl (by decide) rfl rq1 ?_
      refine c_st (st2 := [.ref rb1]) rfl ?_
      refine c_iload_n (j := 1) C dX1_at_16 rfl ?_
      have ll1 : 16 ≤ ln rb1 ∧ ln rb1 ≤ 80400 := hW.len trb1 rfl
      refine c_iald C dX1_at_17 trb1 rfl (by omega) (by omega) (by omega) ?_
      have ri2 : (-2147483648) ≤ iv rb1 i.toNat ∧ iv rb1 i.toNat ≤ 2147483647 := hW.int trb1 i.toNat
      refine c_goto (tgt := 22) C dX1_at_18 (by decide) ?_
      exact c_iret C dX1_at_22 rfl (by decide) (rom0 hph hph (by decide)) ⟨(iv rb1 i.toNat), rfl, rfl, rfl, rfl, rfl, rfl, ⟨by omega, by omega⟩, ⟨by omega, fun ss hs h1 h2 => hs rb1 rq1 i.toNat (by omega)⟩⟩
set_option maxHeartbeats 4000000 in
set_option maxRecDepth 100000 in
theorem C_clear_9 {l : Launch} {G : GT} {mi : Nat} {sk : Nat → Nat} {L : List Nat} {cl ln : Nat → Nat} {iv : Nat → Nat → Int} {rv : Nat → Nat → Option Nat}  {a0 : Nat} (hW : WT (g0 G) sk L cl ln iv rv) (hS : SKL sk L cl) (t_a0 : ty L cl a0 9)  : Mc l G mi (Phi (g0 G) sk) PHM yX1_clear cX1_clear 1 none 0 [.ref a0] L cl ln iv rv 0 (fun v L2 cl2 ln2 iv2 rv2 => v = none ∧ L = L2 ∧ cl = cl2 ∧ ln = ln2 ∧ rv = rv2 ∧ fT [9] L cl iv rv iv2 rv2 ∧ WT (g0 G) sk L2 cl2 ln2 iv2 rv2 ∧ (iv2 a0 2 = 0)) := by
  refine Mc.mk (by decide) (Nat.le_of_ble_eq_true rfl) ?_
  intro p e s m args below meth c A C hM
  refine hv3 (Phi.le hW hS) (show XT L cl ln L cl ln from XT.refl) (show fT [9] L cl iv rv iv rv from fT.refl) (fun hph hX0 hF0 => ?_)
  refine c_aload_n (j := 0) (x := a0) C dX1_clear_0 rfl ?_
  refine c_iconst C dX1_clear_1 ?_
  refine c_put (z := 0) (k := 2) C ck_2 dX1_clear_2 w1_43 (by decide) rfl t_a0 rfl rfl (by decide) rfl (by rfl) (by rfl) (fun iv1 pq1 => ?_)
  obtain ⟨rb1, rq1, trb1⟩ := hW.ref t_a0 1 rfl rfl rfl
  refine hv3 (hW.isz t_a0 rfl rfl rq1) (hF0.puti hX0 pq1 t_a0 rfl) (show iv1 a0 2 = 0 from by rw [pq1]; exact up2_s) (fun szrb1 F1 ie1 => ?_)
  have W1 := hW.isz_put pq1 t_a0 (show 0 ≤ 0 ∧ 0 ≤ 40200 by omega) rfl rfl rq1 (show 0 ≤ ((ln rb1 : Nat) : Int) by omega)
  have ri1 : 0 ≤ iv1 a0 2 ∧ iv1 a0 2 ≤ 40200 := W1.int t_a0 2
  exact c_vret C dX1_clear_5 rfl (by decide) (rom0 hph hph (by decide)) ⟨rfl, rfl, rfl, rfl, rfl, F1, W1, (by omega)⟩
set_option maxHeartbeats 4000000 in
set_option maxRecDepth 100000 in
theorem C_at_10 {l : Launch} {G : GT} {mi : Nat} {sk : Nat → Nat} {L : List Nat} {cl ln : Nat → Nat} {iv : Nat → Nat → Int} {rv : Nat → Nat → Option Nat}  {a0 : Nat} {i : Int} (hW : WT (g0 G) sk L cl ln iv rv) (hS : SKL sk L cl) (t_a0 : ty L cl a0 10) (h_i : -2147483648 ≤ i ∧ i ≤ 2147483647)  : Mc l G mi (Phi (g0 G) sk) PHM yX1_at cX1_at 2 (some .int) 0 [.ref a0, .int (iI i)] L cl ln iv rv 0 (fun v L2 cl2 ln2 iv2 rv2 => ∃ f : Int, v = some (.int (iI f)) ∧ L = L2 ∧ cl = cl2 ∧ ln = ln2 ∧ iv = iv2 ∧ rv = rv2 ∧ (-2147483648 ≤ f ∧ f ≤ 2147483647) ∧ (((0 ≤ i ∧ i < iv a0 2) ∨ f = 0) ∧ ∀ ss, CT iv rv a0 ss → 0 ≤ i → i < iv a0 2 → f = ss i.toNat)) := by
  refine Mc.mk (by decide) (Nat.le_of_ble_eq_true rfl) ?_
  intro p e s m args below meth c A C hM
  refine hv3 (Phi.le hW hS) (show XT L cl ln L cl ln from XT.refl) (show fT [] L cl iv rv iv rv from fT.refl) (fun hph hX0 hF0 => ?_)
  refine c_iload_n (j := 1) C dX1_at_0 rfl ?_
  refine c_if_lt (tgt := 21) C ⟨by omega, by omega⟩ dX1_at_1 (by decide) (fun c1 => ?_) (fun c1 => ?_)
  · refine c_iconst C dX1_at_21 ?_
    exact c_iret C dX1_at_22 rfl (by decide) (rom0 hph hph (by decide)) ⟨0, rfl, rfl, rfl, rfl, rfl, rfl, ⟨by decide, by decide⟩, ⟨by omega, fun ss hs h1 h2 => absurd h2 (by omega)⟩⟩
  · refine c_iload_n (j := 1) C dX1_at_4 rfl ?_
    refine c_aload_n (j := 0) (x := a0) C dX1_at_5 rfl ?_
    have ri1 : 0 ≤ iv a0 2 ∧ iv a0 2 ≤ 4001 := hW.int t_a0 2
    refine c_get (k := 2) C ck_2 dX1_at_6 w1_43 (by decide) t_a0 rfl rfl (by decide) rfl ?_
    refine c_icmp_ge (tgt := 21) C ⟨by omega, by omega⟩ (r32_c (lo := 0) (hi := 4001) ri1.1 ri1.2 (by decide) (by decide)) dX1_at_9 (by decide) (fun c2 => ?_) (fun c2 => ?_)
    · refine c_iconst C dX1_at_21 ?_
      exact c_iret C dX1_at_22 rfl (by decide) (rom0 hph hph (by decide)) ⟨0, rfl, rfl, rfl, rfl, rfl, rfl, ⟨by decide, by decide⟩, ⟨by omega, fun ss hs h1 h2 => absurd h2 (by omega)⟩⟩
    · refine c_aload_n (j := 0) (x := a0) C dX1_at_12 rfl ?_
      obtain ⟨rb1, rq1, trb1⟩ := hW.ref t_a0 1 rfl rfl rfl
      refine hv2 (show 16 ≤ ln rb1 ∧ ln rb1 ≤ 8002 from hW.len trb1 rfl) (hW.isz t_a0 rfl rfl rq1) (fun lnrb1 szrb1 => ?_)
      refine c_getr (k := 1) C ck_2 dX1_at_13 w1_39 (by decide) t_a0 rfl rfl (by decide) rfl rq1 ?_
      refine c_st (st2 := [.ref rb1]) rfl ?_
      refine c_iload_n (j := 1) C dX1_at_16 rfl ?_
      have ll1 : 16 ≤ ln rb1 ∧ ln rb1 ≤ 8002 := hW.len trb1 rfl
      refine c_iald C dX1_at_17 trb1 rfl (by omega) (by omega) (by omega) ?_
      have ri2 : (-2147483648) ≤ iv rb1 i.toNat ∧ iv rb1 i.toNat ≤ 2147483647 := hW.int trb1 i.toNat
      refine c_goto (tgt := 22) C dX1_at_18 (by decide) ?_
      exact c_iret C dX1_at_22 rfl (by decide) (rom0 hph hph (by decide)) ⟨(iv rb1 i.toNat), rfl, rfl, rfl, rfl, rfl, rfl, ⟨by omega, by omega⟩, ⟨by omega, fun ss hs h1 h2 => hs rb1 rq1 i.toNat (by omega)⟩⟩
set_option maxHeartbeats 4000000 in
set_option maxRecDepth 100000 in
theorem C_clear_10 {l : Launch} {G : GT} {mi : Nat} {sk : Nat → Nat} {L : List Nat} {cl ln : Nat → Nat} {iv : Nat → Nat → Int} {rv : Nat → Nat → Option Nat}  {a0 : Nat} (hW : WT (g0 G) sk L cl ln iv rv) (hS : SKL sk L cl) (t_a0 : ty L cl a0 10)  : Mc l G mi (Phi (g0 G) sk) PHM yX1_clear cX1_clear 1 none 0 [.ref a0] L cl ln iv rv 0 (fun v L2 cl2 ln2 iv2 rv2 => v = none ∧ L = L2 ∧ cl = cl2 ∧ ln = ln2 ∧ rv = rv2 ∧ fT [10] L cl iv rv iv2 rv2 ∧ WT (g0 G) sk L2 cl2 ln2 iv2 rv2 ∧ (iv2 a0 2 = 0)) := by
  refine Mc.mk (by decide) (Nat.le_of_ble_eq_true rfl) ?_
  intro p e s m args below meth c A C hM
  refine hv3 (Phi.le hW hS) (show XT L cl ln L cl ln from XT.refl) (show fT [10] L cl iv rv iv rv from fT.refl) (fun hph hX0 hF0 => ?_)
  refine c_aload_n (j := 0) (x := a0) C dX1_clear_0 rfl ?_
  refine c_iconst C dX1_clear_1 ?_
  refine c_put (z := 0) (k := 2) C ck_2 dX1_clear_2 w1_43 (by decide) rfl t_a0 rfl rfl (by decide) rfl (by rfl) (by rfl) (fun iv1 pq1 => ?_)
  obtain ⟨rb1, rq1, trb1⟩ := hW.ref t_a0 1 rfl rfl rfl
  refine hv3 (hW.isz t_a0 rfl rfl rq1) (hF0.puti hX0 pq1 t_a0 rfl) (show iv1 a0 2 = 0 from by rw [pq1]; exact up2_s) (fun szrb1 F1 ie1 => ?_)
  have W1 := hW.isz_put pq1 t_a0 (show 0 ≤ 0 ∧ 0 ≤ 4001 by omega) rfl rfl rq1 (show 0 ≤ ((ln rb1 : Nat) : Int) by omega)
  have ri1 : 0 ≤ iv1 a0 2 ∧ iv1 a0 2 ≤ 4001 := W1.int t_a0 2
  exact c_vret C dX1_clear_5 rfl (by decide) (rom0 hph hph (by decide)) ⟨rfl, rfl, rfl, rfl, rfl, F1, W1, (by omega)⟩
set_option maxHeartbeats 4000000 in
set_option maxRecDepth 100000 in
theorem C_at_11 {l : Launch} {G : GT} {mi : Nat} {sk : Nat → Nat} {L : List Nat} {cl ln : Nat → Nat} {iv : Nat → Nat → Int} {rv : Nat → Nat → Option Nat}  {a0 : Nat} {i : Int} (hW : WT (g0 G) sk L cl ln iv rv) (hS : SKL sk L cl) (t_a0 : ty L cl a0 11) (h_i : -2147483648 ≤ i ∧ i ≤ 2147483647)  : Mc l G mi (Phi (g0 G) sk) PHM yX1_at cX1_at 2 (some .int) 0 [.ref a0, .int (iI i)] L cl ln iv rv 0 (fun v L2 cl2 ln2 iv2 rv2 => ∃ f : Int, v = some (.int (iI f)) ∧ L = L2 ∧ cl = cl2 ∧ ln = ln2 ∧ iv = iv2 ∧ rv = rv2 ∧ (-2147483648 ≤ f ∧ f ≤ 2147483647) ∧ (((0 ≤ i ∧ i < iv a0 2) ∨ f = 0) ∧ ∀ ss, CT iv rv a0 ss → 0 ≤ i → i < iv a0 2 → f = ss i.toNat)) := by
  refine Mc.mk (by decide) (Nat.le_of_ble_eq_true rfl) ?_
  intro p e s m args below meth c A C hM
  refine hv3 (Phi.le hW hS) (show XT L cl ln L cl ln from XT.refl) (show fT [] L cl iv rv iv rv from fT.refl) (fun hph hX0 hF0 => ?_)
  refine c_iload_n (j := 1) C dX1_at_0 rfl ?_
  refine c_if_lt (tgt := 21) C ⟨by omega, by omega⟩ dX1_at_1 (by decide) (fun c1 => ?_) (fun c1 => ?_)
  · refine c_iconst C dX1_at_21 ?_
    exact c_iret C dX1_at_22 rfl (by decide) (rom0 hph hph (by decide)) ⟨0, rfl, rfl, rfl, rfl, rfl, rfl, ⟨by decide, by decide⟩, ⟨by omega, fun ss hs h1 h2 => absurd h2 (by omega)⟩⟩
  · refine c_iload_n (j := 1) C dX1_at_4 rfl ?_
    refine c_aload_n (j := 0) (x := a0) C dX1_at_5 rfl ?_
    have ri1 : 0 ≤ iv a0 2 ∧ iv a0 2 ≤ 40000 := hW.int t_a0 2
    refine c_get (k := 2) C ck_2 dX1_at_6 w1_43 (by decide) t_a0 rfl rfl (by decide) rfl ?_
    refine c_icmp_ge (tgt := 21) C ⟨by omega, by omega⟩ (r32_c (lo := 0) (hi := 40000) ri1.1 ri1.2 (by decide) (by decide)) dX1_at_9 (by decide) (fun c2 => ?_) (fun c2 => ?_)
    · refine c_iconst C dX1_at_21 ?_
      exact c_iret C dX1_at_22 rfl (by decide) (rom0 hph hph (by decide)) ⟨0, rfl, rfl, rfl, rfl, rfl, rfl, ⟨by decide, by decide⟩, ⟨by omega, fun ss hs h1 h2 => absurd h2 (by omega)⟩⟩
    · refine c_aload_n (j := 0) (x := a0) C dX1_at_12 rfl ?_
      obtain ⟨rb1, rq1, trb1⟩ := hW.ref t_a0 1 rfl rfl rfl
      refine hv2 (show 16 ≤ ln rb1 ∧ ln rb1 ≤ 80000 from hW.len trb1 rfl) (hW.isz t_a0 rfl rfl rq1) (fun lnrb1 szrb1 => ?_)
      refine c_getr (k := 1) C ck_2 dX1_at_13 w1_39 (by decide) t_a0 rfl rfl (by decide) rfl rq1 ?_
      refine c_st (st2 := [.ref rb1]) rfl ?_
      refine c_iload_n (j := 1) C dX1_at_16 rfl ?_
      have ll1 : 16 ≤ ln rb1 ∧ ln rb1 ≤ 80000 := hW.len trb1 rfl
      refine c_iald C dX1_at_17 trb1 rfl (by omega) (by omega) (by omega) ?_
      have ri2 : (-2147483648) ≤ iv rb1 i.toNat ∧ iv rb1 i.toNat ≤ 2147483647 := hW.int trb1 i.toNat
      refine c_goto (tgt := 22) C dX1_at_18 (by decide) ?_
      exact c_iret C dX1_at_22 rfl (by decide) (rom0 hph hph (by decide)) ⟨(iv rb1 i.toNat), rfl, rfl, rfl, rfl, rfl, rfl, ⟨by omega, by omega⟩, ⟨by omega, fun ss hs h1 h2 => hs rb1 rq1 i.toNat (by omega)⟩⟩
set_option maxHeartbeats 4000000 in
set_option maxRecDepth 100000 in
theorem C_clear_11 {l : Launch} {G : GT} {mi : Nat} {sk : Nat → Nat} {L : List Nat} {cl ln : Nat → Nat} {iv : Nat → Nat → Int} {rv : Nat → Nat → Option Nat}  {a0 : Nat} (hW : WT (g0 G) sk L cl ln iv rv) (hS : SKL sk L cl) (t_a0 : ty L cl a0 11)  : Mc l G mi (Phi (g0 G) sk) PHM yX1_clear cX1_clear 1 none 0 [.ref a0] L cl ln iv rv 0 (fun v L2 cl2 ln2 iv2 rv2 => v = none ∧ L = L2 ∧ cl = cl2 ∧ ln = ln2 ∧ rv = rv2 ∧ fT [11] L cl iv rv iv2 rv2 ∧ WT (g0 G) sk L2 cl2 ln2 iv2 rv2 ∧ (iv2 a0 2 = 0)) := by
  refine Mc.mk (by decide) (Nat.le_of_ble_eq_true rfl) ?_
  intro p e s m args below meth c A C hM
  refine hv3 (Phi.le hW hS) (show XT L cl ln L cl ln from XT.refl) (show fT [11] L cl iv rv iv rv from fT.refl) (fun hph hX0 hF0 => ?_)
  refine c_aload_n (j := 0) (x := a0) C dX1_clear_0 rfl ?_
  refine c_iconst C dX1_clear_1 ?_
  refine c_put (z := 0) (k := 2) C ck_2 dX1_clear_2 w1_43 (by decide) rfl t_a0 rfl rfl (by decide) rfl (by rfl) (by rfl) (fun iv1 pq1 => ?_)
  obtain ⟨rb1, rq1, trb1⟩ := hW.ref t_a0 1 rfl rfl rfl
  refine hv3 (hW.isz t_a0 rfl rfl rq1) (hF0.puti hX0 pq1 t_a0 rfl) (show iv1 a0 2 = 0 from by rw [pq1]; exact up2_s) (fun szrb1 F1 ie1 => ?_)
  have W1 := hW.isz_put pq1 t_a0 (show 0 ≤ 0 ∧ 0 ≤ 40000 by omega) rfl rfl rq1 (show 0 ≤ ((ln rb1 : Nat) : Int) by omega)
  have ri1 : 0 ≤ iv1 a0 2 ∧ iv1 a0 2 ≤ 40000 := W1.int t_a0 2
  exact c_vret C dX1_clear_5 rfl (by decide) (rom0 hph hph (by decide)) ⟨rfl, rfl, rfl, rfl, rfl, F1, W1, (by omega)⟩
set_option maxHeartbeats 4000000 in
set_option maxRecDepth 100000 in
theorem C_keep_2 {l : Launch} {G : GT} {mi : Nat} {sk : Nat → Nat} {L : List Nat} {cl ln : Nat → Nat} {iv : Nat → Nat → Int} {rv : Nat → Nat → Option Nat}  {a0 : Nat} {n : Int} (hW : WT (g0 G) sk L cl ln iv rv) (hS : SKL sk L cl) (t_a0 : ty L cl a0 2) (h_n : -2147483648 ≤ n ∧ n ≤ 2147483647)  : Mc l G mi (Phi (g0 G) sk) PHM yX1_keep cX1_keep 2 none 1 [.ref a0, .int (iI n)] L cl ln iv rv 0 (fun v L2 cl2 ln2 iv2 rv2 => v = none ∧ L = L2 ∧ cl = cl2 ∧ ln = ln2 ∧ rv = rv2 ∧ fT [2] L cl iv rv iv2 rv2 ∧ WT (g0 G) sk L2 cl2 ln2 iv2 rv2 ∧ (iv2 a0 2 ≤ iv a0 2 ∧ (n < 0 ∨ iv a0 2 < n ∨ iv2 a0 2 = n))) := by
  refine Mc.mk (by decide) (Nat.le_of_ble_eq_true rfl) ?_
  intro p e s m args below meth c A C hM
  refine hv3 (Phi.le hW hS) (show XT L cl ln L cl ln from XT.refl) (show fT [2] L cl iv rv iv rv from fT.refl) (fun hph hX0 hF0 => ?_)
  refine c_aload_n (j := 0) (x := a0) C dX1_keep_0 rfl ?_
  refine c_iconst C dX1_keep_1 ?_
  refine c_aload_n (j := 0) (x := a0) C dX1_keep_2 rfl ?_
  have ri1 : 0 ≤ iv a0 2 ∧ iv a0 2 ≤ 3000 := hW.int t_a0 2
  refine c_get (k := 2) C ck_2 dX1_keep_3 w1_43 (by decide) t_a0 rfl rfl (by decide) rfl ?_
  refine c_iload_n (j := 1) C dX1_keep_6 rfl ?_
  obtain ⟨mn1, hmn1, emn1⟩ := mmin_c (x := iv a0 2) (y := n) (r32_c (lo := 0) (hi := 3000) ri1.1 ri1.2 (by decide) (by decide)) ⟨by omega, by omega⟩
  refine c_mmin (w := iI mn1) C dX1_keep_7 w2_146 w2_129 w1_14 w2_130 (by decide) (rom0 hph hph (by decide)) (Nat.le_of_ble_eq_true rfl) emn1 ?_
  obtain ⟨mn2, hmn2, emn2⟩ := mmax_c (x := 0) (y := mn1) ⟨by decide, by decide⟩ ⟨by omega, by omega⟩
  refine c_mmax (w := iI mn2) C dX1_keep_10 w2_147 w2_148 w1_14 w2_149 (by decide) (rom0 hph hph (by decide)) (Nat.le_of_ble_eq_true rfl) emn2 ?_
  refine c_put (z := mn2) (k := 2) C ck_2 dX1_keep_13 w1_43 (by decide) rfl t_a0 rfl rfl (by decide) rfl (by rfl) (by rfl) (fun iv1 pq1 => ?_)
  obtain ⟨rb1, rq1, trb1⟩ := hW.ref t_a0 1 rfl rfl rfl
  refine hv3 (hW.isz t_a0 rfl rfl rq1) (hF0.puti hX0 pq1 t_a0 rfl) (show iv1 a0 2 = mn2 from by rw [pq1]; exact up2_s) (fun szrb1 F1 ie1 => ?_)
  have W1 := hW.isz_put pq1 t_a0 (show 0 ≤ mn2 ∧ mn2 ≤ 3000 by omega) rfl rfl rq1 (show mn2 ≤ ((ln rb1 : Nat) : Int) by omega)
  have ri2 : 0 ≤ iv1 a0 2 ∧ iv1 a0 2 ≤ 3000 := W1.int t_a0 2
  exact c_vret C dX1_keep_16 rfl (by decide) (rom0 hph hph (by decide)) ⟨rfl, rfl, rfl, rfl, rfl, F1, W1, (by omega)⟩
set_option maxHeartbeats 4000000 in
set_option maxRecDepth 100000 in
theorem C_keep_12 {l : Launch} {G : GT} {mi : Nat} {sk : Nat → Nat} {L : List Nat} {cl ln : Nat → Nat} {iv : Nat → Nat → Int} {rv : Nat → Nat → Option Nat}  {a0 : Nat} {n : Int} (hW : WT (g0 G) sk L cl ln iv rv) (hS : SKL sk L cl) (t_a0 : ty L cl a0 12) (h_n : -2147483648 ≤ n ∧ n ≤ 2147483647)  : Mc l G mi (Phi (g0 G) sk) PHM yX1_keep cX1_keep 2 none 1 [.ref a0, .int (iI n)] L cl ln iv rv 0 (fun v L2 cl2 ln2 iv2 rv2 => v = none ∧ L = L2 ∧ cl = cl2 ∧ ln = ln2 ∧ rv = rv2 ∧ fT [12] L cl iv rv iv2 rv2 ∧ WT (g0 G) sk L2 cl2 ln2 iv2 rv2 ∧ (iv2 a0 2 ≤ iv a0 2 ∧ (n < 0 ∨ iv a0 2 < n ∨ iv2 a0 2 = n)) ∧ (∀ bb, ty L cl bb 12 → bb ≠ a0 → iv2 bb 2 = iv bb 2)) := by
  refine Mc.mk (by decide) (Nat.le_of_ble_eq_true rfl) ?_
  intro p e s m args below meth c A C hM
  refine hv3 (Phi.le hW hS) (show XT L cl ln L cl ln from XT.refl) (show fT [12] L cl iv rv iv rv from fT.refl) (fun hph hX0 hF0 => ?_)
  refine c_aload_n (j := 0) (x := a0) C dX1_keep_0 rfl ?_
  refine c_iconst C dX1_keep_1 ?_
  refine c_aload_n (j := 0) (x := a0) C dX1_keep_2 rfl ?_
  have ri1 : 0 ≤ iv a0 2 ∧ iv a0 2 ≤ 200 := hW.int t_a0 2
  refine c_get (k := 2) C ck_2 dX1_keep_3 w1_43 (by decide) t_a0 rfl rfl (by decide) rfl ?_
  refine c_iload_n (j := 1) C dX1_keep_6 rfl ?_
  obtain ⟨mn1, hmn1, emn1⟩ := mmin_c (x := iv a0 2) (y := n) (r32_c (lo := 0) (hi := 200) ri1.1 ri1.2 (by decide) (by decide)) ⟨by omega, by omega⟩
  refine c_mmin (w := iI mn1) C dX1_keep_7 w2_146 w2_129 w1_14 w2_130 (by decide) (rom0 hph hph (by decide)) (Nat.le_of_ble_eq_true rfl) emn1 ?_
  obtain ⟨mn2, hmn2, emn2⟩ := mmax_c (x := 0) (y := mn1) ⟨by decide, by decide⟩ ⟨by omega, by omega⟩
  refine c_mmax (w := iI mn2) C dX1_keep_10 w2_147 w2_148 w1_14 w2_149 (by decide) (rom0 hph hph (by decide)) (Nat.le_of_ble_eq_true rfl) emn2 ?_
  refine c_put (z := mn2) (k := 2) C ck_2 dX1_keep_13 w1_43 (by decide) rfl t_a0 rfl rfl (by decide) rfl (by rfl) (by rfl) (fun iv1 pq1 => ?_)
  obtain ⟨rb1, rq1, trb1⟩ := hW.ref t_a0 1 rfl rfl rfl
  refine hv3 (hW.isz t_a0 rfl rfl rq1) (hF0.puti hX0 pq1 t_a0 rfl) (show iv1 a0 2 = mn2 from by rw [pq1]; exact up2_s) (fun szrb1 F1 ie1 => ?_)
  have W1 := hW.isz_put pq1 t_a0 (show 0 ≤ mn2 ∧ mn2 ≤ 200 by omega) rfl rfl rq1 (show mn2 ≤ ((ln rb1 : Nat) : Int) by omega)
  have ri2 : 0 ≤ iv1 a0 2 ∧ iv1 a0 2 ≤ 200 := W1.int t_a0 2
  exact c_vret C dX1_keep_16 rfl (by decide) (rom0 hph hph (by decide)) ⟨rfl, rfl, rfl, rfl, rfl, F1, W1, (by omega), (fun bb tbb hbb => by exact (show iv1 bb 2 = iv bb 2 from (by rw [pq1]; exact up2_k hbb)))⟩
set_option maxHeartbeats 4000000 in
set_option maxRecDepth 100000 in
theorem C_isWithin_2 {l : Launch} {G : GT} {mi : Nat} {sk : Nat → Nat} {L : List Nat} {cl ln : Nat → Nat} {iv : Nat → Nat → Int} {rv : Nat → Nat → Option Nat}  {a0 : Nat} {i : Int} {j : Int} {lo : Int} {hi : Int} (hW : WT (g0 G) sk L cl ln iv rv) (hS : SKL sk L cl) (t_a0 : ty L cl a0 2) (h_i : -2147483648 ≤ i ∧ i ≤ 2147483647) (h_j : -2147483648 ≤ j ∧ j ≤ 2147483647) (h_lo : -2147483648 ≤ lo ∧ lo ≤ 2147483647) (h_hi : -2147483648 ≤ hi ∧ hi ≤ 2147483647)  : Mc l G mi (Phi (g0 G) sk) PHM yX1_isWithin cX1_isWithin 6 (some .boolean) 1 [.ref a0, .int (iI i), .int (iI j), .int (iI lo), .int (iI hi)] L cl ln iv rv 0 (fun v L2 cl2 ln2 iv2 rv2 => ∃ f : Int, v = some (.int (iI f)) ∧ L = L2 ∧ cl = cl2 ∧ ln = ln2 ∧ iv = iv2 ∧ rv = rv2 ∧ (f = 0 ∨ f = 1) ∧ (∀ ss, CT iv rv a0 ss → 0 ≤ i → j ≤ iv a0 2 → (f = 1 ↔ ∀ x : Nat, i ≤ (x : Int) → (x : Int) < j → lo ≤ ss x ∧ ss x ≤ hi))) := by
  refine Mc.mk (by decide) (Nat.le_of_ble_eq_true rfl) ?_
  intro p e s m args below meth c A C hM
  refine hv3 (Phi.le hW hS) (show XT L cl ln L cl ln from XT.refl) (show fT [] L cl iv rv iv rv from fT.refl) (fun hph hX0 hF0 => ?_)
  refine c_iload_n (j := 1) C dX1_isWithin_0 rfl ?_
  refine c_istore (lv2 := [(5, .int (iI i)), (0, .ref a0), (1, .int (iI i)), (2, .int (iI j)), (3, .int (iI lo)), (4, .int (iI hi))]) C dX1_isWithin_1 (by decide) rfl ?_
  have Lp1 : ∀ (nn : Nat) (k : Int) , max 0 (j - k) < (nn : Int) → (i ≤ k ∧ k ≤ 2147483647) → (∀ ss, CT iv rv a0 ss → 0 ≤ i → j ≤ iv a0 2 → ∀ x : Nat, i ≤ (x : Int) → (x : Int) < k → lo ≤ ss x ∧ ss x ≤ hi) → cw p l e 1 ((PHM) + 0 - ((Phi (g0 G) sk) ln rv)) s m args below meth c G A 6 (MQ below (Qu G A (Qp G (Phi (g0 G) sk) ((Phi (g0 G) sk) ln rv) 0 (fun v L2 cl2 ln2 iv2 rv2 => ∃ f : Int, v = some (.int (iI f)) ∧ L = L2 ∧ cl = cl2 ∧ ln = ln2 ∧ iv = iv2 ∧ rv = rv2 ∧ (f = 0 ∨ f = 1) ∧ (∀ ss, CT iv rv a0 ss → 0 ≤ i → j ≤ iv a0 2 → (f = 1 ↔ ∀ x : Nat, i ≤ (x : Int) → (x : Int) < j → lo ≤ ss x ∧ ss x ≤ hi))))) args s (((PHM) + 0 - ((Phi (g0 G) sk) ln rv)) / 16) ((PHM) + 0 - ((Phi (g0 G) sk) ln rv)) A) (Phi (g0 G) sk) ((Phi (g0 G) sk) ln rv) L cl ln iv rv 0 3 [(5, .int (iI k)), (0, .ref a0), (1, .int (iI i)), (2, .int (iI j)), (3, .int (iI lo)), (4, .int (iI hi))] [] := by
    intro nn
    induction nn with
    | zero =>
      intro  k  hm   hk hall
      exact absurd hm (by omega)
    | succ nn ih1 =>
      intro  k  hm   hk hall
      refine c_iload (j := 0) C dX1_isWithin_3 rfl ?_
      refine c_iload_n (j := 3) C dX1_isWithin_5 rfl ?_
      refine c_icmp_ge (tgt := 38) C ⟨by omega, by omega⟩ ⟨by omega, by omega⟩ dX1_isWithin_6 (by decide) (fun c1 => ?_) (fun c1 => ?_)
      · refine c_iconst C dX1_isWithin_38 ?_
        exact c_zret C dX1_isWithin_39 rfl (Or.inr rfl) (by decide) (rom0 hph hph (by decide)) ⟨1, rfl, rfl, rfl, rfl, rfl, rfl, (Or.inr rfl), (fun ss hs h0 h1 => ⟨fun _ x hx hy => hall ss hs h0 h1 x hx (by omega), fun _ => rfl⟩)⟩
      · refine c_aload_n (j := 1) (x := a0) C dX1_isWithin_9 rfl ?_
        refine c_iload (j := 0) C dX1_isWithin_10 rfl ?_
        have ri1 : 0 ≤ iv a0 2 ∧ iv a0 2 ≤ 3000 := hW.int t_a0 2
        refine d_callV (As := [.int (iI k)]) (rest := []) C hM (C_at_2 (a0 := a0) (i := k) hW hS t_a0 (by omega) ) dX1_isWithin_12 kV_X1_39 rfl t_a0 rfl rfl (by decide) ck_2 rfl (Nat.le_of_ble_eq_true rfl) ⟨(Nat.le_of_ble_eq_true rfl), (Nat.le_of_ble_eq_true rfl)⟩ hph hph (show 0 + 0 = 0 from rfl) (by decide) (fun rh1 Lh1 clh1 lnh1 ivh1 rvh1 h1 => ?_)
        obtain ⟨f1, rfl, rfl, rfl, rfl, rfl, rfl, rgf1, exf1⟩ := h1
        refine c_st (st2 := [.int (iI f1)]) rfl ?_
        have gf1 : ((0 ≤ k ∧ k < iv a0 2) ∨ f1 = 0) ∧ ∀ ss, CT iv rv a0 ss → 0 ≤ k → k < iv a0 2 → f1 = ss k.toNat := exf1
        refine c_iload_n (j := 4) C dX1_isWithin_15 rfl ?_
        refine c_icmp_lt (tgt := 30) C ⟨by omega, by omega⟩ ⟨by omega, by omega⟩ dX1_isWithin_16 (by decide) (fun c2 => ?_) (fun c2 => ?_)
        · refine c_iconst C dX1_isWithin_30 ?_
          exact c_zret C dX1_isWithin_31 rfl (Or.inl rfl) (by decide) (rom0 hph hph (by decide)) ⟨0, rfl, rfl, rfl, rfl, rfl, rfl, (Or.inl rfl), (fun ss hs h0 h1 => ⟨fun q => absurd q (by decide), fun q => by have e1 := gf1.2 ss hs (by omega) (by omega); have e2 := q k.toNat (by omega) (by omega); rw [← e1] at e2; omega⟩)⟩
        · refine c_aload_n (j := 1) (x := a0) C dX1_isWithin_19 rfl ?_
          refine c_iload (j := 0) C dX1_isWithin_20 rfl ?_
          refine d_callV (As := [.int (iI k)]) (rest := []) C hM (C_at_2 (a0 := a0) (i := k) hW hS t_a0 (by omega) ) dX1_isWithin_22 kV_X1_39 rfl t_a0 rfl rfl (by decide) ck_2 rfl (Nat.le_of_ble_eq_true rfl) ⟨(Nat.le_of_ble_eq_true rfl), (Nat.le_of_ble_eq_true rfl)⟩ hph hph (show 0 + 0 = 0 from rfl) (by decide) (fun rh2 Lh2 clh2 lnh2 ivh2 rvh2 h2 => ?_)
          obtain ⟨f2, rfl, rfl, rfl, rfl, rfl, rfl, rgf2, exf2⟩ := h2
          refine c_st (st2 := [.int (iI f2)]) rfl ?_
          have gf2 : ((0 ≤ k ∧ k < iv a0 2) ∨ f2 = 0) ∧ ∀ ss, CT iv rv a0 ss → 0 ≤ k → k < iv a0 2 → f2 = ss k.toNat := exf2
          refine c_iload (j := 5) C dX1_isWithin_25 rfl ?_
          refine c_icmp_le (tgt := 32) C ⟨by omega, by omega⟩ ⟨by omega, by omega⟩ dX1_isWithin_27 (by decide) (fun c3 => ?_) (fun c3 => ?_)
          · refine c_iinc (z := k) (j := 0) (lv2 := [(5, .int (iI (k + 1))), (0, .ref a0), (1, .int (iI i)), (2, .int (iI j)), (3, .int (iI lo)), (4, .int (iI hi))]) C dX1_isWithin_32 rfl (by decide) rfl ?_
            refine c_goto (tgt := 3) C dX1_isWithin_35 (by decide) ?_
            refine c_lv (lv2 := [(5, .int (iI (k + 1))), (0, .ref a0), (1, .int (iI i)), (2, .int (iI j)), (3, .int (iI lo)), (4, .int (iI hi))]) [0, 1, 2, 3, 4, 5] rfl ?_
            exact ih1  (k + 1)  (by omega)   (by omega) (fun ss hs h0 h1 x hx hy => by
                by_cases e : (x : Int) < k
                · exact hall ss hs h0 h1 x hx e
                · have e1 := gf1.2 ss hs (by omega) (by omega)
                  have e2 := gf2.2 ss hs (by omega) (by omega)
                  rw [show x = k.toNat by omega, ← e1]
                  have e3 : f1 = f2 := e1.trans e2.symm
                  exact ⟨by omega, by omega⟩)
          · refine c_iconst C dX1_isWithin_30 ?_
            exact c_zret C dX1_isWithin_31 rfl (Or.inl rfl) (by decide) (rom0 hph hph (by decide)) ⟨0, rfl, rfl, rfl, rfl, rfl, rfl, (Or.inl rfl), (fun ss hs h0 h1 => ⟨fun q => absurd q (by decide), fun q => by have e1 := gf2.2 ss hs (by omega) (by omega); have e2 := q k.toNat (by omega) (by omega); rw [← e1] at e2; omega⟩)⟩
  refine c_lv (lv2 := [(5, .int (iI i)), (0, .ref a0), (1, .int (iI i)), (2, .int (iI j)), (3, .int (iI lo)), (4, .int (iI hi))]) [0, 1, 2, 3, 4, 5] rfl ?_
  exact Lp1 4294967297 i  (by omega)   (by omega) (fun ss hs h0 h1 x hx hy => absurd hy (by omega))
end
