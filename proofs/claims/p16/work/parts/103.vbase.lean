section NEWS
variable {g : Nat} {sk : Nat → Nat} {L : List Nat} {cl ln cl2 ln2 : Nat → Nat} {iv iv2 : Nat → Nat → Int} {rv rv2 : Nat → Nat → Option Nat} {a b q t T k : Nat} {z : Int}
theorem rok.mono {L2 : List Nat} {x : Option Nat} (h : rok L cl g a k x) (hL : ∀ w ∈ L, w ∈ L2 ∧ cl2 w = cl w) (ha : cl2 a = cl a) : rok L2 cl2 g a k x := by
  intro hr
  rw [ha] at hr ⊢
  obtain ⟨h1, h2⟩ := h hr
  refine ⟨h1, fun b hb => ?_⟩
  rcases h2 b hb with w | w
  · refine Or.inl ⟨(hL b w.1).1, by rw [(hL b w.1).2]; exact w.2.1, ?_, ?_⟩
    · rw [ha, (hL b w.1).2]; exact w.2.2.1
    · rw [ha, (hL b w.1).2]; exact w.2.2.2
  · exact Or.inr w
theorem WT.ed (h : WT g sk L cl ln iv rv) (ha : a ∈ L) (hs : szd (bt (cl a)) = true) (hb : rv a 1 = some b) : b ∈ L ∨ b = g := by
  rcases (h.2.1 a ha 1 (by unfold raw; unfold szd lst at hs; simp at hs ⊢; omega)).2 b hb with w | w
  · exact Or.inl w.1
  · exact Or.inr w.1
theorem WT.new (h : WT g sk L cl ln iv rv) (hq : q ∉ L) (hg : q ≠ g) (hcl : cl2 = va_up cl q t) (hln : ∀ b, b ≠ q → ln2 b = ln b) (hiv : iv2 = up0 iv q 0) (hrv : rv2 = up0 rv q none) (hb : ∀ k, ilo (bt t) k ≤ 0 ∧ 0 ≤ ihi (bt t) k) (hn : raw (bt t) = true ∨ ∀ k, nul (bt t) k = true) (hlen : arr (bt t) = true → llo (bt t) ≤ ln2 q ∧ ln2 q ≤ lhi (bt t)) (hs : szd (bt t) = false) (hu : uq t = false) : WT g sk (L ++ [q]) cl2 ln2 iv2 rv2 := by
  subst hcl; subst hiv; subst hrv
  have hne : ∀ w, w ∈ L → w ≠ q := fun w hw e => hq (e ▸ hw)
  have hL : ∀ w ∈ L, w ∈ L ++ [q] ∧ va_up cl q t w = cl w := fun w hw => ⟨List.mem_append_left _ hw, va_up_ne _ _ (hne w hw)⟩
  have cas : ∀ w ∈ L ++ [q], w ∈ L ∨ w = q := fun w hw => by
    rcases List.mem_append.mp hw with e | e
    · exact Or.inl e
    · exact Or.inr (List.mem_singleton.mp e)
  obtain ⟨h1, h2, h3, h4, h5, h6, h7⟩ := id h
  refine ⟨fun w hw j => ?_, fun w hw j => ?_, fun w hw => ?_, fun w hw => ?_, fun w hw => ?_, fun w hw => ?_, fun hgm => ?_⟩
  · rcases cas w hw with e | e
    · rw [(hL w e).2, up0_a (hne w e)]; exact h1 w e j
    · subst e; rw [va_up_self, up0_s]; exact hb j
  · rcases cas w hw with e | e
    · rw [up0_a (hne w e)]; exact (h2 w e j).mono hL (hL w e).2
    · subst e
      rw [up0_s]
      intro hr
      rw [va_up_self] at hr ⊢
      refine ⟨fun _ => ?_, fun b hb => by cases hb⟩
      rcases hn with w | w
      · rw [hr] at w; cases w
      · exact w j
  · rcases cas w hw with e | e
    · rw [(hL w e).2, hln w (hne w e)]; exact h3 w e
    · subst e; rw [va_up_self]; exact hlen
  · rcases cas w hw with e | e
    · rw [(hL w e).2, up0_a (hne w e), up0_a (hne w e)]
      intro hz b hb
      rcases h4 w e hz b hb with q1 | q1
      · exact Or.inl q1
      · exact Or.inr ⟨List.mem_append_left _ q1.1, by rw [hln b (hne b q1.1)]; exact q1.2⟩
    · subst e; rw [va_up_self, hs]; intro hz; cases hz
  · rcases cas w hw with e | e
    · rw [(hL w e).2, up0_a (hne w e), up0_a (hne w e)]
      intro hz b hb i hi
      have hbq : b ≠ q := by
        rcases WT.ed h e (lst_szd hz) hb with q1 | q1
        · exact hne b q1
        · rw [q1]; exact hg.symm
      rw [up0_a hbq]
      exact h5 w e hz b hb i hi
    · subst e; rw [va_up_self]; intro hz; rw [lst_szd hz] at hs; cases hs
  · rcases cas w hw with e | e
    · rw [(hL w e).2]; exact h6 w e
    · subst e; rw [va_up_self, hu]; intro hz; cases hz
  · rcases cas g hgm with e | e
    · exact h7 e
    · exact hg e.symm
theorem XT.new (hq : q ∉ L) (hcl : cl2 = va_up cl q t) (hln : ∀ b, b ≠ q → ln2 b = ln b) : XT L cl ln (L ++ [q]) cl2 ln2 := fun a ha => ⟨List.mem_append_left _ ha, by rw [hcl]; exact va_up_ne _ _ (fun e => hq (e ▸ ha)), hln a (fun e => hq (e ▸ ha))⟩
theorem ty_new (hcl : cl2 = va_up cl q t) : ty (L ++ [q]) cl2 q (bt t) := ⟨List.mem_append_right _ List.mem_cons_self, by rw [hcl, va_up_self]⟩
theorem fT.new {ls L0 : List Nat} {cl0 ln0 : Nat → Nat} {iv0 iv3 : Nat → Nat → Int} {rv0 rv3 : Nat → Nat → Option Nat} (h : fT ls L0 cl0 iv0 rv0 iv rv) (hX : XT L0 cl0 ln0 L cl ln) (hq : q ∉ L) (hiv : iv3 = up0 iv q 0) (hrv : rv3 = up0 rv q none) : fT ls L0 cl0 iv0 rv0 iv3 rv3 := by
  intro b hb hl
  have hne : b ≠ q := fun e => hq (e ▸ (hX b hb).1)
  rw [hiv, hrv, up0_a hne, up0_a hne]
  exact h b hb hl
theorem Phi.new (h : WT g sk L cl ln iv rv) (hS : SKL sk L cl) (hq : q ∉ L) (hln : ∀ b, b ≠ q → ln2 b = ln b) (hrv : rv2 = up0 rv q none) : Phi g sk ln2 rv2 = Phi g sk ln rv := by
  have hne : ∀ t, uq t = true → sk t ≠ q := fun t ht e => hq (e ▸ (hS t ht).1)
  refine Phi.congr (fun t ht hp => ?_) (fun t b ht hp hs hb hg => ?_)
  · rw [hrv, up0_a (hne t ht)]
  · refine hln b (fun e => ?_)
    rcases WT.ed h (hS t ht).1 (by
      rw [(hS t ht).2]
      unfold szd lst at hs ⊢
      simp at hs ⊢
      unfold bt
      split <;> (try split) <;> (try split) <;> omega) hb with q1 | q1
    · exact hq (e ▸ q1)
    · exact hg q1
theorem WT.retag (h : WT g sk L cl ln iv rv) (hq : q ∈ L) (hraw : raw (bt (cl q)) = true) (hcl : cl2 = va_up cl q t) (hb : ∀ k, ilo (bt t) k ≤ iv q k ∧ iv q k ≤ ihi (bt t) k) (hr : ∀ k, rok L cl2 g q k (rv q k)) (ha : arr (bt t) = false) (hs : szd (bt t) = true → ∀ b, rv q 1 = some b → (b = g ∧ iv q 2 = 0) ∨ (b ∈ L ∧ iv q 2 ≤ ((ln b : Nat) : Int))) (hl : lst (bt t) = true → ∀ b, rv q 1 = some b → ∀ i : Nat, (i : Int) < iv q 2 → rv b i ≠ none) (hu : uq t = false) : WT g sk L cl2 ln iv rv := by
  subst hcl
  have ho : ∀ w, w ≠ q → va_up cl q t w = cl w := fun w hw => va_up_ne _ _ hw
  obtain ⟨h1, h2, h3, h4, h5, h6, h7⟩ := id h
  have tg0 : ∀ T k, raw (tgt T k) = false := by
    intro T k
    unfold tgt raw
    split <;> (try split) <;> rfl
  refine ⟨fun w hw j => ?_, fun w hw j => ?_, fun w hw => ?_, fun w hw => ?_, fun w hw => ?_, fun w hw => ?_, h7⟩
  · by_cases e : w = q
    · subst e; rw [va_up_self]; exact hb j
    · rw [ho w e]; exact h1 w hw j
  · by_cases e : w = q
    · subst e; exact hr j
    · intro hrw
      rw [ho w e] at hrw ⊢
      obtain ⟨g1, g2⟩ := h2 w hw j hrw
      refine ⟨g1, fun b hb => ?_⟩
      rcases g2 b hb with c1 | c1
      · have hbq : b ≠ q := fun e2 => by rw [← e2, c1.2.1, tg0] at hraw; cases hraw
        refine Or.inl ⟨c1.1, by rw [ho b hbq]; exact c1.2.1, ?_, ?_⟩
        · rw [ho w e, ho b hbq]; exact c1.2.2.1
        · rw [ho w e, ho b hbq]; exact c1.2.2.2
      · exact Or.inr c1
  · by_cases e : w = q
    · subst e; rw [va_up_self, ha]; intro z; cases z
    · rw [ho w e]; exact h3 w hw
  · by_cases e : w = q
    · subst e; rw [va_up_self]; exact hs
    · rw [ho w e]; exact h4 w hw
  · by_cases e : w = q
    · subst e; rw [va_up_self]; exact hl
    · rw [ho w e]; exact h5 w hw
  · by_cases e : w = q
    · subst e; rw [va_up_self, hu]; intro z; cases z
    · rw [ho w e]; exact h6 w hw
theorem WT.putit (h : WT g sk L cl ln iv rv) (he : rv2 = upr rv a 1 (some b)) (ha : ty L cl a T) (hT : szd T = true) (hl : lst T = false) (hb : ty L cl b (tgt T 1)) (hs : iv a 2 ≤ ((ln b : Nat) : Int)) : WT g sk L cl ln iv rv2 := by
  subst he
  obtain ⟨h1, h2, h3, h4, h5, h6, h7⟩ := id h
  refine ⟨h1, fun w hw j => ?_, h3, fun w hw hz => ?_, fun w hw hz c hc i hi => ?_, h6, h7⟩
  · by_cases e : w = a
    · subst e
      by_cases ej : j = 1
      · subst ej
        rw [upr_s]
        intro hr
        refine ⟨(fun q => by cases q), fun c hc => ?_⟩
        cases hc
        refine Or.inl ⟨hb.1, by rw [hb.2, ha.2], ?_, ?_⟩
        · intro q; rw [ha.2] at q; subst q; cases hT
        · intro q; rw [ha.2, hl] at q; cases q
      · rw [upr_j ej]; exact h2 w hw j
    · rw [upr_a e]; exact h2 w hw j
  · by_cases e : w = a
    · subst e
      intro c hc
      rw [upr_s] at hc; cases hc
      exact Or.inr ⟨hb.1, hs⟩
    · rw [upr_a e]; exact h4 w hw hz
  · have e : w ≠ a := fun e => by subst e; rw [ha.2, hl] at hz; cases hz
    rw [upr_a e] at hc
    have hca : c ≠ a := by
      intro e2
      subst e2
      rcases (h2 w hw 1 (by unfold raw; unfold lst at hz; simp at hz ⊢; omega)).2 c hc with q | q
      · rw [ha.2, tgt_list hz] at q; unfold szd lst at hT; simp at hT; omega
      · exact h7 (q.1 ▸ ha.1)
    rw [upr_a hca]
    exact h5 w hw hz c hc i hi
theorem cap_up {x : Nat} (hx : x ≠ a) : cap g ln (upr rv a k (some b)) x = cap g ln rv x := by unfold cap; rw [upr_a hx]
theorem cap_s (hg : b ≠ g) : cap g ln (upr rv a 1 (some b)) a = ln b := by unfold cap; rw [upr_s]; show (if b = g then 0 else ln b) = ln b; rw [if_neg hg]
theorem cap_of (h : rv a 1 = some b) (hg : b ≠ g) : cap g ln rv a = ln b := by unfold cap; rw [h]; show (if b = g then 0 else ln b) = ln b; rw [if_neg hg]
theorem cap_g (h : rv a 1 = some g) : cap g ln rv a = 0 := by unfold cap; rw [h]; show (if g = g then 0 else ln g) = 0; rw [if_pos rfl]
theorem sk_ne (hS : SKL sk L cl) {t u : Nat} (ht : uq t = true) (hu : uq u = true) (h : t ≠ u) : sk t ≠ sk u := fun e => h (by rw [← (hS t ht).2, ← (hS u hu).2, e])
theorem Phi.grow (hS : SKL sk L cl) (he : rv2 = upr rv (sk t) 1 (some b)) (hg : b ≠ g) (ht : (2 ≤ t ∧ t ≤ 11) ∨ t = 24 ∨ t = 25) : Phi g sk ln rv2 + (if t < 20 then 3 else 8) * cap g ln rv (sk t) = Phi g sk ln rv + (if t < 20 then 3 else 8) * ln b := by
  subst he
  have : t = 2 ∨ t = 3 ∨ t = 4 ∨ t = 5 ∨ t = 6 ∨ t = 7 ∨ t = 8 ∨ t = 9 ∨ t = 10 ∨ t = 11 ∨ t = 24 ∨ t = 25 := by omega
  rcases this with rfl | rfl | rfl | rfl | rfl | rfl | rfl | rfl | rfl | rfl | rfl | rfl
  · have e1 := cap_s (g := g) (ln := ln) (rv := rv) (a := sk 2) hg
    refine hv13 (cap_up (g := g) (ln := ln) (rv := rv) (a := sk 2) (k := 1) (b := b) (sk_ne hS (t := 3) (u := 2) rfl rfl (by decide))) (cap_up (g := g) (ln := ln) (rv := rv) (a := sk 2) (k := 1) (b := b) (sk_ne hS (t := 4) (u := 2) rfl rfl (by decide))) (cap_up (g := g) (ln := ln) (rv := rv) (a := sk 2) (k := 1) (b := b) (sk_ne hS (t := 5) (u := 2) rfl rfl (by decide))) (cap_up (g := g) (ln := ln) (rv := rv) (a := sk 2) (k := 1) (b := b) (sk_ne hS (t := 6) (u := 2) rfl rfl (by decide))) (cap_up (g := g) (ln := ln) (rv := rv) (a := sk 2) (k := 1) (b := b) (sk_ne hS (t := 7) (u := 2) rfl rfl (by decide))) (cap_up (g := g) (ln := ln) (rv := rv) (a := sk 2) (k := 1) (b := b) (sk_ne hS (t := 8) (u := 2) rfl rfl (by decide))) (cap_up (g := g) (ln := ln) (rv := rv) (a := sk 2) (k := 1) (b := b) (sk_ne hS (t := 9) (u := 2) rfl rfl (by decide))) (cap_up (g := g) (ln := ln) (rv := rv) (a := sk 2) (k := 1) (b := b) (sk_ne hS (t := 10) (u := 2) rfl rfl (by decide))) (cap_up (g := g) (ln := ln) (rv := rv) (a := sk 2) (k := 1) (b := b) (sk_ne hS (t := 11) (u := 2) rfl rfl (by decide))) (cap_up (g := g) (ln := ln) (rv := rv) (a := sk 2) (k := 1) (b := b) (sk_ne hS (t := 24) (u := 2) rfl rfl (by decide))) (cap_up (g := g) (ln := ln) (rv := rv) (a := sk 2) (k := 1) (b := b) (sk_ne hS (t := 25) (u := 2) rfl rfl (by decide))) (show upr rv (sk 2) 1 (some b) (sk 67) = rv (sk 67) from upr_a (sk_ne hS (t := 67) (u := 2) rfl rfl (by decide))) (show upr rv (sk 2) 1 (some b) (sk 69) = rv (sk 69) from upr_a (sk_ne hS (t := 69) (u := 2) rfl rfl (by decide))) (fun c3 c4 c5 c6 c7 c8 c9 c10 c11 c24 c25 r1 r2 => ?_)
    unfold Phi
    rw [e1, c3, c4, c5, c6, c7, c8, c9, c10, c11, c24, c25, r1, r2]
    show _ + 3 * _ = _ + 3 * _
    omega
  · have e1 := cap_s (g := g) (ln := ln) (rv := rv) (a := sk 3) hg
    refine hv13 (cap_up (g := g) (ln := ln) (rv := rv) (a := sk 3) (k := 1) (b := b) (sk_ne hS (t := 2) (u := 3) rfl rfl (by decide))) (cap_up (g := g) (ln := ln) (rv := rv) (a := sk 3) (k := 1) (b := b) (sk_ne hS (t := 4) (u := 3) rfl rfl (by decide))) (cap_up (g := g) (ln := ln) (rv := rv) (a := sk 3) (k := 1) (b := b) (sk_ne hS (t := 5) (u := 3) rfl rfl (by decide))) (cap_up (g := g) (ln := ln) (rv := rv) (a := sk 3) (k := 1) (b := b) (sk_ne hS (t := 6) (u := 3) rfl rfl (by decide))) (cap_up (g := g) (ln := ln) (rv := rv) (a := sk 3) (k := 1) (b := b) (sk_ne hS (t := 7) (u := 3) rfl rfl (by decide))) (cap_up (g := g) (ln := ln) (rv := rv) (a := sk 3) (k := 1) (b := b) (sk_ne hS (t := 8) (u := 3) rfl rfl (by decide))) (cap_up (g := g) (ln := ln) (rv := rv) (a := sk 3) (k := 1) (b := b) (sk_ne hS (t := 9) (u := 3) rfl rfl (by decide))) (cap_up (g := g) (ln := ln) (rv := rv) (a := sk 3) (k := 1) (b := b) (sk_ne hS (t := 10) (u := 3) rfl rfl (by decide))) (cap_up (g := g) (ln := ln) (rv := rv) (a := sk 3) (k := 1) (b := b) (sk_ne hS (t := 11) (u := 3) rfl rfl (by decide))) (cap_up (g := g) (ln := ln) (rv := rv) (a := sk 3) (k := 1) (b := b) (sk_ne hS (t := 24) (u := 3) rfl rfl (by decide))) (cap_up (g := g) (ln := ln) (rv := rv) (a := sk 3) (k := 1) (b := b) (sk_ne hS (t := 25) (u := 3) rfl rfl (by decide))) (show upr rv (sk 3) 1 (some b) (sk 67) = rv (sk 67) from upr_a (sk_ne hS (t := 67) (u := 3) rfl rfl (by decide))) (show upr rv (sk 3) 1 (some b) (sk 69) = rv (sk 69) from upr_a (sk_ne hS (t := 69) (u := 3) rfl rfl (by decide))) (fun c2 c4 c5 c6 c7 c8 c9 c10 c11 c24 c25 r1 r2 => ?_)
    unfold Phi
    rw [e1, c2, c4, c5, c6, c7, c8, c9, c10, c11, c24, c25, r1, r2]
    show _ + 3 * _ = _ + 3 * _
    omega
  · have e1 := cap_s (g := g) (ln := ln) (rv := rv) (a := sk 4) hg
    refine hv13 (cap_up (g := g) (ln := ln) (rv := rv) (a := sk 4) (k := 1) (b := b) (sk_ne hS (t := 2) (u := 4) rfl rfl (by decide))) (cap_up (g := g) (ln := ln) (rv := rv) (a := sk 4) (k := 1) (b := b) (sk_ne hS (t := 3) (u := 4) rfl rfl (by decide))) (cap_up (g := g) (ln := ln) (rv := rv) (a := sk 4) (k := 1) (b := b) (sk_ne hS (t := 5) (u := 4) rfl rfl (by decide))) (cap_up (g := g) (ln := ln) (rv := rv) (a := sk 4) (k := 1) (b := b) (sk_ne hS (t := 6) (u := 4) rfl rfl (by decide))) (cap_up (g := g) (ln := ln) (rv := rv) (a := sk 4) (k := 1) (b := b) (sk_ne hS (t := 7) (u := 4) rfl rfl (by decide))) (cap_up (g := g) (ln := ln) (rv := rv) (a := sk 4) (k := 1) (b := b) (sk_ne hS (t := 8) (u := 4) rfl rfl (by decide))) (cap_up (g := g) (ln := ln) (rv := rv) (a := sk 4) (k := 1) (b := b) (sk_ne hS (t := 9) (u := 4) rfl rfl (by decide))) (cap_up (g := g) (ln := ln) (rv := rv) (a := sk 4) (k := 1) (b := b) (sk_ne hS (t := 10) (u := 4) rfl rfl (by decide))) (cap_up (g := g) (ln := ln) (rv := rv) (a := sk 4) (k := 1) (b := b) (sk_ne hS (t := 11) (u := 4) rfl rfl (by decide))) (cap_up (g := g) (ln := ln) (rv := rv) (a := sk 4) (k := 1) (b := b) (sk_ne hS (t := 24) (u := 4) rfl rfl (by decide))) (cap_up (g := g) (ln := ln) (rv := rv) (a := sk 4) (k := 1) (b := b) (sk_ne hS (t := 25) (u := 4) rfl rfl (by decide))) (show upr rv (sk 4) 1 (some b) (sk 67) = rv (sk 67) from upr_a (sk_ne hS (t := 67) (u := 4) rfl rfl (by decide))) (show upr rv (sk 4) 1 (some b) (sk 69) = rv (sk 69) from upr_a (sk_ne hS (t := 69) (u := 4) rfl rfl (by decide))) (fun c2 c3 c5 c6 c7 c8 c9 c10 c11 c24 c25 r1 r2 => ?_)
    unfold Phi
    rw [e1, c2, c3, c5, c6, c7, c8, c9, c10, c11, c24, c25, r1, r2]
    show _ + 3 * _ = _ + 3 * _
    omega
  · have e1 := cap_s (g := g) (ln := ln) (rv := rv) (a := sk 5) hg
    refine hv13 (cap_up (g := g) (ln := ln) (rv := rv) (a := sk 5) (k := 1) (b := b) (sk_ne hS (t := 2) (u := 5) rfl rfl (by decide))) (cap_up (g := g) (ln := ln) (rv := rv) (a := sk 5) (k := 1) (b := b) (sk_ne hS (t := 3) (u := 5) rfl rfl (by decide))) (cap_up (g := g) (ln := ln) (rv := rv) (a := sk 5) (k := 1) (b := b) (sk_ne hS (t := 4) (u := 5) rfl rfl (by decide))) (cap_up (g := g) (ln := ln) (rv := rv) (a := sk 5) (k := 1) (b := b) (sk_ne hS (t := 6) (u := 5) rfl rfl (by decide))) (cap_up (g := g) (ln := ln) (rv := rv) (a := sk 5) (k := 1) (b := b) (sk_ne hS (t := 7) (u := 5) rfl rfl (by decide))) (cap_up (g := g) (ln := ln) (rv := rv) (a := sk 5) (k := 1) (b := b) (sk_ne hS (t := 8) (u := 5) rfl rfl (by decide))) (cap_up (g := g) (ln := ln) (rv := rv) (a := sk 5) (k := 1) (b := b) (sk_ne hS (t := 9) (u := 5) rfl rfl (by decide))) (cap_up (g := g) (ln := ln) (rv := rv) (a := sk 5) (k := 1) (b := b) (sk_ne hS (t := 10) (u := 5) rfl rfl (by decide))) (cap_up (g := g) (ln := ln) (rv := rv) (a := sk 5) (k := 1) (b := b) (sk_ne hS (t := 11) (u := 5) rfl rfl (by decide))) (cap_up (g := g) (ln := ln) (rv := rv) (a := sk 5) (k := 1) (b := b) (sk_ne hS (t := 24) (u := 5) rfl rfl (by decide))) (cap_up (g := g) (ln := ln) (rv := rv) (a := sk 5) (k := 1) (b := b) (sk_ne hS (t := 25) (u := 5) rfl rfl (by decide))) (show upr rv (sk 5) 1 (some b) (sk 67) = rv (sk 67) from upr_a (sk_ne hS (t := 67) (u := 5) rfl rfl (by decide))) (show upr rv (sk 5) 1 (some b) (sk 69) = rv (sk 69) from upr_a (sk_ne hS (t := 69) (u := 5) rfl rfl (by decide))) (fun c2 c3 c4 c6 c7 c8 c9 c10 c11 c24 c25 r1 r2 => ?_)
    unfold Phi
    rw [e1, c2, c3, c4, c6, c7, c8, c9, c10, c11, c24, c25, r1, r2]
    show _ + 3 * _ = _ + 3 * _
    omega
  · have e1 := cap_s (g := g) (ln := ln) (rv := rv) (a := sk 6) hg
    refine hv13 (cap_up (g := g) (ln := ln) (rv := rv) (a := sk 6) (k := 1) (b := b) (sk_ne hS (t := 2) (u := 6) rfl rfl (by decide))) (cap_up (g := g) (ln := ln) (rv := rv) (a := sk 6) (k := 1) (b := b) (sk_ne hS (t := 3) (u := 6) rfl rfl (by decide))) (cap_up (g := g) (ln := ln) (rv := rv) (a := sk 6) (k := 1) (b := b) (sk_ne hS (t := 4) (u := 6) rfl rfl (by decide))) (cap_up (g := g) (ln := ln) (rv := rv) (a := sk 6) (k := 1) (b := b) (sk_ne hS (t := 5) (u := 6) rfl rfl (by decide))) (cap_up (g := g) (ln := ln) (rv := rv) (a := sk 6) (k := 1) (b := b) (sk_ne hS (t := 7) (u := 6) rfl rfl (by decide))) (cap_up (g := g) (ln := ln) (rv := rv) (a := sk 6) (k := 1) (b := b) (sk_ne hS (t := 8) (u := 6) rfl rfl (by decide))) (cap_up (g := g) (ln := ln) (rv := rv) (a := sk 6) (k := 1) (b := b) (sk_ne hS (t := 9) (u := 6) rfl rfl (by decide))) (cap_up (g := g) (ln := ln) (rv := rv) (a := sk 6) (k := 1) (b := b) (sk_ne hS (t := 10) (u := 6) rfl rfl (by decide))) (cap_up (g := g) (ln := ln) (rv := rv) (a := sk 6) (k := 1) (b := b) (sk_ne hS (t := 11) (u := 6) rfl rfl (by decide))) (cap_up (g := g) (ln := ln) (rv := rv) (a := sk 6) (k := 1) (b := b) (sk_ne hS (t := 24) (u := 6) rfl rfl (by decide))) (cap_up (g := g) (ln := ln) (rv := rv) (a := sk 6) (k := 1) (b := b) (sk_ne hS (t := 25) (u := 6) rfl rfl (by decide))) (show upr rv (sk 6) 1 (some b) (sk 67) = rv (sk 67) from upr_a (sk_ne hS (t := 67) (u := 6) rfl rfl (by decide))) (show upr rv (sk 6) 1 (some b) (sk 69) = rv (sk 69) from upr_a (sk_ne hS (t := 69) (u := 6) rfl rfl (by decide))) (fun c2 c3 c4 c5 c7 c8 c9 c10 c11 c24 c25 r1 r2 => ?_)
    unfold Phi
    rw [e1, c2, c3, c4, c5, c7, c8, c9, c10, c11, c24, c25, r1, r2]
    show _ + 3 * _ = _ + 3 * _
    omega
  · have e1 := cap_s (g := g) (ln := ln) (rv := rv) (a := sk 7) hg
    refine hv13 (cap_up (g := g) (ln := ln) (rv := rv) (a := sk 7) (k := 1) (b := b) (sk_ne hS (t := 2) (u := 7) rfl rfl (by decide))) (cap_up (g := g) (ln := ln) (rv := rv) (a := sk 7) (k := 1) (b := b) (sk_ne hS (t := 3) (u := 7) rfl rfl (by decide))) (cap_up (g := g) (ln := ln) (rv := rv) (a := sk 7) (k := 1) (b := b) (sk_ne hS (t := 4) (u := 7) rfl rfl (by decide))) (cap_up (g := g) (ln := ln) (rv := rv) (a := sk 7) (k := 1) (b := b) (sk_ne hS (t := 5) (u := 7) rfl rfl (by decide))) (cap_up (g := g) (ln := ln) (rv := rv) (a := sk 7) (k := 1) (b := b) (sk_ne hS (t := 6) (u := 7) rfl rfl (by decide))) (cap_up (g := g) (ln := ln) (rv := rv) (a := sk 7) (k := 1) (b := b) (sk_ne hS (t := 8) (u := 7) rfl rfl (by decide))) (cap_up (g := g) (ln := ln) (rv := rv) (a := sk 7) (k := 1) (b := b) (sk_ne hS (t := 9) (u := 7) rfl rfl (by decide))) (cap_up (g := g) (ln := ln) (rv := rv) (a := sk 7) (k := 1) (b := b) (sk_ne hS (t := 10) (u := 7) rfl rfl (by decide))) (cap_up (g := g) (ln := ln) (rv := rv) (a := sk 7) (k := 1) (b := b) (sk_ne hS (t := 11) (u := 7) rfl rfl (by decide))) (cap_up (g := g) (ln := ln) (rv := rv) (a := sk 7) (k := 1) (b := b) (sk_ne hS (t := 24) (u := 7) rfl rfl (by decide))) (cap_up (g := g) (ln := ln) (rv := rv) (a := sk 7) (k := 1) (b := b) (sk_ne hS (t := 25) (u := 7) rfl rfl (by decide))) (show upr rv (sk 7) 1 (some b) (sk 67) = rv (sk 67) from upr_a (sk_ne hS (t := 67) (u := 7) rfl rfl (by decide))) (show upr rv (sk 7) 1 (some b) (sk 69) = rv (sk 69) from upr_a (sk_ne hS (t := 69) (u := 7) rfl rfl (by decide))) (fun c2 c3 c4 c5 c6 c8 c9 c10 c11 c24 c25 r1 r2 => ?_)
    unfold Phi
    rw [e1, c2, c3, c4, c5, c6, c8, c9, c10, c11, c24, c25, r1, r2]
    show _ + 3 * _ = _ + 3 * _
    omega
  · have e1 := cap_s (g := g) (ln := ln) (rv := rv) (a := sk 8) hg
    refine hv13 (cap_up (g := g) (ln := ln) (rv := rv) (a := sk 8) (k := 1) (b := b) (sk_ne hS (t := 2) (u := 8) rfl rfl (by decide))) (cap_up (g := g) (ln := ln) (rv := rv) (a := sk 8) (k := 1) (b := b) (sk_ne hS (t := 3) (u := 8) rfl rfl (by decide))) (cap_up (g := g) (ln := ln) (rv := rv) (a := sk 8) (k := 1) (b := b) (sk_ne hS (t := 4) (u := 8) rfl rfl (by decide))) (cap_up (g := g) (ln := ln) (rv := rv) (a := sk 8) (k := 1) (b := b) (sk_ne hS (t := 5) (u := 8) rfl rfl (by decide))) (cap_up (g := g) (ln := ln) (rv := rv) (a := sk 8) (k := 1) (b := b) (sk_ne hS (t := 6) (u := 8) rfl rfl (by decide))) (cap_up (g := g) (ln := ln) (rv := rv) (a := sk 8) (k := 1) (b := b) (sk_ne hS (t := 7) (u := 8) rfl rfl (by decide))) (cap_up (g := g) (ln := ln) (rv := rv) (a := sk 8) (k := 1) (b := b) (sk_ne hS (t := 9) (u := 8) rfl rfl (by decide))) (cap_up (g := g) (ln := ln) (rv := rv) (a := sk 8) (k := 1) (b := b) (sk_ne hS (t := 10) (u := 8) rfl rfl (by decide))) (cap_up (g := g) (ln := ln) (rv := rv) (a := sk 8) (k := 1) (b := b) (sk_ne hS (t := 11) (u := 8) rfl rfl (by decide))) (cap_up (g := g) (ln := ln) (rv := rv) (a := sk 8) (k := 1) (b := b) (sk_ne hS (t := 24) (u := 8) rfl rfl (by decide))) (cap_up (g := g) (ln := ln) (rv := rv) (a := sk 8) (k := 1) (b := b) (sk_ne hS (t := 25) (u := 8) rfl rfl (by decide))) (show upr rv (sk 8) 1 (some b) (sk 67) = rv (sk 67) from upr_a (sk_ne hS (t := 67) (u := 8) rfl rfl (by decide))) (show upr rv (sk 8) 1 (some b) (sk 69) = rv (sk 69) from upr_a (sk_ne hS (t := 69) (u := 8) rfl rfl (by decide))) (fun c2 c3 c4 c5 c6 c7 c9 c10 c11 c24 c25 r1 r2 => ?_)
    unfold Phi
    rw [e1, c2, c3, c4, c5, c6, c7, c9, c10, c11, c24, c25, r1, r2]
    show _ + 3 * _ = _ + 3 * _
    omega
  · have e1 := cap_s (g := g) (ln := ln) (rv := rv) (a := sk 9) hg
    refine hv13 (cap_up (g := g) (ln := ln) (rv := rv) (a := sk 9) (k := 1) (b := b) (sk_ne hS (t := 2) (u := 9) rfl rfl (by decide))) (cap_up (g := g) (ln := ln) (rv := rv) (a := sk 9) (k := 1) (b := b) (sk_ne hS (t := 3) (u := 9) rfl rfl (by decide))) (cap_up (g := g) (ln := ln) (rv := rv) (a := sk 9) (k := 1) (b := b) (sk_ne hS (t := 4) (u := 9) rfl rfl (by decide))) (cap_up (g := g) (ln := ln) (rv := rv) (a := sk 9) (k := 1) (b := b) (sk_ne hS (t := 5) (u := 9) rfl rfl (by decide))) (cap_up (g := g) (ln := ln) (rv := rv) (a := sk 9) (k := 1) (b := b) (sk_ne hS (t := 6) (u := 9) rfl rfl (by decide))) (cap_up (g := g) (ln := ln) (rv := rv) (a := sk 9) (k := 1) (b := b) (sk_ne hS (t := 7) (u := 9) rfl rfl (by decide))) (cap_up (g := g) (ln := ln) (rv := rv) (a := sk 9) (k := 1) (b := b) (sk_ne hS (t := 8) (u := 9) rfl rfl (by decide))) (cap_up (g := g) (ln := ln) (rv := rv) (a := sk 9) (k := 1) (b := b) (sk_ne hS (t := 10) (u := 9) rfl rfl (by decide))) (cap_up (g := g) (ln := ln) (rv := rv) (a := sk 9) (k := 1) (b := b) (sk_ne hS (t := 11) (u := 9) rfl rfl (by decide))) (cap_up (g := g) (ln := ln) (rv := rv) (a := sk 9) (k := 1) (b := b) (sk_ne hS (t := 24) (u := 9) rfl rfl (by decide))) (cap_up (g := g) (ln := ln) (rv := rv) (a := sk 9) (k := 1) (b := b) (sk_ne hS (t := 25) (u := 9) rfl rfl (by decide))) (show upr rv (sk 9) 1 (some b) (sk 67) = rv (sk 67) from upr_a (sk_ne hS (t := 67) (u := 9) rfl rfl (by decide))) (show upr rv (sk 9) 1 (some b) (sk 69) = rv (sk 69) from upr_a (sk_ne hS (t := 69) (u := 9) rfl rfl (by decide))) (fun c2 c3 c4 c5 c6 c7 c8 c10 c11 c24 c25 r1 r2 => ?_)
    unfold Phi
    rw [e1, c2, c3, c4, c5, c6, c7, c8, c10, c11, c24, c25, r1, r2]
    show _ + 3 * _ = _ + 3 * _
    omega
  · have e1 := cap_s (g := g) (ln := ln) (rv := rv) (a := sk 10) hg
    refine hv13 (cap_up (g := g) (ln := ln) (rv := rv) (a := sk 10) (k := 1) (b := b) (sk_ne hS (t := 2) (u := 10) rfl rfl (by decide))) (cap_up (g := g) (ln := ln) (rv := rv) (a := sk 10) (k := 1) (b := b) (sk_ne hS (t := 3) (u := 10) rfl rfl (by decide))) (cap_up (g := g) (ln := ln) (rv := rv) (a := sk 10) (k := 1) (b := b) (sk_ne hS (t := 4) (u := 10) rfl rfl (by decide))) (cap_up (g := g) (ln := ln) (rv := rv) (a := sk 10) (k := 1) (b := b) (sk_ne hS (t := 5) (u := 10) rfl rfl (by decide))) (cap_up (g := g) (ln := ln) (rv := rv) (a := sk 10) (k := 1) (b := b) (sk_ne hS (t := 6) (u := 10) rfl rfl (by decide))) (cap_up (g := g) (ln := ln) (rv := rv) (a := sk 10) (k := 1) (b := b) (sk_ne hS (t := 7) (u := 10) rfl rfl (by decide))) (cap_up (g := g) (ln := ln) (rv := rv) (a := sk 10) (k := 1) (b := b) (sk_ne hS (t := 8) (u := 10) rfl rfl (by decide))) (cap_up (g := g) (ln := ln) (rv := rv) (a := sk 10) (k := 1) (b := b) (sk_ne hS (t := 9) (u := 10) rfl rfl (by decide))) (cap_up (g := g) (ln := ln) (rv := rv) (a := sk 10) (k := 1) (b := b) (sk_ne hS (t := 11) (u := 10) rfl rfl (by decide))) (cap_up (g := g) (ln := ln) (rv := rv) (a := sk 10) (k := 1) (b := b) (sk_ne hS (t := 24) (u := 10) rfl rfl (by decide))) (cap_up (g := g) (ln := ln) (rv := rv) (a := sk 10) (k := 1) (b := b) (sk_ne hS (t := 25) (u := 10) rfl rfl (by decide))) (show upr rv (sk 10) 1 (some b) (sk 67) = rv (sk 67) from upr_a (sk_ne hS (t := 67) (u := 10) rfl rfl (by decide))) (show upr rv (sk 10) 1 (some b) (sk 69) = rv (sk 69) from upr_a (sk_ne hS (t := 69) (u := 10) rfl rfl (by decide))) (fun c2 c3 c4 c5 c6 c7 c8 c9 c11 c24 c25 r1 r2 => ?_)
    unfold Phi
    rw [e1, c2, c3, c4, c5, c6, c7, c8, c9, c11, c24, c25, r1, r2]
    show _ + 3 * _ = _ + 3 * _
    omega
  · have e1 := cap_s (g := g) (ln := ln) (rv := rv) (a := sk 11) hg
    refine hv13 (cap_up (g := g) (ln := ln) (rv := rv) (a := sk 11) (k := 1) (b := b) (sk_ne hS (t := 2) (u := 11) rfl rfl (by decide))) (cap_up (g := g) (ln := ln) (rv := rv) (a := sk 11) (k := 1) (b := b) (sk_ne hS (t := 3) (u := 11) rfl rfl (by decide))) (cap_up (g := g) (ln := ln) (rv := rv) (a := sk 11) (k := 1) (b := b) (sk_ne hS (t := 4) (u := 11) rfl rfl (by decide))) (cap_up (g := g) (ln := ln) (rv := rv) (a := sk 11) (k := 1) (b := b) (sk_ne hS (t := 5) (u := 11) rfl rfl (by decide))) (cap_up (g := g) (ln := ln) (rv := rv) (a := sk 11) (k := 1) (b := b) (sk_ne hS (t := 6) (u := 11) rfl rfl (by decide))) (cap_up (g := g) (ln := ln) (rv := rv) (a := sk 11) (k := 1) (b := b) (sk_ne hS (t := 7) (u := 11) rfl rfl (by decide))) (cap_up (g := g) (ln := ln) (rv := rv) (a := sk 11) (k := 1) (b := b) (sk_ne hS (t := 8) (u := 11) rfl rfl (by decide))) (cap_up (g := g) (ln := ln) (rv := rv) (a := sk 11) (k := 1) (b := b) (sk_ne hS (t := 9) (u := 11) rfl rfl (by decide))) (cap_up (g := g) (ln := ln) (rv := rv) (a := sk 11) (k := 1) (b := b) (sk_ne hS (t := 10) (u := 11) rfl rfl (by decide))) (cap_up (g := g) (ln := ln) (rv := rv) (a := sk 11) (k := 1) (b := b) (sk_ne hS (t := 24) (u := 11) rfl rfl (by decide))) (cap_up (g := g) (ln := ln) (rv := rv) (a := sk 11) (k := 1) (b := b) (sk_ne hS (t := 25) (u := 11) rfl rfl (by decide))) (show upr rv (sk 11) 1 (some b) (sk 67) = rv (sk 67) from upr_a (sk_ne hS (t := 67) (u := 11) rfl rfl (by decide))) (show upr rv (sk 11) 1 (some b) (sk 69) = rv (sk 69) from upr_a (sk_ne hS (t := 69) (u := 11) rfl rfl (by decide))) (fun c2 c3 c4 c5 c6 c7 c8 c9 c10 c24 c25 r1 r2 => ?_)
    unfold Phi
    rw [e1, c2, c3, c4, c5, c6, c7, c8, c9, c10, c24, c25, r1, r2]
    show _ + 3 * _ = _ + 3 * _
    omega
  · have e1 := cap_s (g := g) (ln := ln) (rv := rv) (a := sk 24) hg
    refine hv13 (cap_up (g := g) (ln := ln) (rv := rv) (a := sk 24) (k := 1) (b := b) (sk_ne hS (t := 2) (u := 24) rfl rfl (by decide))) (cap_up (g := g) (ln := ln) (rv := rv) (a := sk 24) (k := 1) (b := b) (sk_ne hS (t := 3) (u := 24) rfl rfl (by decide))) (cap_up (g := g) (ln := ln) (rv := rv) (a := sk 24) (k := 1) (b := b) (sk_ne hS (t := 4) (u := 24) rfl rfl (by decide))) (cap_up (g := g) (ln := ln) (rv := rv) (a := sk 24) (k := 1) (b := b) (sk_ne hS (t := 5) (u := 24) rfl rfl (by decide))) (cap_up (g := g) (ln := ln) (rv := rv) (a := sk 24) (k := 1) (b := b) (sk_ne hS (t := 6) (u := 24) rfl rfl (by decide))) (cap_up (g := g) (ln := ln) (rv := rv) (a := sk 24) (k := 1) (b := b) (sk_ne hS (t := 7) (u := 24) rfl rfl (by decide))) (cap_up (g := g) (ln := ln) (rv := rv) (a := sk 24) (k := 1) (b := b) (sk_ne hS (t := 8) (u := 24) rfl rfl (by decide))) (cap_up (g := g) (ln := ln) (rv := rv) (a := sk 24) (k := 1) (b := b) (sk_ne hS (t := 9) (u := 24) rfl rfl (by decide))) (cap_up (g := g) (ln := ln) (rv := rv) (a := sk 24) (k := 1) (b := b) (sk_ne hS (t := 10) (u := 24) rfl rfl (by decide))) (cap_up (g := g) (ln := ln) (rv := rv) (a := sk 24) (k := 1) (b := b) (sk_ne hS (t := 11) (u := 24) rfl rfl (by decide))) (cap_up (g := g) (ln := ln) (rv := rv) (a := sk 24) (k := 1) (b := b) (sk_ne hS (t := 25) (u := 24) rfl rfl (by decide))) (show upr rv (sk 24) 1 (some b) (sk 67) = rv (sk 67) from upr_a (sk_ne hS (t := 67) (u := 24) rfl rfl (by decide))) (show upr rv (sk 24) 1 (some b) (sk 69) = rv (sk 69) from upr_a (sk_ne hS (t := 69) (u := 24) rfl rfl (by decide))) (fun c2 c3 c4 c5 c6 c7 c8 c9 c10 c11 c25 r1 r2 => ?_)
    unfold Phi
    rw [e1, c2, c3, c4, c5, c6, c7, c8, c9, c10, c11, c25, r1, r2]
    show _ + 8 * _ = _ + 8 * _
    omega
  · have e1 := cap_s (g := g) (ln := ln) (rv := rv) (a := sk 25) hg
    refine hv13 (cap_up (g := g) (ln := ln) (rv := rv) (a := sk 25) (k := 1) (b := b) (sk_ne hS (t := 2) (u := 25) rfl rfl (by decide))) (cap_up (g := g) (ln := ln) (rv := rv) (a := sk 25) (k := 1) (b := b) (sk_ne hS (t := 3) (u := 25) rfl rfl (by decide))) (cap_up (g := g) (ln := ln) (rv := rv) (a := sk 25) (k := 1) (b := b) (sk_ne hS (t := 4) (u := 25) rfl rfl (by decide))) (cap_up (g := g) (ln := ln) (rv := rv) (a := sk 25) (k := 1) (b := b) (sk_ne hS (t := 5) (u := 25) rfl rfl (by decide))) (cap_up (g := g) (ln := ln) (rv := rv) (a := sk 25) (k := 1) (b := b) (sk_ne hS (t := 6) (u := 25) rfl rfl (by decide))) (cap_up (g := g) (ln := ln) (rv := rv) (a := sk 25) (k := 1) (b := b) (sk_ne hS (t := 7) (u := 25) rfl rfl (by decide))) (cap_up (g := g) (ln := ln) (rv := rv) (a := sk 25) (k := 1) (b := b) (sk_ne hS (t := 8) (u := 25) rfl rfl (by decide))) (cap_up (g := g) (ln := ln) (rv := rv) (a := sk 25) (k := 1) (b := b) (sk_ne hS (t := 9) (u := 25) rfl rfl (by decide))) (cap_up (g := g) (ln := ln) (rv := rv) (a := sk 25) (k := 1) (b := b) (sk_ne hS (t := 10) (u := 25) rfl rfl (by decide))) (cap_up (g := g) (ln := ln) (rv := rv) (a := sk 25) (k := 1) (b := b) (sk_ne hS (t := 11) (u := 25) rfl rfl (by decide))) (cap_up (g := g) (ln := ln) (rv := rv) (a := sk 25) (k := 1) (b := b) (sk_ne hS (t := 24) (u := 25) rfl rfl (by decide))) (show upr rv (sk 25) 1 (some b) (sk 67) = rv (sk 67) from upr_a (sk_ne hS (t := 67) (u := 25) rfl rfl (by decide))) (show upr rv (sk 25) 1 (some b) (sk 69) = rv (sk 69) from upr_a (sk_ne hS (t := 69) (u := 25) rfl rfl (by decide))) (fun c2 c3 c4 c5 c6 c7 c8 c9 c10 c11 c24 r1 r2 => ?_)
    unfold Phi
    rw [e1, c2, c3, c4, c5, c6, c7, c8, c9, c10, c11, c24, r1, r2]
    show _ + 8 * _ = _ + 8 * _
    omega
end NEWS
theorem rom0 {P K c0 ph pm : Nat} (h1 : ph ≤ pm) (h2 : P ≤ pm) (h3 : K ≤ c0) : P + K ≤ (pm + c0 - ph) + ph := by omega
theorem rom1 {P K c0 c2 ph pm : Nat} (h1 : ph ≤ pm) (h2 : P ≤ pm) (h3 : K + c2 ≤ c0) : P + K + (pm + c2 - P) ≤ (pm + c0 - ph) + ph := by omega
theorem rom2 {P K c0 x ph pm : Nat} (h1 : ph ≤ pm) (h2 : P ≤ pm) (h3 : K + x ≤ c0) : P + K + x ≤ (pm + c0 - ph) + ph := by omega
section DQ
variable {p : Program} {l : Launch} {e : Env} {d0 c0 : Nat} {s : State} {m : MethodId} {args : Array Value} {below : List Frame} {meth : Method} {c : Code} {cc : ByteArray} {y : MethodName} {ret : Option FieldType} {G : GT} {A : Nat → Prop} {nL mi : Nat} {Q : State → Prop} {Pf : PF} {ph pm : Nat} {L : List Nat} {cl ln : Nat → Nat} {iv : Nat → Nat → Int} {rv : Nat → Nat → Option Nat} {K K2 pc : Nat} {lv : List (Nat × Value)} {st : List Value}
theorem c_retag {q t : Nat} (hk : kd (bt t) = kd (bt (cl q))) (k : ∀ cl2, cl2 = va_up cl q t → cw p l e d0 (pm + c0 - ph) s m args below meth c G A nL Q Pf ph L cl2 ln iv rv K pc lv st) : cw p l e d0 (pm + c0 - ph) s m args below meth c G A nL Q Pf ph L cl ln iv rv K pc lv st := by
  have e : enc G (va_up cl q t) ln iv rv = enc G cl ln iv rv := by
    funext b
    by_cases h : b = q
    · subst h; exact enc_ext (by rw [va_up_self, hk]) rfl rfl rfl
    · exact enc_ext (by rw [va_up_ne _ _ h]) rfl rfl rfl
  intro u hu
  have q1 := k _ rfl u hu
  rw [e] at q1
  exact q1
theorem d_callV (C : Cq p s m args meth c cc y ret G A nL) (hM : Mir mi s) {y2 : MethodName} {cc2 : ByteArray} {n2 d2 c2 idx k2 : Nat} {P2 : PC} {As rest : List Value} {b ci N T : Nat} {ret2 : Option FieldType} {TT : u_T} {tyy : Nat → FieldType} (M : Mc l G mi Pf pm y2 cc2 n2 ret2 d2 (.ref b :: As) L cl ln iv rv c2 P2) (d : decode cc pc = .ok (.invokevirtual idx, 3)) (hw : Wv y.cls idx y2 cc2 n2 ret2 k2) (hk : As.length = k2) (hb : ty L cl b T) (hT : kd T = ci) (hN : nf ci = N) (h13 : ci < 13) (ck : Ck ci y2.cls TT N tyy) (hst : st = As.reverse ++ .ref b :: rest) (hcat : (rest.map fun v => v.category).sum ≤ 8) (hR : d2 + 1 ≤ d0 ∧ 8 + (n2 + 11) + 64 * d2 ≤ 64 * d0) (hph : ph ≤ pm) (hp : Pf ln rv ≤ pm) (hK : K + c2 = K2) (hKc : K2 ≤ c0) (kk : ∀ (v : Option Value) (L2 : List Nat) (cl2 ln2 : Nat → Nat) (iv2 : Nat → Nat → Int) (rv2 : Nat → Nat → Option Nat), P2 v L2 cl2 ln2 iv2 rv2 → cw p l e d0 (pm + c0 - ph) s m args below meth c G A nL Q Pf ph L2 cl2 ln2 iv2 rv2 K2 (pc + 3) lv (v.toList ++ rest)) : cw p l e d0 (pm + c0 - ph) s m args below meth c G A nL Q Pf ph L cl ln iv rv K pc lv st := c_callV C hM M d hw hk hb hT hN h13 ck hst hcat hR (rom1 hph hp (by omega)) (fun v L2 cl2 ln2 iv2 rv2 h => ⟨K2, fun u2 q => by omega, kk v L2 cl2 ln2 iv2 rv2 h⟩)
theorem d_callS (C : Cq p s m args meth c cc y ret G A nL) (hM : Mir mi s) {y2 : MethodName} {cc2 : ByteArray} {n2 d2 c2 idx k2 : Nat} {P2 : PC} {As rest : List Value} {ret2 : Option FieldType} (M : Mc l G mi Pf pm y2 cc2 n2 ret2 d2 As L cl ln iv rv c2 P2) (d : decode cc pc = .ok (.invokestatic idx, 3)) (hw : Ws y.cls idx y2 cc2 n2 ret2 k2) (hk : As.length = k2) (hst : st = As.reverse ++ rest) (hcat : (rest.map fun v => v.category).sum ≤ 8) (hR : d2 + 1 ≤ d0 ∧ 8 + (n2 + 11) + 64 * d2 ≤ 64 * d0) (hph : ph ≤ pm) (hp : Pf ln rv ≤ pm) (hK : K + c2 = K2) (hKc : K2 ≤ c0) (kk : ∀ (v : Option Value) (L2 : List Nat) (cl2 ln2 : Nat → Nat) (iv2 : Nat → Nat → Int) (rv2 : Nat → Nat → Option Nat), P2 v L2 cl2 ln2 iv2 rv2 → cw p l e d0 (pm + c0 - ph) s m args below meth c G A nL Q Pf ph L2 cl2 ln2 iv2 rv2 K2 (pc + 3) lv (v.toList ++ rest)) : cw p l e d0 (pm + c0 - ph) s m args below meth c G A nL Q Pf ph L cl ln iv rv K pc lv st := c_callS C hM M d hw hk hst hcat hR (rom1 hph hp (by omega)) (fun v L2 cl2 ln2 iv2 rv2 h => ⟨K2, fun u2 q => by omega, kk v L2 cl2 ln2 iv2 rv2 h⟩)
end DQ
def zPf : PF := fun _ _ => 0
theorem z_in {K x K2 : Nat} {ln ln2 : Nat → Nat} {rv rv2 : Nat → Nat → Option Nat} (h : K + x ≤ K2) : zPf ln rv + K + x ≤ zPf ln2 rv2 + K2 := by unfold zPf; omega
theorem p_in {P P2 K x K2 : Nat} (e : P2 = P) (h : K + x ≤ K2) : P + K + x ≤ P2 + K2 := by omega
theorem zk1 {P P2 K c2 : Nat} {ln ln2 : Nat → Nat} {rv rv2 : Nat → Nat → Option Nat} (e : P2 = P) : ∀ u2 : Nat, u2 + zPf ln rv ≤ zPf ln2 rv2 + c2 → u2 + P + K ≤ P2 + (K + c2) := by unfold zPf; intro u2 h; omega
theorem zk0 {K c2 : Nat} {ln ln2 : Nat → Nat} {rv rv2 : Nat → Nat → Option Nat} : ∀ u2 : Nat, u2 + zPf ln rv ≤ zPf ln2 rv2 + c2 → u2 + zPf ln rv + K ≤ zPf ln2 rv2 + (K + c2) := by unfold zPf; intro u2 h; omega
theorem rz1 {P K c0 c2 ph pm : Nat} {ln : Nat → Nat} {rv : Nat → Nat → Option Nat} (h1 : ph ≤ pm) (h2 : P ≤ pm) (h3 : K + c2 ≤ c0) : P + K + (0 + c2 - zPf ln rv) ≤ (pm + c0 - ph) + ph := by unfold zPf; omega
theorem rz0 {K c0 c2 : Nat} {ln : Nat → Nat} {rv : Nat → Nat → Option Nat} {ln2 : Nat → Nat} {rv2 : Nat → Nat → Option Nat} (h1 : zPf ln2 rv2 ≤ 0) (h3 : K + c2 ≤ c0) : zPf ln rv + K + (0 + c2 - zPf ln rv) ≤ (0 + c0 - zPf ln2 rv2) + zPf ln2 rv2 := by unfold zPf; omega
theorem Phi.fr {g : Nat} {sk : Nat → Nat} {ls L L2 : List Nat} {cl ln cl2 ln2 : Nat → Nat} {iv iv2 : Nat → Nat → Int} {rv rv2 : Nat → Nat → Option Nat} (h : WT g sk L cl ln iv rv) (hS : SKL sk L cl) (hX : XT L cl ln L2 cl2 ln2) (hF : fT ls L cl iv rv iv2 rv2) (hp : ls.all (fun t => !pot t) = true) : Phi g sk ln2 rv2 = Phi g sk ln rv := by
  refine Phi.congr (fun t ht hq => ?_) (fun t b ht hq hs hb hg => ?_)
  · refine (hF _ (hS t ht).1 ?_).2
    rw [(hS t ht).2]
    cases e : ls.contains (bt t) with
    | false => rfl
    | true =>
      have h2 := List.all_eq_true.mp hp _ (List.contains_iff_mem.mp e)
      rw [hq] at h2; cases h2
  · rcases WT.ed h (hS t ht).1 (by
      rw [(hS t ht).2]
      unfold szd lst at hs ⊢
      simp at hs ⊢
      unfold bt
      split <;> (try split) <;> (try split) <;> omega) hb with q1 | q1
    · exact (hX b q1).2.2
    · exact absurd q1 hg
theorem Phi.frn {g : Nat} {sk : Nat → Nat} {ls L : List Nat} {cl ln : Nat → Nat} {iv iv2 : Nat → Nat → Int} {rv rv2 : Nat → Nat → Option Nat} (hS : SKL sk L cl) (hF : fT ls L cl iv rv iv2 rv2) (hp : ls.all (fun t => !pot t) = true) : Phi g sk ln rv2 = Phi g sk ln rv := by
  refine Phi.congr (fun t ht hq => ?_) (fun _ _ _ _ _ _ _ => rfl)
  refine (hF _ (hS t ht).1 ?_).2
  rw [(hS t ht).2]
  cases e : ls.contains (bt t) with
  | false => rfl
  | true =>
    have h2 := List.all_eq_true.mp hp _ (List.contains_iff_mem.mp e)
    rw [hq] at h2; cases h2
theorem bt_id {x t : Nat} (h : bt x = t) (ht : t < 18 ∨ (18 < t ∧ t < 67)) : x = t := by
  unfold bt at h
  split at h
  · split at h
    · omega
    · split at h <;> omega
  · split at h
    · omega
    · split at h <;> omega
theorem WT.sk {g : Nat} {sk : Nat → Nat} {L : List Nat} {cl ln : Nat → Nat} {iv : Nat → Nat → Int} {rv : Nat → Nat → Option Nat} {a t : Nat} (h : WT g sk L cl ln iv rv) (ha : ty L cl a t) (ht : t < 18 ∨ (18 < t ∧ t < 67)) (hu : uq t = true) : a = sk t := by
  have e := bt_id ha.2 ht
  have q := h.2.2.2.2.2.1 a ha.1 (by rw [e]; exact hu)
  rw [e] at q; exact q
def limT (t : Nat) : Nat := match t with
  | 2 => 3000
  | 3 => 500
  | 4 => 4000
  | 5 => 200
  | 6 => 6003
  | 7 => 6003
  | 8 => 40200
  | 9 => 40200
  | 10 => 4001
  | 11 => 40000
  | 12 => 200
  | _ => 0
theorem Phi.slack {g : Nat} {sk : Nat → Nat} {L : List Nat} {cl ln : Nat → Nat} {iv : Nat → Nat → Int} {rv : Nat → Nat → Option Nat} {t n : Nat} (h : WT g sk L cl ln iv rv) (hS : SKL sk L cl) (ht : 2 ≤ t ∧ t ≤ 11) (hn : cap g ln rv (sk t) = n) (hc : n ≤ limT t) : Phi g sk ln rv + 3 * n ≤ PHM := by
  refine hv14 (cap_le (t := 2) (m := 6000) h hS rfl rfl rfl rfl rfl) (cap_le (t := 3) (m := 1000) h hS rfl rfl rfl rfl rfl) (cap_le (t := 4) (m := 8000) h hS rfl rfl rfl rfl rfl) (cap_le (t := 5) (m := 400) h hS rfl rfl rfl rfl rfl) (cap_le (t := 6) (m := 12006) h hS rfl rfl rfl rfl rfl) (cap_le (t := 7) (m := 12006) h hS rfl rfl rfl rfl rfl) (cap_le (t := 8) (m := 80400) h hS rfl rfl rfl rfl rfl) (cap_le (t := 9) (m := 80400) h hS rfl rfl rfl rfl rfl) (cap_le (t := 10) (m := 8002) h hS rfl rfl rfl rfl rfl) (cap_le (t := 11) (m := 80000) h hS rfl rfl rfl rfl rfl) (cap_le (t := 24) (m := 9100) h hS rfl rfl rfl rfl rfl) (cap_le (t := 25) (m := 9100) h hS rfl rfl rfl rfl rfl) (nn_le (rv (sk 67)) 200) (nn_le (rv (sk 69)) 200) (fun c2 c3 c4 c5 c6 c7 c8 c9 c10 c11 c24 c25 n1 n2 => ?_)
  have : t = 2 ∨ t = 3 ∨ t = 4 ∨ t = 5 ∨ t = 6 ∨ t = 7 ∨ t = 8 ∨ t = 9 ∨ t = 10 ∨ t = 11 := by omega
  rcases this with rfl | rfl | rfl | rfl | rfl | rfl | rfl | rfl | rfl | rfl
  · unfold Phi
    show _ ≤ 1110000
    have hc2 : n ≤ 3000 := hc
    omega
  · unfold Phi
    show _ ≤ 1110000
    have hc2 : n ≤ 500 := hc
    omega
  · unfold Phi
    show _ ≤ 1110000
    have hc2 : n ≤ 4000 := hc
    omega
  · unfold Phi
    show _ ≤ 1110000
    have hc2 : n ≤ 200 := hc
    omega
  · unfold Phi
    show _ ≤ 1110000
    have hc2 : n ≤ 6003 := hc
    omega
  · unfold Phi
    show _ ≤ 1110000
    have hc2 : n ≤ 6003 := hc
    omega
  · unfold Phi
    show _ ≤ 1110000
    have hc2 : n ≤ 40200 := hc
    omega
  · unfold Phi
    show _ ≤ 1110000
    have hc2 : n ≤ 40200 := hc
    omega
  · unfold Phi
    show _ ≤ 1110000
    have hc2 : n ≤ 4001 := hc
    omega
  · unfold Phi
    show _ ≤ 1110000
    have hc2 : n ≤ 40000 := hc
    omega
theorem dv_0 : ∀ j, j < 3 → defaultValue (tyJx4a65c j) = ofv 0 (fun _ => 0) (fun _ => none) j := fun j hj => match j, hj with
  | 0, _ => rfl
  | 1, _ => rfl
  | 2, _ => rfl
  | n + 3, h => absurd h (by omega)
theorem dv_1 : ∀ j, j < 4 → defaultValue (tyX0 j) = ofv 1 (fun _ => 0) (fun _ => none) j := fun j hj => match j, hj with
  | 0, _ => rfl
  | 1, _ => rfl
  | 2, _ => rfl
  | 3, _ => rfl
  | n + 4, h => absurd h (by omega)
theorem dv_2 : ∀ j, j < 3 → defaultValue (tyX1 j) = ofv 2 (fun _ => 0) (fun _ => none) j := fun j hj => match j, hj with
  | 0, _ => rfl
  | 1, _ => rfl
  | 2, _ => rfl
  | n + 3, h => absurd h (by omega)
theorem dv_3 : ∀ j, j < 3 → defaultValue (tyX2 j) = ofv 3 (fun _ => 0) (fun _ => none) j := fun j hj => match j, hj with
  | 0, _ => rfl
  | 1, _ => rfl
  | 2, _ => rfl
  | n + 3, h => absurd h (by omega)
theorem dv_4 : ∀ j, j < 8 → defaultValue (tyX3 j) = ofv 4 (fun _ => 0) (fun _ => none) j := fun j hj => match j, hj with
  | 0, _ => rfl
  | 1, _ => rfl
  | 2, _ => rfl
  | 3, _ => rfl
  | 4, _ => rfl
  | 5, _ => rfl
  | 6, _ => rfl
  | 7, _ => rfl
  | n + 8, h => absurd h (by omega)
theorem dv_5 : ∀ j, j < 11 → defaultValue (tyX4 j) = ofv 5 (fun _ => 0) (fun _ => none) j := fun j hj => match j, hj with
  | 0, _ => rfl
  | 1, _ => rfl
  | 2, _ => rfl
  | 3, _ => rfl
  | 4, _ => rfl
  | 5, _ => rfl
  | 6, _ => rfl
  | 7, _ => rfl
  | 8, _ => rfl
  | 9, _ => rfl
  | 10, _ => rfl
  | n + 11, h => absurd h (by omega)
theorem dv_6 : ∀ j, j < 4 → defaultValue (tyX5 j) = ofv 6 (fun _ => 0) (fun _ => none) j := fun j hj => match j, hj with
  | 0, _ => rfl
  | 1, _ => rfl
  | 2, _ => rfl
  | 3, _ => rfl
  | n + 4, h => absurd h (by omega)
theorem dv_7 : ∀ j, j < 12 → defaultValue (tyX6 j) = ofv 7 (fun _ => 0) (fun _ => none) j := fun j hj => match j, hj with
  | 0, _ => rfl
  | 1, _ => rfl
  | 2, _ => rfl
  | 3, _ => rfl
  | 4, _ => rfl
  | 5, _ => rfl
  | 6, _ => rfl
  | 7, _ => rfl
  | 8, _ => rfl
  | 9, _ => rfl
  | 10, _ => rfl
  | 11, _ => rfl
  | n + 12, h => absurd h (by omega)
theorem dv_8 : ∀ j, j < 3 → defaultValue (tyX7 j) = ofv 8 (fun _ => 0) (fun _ => none) j := fun j hj => match j, hj with
  | 0, _ => rfl
  | 1, _ => rfl
  | 2, _ => rfl
  | n + 3, h => absurd h (by omega)
theorem dv_9 : ∀ j, j < 8 → defaultValue (tyX8 j) = ofv 9 (fun _ => 0) (fun _ => none) j := fun j hj => match j, hj with
  | 0, _ => rfl
  | 1, _ => rfl
  | 2, _ => rfl
  | 3, _ => rfl
  | 4, _ => rfl
  | 5, _ => rfl
  | 6, _ => rfl
  | 7, _ => rfl
  | n + 8, h => absurd h (by omega)
theorem dv_10 : ∀ j, j < 8 → defaultValue (tyX9 j) = ofv 10 (fun _ => 0) (fun _ => none) j := fun j hj => match j, hj with
  | 0, _ => rfl
  | 1, _ => rfl
  | 2, _ => rfl
  | 3, _ => rfl
  | 4, _ => rfl
  | 5, _ => rfl
  | 6, _ => rfl
  | 7, _ => rfl
  | n + 8, h => absurd h (by omega)
theorem dv_11 : ∀ j, j < 2 → defaultValue (tyX10 j) = ofv 11 (fun _ => 0) (fun _ => none) j := fun j hj => match j, hj with
  | 0, _ => rfl
  | 1, _ => rfl
  | n + 2, h => absurd h (by omega)
