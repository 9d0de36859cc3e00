def PTS (a : Nat → Nat → Int) (W : Nat → Int) (t q u : Int) (ps : List (Int × List Int)) : Prop := ∃ y, ptp a W t q u q ps y ∧ u ≤ y
section SROW
variable {g : Nat} {sk : Nat → Nat} {L : List Nat} {cl ln : Nat → Nat} {iv iv1 iv2 iv3 : Nat → Nat → Int} {rv : Nat → Nat → Option Nat} {v : Nat → Int} {a : Nat → Nat → Int} {W : Nat → Int} {s w tb c cb n lb : Nat} {t : Nat} {i k x y z q u m p b b2 f : Int} {r ah fo : Option Nat} {ls : List Nat} {l l0 cs ds : List Int}
end SROW
def SW0 (a : Nat → Nat → Int) (W : Nat → Int) (n t : Int) (cs : List Int) : Prop := (a 6 t.toNat ≠ 5 ∧ ∃ ps, PTS a W t 0 n ps ∧ cs = cls ps) ∨ (a 6 t.toNat = 5 ∧ ∃ js ps g x, jtp a W n t 0 0 js g x ∧ SEG a W n t g x n ps ∧ cs = jcl a t 0 js ++ cls ps)
section SBYS
variable {h : Nat} {sk : Nat → Nat} {L : List Nat} {cl ln : Nat → Nat} {iv iv1 iv2 iv3 : Nat → Nat → Int} {rv : Nat → Nat → Option Nat} {v : Nat → Int} {a : Nat → Nat → Int} {W : Nat → Int} {s tb n lb : Nat} {t : Nat} {g x y z m f f2 e0 g2 : Int} {r r2 : Option Nat} {cs ds : List Int} {js : List (Int × List (Int × List Int))}
theorem SW0.uni {t : Int} (hT : TBL v a) (ht : 0 ≤ t ∧ t < v 4) (hs : SW0 a W m t cs) (h2 : SW0 a W m t ds) : cs = ds := by
  rcases hs with ⟨p1, ps, ⟨y, p2, p3⟩, p5⟩ | ⟨p1, js, ps, g, x, p3, p4, p5⟩
  · rcases h2 with ⟨_, qs, ⟨z, q2, q3⟩, q5⟩ | ⟨q1, _⟩
    · rw [p5, q5, ptp.uni hT ht.1 ht.2 p2 p3 q2 q3]
    · exact absurd q1 p1
  · rcases h2 with ⟨q1, _⟩ | ⟨_, ks, qs, g2, x2, q3, q4, q5⟩
    · exact absurd p1 q1
    · obtain ⟨ls, k1, k2⟩ := jtp.ext hT ht p1 js ks 0 0 g2 x2 qs p3 q3 q4
      have pk := prt.ok (g := g) hT ht p1
      cases ls with
      | nil =>
        obtain ⟨rfl, rfl⟩ := k2
        have e := SEG.uni hT pk.1.1 pk.1.2 p4 q4
        rw [List.append_nil] at k1
        rw [p5, q5, k1, e.2]
      | cons p ls =>
        obtain ⟨m1, m2, _, _⟩ := k2
        have e := SEG.uni hT pk.1.1 pk.1.2 p4 m1
        omega
theorem SBJ.no {t : Int} (hT : TBL v a) (ht : 0 ≤ t ∧ t < v 4) (h5 : a 6 t.toNat = 5) (p3 : jtp a W m t 0 0 js g x) (hy : x ≤ y ∧ y ≤ m) (hN : NSG W (sgj g) x y) (he : y = m ∨ W y.toNat = sgj g) (no : (¬ ∃ ps, PTS a W (prt a t g) x y ps ∧ (jcl a t 0 js ++ cls ps).length ≤ 200) ∨ (y < m ∧ ¬ 0 < a 16 (ind4 t g).toNat)) : ¬ ∃ cs, SW0 a W m t cs ∧ cs.length ≤ 200 := fun w => by
  obtain ⟨cs, w1, len⟩ := w
  rcases w1 with ⟨w1, _⟩ | ⟨_, ks, qs, g3, x3, w2, w3, w4⟩
  · exact w1 h5
  · obtain ⟨ls, k1, k2⟩ := jtp.ext hT ht h5 js ks 0 0 g3 x3 qs p3 w2 w3
    obtain ⟨ps, zz, ⟨m1, m2⟩, m3, m4⟩ := seg_len hT ht h5 k2 w3 hy hN he
    rcases no with no | ⟨n1, n2⟩
    · refine no ⟨ps, ⟨zz, m1, m2⟩, ?_⟩
      rw [k1, jcl.app js ls 0 0 p3, List.append_assoc] at w4
      rw [w4, List.length_append] at len
      rw [List.length_append]; omega
    · rcases m4 with m4 | ⟨_, m5, _⟩
      · omega
      · exact n2 m5
end SBYS
