theorem m_tabIn {p : Program} {l : Launch} {e : Env} {R : Room} {s : State} {m : MethodId} {args : Array Value} {below : List Frame} {meth : Method} {c : Code} {cc : ByteArray} {y : MethodName} {ret : Option FieldType} {G : GT} {A : Nat → Prop} {nL : Nat} {Q : State → Prop} {h0 : Nat} {ad ln : Nat → Nat} {v : Nat → Int} {a : Nat → Nat → Int} {kc ks pc : Nat} {lv : List (Nat × Value)} {st : List Value} (C : Cq p s m args meth c cc y ret G A nL) {dflt lo hi z off : Int} {offs : Array Int} {len tgt : Nat} (hz : R32 z) (d : decode cc pc = .ok (.tableswitch dflt lo hi offs, len)) (h1 : ¬ z < lo) (h2 : ¬ hi < z) (ho : offs[(z - lo).toNat]? = some off) (ht : (pc : Int) + off = (tgt : Int)) (k : mw p l e R s m args below meth c G A nL Q h0 ad ln v a kc ks tgt lv st) : mw p l e R s m args below meth c G A nL Q h0 ad ln v a kc ks pc lv (.int (iI z) :: st) := fun L E h H locs ls hP hD hS hl => lv_tableIn C.1 C.2.1 d (by rw [iI_int hz]; exact h1) (by rw [iI_int hz]; exact h2) (by rw [iI_int hz]; exact ho) ht (k L E h H locs ls hP hD hS hl)
theorem m_tabOut {p : Program} {l : Launch} {e : Env} {R : Room} {s : State} {m : MethodId} {args : Array Value} {below : List Frame} {meth : Method} {c : Code} {cc : ByteArray} {y : MethodName} {ret : Option FieldType} {G : GT} {A : Nat → Prop} {nL : Nat} {Q : State → Prop} {h0 : Nat} {ad ln : Nat → Nat} {v : Nat → Int} {a : Nat → Nat → Int} {kc ks pc : Nat} {lv : List (Nat × Value)} {st : List Value} (C : Cq p s m args meth c cc y ret G A nL) {dflt lo hi z : Int} {offs : Array Int} {len tgt : Nat} (hz : R32 z) (d : decode cc pc = .ok (.tableswitch dflt lo hi offs, len)) (h1 : z < lo ∨ hi < z) (ht : (pc : Int) + dflt = (tgt : Int)) (k : mw p l e R s m args below meth c G A nL Q h0 ad ln v a kc ks tgt lv st) : mw p l e R s m args below meth c G A nL Q h0 ad ln v a kc ks pc lv (.int (iI z) :: st) := fun L E h H locs ls hP hD hS hl => lv_tableOut C.1 C.2.1 d (by rw [iI_int hz]; exact h1) ht (k L E h H locs ls hP hD hS hl)
set_option maxHeartbeats 4000000 in
set_option maxRecDepth 100000 in
theorem Lp_fits {p : Program} {l : Launch} {e : Env} {s : State} {m : MethodId} {args : Array Value} {below : List Frame} {meth : Method} {c : Code} {G : GT} {A : Nat → Prop} {h0 : Nat} {ad ln : Nat → Nat} {v : Nat → Int} {a : Nat → Nat → Int} {r q u x : Int} (hR : RG v a) (hr : 0 ≤ r ∧ r < 6000) (h12 : 1 ≤ a 12 r.toNat ∧ a 12 r.toNat ≤ 8) (hx : 0 ≤ q ∧ q ≤ x ∧ x < u ∧ u ≤ 500) (C : Cq p s m args meth c cX12_fits yX12_fits (some .boolean) G A 9) : ∀ (n : Nat) (k f : Int), 9 - k < (n : Int) → (0 ≤ k ∧ k ≤ a 12 r.toNat) → (f = 0 ∨ (f = 1 ∧ x + a 12 r.toNat ≤ u)) → mw p l e (rmq 1 0 0) s m args below meth c G A 9 (MQ below (Qm G A (fun rq Lq Eq => ∃ (vq : Nat → Int) (aq : Nat → Nat → Int), mI G h0 ad ln vq aq Lq Eq ∧ (fun r2 v2 a2 => ∃ f : Int, r2 = some (.int (iI f)) ∧ (f = 0 ∨ (f = 1 ∧ x + a 12 r.toNat ≤ u)) ∧ v = v2 ∧ a = a2) rq vq aq)) args s 0 0 A) h0 ad ln v a 0 0 27 [(7, .int (iI k)), (6, .int (iI f)), (5, .int (iI (a 12 r.toNat))), (0, .ref h0), (1, .int (iI r)), (2, .int (iI q)), (3, .int (iI u)), (4, .int (iI x))] [] := by
  intro n
  induction n with
  | zero =>
    intro k f   hm hk hf
    exact absurd hm (by omega)
  | succ n ih =>
    intro k f   hm hk hf
    refine m_iload (j := 0) C dX12_fits_27 rfl ?_
    refine m_iload (j := 2) C dX12_fits_29 rfl ?_
    refine m_icmp_ge (tgt := 77) C ⟨by omega, by omega⟩ ⟨by omega, by omega⟩ dX12_fits_31 (by decide) (fun c1 => ?_) (fun c1 => ?_)
    · refine m_iload (j := 1) C dX12_fits_77 rfl ?_
      refine m_if_ne (tgt := 84) C ⟨by omega, by omega⟩ dX12_fits_79 (by decide) (fun c2 => ?_) (fun c2 => ?_)
      · refine m_iload (j := 7) C dX12_fits_84 rfl ?_
        refine m_iload_n (j := 5) C dX12_fits_86 rfl ?_
        refine m_icmp_ne (tgt := 94) C ⟨by omega, by omega⟩ ⟨by omega, by omega⟩ dX12_fits_87 (by decide) (fun c3 => ?_) (fun c3 => ?_)
        · refine m_iconst C dX12_fits_94 ?_
          refine m_istore (lv2 := [(7, .int (iI 0)), (6, .int (iI f)), (5, .int (iI (a 12 r.toNat))), (0, .ref h0), (1, .int (iI r)), (2, .int (iI q)), (3, .int (iI u)), (4, .int (iI x))]) C dX12_fits_95 (by decide) rfl ?_
          refine m_iload (j := 7) C dX12_fits_97 rfl ?_
          refine m_iload (j := 2) C dX12_fits_99 rfl ?_
          refine m_iadd C dX12_fits_101 ?_
          refine m_iload_n (j := 6) C dX12_fits_102 rfl ?_
          refine m_icmp_ne (tgt := 110) C ⟨by omega, by omega⟩ ⟨by omega, by omega⟩ dX12_fits_103 (by decide) (fun c4 => ?_) (fun c4 => ?_)
          · refine m_iconst C dX12_fits_110 ?_
            refine m_istore (lv2 := [(8, .int (iI 0)), (7, .int (iI 0)), (6, .int (iI f)), (5, .int (iI (a 12 r.toNat))), (0, .ref h0), (1, .int (iI r)), (2, .int (iI q)), (3, .int (iI u)), (4, .int (iI x))]) C dX12_fits_111 (by decide) rfl ?_
            refine m_aload_n (j := 4) C dX12_fits_113 rfl ?_
            refine m_geta (k := 11) C dX12_fits_114 w6_70 (by decide) rfl ?_
            refine m_iload_n (j := 5) C dX12_fits_117 rfl ?_
            refine m_ald (k := 11) C dX12_fits_118 rfl rfl (by decide) (by omega) (by show _ < ((_ : Nat) : Int); simp only [mlen]; omega) (by decide) ?_
            have ra1 := hR.2 11 (r.toNat)
            rcases (show (a 11 r.toNat) = 0 ∨ (a 11 r.toNat) = 1 ∨ (a 11 r.toNat) = 2 ∨ (a 11 r.toNat) = 3 ∨ (a 11 r.toNat) = 4 ∨ ((a 11 r.toNat) < 0 ∨ 4 < (a 11 r.toNat)) by omega) with sw1 | sw1 | sw1 | sw1 | sw1 | sw1
            · refine m_tabIn (tgt := 152) (off := 33) C ⟨by omega, by omega⟩ dX12_fits_119 (by omega) (by omega) (by rw [sw1]; rfl) (by decide) ?_
              refine m_iconst C dX12_fits_152 ?_
              exact m_zret C dX12_fits_153 rfl (Or.inr rfl) (Nat.le_of_ble_eq_true rfl) (Nat.le_of_ble_eq_true rfl) ⟨1, rfl, (by omega), rfl, rfl⟩
            · refine m_tabIn (tgt := 154) (off := 35) C ⟨by omega, by omega⟩ dX12_fits_119 (by omega) (by omega) (by rw [sw1]; rfl) (by decide) ?_
              refine m_iload (j := 1) C dX12_fits_154 rfl ?_
              exact m_zret C dX12_fits_156 rfl (Or.inl rfl) (Nat.le_of_ble_eq_true rfl) (Nat.le_of_ble_eq_true rfl) ⟨0, rfl, (by omega), rfl, rfl⟩
            · refine m_tabIn (tgt := 157) (off := 38) C ⟨by omega, by omega⟩ dX12_fits_119 (by omega) (by omega) (by rw [sw1]; rfl) (by decide) ?_
              refine m_iload (j := 1) C dX12_fits_157 rfl ?_
              refine m_if_ne (tgt := 171) C ⟨by decide, by decide⟩ dX12_fits_159 (by decide) (fun z => absurd z (by omega)) (fun _ => ?_)
              refine m_iload (j := 0) C dX12_fits_162 rfl ?_
              refine m_if_ne (tgt := 171) C ⟨by decide, by decide⟩ dX12_fits_164 (by decide) (fun z => absurd z (by omega)) (fun _ => ?_)
              refine m_iconst C dX12_fits_167 ?_
              refine m_goto (tgt := 172) C dX12_fits_168 (by decide) ?_
              exact m_zret C dX12_fits_172 rfl (Or.inr rfl) (Nat.le_of_ble_eq_true rfl) (Nat.le_of_ble_eq_true rfl) ⟨1, rfl, (by omega), rfl, rfl⟩
            · refine m_tabIn (tgt := 173) (off := 54) C ⟨by omega, by omega⟩ dX12_fits_119 (by omega) (by omega) (by rw [sw1]; rfl) (by decide) ?_
              refine m_iload (j := 0) C dX12_fits_173 rfl ?_
              exact m_zret C dX12_fits_175 rfl (Or.inl rfl) (Nat.le_of_ble_eq_true rfl) (Nat.le_of_ble_eq_true rfl) ⟨0, rfl, (by omega), rfl, rfl⟩
            · refine m_tabIn (tgt := 176) (off := 57) C ⟨by omega, by omega⟩ dX12_fits_119 (by omega) (by omega) (by rw [sw1]; rfl) (by decide) ?_
              refine m_iload (j := 1) C dX12_fits_176 rfl ?_
              refine m_if_eq (tgt := 190) C ⟨by decide, by decide⟩ dX12_fits_178 (by decide) (fun _ => ?_) (fun z => absurd z (by omega))
              refine m_iconst C dX12_fits_190 ?_
              exact m_zret C dX12_fits_191 rfl (Or.inl rfl) (Nat.le_of_ble_eq_true rfl) (Nat.le_of_ble_eq_true rfl) ⟨0, rfl, (by omega), rfl, rfl⟩
            · refine m_tabOut (tgt := 192) C ⟨by omega, by omega⟩ dX12_fits_119 sw1 (by decide) ?_
              refine m_iload (j := 0) C dX12_fits_192 rfl ?_
              refine m_if_ne (tgt := 249) C ⟨by decide, by decide⟩ dX12_fits_194 (by decide) (fun z => absurd z (by omega)) (fun _ => ?_)
              refine m_aload_n (j := 4) C dX12_fits_197 rfl ?_
              refine m_geta (k := 20) C dX12_fits_198 w6_79 (by decide) rfl ?_
              refine m_iload (j := 8) C dX12_fits_201 rfl ?_
              refine m_iload (j := 3) C dX12_fits_203 rfl ?_
              refine m_iadd C dX12_fits_205 ?_
              refine m_ald (k := 20) C dX12_fits_206 rfl rfl (by decide) (by omega) (by show _ < ((_ : Nat) : Int); simp only [mlen]; omega) (by decide) ?_
              have ra2 := hR.2 20 ((x + (a 12 r.toNat)).toNat)
              refine m_callS (As := [.int (iI (a 20 (x + (a 12 r.toNat)).toNat))]) (rest := []) C (fun L E => s_isDigit (iI (a 20 (x + (a 12 r.toNat)).toNat))) dX12_fits_207 kS_X12_202 rfl rfl (Nat.le_of_ble_eq_true rfl) ⟨Nat.le_of_ble_eq_true rfl, Nat.le_of_ble_eq_true rfl⟩ ⟨Nat.le_of_ble_eq_true rfl, Nat.le_of_ble_eq_true rfl⟩ ?_
              rcases inn_c (x := a 20 (x + (a 12 r.toNat)).toNat) (lo := 48) (hi := 57) ⟨by omega, by omega⟩ ⟨by decide, by decide⟩ ⟨by decide, by decide⟩ with ⟨h1a, h1b, h1e⟩ | ⟨h1a, h1e⟩
              · refine m_st (st2 := [.int (iI 1)]) (by rw [show inn (iI (a 20 (x + (a 12 r.toNat)).toNat)) 48 57 = iI 1 from h1e]) ?_
                refine m_if_ne (tgt := 249) C ⟨by decide, by decide⟩ dX12_fits_210 (by decide) (fun _ => ?_) (fun z => absurd z (by omega))
                refine m_iconst C dX12_fits_249 ?_
                exact m_zret C dX12_fits_250 rfl (Or.inl rfl) (Nat.le_of_ble_eq_true rfl) (Nat.le_of_ble_eq_true rfl) ⟨0, rfl, (by omega), rfl, rfl⟩
              · refine m_st (st2 := [.int (iI 0)]) (by rw [show inn (iI (a 20 (x + (a 12 r.toNat)).toNat)) 48 57 = iI 0 from h1e]) ?_
                refine m_if_ne (tgt := 249) C ⟨by decide, by decide⟩ dX12_fits_210 (by decide) (fun z => absurd z (by omega)) (fun _ => ?_)
                refine m_aload_n (j := 4) C dX12_fits_213 rfl ?_
                refine m_geta (k := 20) C dX12_fits_214 w6_79 (by decide) rfl ?_
                refine m_iload (j := 8) C dX12_fits_217 rfl ?_
                refine m_iload (j := 3) C dX12_fits_219 rfl ?_
                refine m_iadd C dX12_fits_221 ?_
                refine m_ald (k := 20) C dX12_fits_222 rfl rfl (by decide) (by omega) (by show _ < ((_ : Nat) : Int); simp only [mlen]; omega) (by decide) ?_
                have ra3 := hR.2 20 ((x + (a 12 r.toNat)).toNat)
                refine m_callS (As := [.int (iI (a 20 (x + (a 12 r.toNat)).toNat))]) (rest := []) C (fun L E => s_isGreat (iI (a 20 (x + (a 12 r.toNat)).toNat))) dX12_fits_223 kS_X12_205 rfl rfl (Nat.le_of_ble_eq_true rfl) ⟨Nat.le_of_ble_eq_true rfl, Nat.le_of_ble_eq_true rfl⟩ ⟨Nat.le_of_ble_eq_true rfl, Nat.le_of_ble_eq_true rfl⟩ ?_
                rcases inn_c (x := a 20 (x + (a 12 r.toNat)).toNat) (lo := 65) (hi := 90) ⟨by omega, by omega⟩ ⟨by decide, by decide⟩ ⟨by decide, by decide⟩ with ⟨h2a, h2b, h2e⟩ | ⟨h2a, h2e⟩
                · refine m_st (st2 := [.int (iI 1)]) (by rw [show inn (iI (a 20 (x + (a 12 r.toNat)).toNat)) 65 90 = iI 1 from h2e]) ?_
                  refine m_if_ne (tgt := 249) C ⟨by decide, by decide⟩ dX12_fits_226 (by decide) (fun _ => ?_) (fun z => absurd z (by omega))
                  refine m_iconst C dX12_fits_249 ?_
                  exact m_zret C dX12_fits_250 rfl (Or.inl rfl) (Nat.le_of_ble_eq_true rfl) (Nat.le_of_ble_eq_true rfl) ⟨0, rfl, (by omega), rfl, rfl⟩
                · refine m_st (st2 := [.int (iI 0)]) (by rw [show inn (iI (a 20 (x + (a 12 r.toNat)).toNat)) 65 90 = iI 0 from h2e]) ?_
                  refine m_if_ne (tgt := 249) C ⟨by decide, by decide⟩ dX12_fits_226 (by decide) (fun z => absurd z (by omega)) (fun _ => ?_)
                  refine m_aload_n (j := 4) C dX12_fits_229 rfl ?_
                  refine m_geta (k := 20) C dX12_fits_230 w6_79 (by decide) rfl ?_
                  refine m_iload (j := 8) C dX12_fits_233 rfl ?_
                  refine m_iload (j := 3) C dX12_fits_235 rfl ?_
                  refine m_iadd C dX12_fits_237 ?_
                  refine m_ald (k := 20) C dX12_fits_238 rfl rfl (by decide) (by omega) (by show _ < ((_ : Nat) : Int); simp only [mlen]; omega) (by decide) ?_
                  have ra4 := hR.2 20 ((x + (a 12 r.toNat)).toNat)
                  refine m_callS (As := [.int (iI (a 20 (x + (a 12 r.toNat)).toNat))]) (rest := []) C (fun L E => s_isSmall (iI (a 20 (x + (a 12 r.toNat)).toNat))) dX12_fits_239 kS_X12_208 rfl rfl (Nat.le_of_ble_eq_true rfl) ⟨Nat.le_of_ble_eq_true rfl, Nat.le_of_ble_eq_true rfl⟩ ⟨Nat.le_of_ble_eq_true rfl, Nat.le_of_ble_eq_true rfl⟩ ?_
                  rcases inn_c (x := a 20 (x + (a 12 r.toNat)).toNat) (lo := 97) (hi := 122) ⟨by omega, by omega⟩ ⟨by decide, by decide⟩ ⟨by decide, by decide⟩ with ⟨h3a, h3b, h3e⟩ | ⟨h3a, h3e⟩
                  · refine m_st (st2 := [.int (iI 1)]) (by rw [show inn (iI (a 20 (x + (a 12 r.toNat)).toNat)) 97 122 = iI 1 from h3e]) ?_
                    refine m_if_ne (tgt := 249) C ⟨by decide, by decide⟩ dX12_fits_242 (by decide) (fun _ => ?_) (fun z => absurd z (by omega))
                    refine m_iconst C dX12_fits_249 ?_
                    exact m_zret C dX12_fits_250 rfl (Or.inl rfl) (Nat.le_of_ble_eq_true rfl) (Nat.le_of_ble_eq_true rfl) ⟨0, rfl, (by omega), rfl, rfl⟩
                  · refine m_st (st2 := [.int (iI 0)]) (by rw [show inn (iI (a 20 (x + (a 12 r.toNat)).toNat)) 97 122 = iI 0 from h3e]) ?_
                    refine m_if_ne (tgt := 249) C ⟨by decide, by decide⟩ dX12_fits_242 (by decide) (fun z => absurd z (by omega)) (fun _ => ?_)
                    refine m_iconst C dX12_fits_245 ?_
                    refine m_goto (tgt := 250) C dX12_fits_246 (by decide) ?_
                    exact m_zret C dX12_fits_250 rfl (Or.inr rfl) (Nat.le_of_ble_eq_true rfl) (Nat.le_of_ble_eq_true rfl) ⟨1, rfl, (by omega), rfl, rfl⟩
          · refine m_iconst C dX12_fits_106 ?_
            refine m_goto (tgt := 111) C dX12_fits_107 (by decide) ?_
            refine m_istore (lv2 := [(8, .int (iI 1)), (7, .int (iI 0)), (6, .int (iI f)), (5, .int (iI (a 12 r.toNat))), (0, .ref h0), (1, .int (iI r)), (2, .int (iI q)), (3, .int (iI u)), (4, .int (iI x))]) C dX12_fits_111 (by decide) rfl ?_
            refine m_aload_n (j := 4) C dX12_fits_113 rfl ?_
            refine m_geta (k := 11) C dX12_fits_114 w6_70 (by decide) rfl ?_
            refine m_iload_n (j := 5) C dX12_fits_117 rfl ?_
            refine m_ald (k := 11) C dX12_fits_118 rfl rfl (by decide) (by omega) (by show _ < ((_ : Nat) : Int); simp only [mlen]; omega) (by decide) ?_
            have ra5 := hR.2 11 (r.toNat)
            rcases (show (a 11 r.toNat) = 0 ∨ (a 11 r.toNat) = 1 ∨ (a 11 r.toNat) = 2 ∨ (a 11 r.toNat) = 3 ∨ (a 11 r.toNat) = 4 ∨ ((a 11 r.toNat) < 0 ∨ 4 < (a 11 r.toNat)) by omega) with sw2 | sw2 | sw2 | sw2 | sw2 | sw2
            · refine m_tabIn (tgt := 152) (off := 33) C ⟨by omega, by omega⟩ dX12_fits_119 (by omega) (by omega) (by rw [sw2]; rfl) (by decide) ?_
              refine m_iconst C dX12_fits_152 ?_
              exact m_zret C dX12_fits_153 rfl (Or.inr rfl) (Nat.le_of_ble_eq_true rfl) (Nat.le_of_ble_eq_true rfl) ⟨1, rfl, (by omega), rfl, rfl⟩
            · refine m_tabIn (tgt := 154) (off := 35) C ⟨by omega, by omega⟩ dX12_fits_119 (by omega) (by omega) (by rw [sw2]; rfl) (by decide) ?_
              refine m_iload (j := 1) C dX12_fits_154 rfl ?_
              exact m_zret C dX12_fits_156 rfl (Or.inl rfl) (Nat.le_of_ble_eq_true rfl) (Nat.le_of_ble_eq_true rfl) ⟨0, rfl, (by omega), rfl, rfl⟩
            · refine m_tabIn (tgt := 157) (off := 38) C ⟨by omega, by omega⟩ dX12_fits_119 (by omega) (by omega) (by rw [sw2]; rfl) (by decide) ?_
              refine m_iload (j := 1) C dX12_fits_157 rfl ?_
              refine m_if_ne (tgt := 171) C ⟨by decide, by decide⟩ dX12_fits_159 (by decide) (fun z => absurd z (by omega)) (fun _ => ?_)
              refine m_iload (j := 0) C dX12_fits_162 rfl ?_
              refine m_if_ne (tgt := 171) C ⟨by decide, by decide⟩ dX12_fits_164 (by decide) (fun _ => ?_) (fun z => absurd z (by omega))
              refine m_iconst C dX12_fits_171 ?_
              exact m_zret C dX12_fits_172 rfl (Or.inl rfl) (Nat.le_of_ble_eq_true rfl) (Nat.le_of_ble_eq_true rfl) ⟨0, rfl, (by omega), rfl, rfl⟩
            · refine m_tabIn (tgt := 173) (off := 54) C ⟨by omega, by omega⟩ dX12_fits_119 (by omega) (by omega) (by rw [sw2]; rfl) (by decide) ?_
              refine m_iload (j := 0) C dX12_fits_173 rfl ?_
              exact m_zret C dX12_fits_175 rfl (Or.inr rfl) (Nat.le_of_ble_eq_true rfl) (Nat.le_of_ble_eq_true rfl) ⟨1, rfl, (by omega), rfl, rfl⟩
            · refine m_tabIn (tgt := 176) (off := 57) C ⟨by omega, by omega⟩ dX12_fits_119 (by omega) (by omega) (by rw [sw2]; rfl) (by decide) ?_
              refine m_iload (j := 1) C dX12_fits_176 rfl ?_
              refine m_if_eq (tgt := 190) C ⟨by decide, by decide⟩ dX12_fits_178 (by decide) (fun _ => ?_) (fun z => absurd z (by omega))
              refine m_iconst C dX12_fits_190 ?_
              exact m_zret C dX12_fits_191 rfl (Or.inl rfl) (Nat.le_of_ble_eq_true rfl) (Nat.le_of_ble_eq_true rfl) ⟨0, rfl, (by omega), rfl, rfl⟩
            · refine m_tabOut (tgt := 192) C ⟨by omega, by omega⟩ dX12_fits_119 sw2 (by decide) ?_
              refine m_iload (j := 0) C dX12_fits_192 rfl ?_
              refine m_if_ne (tgt := 249) C ⟨by decide, by decide⟩ dX12_fits_194 (by decide) (fun _ => ?_) (fun z => absurd z (by omega))
              refine m_iconst C dX12_fits_249 ?_
              exact m_zret C dX12_fits_250 rfl (Or.inl rfl) (Nat.le_of_ble_eq_true rfl) (Nat.le_of_ble_eq_true rfl) ⟨0, rfl, (by omega), rfl, rfl⟩
        · refine m_iconst C dX12_fits_90 ?_
          refine m_goto (tgt := 95) C dX12_fits_91 (by decide) ?_
          refine m_istore (lv2 := [(7, .int (iI 1)), (6, .int (iI f)), (5, .int (iI (a 12 r.toNat))), (0, .ref h0), (1, .int (iI r)), (2, .int (iI q)), (3, .int (iI u)), (4, .int (iI x))]) C dX12_fits_95 (by decide) rfl ?_
          refine m_iload (j := 7) C dX12_fits_97 rfl ?_
          refine m_iload (j := 2) C dX12_fits_99 rfl ?_
          refine m_iadd C dX12_fits_101 ?_
          refine m_iload_n (j := 6) C dX12_fits_102 rfl ?_
          refine m_icmp_ne (tgt := 110) C ⟨by omega, by omega⟩ ⟨by omega, by omega⟩ dX12_fits_103 (by decide) (fun c5 => ?_) (fun c5 => ?_)
          · refine m_iconst C dX12_fits_110 ?_
            refine m_istore (lv2 := [(8, .int (iI 0)), (7, .int (iI 1)), (6, .int (iI f)), (5, .int (iI (a 12 r.toNat))), (0, .ref h0), (1, .int (iI r)), (2, .int (iI q)), (3, .int (iI u)), (4, .int (iI x))]) C dX12_fits_111 (by decide) rfl ?_
            refine m_aload_n (j := 4) C dX12_fits_113 rfl ?_
            refine m_geta (k := 11) C dX12_fits_114 w6_70 (by decide) rfl ?_
            refine m_iload_n (j := 5) C dX12_fits_117 rfl ?_
            refine m_ald (k := 11) C dX12_fits_118 rfl rfl (by decide) (by omega) (by show _ < ((_ : Nat) : Int); simp only [mlen]; omega) (by decide) ?_
            have ra6 := hR.2 11 (r.toNat)
            rcases (show (a 11 r.toNat) = 0 ∨ (a 11 r.toNat) = 1 ∨ (a 11 r.toNat) = 2 ∨ (a 11 r.toNat) = 3 ∨ (a 11 r.toNat) = 4 ∨ ((a 11 r.toNat) < 0 ∨ 4 < (a 11 r.toNat)) by omega) with sw3 | sw3 | sw3 | sw3 | sw3 | sw3
            · refine m_tabIn (tgt := 152) (off := 33) C ⟨by omega, by omega⟩ dX12_fits_119 (by omega) (by omega) (by rw [sw3]; rfl) (by decide) ?_
              refine m_iconst C dX12_fits_152 ?_
              exact m_zret C dX12_fits_153 rfl (Or.inr rfl) (Nat.le_of_ble_eq_true rfl) (Nat.le_of_ble_eq_true rfl) ⟨1, rfl, (by omega), rfl, rfl⟩
            · refine m_tabIn (tgt := 154) (off := 35) C ⟨by omega, by omega⟩ dX12_fits_119 (by omega) (by omega) (by rw [sw3]; rfl) (by decide) ?_
              refine m_iload (j := 1) C dX12_fits_154 rfl ?_
              exact m_zret C dX12_fits_156 rfl (Or.inr rfl) (Nat.le_of_ble_eq_true rfl) (Nat.le_of_ble_eq_true rfl) ⟨1, rfl, (by omega), rfl, rfl⟩
            · refine m_tabIn (tgt := 157) (off := 38) C ⟨by omega, by omega⟩ dX12_fits_119 (by omega) (by omega) (by rw [sw3]; rfl) (by decide) ?_
              refine m_iload (j := 1) C dX12_fits_157 rfl ?_
              refine m_if_ne (tgt := 171) C ⟨by decide, by decide⟩ dX12_fits_159 (by decide) (fun _ => ?_) (fun z => absurd z (by omega))
              refine m_iconst C dX12_fits_171 ?_
              exact m_zret C dX12_fits_172 rfl (Or.inl rfl) (Nat.le_of_ble_eq_true rfl) (Nat.le_of_ble_eq_true rfl) ⟨0, rfl, (by omega), rfl, rfl⟩
            · refine m_tabIn (tgt := 173) (off := 54) C ⟨by omega, by omega⟩ dX12_fits_119 (by omega) (by omega) (by rw [sw3]; rfl) (by decide) ?_
              refine m_iload (j := 0) C dX12_fits_173 rfl ?_
              exact m_zret C dX12_fits_175 rfl (Or.inl rfl) (Nat.le_of_ble_eq_true rfl) (Nat.le_of_ble_eq_true rfl) ⟨0, rfl, (by omega), rfl, rfl⟩
            · refine m_tabIn (tgt := 176) (off := 57) C ⟨by omega, by omega⟩ dX12_fits_119 (by omega) (by omega) (by rw [sw3]; rfl) (by decide) ?_
              refine m_iload (j := 1) C dX12_fits_176 rfl ?_
              refine m_if_eq (tgt := 190) C ⟨by decide, by decide⟩ dX12_fits_178 (by decide) (fun z => absurd z (by omega)) (fun _ => ?_)
              refine m_iload (j := 0) C dX12_fits_181 rfl ?_
              refine m_if_eq (tgt := 190) C ⟨by decide, by decide⟩ dX12_fits_183 (by decide) (fun _ => ?_) (fun z => absurd z (by omega))
              refine m_iconst C dX12_fits_190 ?_
              exact m_zret C dX12_fits_191 rfl (Or.inl rfl) (Nat.le_of_ble_eq_true rfl) (Nat.le_of_ble_eq_true rfl) ⟨0, rfl, (by omega), rfl, rfl⟩
            · refine m_tabOut (tgt := 192) C ⟨by omega, by omega⟩ dX12_fits_119 sw3 (by decide) ?_
              refine m_iload (j := 0) C dX12_fits_192 rfl ?_
              refine m_if_ne (tgt := 249) C ⟨by decide, by decide⟩ dX12_fits_194 (by decide) (fun z => absurd z (by omega)) (fun _ => ?_)
              refine m_aload_n (j := 4) C dX12_fits_197 rfl ?_
              refine m_geta (k := 20) C dX12_fits_198 w6_79 (by decide) rfl ?_
              refine m_iload (j := 8) C dX12_fits_201 rfl ?_
              refine m_iload (j := 3) C dX12_fits_203 rfl ?_
              refine m_iadd C dX12_fits_205 ?_
              refine m_ald (k := 20) C dX12_fits_206 rfl rfl (by decide) (by omega) (by show _ < ((_ : Nat) : Int); simp only [mlen]; omega) (by decide) ?_
              have ra7 := hR.2 20 ((x + (a 12 r.toNat)).toNat)
              refine m_callS (As := [.int (iI (a 20 (x + (a 12 r.toNat)).toNat))]) (rest := []) C (fun L E => s_isDigit (iI (a 20 (x + (a 12 r.toNat)).toNat))) dX12_fits_207 kS_X12_202 rfl rfl (Nat.le_of_ble_eq_true rfl) ⟨Nat.le_of_ble_eq_true rfl, Nat.le_of_ble_eq_true rfl⟩ ⟨Nat.le_of_ble_eq_true rfl, Nat.le_of_ble_eq_true rfl⟩ ?_
              rcases inn_c (x := a 20 (x + (a 12 r.toNat)).toNat) (lo := 48) (hi := 57) ⟨by omega, by omega⟩ ⟨by decide, by decide⟩ ⟨by decide, by decide⟩ with ⟨h4a, h4b, h4e⟩ | ⟨h4a, h4e⟩
              · refine m_st (st2 := [.int (iI 1)]) (by rw [show inn (iI (a 20 (x + (a 12 r.toNat)).toNat)) 48 57 = iI 1 from h4e]) ?_
                refine m_if_ne (tgt := 249) C ⟨by decide, by decide⟩ dX12_fits_210 (by decide) (fun _ => ?_) (fun z => absurd z (by omega))
                refine m_iconst C dX12_fits_249 ?_
                exact m_zret C dX12_fits_250 rfl (Or.inl rfl) (Nat.le_of_ble_eq_true rfl) (Nat.le_of_ble_eq_true rfl) ⟨0, rfl, (by omega), rfl, rfl⟩
              · refine m_st (st2 := [.int (iI 0)]) (by rw [show inn (iI (a 20 (x + (a 12 r.toNat)).toNat)) 48 57 = iI 0 from h4e]) ?_
                refine m_if_ne (tgt := 249) C ⟨by decide, by decide⟩ dX12_fits_210 (by decide) (fun z => absurd z (by omega)) (fun _ => ?_)
                refine m_aload_n (j := 4) C dX12_fits_213 rfl ?_
                refine m_geta (k := 20) C dX12_fits_214 w6_79 (by decide) rfl ?_
                refine m_iload (j := 8) C dX12_fits_217 rfl ?_
                refine m_iload (j := 3) C dX12_fits_219 rfl ?_
                refine m_iadd C dX12_fits_221 ?_
                refine m_ald (k := 20) C dX12_fits_222 rfl rfl (by decide) (by omega) (by show _ < ((_ : Nat) : Int); simp only [mlen]; omega) (by decide) ?_
                have ra8 := hR.2 20 ((x + (a 12 r.toNat)).toNat)
                refine m_callS (As := [.int (iI (a 20 (x + (a 12 r.toNat)).toNat))]) (rest := []) C (fun L E => s_isGreat (iI (a 20 (x + (a 12 r.toNat)).toNat))) dX12_fits_223 kS_X12_205 rfl rfl (Nat.le_of_ble_eq_true rfl) ⟨Nat.le_of_ble_eq_true rfl, Nat.le_of_ble_eq_true rfl⟩ ⟨Nat.le_of_ble_eq_true rfl, Nat.le_of_ble_eq_true rfl⟩ ?_
                rcases inn_c (x := a 20 (x + (a 12 r.toNat)).toNat) (lo := 65) (hi := 90) ⟨by omega, by omega⟩ ⟨by decide, by decide⟩ ⟨by decide, by decide⟩ with ⟨h5a, h5b, h5e⟩ | ⟨h5a, h5e⟩
                · refine m_st (st2 := [.int (iI 1)]) (by rw [show inn (iI (a 20 (x + (a 12 r.toNat)).toNat)) 65 90 = iI 1 from h5e]) ?_
                  refine m_if_ne (tgt := 249) C ⟨by decide, by decide⟩ dX12_fits_226 (by decide) (fun _ => ?_) (fun z => absurd z (by omega))
                  refine m_iconst C dX12_fits_249 ?_
                  exact m_zret C dX12_fits_250 rfl (Or.inl rfl) (Nat.le_of_ble_eq_true rfl) (Nat.le_of_ble_eq_true rfl) ⟨0, rfl, (by omega), rfl, rfl⟩
                · refine m_st (st2 := [.int (iI 0)]) (by rw [show inn (iI (a 20 (x + (a 12 r.toNat)).toNat)) 65 90 = iI 0 from h5e]) ?_
                  refine m_if_ne (tgt := 249) C ⟨by decide, by decide⟩ dX12_fits_226 (by decide) (fun z => absurd z (by omega)) (fun _ => ?_)
                  refine m_aload_n (j := 4) C dX12_fits_229 rfl ?_
                  refine m_geta (k := 20) C dX12_fits_230 w6_79 (by decide) rfl ?_
                  refine m_iload (j := 8) C dX12_fits_233 rfl ?_
                  refine m_iload (j := 3) C dX12_fits_235 rfl ?_
                  refine m_iadd C dX12_fits_237 ?_
                  refine m_ald (k := 20) C dX12_fits_238 rfl rfl (by decide) (by omega) (by show _ < ((_ : Nat) : Int); simp only [mlen]; omega) (by decide) ?_
                  have ra9 := hR.2 20 ((x + (a 12 r.toNat)).toNat)
                  refine m_callS (As := [.int (iI (a 20 (x + (a 12 r.toNat)).toNat))]) (rest := []) C (fun L E => s_isSmall (iI (a 20 (x + (a 12 r.toNat)).toNat))) dX12_fits_239 kS_X12_208 rfl rfl (Nat.le_of_ble_eq_true rfl) ⟨Nat.le_of_ble_eq_true rfl, Nat.le_of_ble_eq_true rfl⟩ ⟨Nat.le_of_ble_eq_true rfl, Nat.le_of_ble_eq_true rfl⟩ ?_
                  rcases inn_c (x := a 20 (x + (a 12 r.toNat)).toNat) (lo := 97) (hi := 122) ⟨by omega, by omega⟩ ⟨by decide, by decide⟩ ⟨by decide, by decide⟩ with ⟨h6a, h6b, h6e⟩ | ⟨h6a, h6e⟩
                  · refine m_st (st2 := [.int (iI 1)]) (by rw [show inn (iI (a 20 (x + (a 12 r.toNat)).toNat)) 97 122 = iI 1 from h6e]) ?_
                    refine m_if_ne (tgt := 249) C ⟨by decide, by decide⟩ dX12_fits_242 (by decide) (fun _ => ?_) (fun z => absurd z (by omega))
                    refine m_iconst C dX12_fits_249 ?_
                    exact m_zret C dX12_fits_250 rfl (Or.inl rfl) (Nat.le_of_ble_eq_true rfl) (Nat.le_of_ble_eq_true rfl) ⟨0, rfl, (by omega), rfl, rfl⟩
                  · refine m_st (st2 := [.int (iI 0)]) (by rw [show inn (iI (a 20 (x + (a 12 r.toNat)).toNat)) 97 122 = iI 0 from h6e]) ?_
                    refine m_if_ne (tgt := 249) C ⟨by decide, by decide⟩ dX12_fits_242 (by decide) (fun z => absurd z (by omega)) (fun _ => ?_)
                    refine m_iconst C dX12_fits_245 ?_
                    refine m_goto (tgt := 250) C dX12_fits_246 (by decide) ?_
                    exact m_zret C dX12_fits_250 rfl (Or.inr rfl) (Nat.le_of_ble_eq_true rfl) (Nat.le_of_ble_eq_true rfl) ⟨1, rfl, (by omega), rfl, rfl⟩
          · refine m_iconst C dX12_fits_106 ?_
            refine m_goto (tgt := 111) C dX12_fits_107 (by decide) ?_
            refine m_istore (lv2 := [(8, .int (iI 1)), (7, .int (iI 1)), (6, .int (iI f)), (5, .int (iI (a 12 r.toNat))), (0, .ref h0), (1, .int (iI r)), (2, .int (iI q)), (3, .int (iI u)), (4, .int (iI x))]) C dX12_fits_111 (by decide) rfl ?_
            refine m_aload_n (j := 4) C dX12_fits_113 rfl ?_
            refine m_geta (k := 11) C dX12_fits_114 w6_70 (by decide) rfl ?_
            refine m_iload_n (j := 5) C dX12_fits_117 rfl ?_
            refine m_ald (k := 11) C dX12_fits_118 rfl rfl (by decide) (by omega) (by show _ < ((_ : Nat) : Int); simp only [mlen]; omega) (by decide) ?_
            have ra10 := hR.2 11 (r.toNat)
            rcases (show (a 11 r.toNat) = 0 ∨ (a 11 r.toNat) = 1 ∨ (a 11 r.toNat) = 2 ∨ (a 11 r.toNat) = 3 ∨ (a 11 r.toNat) = 4 ∨ ((a 11 r.toNat) < 0 ∨ 4 < (a 11 r.toNat)) by omega) with sw4 | sw4 | sw4 | sw4 | sw4 | sw4
            · refine m_tabIn (tgt := 152) (off := 33) C ⟨by omega, by omega⟩ dX12_fits_119 (by omega) (by omega) (by rw [sw4]; rfl) (by decide) ?_
              refine m_iconst C dX12_fits_152 ?_
              exact m_zret C dX12_fits_153 rfl (Or.inr rfl) (Nat.le_of_ble_eq_true rfl) (Nat.le_of_ble_eq_true rfl) ⟨1, rfl, (by omega), rfl, rfl⟩
            · refine m_tabIn (tgt := 154) (off := 35) C ⟨by omega, by omega⟩ dX12_fits_119 (by omega) (by omega) (by rw [sw4]; rfl) (by decide) ?_
              refine m_iload (j := 1) C dX12_fits_154 rfl ?_
              exact m_zret C dX12_fits_156 rfl (Or.inr rfl) (Nat.le_of_ble_eq_true rfl) (Nat.le_of_ble_eq_true rfl) ⟨1, rfl, (by omega), rfl, rfl⟩
            · refine m_tabIn (tgt := 157) (off := 38) C ⟨by omega, by omega⟩ dX12_fits_119 (by omega) (by omega) (by rw [sw4]; rfl) (by decide) ?_
              refine m_iload (j := 1) C dX12_fits_157 rfl ?_
              refine m_if_ne (tgt := 171) C ⟨by decide, by decide⟩ dX12_fits_159 (by decide) (fun _ => ?_) (fun z => absurd z (by omega))
              refine m_iconst C dX12_fits_171 ?_
              exact m_zret C dX12_fits_172 rfl (Or.inl rfl) (Nat.le_of_ble_eq_true rfl) (Nat.le_of_ble_eq_true rfl) ⟨0, rfl, (by omega), rfl, rfl⟩
            · refine m_tabIn (tgt := 173) (off := 54) C ⟨by omega, by omega⟩ dX12_fits_119 (by omega) (by omega) (by rw [sw4]; rfl) (by decide) ?_
              refine m_iload (j := 0) C dX12_fits_173 rfl ?_
              exact m_zret C dX12_fits_175 rfl (Or.inr rfl) (Nat.le_of_ble_eq_true rfl) (Nat.le_of_ble_eq_true rfl) ⟨1, rfl, (by omega), rfl, rfl⟩
            · refine m_tabIn (tgt := 176) (off := 57) C ⟨by omega, by omega⟩ dX12_fits_119 (by omega) (by omega) (by rw [sw4]; rfl) (by decide) ?_
              refine m_iload (j := 1) C dX12_fits_176 rfl ?_
              refine m_if_eq (tgt := 190) C ⟨by decide, by decide⟩ dX12_fits_178 (by decide) (fun z => absurd z (by omega)) (fun _ => ?_)
              refine m_iload (j := 0) C dX12_fits_181 rfl ?_
              refine m_if_eq (tgt := 190) C ⟨by decide, by decide⟩ dX12_fits_183 (by decide) (fun z => absurd z (by omega)) (fun _ => ?_)
              refine m_iconst C dX12_fits_186 ?_
              refine m_goto (tgt := 191) C dX12_fits_187 (by decide) ?_
              exact m_zret C dX12_fits_191 rfl (Or.inr rfl) (Nat.le_of_ble_eq_true rfl) (Nat.le_of_ble_eq_true rfl) ⟨1, rfl, (by omega), rfl, rfl⟩
            · refine m_tabOut (tgt := 192) C ⟨by omega, by omega⟩ dX12_fits_119 sw4 (by decide) ?_
              refine m_iload (j := 0) C dX12_fits_192 rfl ?_
              refine m_if_ne (tgt := 249) C ⟨by decide, by decide⟩ dX12_fits_194 (by decide) (fun _ => ?_) (fun z => absurd z (by omega))
              refine m_iconst C dX12_fits_249 ?_
              exact m_zret C dX12_fits_250 rfl (Or.inl rfl) (Nat.le_of_ble_eq_true rfl) (Nat.le_of_ble_eq_true rfl) ⟨0, rfl, (by omega), rfl, rfl⟩
      · refine m_iconst C dX12_fits_82 ?_
        exact m_zret C dX12_fits_83 rfl (Or.inl rfl) (Nat.le_of_ble_eq_true rfl) (Nat.le_of_ble_eq_true rfl) ⟨0, rfl, (by omega), rfl, rfl⟩
    · refine m_iload (j := 1) C dX12_fits_34 rfl ?_
      refine m_if_eq (tgt := 77) C ⟨by omega, by omega⟩ dX12_fits_36 (by decide) (fun c6 => ?_) (fun c6 => ?_)
      · refine m_iload (j := 1) C dX12_fits_77 rfl ?_
        refine m_if_ne (tgt := 84) C ⟨by omega, by omega⟩ dX12_fits_79 (by decide) (fun z => absurd z (by omega)) (fun _ => ?_)
        refine m_iconst C dX12_fits_82 ?_
        exact m_zret C dX12_fits_83 rfl (Or.inl rfl) (Nat.le_of_ble_eq_true rfl) (Nat.le_of_ble_eq_true rfl) ⟨0, rfl, (by omega), rfl, rfl⟩
      · refine m_aload_n (j := 3) C dX12_fits_39 rfl ?_
        refine m_geta (k := 14) C dX12_fits_40 w6_73 (by decide) rfl ?_
        refine m_bipush (z := 8) C dX12_fits_43 (by decide) ?_
        refine m_iload_n (j := 4) C dX12_fits_45 rfl ?_
        refine m_imul C dX12_fits_46 ?_
        refine m_iload (j := 0) C dX12_fits_47 rfl ?_
        refine m_iadd C dX12_fits_49 ?_
        refine m_ald (k := 14) C dX12_fits_50 rfl rfl (by decide) (by omega) (by show _ < ((_ : Nat) : Int); simp only [mlen]; omega) (by decide) ?_
        have ra11 := hR.2 14 (((8 * r) + k).toNat)
        refine m_aload_n (j := 3) C dX12_fits_51 rfl ?_
        refine m_geta (k := 20) C dX12_fits_52 w6_79 (by decide) rfl ?_
        refine m_iload (j := 7) C dX12_fits_55 rfl ?_
        refine m_iload (j := 0) C dX12_fits_57 rfl ?_
        refine m_iadd C dX12_fits_59 ?_
        refine m_ald (k := 20) C dX12_fits_60 rfl rfl (by decide) (by omega) (by show _ < ((_ : Nat) : Int); simp only [mlen]; omega) (by decide) ?_
        have ra12 := hR.2 20 ((x + k).toNat)
        refine m_icmp_ne (tgt := 68) C ⟨by omega, by omega⟩ ⟨by omega, by omega⟩ dX12_fits_61 (by decide) (fun c7 => ?_) (fun c7 => ?_)
        · refine m_iconst C dX12_fits_68 ?_
          refine m_istore (lv2 := [(6, .int (iI 0)), (7, .int (iI k)), (5, .int (iI (a 12 r.toNat))), (0, .ref h0), (1, .int (iI r)), (2, .int (iI q)), (3, .int (iI u)), (4, .int (iI x))]) C dX12_fits_69 (by decide) rfl ?_
          refine m_iinc (z := k) (j := 1) (lv2 := [(7, .int (iI (k + 1))), (6, .int (iI 0)), (5, .int (iI (a 12 r.toNat))), (0, .ref h0), (1, .int (iI r)), (2, .int (iI q)), (3, .int (iI u)), (4, .int (iI x))]) C dX12_fits_71 rfl (by decide) rfl ?_
          refine m_goto (tgt := 27) C dX12_fits_74 (by decide) ?_
          refine m_lv (lv2 := [(7, .int (iI (k + 1))), (6, .int (iI 0)), (5, .int (iI (a 12 r.toNat))), (0, .ref h0), (1, .int (iI r)), (2, .int (iI q)), (3, .int (iI u)), (4, .int (iI x))]) [0, 1, 2, 3, 4, 5, 6, 7] rfl ?_
          exact ih (k + 1) 0 (by omega) (by omega) (by omega)
        · refine m_iconst C dX12_fits_64 ?_
          refine m_goto (tgt := 69) C dX12_fits_65 (by decide) ?_
          refine m_istore (lv2 := [(6, .int (iI 1)), (7, .int (iI k)), (5, .int (iI (a 12 r.toNat))), (0, .ref h0), (1, .int (iI r)), (2, .int (iI q)), (3, .int (iI u)), (4, .int (iI x))]) C dX12_fits_69 (by decide) rfl ?_
          refine m_iinc (z := k) (j := 1) (lv2 := [(7, .int (iI (k + 1))), (6, .int (iI 1)), (5, .int (iI (a 12 r.toNat))), (0, .ref h0), (1, .int (iI r)), (2, .int (iI q)), (3, .int (iI u)), (4, .int (iI x))]) C dX12_fits_71 rfl (by decide) rfl ?_
          refine m_goto (tgt := 27) C dX12_fits_74 (by decide) ?_
          refine m_lv (lv2 := [(7, .int (iI (k + 1))), (6, .int (iI 1)), (5, .int (iI (a 12 r.toNat))), (0, .ref h0), (1, .int (iI r)), (2, .int (iI q)), (3, .int (iI u)), (4, .int (iI x))]) [0, 1, 2, 3, 4, 5, 6, 7] rfl ?_
          exact ih (k + 1) 1 (by omega) (by omega) (by omega)
set_option maxHeartbeats 4000000 in
set_option maxRecDepth 100000 in
theorem M_fits {l : Launch} {G : GT} {h0 : Nat} {ad ln : Nat → Nat} {v : Nat → Int} {a : Nat → Nat → Int} {r q u x : Int} (hR : RG v a) (hr : 0 ≤ r ∧ r < 6000) (h12 : 1 ≤ a 12 r.toNat ∧ a 12 r.toNat ≤ 8) (hx : 0 ≤ q ∧ q ≤ x ∧ x < u ∧ u ≤ 500) : Mm l G yX12_fits cX12_fits 9 (some .boolean) 1 [.int (iI r), .int (iI q), .int (iI u), .int (iI x)] h0 ad ln v a 0 0 (fun r2 v2 a2 => ∃ f : Int, r2 = some (.int (iI f)) ∧ (f = 0 ∨ (f = 1 ∧ x + a 12 r.toNat ≤ u)) ∧ v = v2 ∧ a = a2) := by
  refine Mm.mk (by decide) (Nat.le_of_ble_eq_true rfl) ?_
  intro p e s m args below meth c A C
  refine m_aload_n (j := 0) C dX12_fits_0 rfl ?_
  refine m_geta (k := 12) C dX12_fits_1 w6_71 (by decide) rfl ?_
  refine m_iload_n (j := 1) C dX12_fits_4 rfl ?_
  refine m_ald (k := 12) C dX12_fits_5 rfl rfl (by decide) (by omega) (by show _ < ((_ : Nat) : Int); simp only [mlen]; omega) (by decide) ?_
  have ra1 := hR.2 12 (r.toNat)
  refine m_istore (lv2 := [(5, .int (iI (a 12 r.toNat))), (0, .ref h0), (1, .int (iI r)), (2, .int (iI q)), (3, .int (iI u)), (4, .int (iI x))]) C dX12_fits_6 (by decide) rfl ?_
  refine m_iload (j := 5) C dX12_fits_8 rfl ?_
  refine m_iload (j := 0) C dX12_fits_10 rfl ?_
  refine m_iadd C dX12_fits_12 ?_
  refine m_iload_n (j := 4) C dX12_fits_13 rfl ?_
  refine m_icmp_gt (tgt := 21) C ⟨by omega, by omega⟩ ⟨by omega, by omega⟩ dX12_fits_14 (by decide) (fun c1 => ?_) (fun c1 => ?_)
  · refine m_iconst C dX12_fits_21 ?_
    refine m_istore (lv2 := [(6, .int (iI 0)), (5, .int (iI (a 12 r.toNat))), (0, .ref h0), (1, .int (iI r)), (2, .int (iI q)), (3, .int (iI u)), (4, .int (iI x))]) C dX12_fits_22 (by decide) rfl ?_
    refine m_iconst C dX12_fits_24 ?_
    refine m_istore (lv2 := [(7, .int (iI 0)), (6, .int (iI 0)), (5, .int (iI (a 12 r.toNat))), (0, .ref h0), (1, .int (iI r)), (2, .int (iI q)), (3, .int (iI u)), (4, .int (iI x))]) C dX12_fits_25 (by decide) rfl ?_
    refine m_lv (lv2 := [(7, .int (iI 0)), (6, .int (iI 0)), (5, .int (iI (a 12 r.toNat))), (0, .ref h0), (1, .int (iI r)), (2, .int (iI q)), (3, .int (iI u)), (4, .int (iI x))]) [0, 1, 2, 3, 4, 5, 6, 7] rfl ?_
    exact Lp_fits hR hr h12 hx C 10 0 0  (by omega) (by omega) (by omega)
  · refine m_iconst C dX12_fits_17 ?_
    refine m_goto (tgt := 22) C dX12_fits_18 (by decide) ?_
    refine m_istore (lv2 := [(6, .int (iI 1)), (5, .int (iI (a 12 r.toNat))), (0, .ref h0), (1, .int (iI r)), (2, .int (iI q)), (3, .int (iI u)), (4, .int (iI x))]) C dX12_fits_22 (by decide) rfl ?_
    refine m_iconst C dX12_fits_24 ?_
    refine m_istore (lv2 := [(7, .int (iI 0)), (6, .int (iI 1)), (5, .int (iI (a 12 r.toNat))), (0, .ref h0), (1, .int (iI r)), (2, .int (iI q)), (3, .int (iI u)), (4, .int (iI x))]) C dX12_fits_25 (by decide) rfl ?_
    refine m_lv (lv2 := [(7, .int (iI 0)), (6, .int (iI 1)), (5, .int (iI (a 12 r.toNat))), (0, .ref h0), (1, .int (iI r)), (2, .int (iI q)), (3, .int (iI u)), (4, .int (iI x))]) [0, 1, 2, 3, 4, 5, 6, 7] rfl ?_
    exact Lp_fits hR hr h12 hx C 10 0 1  (by omega) (by omega) (by omega)
set_option maxHeartbeats 4000000 in
set_option maxRecDepth 100000 in
theorem Lp_own {p : Program} {l : Launch} {e : Env} {s : State} {m : MethodId} {args : Array Value} {below : List Frame} {meth : Method} {c : Code} {G : GT} {A : Nat → Prop} {h0 : Nat} {ad ln : Nat → Nat} {v : Nat → Int} {a : Nat → Nat → Int} {t q u x : Int} (hR : RG v a) (ht : 0 ≤ t ∧ t < 30) (h10 : 0 ≤ a 10 t.toNat ∧ a 10 t.toNat ≤ 200) (hru : ∀ r : Int, 200 * t ≤ r → r < 200 * t + a 10 t.toNat → 1 ≤ a 12 r.toNat ∧ a 12 r.toNat ≤ 8) (hx : 0 ≤ q ∧ q ≤ x ∧ x < u ∧ u ≤ 500) (C : Cq p s m args meth c cX12_own yX12_own (some .int) G A 7) : ∀ (n : Nat) (k w1 : Int), 6001 - k < (n : Int) → (200 * t ≤ k ∧ k ≤ 200 * t + a 10 t.toNat) → (w1 = -1 ∨ (200 * t ≤ w1 ∧ w1 < 200 * t + a 10 t.toNat ∧ x + a 12 w1.toNat ≤ u)) → mw p l e (rmq 2 0 0) s m args below meth c G A 7 (MQ below (Qm G A (fun rq Lq Eq => ∃ (vq : Nat → Int) (aq : Nat → Nat → Int), mI G h0 ad ln vq aq Lq Eq ∧ (fun r2 v2 a2 => ∃ f : Int, r2 = some (.int (iI f)) ∧ (f = -1 ∨ (200 * t ≤ f ∧ f < 200 * t + a 10 t.toNat ∧ x + a 12 f.toNat ≤ u)) ∧ v = v2 ∧ a = a2) rq vq aq)) args s 0 0 A) h0 ad ln v a 0 0 10 [(6, .int (iI k)), (5, .int (iI w1)), (0, .ref h0), (1, .int (iI t)), (2, .int (iI q)), (3, .int (iI u)), (4, .int (iI x))] [] := by
  intro n
  induction n with
  | zero =>
    intro k w1   hm hk hb
    exact absurd hm (by omega)
  | succ n ih =>
    intro k w1   hm hk hb
    refine m_iload (j := 0) C dX12_own_10 rfl ?_
    refine m_sipush (z := 200) C dX12_own_12 (by decide) ?_
    refine m_iload_n (j := 3) C dX12_own_15 rfl ?_
    refine m_imul C dX12_own_16 ?_
    refine m_aload_n (j := 2) C dX12_own_17 rfl ?_
    refine m_geta (k := 10) C dX12_own_18 w6_69 (by decide) rfl ?_
    refine m_iload_n (j := 3) C dX12_own_21 rfl ?_
    refine m_ald (k := 10) C dX12_own_22 rfl rfl (by decide) (by omega) (by show _ < ((_ : Nat) : Int); simp only [mlen]; omega) (by decide) ?_
    have ra1 := hR.2 10 (t.toNat)
    refine m_iadd C dX12_own_23 ?_
    refine m_icmp_ge (tgt := 72) C ⟨by omega, by omega⟩ ⟨by omega, by omega⟩ dX12_own_24 (by decide) (fun c1 => ?_) (fun c1 => ?_)
    · refine m_iload (j := 1) C dX12_own_72 rfl ?_
      exact m_iret C dX12_own_74 rfl (Nat.le_of_ble_eq_true rfl) (Nat.le_of_ble_eq_true rfl) ⟨w1, rfl, hb, rfl, rfl⟩
    · refine m_iload (j := 1) C dX12_own_27 rfl ?_
      refine m_if_lt (tgt := 49) C ⟨by omega, by omega⟩ dX12_own_29 (by decide) (fun c2 => ?_) (fun c2 => ?_)
      · refine m_aload_n (j := 2) C dX12_own_49 rfl ?_
        refine m_iload (j := 0) C dX12_own_50 rfl ?_
        refine m_iload_n (j := 4) C dX12_own_52 rfl ?_
        refine m_iload_n (j := 5) C dX12_own_53 rfl ?_
        refine m_iload (j := 6) C dX12_own_54 rfl ?_
        refine m_call (mc2 := 0) (ms2 := 0) (As := [.int (iI k), .int (iI q), .int (iI u), .int (iI x)]) (rest := []) C (M_fits (r := k) (q := q) (u := u) (x := x) hR (by omega) (hru k (by omega) (by omega)) hx) dX12_own_56 kV_X12_211 rfl ck_13 rfl (Nat.le_of_ble_eq_true rfl) ⟨Nat.le_of_ble_eq_true rfl, Nat.le_of_ble_eq_true rfl⟩ ⟨Nat.le_of_ble_eq_true rfl, Nat.le_of_ble_eq_true rfl⟩ (fun rh1 vh1 ah1 h1 => ?_)
        obtain ⟨f1, rfl, hf1, rfl, rfl⟩ := h1
        refine m_st (st2 := [.int (iI f1)]) rfl ?_
        refine m_if_eq (tgt := 66) C ⟨by omega, by omega⟩ dX12_own_59 (by decide) (fun c3 => ?_) (fun c3 => ?_)
        · refine m_iinc (z := k) (j := 0) (lv2 := [(6, .int (iI (k + 1))), (5, .int (iI w1)), (0, .ref h0), (1, .int (iI t)), (2, .int (iI q)), (3, .int (iI u)), (4, .int (iI x))]) C dX12_own_66 rfl (by decide) rfl ?_
          refine m_goto (tgt := 10) C dX12_own_69 (by decide) ?_
          refine m_lv (lv2 := [(6, .int (iI (k + 1))), (5, .int (iI w1)), (0, .ref h0), (1, .int (iI t)), (2, .int (iI q)), (3, .int (iI u)), (4, .int (iI x))]) [0, 1, 2, 3, 4, 5, 6] rfl ?_
          exact ih (k + 1) w1 (by omega) (by omega) (by omega)
        · refine m_iload (j := 0) C dX12_own_62 rfl ?_
          refine m_istore (lv2 := [(5, .int (iI k)), (6, .int (iI k)), (0, .ref h0), (1, .int (iI t)), (2, .int (iI q)), (3, .int (iI u)), (4, .int (iI x))]) C dX12_own_64 (by decide) rfl ?_
          refine m_iinc (z := k) (j := 1) (lv2 := [(6, .int (iI (k + 1))), (5, .int (iI k)), (0, .ref h0), (1, .int (iI t)), (2, .int (iI q)), (3, .int (iI u)), (4, .int (iI x))]) C dX12_own_66 rfl (by decide) rfl ?_
          refine m_goto (tgt := 10) C dX12_own_69 (by decide) ?_
          refine m_lv (lv2 := [(6, .int (iI (k + 1))), (5, .int (iI k)), (0, .ref h0), (1, .int (iI t)), (2, .int (iI q)), (3, .int (iI u)), (4, .int (iI x))]) [0, 1, 2, 3, 4, 5, 6] rfl ?_
          exact ih (k + 1) k (by omega) (by omega) (by omega)
      · refine m_aload_n (j := 2) C dX12_own_32 rfl ?_
        refine m_geta (k := 12) C dX12_own_33 w6_71 (by decide) rfl ?_
        refine m_iload (j := 0) C dX12_own_36 rfl ?_
        refine m_ald (k := 12) C dX12_own_38 rfl rfl (by decide) (by omega) (by show _ < ((_ : Nat) : Int); simp only [mlen]; omega) (by decide) ?_
        have ra2 := hR.2 12 (k.toNat)
        refine m_aload_n (j := 2) C dX12_own_39 rfl ?_
        refine m_geta (k := 12) C dX12_own_40 w6_71 (by decide) rfl ?_
        refine m_iload (j := 1) C dX12_own_43 rfl ?_
        refine m_ald (k := 12) C dX12_own_45 rfl rfl (by decide) (by omega) (by show _ < ((_ : Nat) : Int); simp only [mlen]; omega) (by decide) ?_
        have ra3 := hR.2 12 (w1.toNat)
        refine m_icmp_le (tgt := 66) C ⟨by omega, by omega⟩ ⟨by omega, by omega⟩ dX12_own_46 (by decide) (fun c4 => ?_) (fun c4 => ?_)
        · refine m_iinc (z := k) (j := 0) (lv2 := [(6, .int (iI (k + 1))), (5, .int (iI w1)), (0, .ref h0), (1, .int (iI t)), (2, .int (iI q)), (3, .int (iI u)), (4, .int (iI x))]) C dX12_own_66 rfl (by decide) rfl ?_
          refine m_goto (tgt := 10) C dX12_own_69 (by decide) ?_
          refine m_lv (lv2 := [(6, .int (iI (k + 1))), (5, .int (iI w1)), (0, .ref h0), (1, .int (iI t)), (2, .int (iI q)), (3, .int (iI u)), (4, .int (iI x))]) [0, 1, 2, 3, 4, 5, 6] rfl ?_
          exact ih (k + 1) w1 (by omega) (by omega) (by omega)
        · refine m_aload_n (j := 2) C dX12_own_49 rfl ?_
          refine m_iload (j := 0) C dX12_own_50 rfl ?_
          refine m_iload_n (j := 4) C dX12_own_52 rfl ?_
          refine m_iload_n (j := 5) C dX12_own_53 rfl ?_
          refine m_iload (j := 6) C dX12_own_54 rfl ?_
          refine m_call (mc2 := 0) (ms2 := 0) (As := [.int (iI k), .int (iI q), .int (iI u), .int (iI x)]) (rest := []) C (M_fits (r := k) (q := q) (u := u) (x := x) hR (by omega) (hru k (by omega) (by omega)) hx) dX12_own_56 kV_X12_211 rfl ck_13 rfl (Nat.le_of_ble_eq_true rfl) ⟨Nat.le_of_ble_eq_true rfl, Nat.le_of_ble_eq_true rfl⟩ ⟨Nat.le_of_ble_eq_true rfl, Nat.le_of_ble_eq_true rfl⟩ (fun rh2 vh2 ah2 h2 => ?_)
          obtain ⟨f2, rfl, hf2, rfl, rfl⟩ := h2
          refine m_st (st2 := [.int (iI f2)]) rfl ?_
          refine m_if_eq (tgt := 66) C ⟨by omega, by omega⟩ dX12_own_59 (by decide) (fun c5 => ?_) (fun c5 => ?_)
          · refine m_iinc (z := k) (j := 0) (lv2 := [(6, .int (iI (k + 1))), (5, .int (iI w1)), (0, .ref h0), (1, .int (iI t)), (2, .int (iI q)), (3, .int (iI u)), (4, .int (iI x))]) C dX12_own_66 rfl (by decide) rfl ?_
            refine m_goto (tgt := 10) C dX12_own_69 (by decide) ?_
            refine m_lv (lv2 := [(6, .int (iI (k + 1))), (5, .int (iI w1)), (0, .ref h0), (1, .int (iI t)), (2, .int (iI q)), (3, .int (iI u)), (4, .int (iI x))]) [0, 1, 2, 3, 4, 5, 6] rfl ?_
            exact ih (k + 1) w1 (by omega) (by omega) (by omega)
          · refine m_iload (j := 0) C dX12_own_62 rfl ?_
            refine m_istore (lv2 := [(5, .int (iI k)), (6, .int (iI k)), (0, .ref h0), (1, .int (iI t)), (2, .int (iI q)), (3, .int (iI u)), (4, .int (iI x))]) C dX12_own_64 (by decide) rfl ?_
            refine m_iinc (z := k) (j := 1) (lv2 := [(6, .int (iI (k + 1))), (5, .int (iI k)), (0, .ref h0), (1, .int (iI t)), (2, .int (iI q)), (3, .int (iI u)), (4, .int (iI x))]) C dX12_own_66 rfl (by decide) rfl ?_
            refine m_goto (tgt := 10) C dX12_own_69 (by decide) ?_
            refine m_lv (lv2 := [(6, .int (iI (k + 1))), (5, .int (iI k)), (0, .ref h0), (1, .int (iI t)), (2, .int (iI q)), (3, .int (iI u)), (4, .int (iI x))]) [0, 1, 2, 3, 4, 5, 6] rfl ?_
            exact ih (k + 1) k (by omega) (by omega) (by omega)
set_option maxHeartbeats 4000000 in
set_option maxRecDepth 100000 in
theorem M_own {l : Launch} {G : GT} {h0 : Nat} {ad ln : Nat → Nat} {v : Nat → Int} {a : Nat → Nat → Int} {t q u x : Int} (hR : RG v a) (ht : 0 ≤ t ∧ t < 30) (h10 : 0 ≤ a 10 t.toNat ∧ a 10 t.toNat ≤ 200) (hru : ∀ r : Int, 200 * t ≤ r → r < 200 * t + a 10 t.toNat → 1 ≤ a 12 r.toNat ∧ a 12 r.toNat ≤ 8) (hx : 0 ≤ q ∧ q ≤ x ∧ x < u ∧ u ≤ 500) : Mm l G yX12_own cX12_own 7 (some .int) 2 [.int (iI t), .int (iI q), .int (iI u), .int (iI x)] h0 ad ln v a 0 0 (fun r2 v2 a2 => ∃ f : Int, r2 = some (.int (iI f)) ∧ (f = -1 ∨ (200 * t ≤ f ∧ f < 200 * t + a 10 t.toNat ∧ x + a 12 f.toNat ≤ u)) ∧ v = v2 ∧ a = a2) := by
  refine Mm.mk (by decide) (Nat.le_of_ble_eq_true rfl) ?_
  intro p e s m args below meth c A C
  refine m_iconst C dX12_own_0 ?_
  refine m_istore (lv2 := [(5, .int (iI (-1))), (0, .ref h0), (1, .int (iI t)), (2, .int (iI q)), (3, .int (iI u)), (4, .int (iI x))]) C dX12_own_1 (by decide) rfl ?_
  refine m_sipush (z := 200) C dX12_own_3 (by decide) ?_
  refine m_iload_n (j := 2) C dX12_own_6 rfl ?_
  refine m_imul C dX12_own_7 ?_
  refine m_istore (lv2 := [(6, .int (iI (200 * t))), (5, .int (iI (-1))), (0, .ref h0), (1, .int (iI t)), (2, .int (iI q)), (3, .int (iI u)), (4, .int (iI x))]) C dX12_own_8 (by decide) rfl ?_
  refine m_lv (lv2 := [(6, .int (iI (200 * t))), (5, .int (iI (-1))), (0, .ref h0), (1, .int (iI t)), (2, .int (iI q)), (3, .int (iI u)), (4, .int (iI x))]) [0, 1, 2, 3, 4, 5, 6] rfl ?_
  exact Lp_own hR ht h10 hru hx C 6002 (200 * t) (-1)  (by omega) (by omega) (by omega)
