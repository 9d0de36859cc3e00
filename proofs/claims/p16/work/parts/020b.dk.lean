def dkb (c : ByteArray) : List (Nat × Instr × Nat) → Bool
  | [] => true
  | x :: r => (decide (decode c x.1 = .ok (x.2.1, x.2.2))) && dkb c r
def dkp (c : ByteArray) : List (Nat × Instr × Nat) → Prop
  | [] => True
  | x :: r => decode c x.1 = .ok (x.2.1, x.2.2) ∧ dkp c r
theorem dkq {c : ByteArray} : ∀ {l : List (Nat × Instr × Nat)}, dkb c l = true → dkp c l := by
  intro l
  induction l with
  | nil => intro _; trivial
  | cons y r ih =>
    intro h1
    have g0 : ((decide (decode c y.1 = .ok (y.2.1, y.2.2))) && dkb c r) = true := h1
    have g : (decide (decode c y.1 = .ok (y.2.1, y.2.2))) = true ∧ dkb c r = true := by simpa using g0
    exact ⟨of_decide_eq_true g.1, ih g.2⟩
def rdb (c : ByteArray) (p b : Nat) : Prop := ∃ h : p < c.size, (c[p]'h).toNat = b
theorem rdb_u1 {c : ByteArray} {p b : Nat} (h : rdb c p b) : (Jvm.ClassFile.Reader.u1 : Jvm.ClassFile.Decoder Nat) c p = .ok (b, p + 1) := by
  obtain ⟨h1, h2⟩ := h
  have e : (Jvm.ClassFile.Reader.u1 : Jvm.ClassFile.Decoder Nat) c p = (dite (p < c.size) (fun h => (do set (p + 1); pure (c[p]'h).toNat : Jvm.ClassFile.Decoder Nat)) (fun _ => throw (Jvm.ClassFile.HasTruncated.truncated p))) c p := rfl
  rw [e, dif_pos h1, h2]
  rfl
theorem dkbd {α β : Type} {m : Jvm.ClassFile.Decoder α} {f : α → Jvm.ClassFile.Decoder β} {c : ByteArray} {p q : Nat} {a : α} (h : m c p = .ok (a, q)) : (m >>= f) c p = f a c q := by
  have e : (m >>= f) c p = Except.bind (m c p) (fun x => f x.1 c x.2) := rfl
  rw [e, h]
  rfl
theorem dkmp {α β : Type} {m : Jvm.ClassFile.Decoder α} {f : α → β} {c : ByteArray} {p q : Nat} {a : α} (h : m c p = .ok (a, q)) : (f <$> m) c p = .ok (f a, q) := by
  have e : (f <$> m) c p = Except.bind (m c p) (fun x => .ok (f x.1, x.2)) := rfl
  rw [e, h]
  rfl
theorem rdb_u2 {c : ByteArray} {p a b : Nat} (h : rdb c p a) (h1 : rdb c (p + 1) b) : (Jvm.ClassFile.Reader.u2 : Jvm.ClassFile.Decoder Nat) c p = .ok (a * 256 + b, p + 1 + 1) := by
  unfold Jvm.ClassFile.Reader.u2
  refine (dkbd (rdb_u1 h)).trans ?_
  exact dkbd (rdb_u1 h1)
theorem rdb_s1 {c : ByteArray} {p a : Nat} (h : rdb c p a) : (Jvm.ClassFile.Reader.s1 : Jvm.ClassFile.Decoder Int) c p = .ok (Jvm.ClassFile.Reader.signed 8 a, p + 1) := dkmp (rdb_u1 h)
theorem rdb_s2 {c : ByteArray} {p a b : Nat} (h : rdb c p a) (h1 : rdb c (p + 1) b) : (Jvm.ClassFile.Reader.s2 : Jvm.ClassFile.Decoder Int) c p = .ok (Jvm.ClassFile.Reader.signed 16 (a * 256 + b), p + 1 + 1) := dkmp (rdb_u2 h h1)
theorem dkcd {c : ByteArray} {pc n : Nat} {i : Instr} (h : Jvm.ClassFile.Decoder.instr pc c pc = .ok (i, pc + n)) : decode c pc = .ok (i, n) := by
  unfold decode
  have e : Jvm.ClassFile.Reader.runAt (Jvm.ClassFile.Decoder.instr pc) c pc = .ok (i, pc + n) := h
  rw [e]
  show (Except.ok (i, pc + n - pc) : Except Jvm.ClassFile.DecodeError (Instr × Nat)) = _
  rw [Nat.add_sub_cancel_left]
def oh0 (i : Instr) : List UInt8 → Option (Instr × Nat) := fun _ => some (i, 1)
def oh1 (f : Nat → Instr) : List UInt8 → Option (Instr × Nat)
  | a :: _ => some (f a.toNat, 2)
  | [] => none
def oh2 (f : Nat → Instr) : List UInt8 → Option (Instr × Nat)
  | a :: b :: _ => some (f (a.toNat * 256 + b.toNat), 3)
  | _ => none
def ohq1 (f : Int → Instr) : List UInt8 → Option (Instr × Nat)
  | a :: _ => some (f (Jvm.ClassFile.Reader.signed 8 a.toNat), 2)
  | [] => none
def ohq2 (f : Int → Instr) : List UInt8 → Option (Instr × Nat)
  | a :: b :: _ => some (f (Jvm.ClassFile.Reader.signed 16 (a.toNat * 256 + b.toNat)), 3)
  | _ => none
def ohii : List UInt8 → Option (Instr × Nat)
  | a :: b :: _ => some (.iinc a.toNat (Jvm.ClassFile.Reader.signed 8 b.toNat), 3)
  | _ => none
def ohgood (k : Nat) (s : List UInt8 → Option (Instr × Nat)) : Prop := ∀ (c : ByteArray) (pc : Nat) (r : List UInt8) (y : Instr × Nat), rdb c pc k → (∀ j b, r[j]? = some b → rdb c (pc + 1 + j) b.toNat) → s r = some y → decode c pc = .ok y
theorem good_o0 {k : Nat} {i : Instr} (g : ∀ c pc, rdb c pc k → Jvm.ClassFile.Decoder.instr pc c pc = .ok (i, pc + 1)) : ohgood k (oh0 i) := fun c pc r y h _ e => by
  cases e
  exact dkcd (g c pc h)
theorem good_o1 {k : Nat} {f : Nat → Instr} (g : ∀ c pc a, rdb c pc k → rdb c (pc + 1) a → Jvm.ClassFile.Decoder.instr pc c pc = .ok (f a, pc + 2)) : ohgood k (oh1 f) := fun c pc r y h hr e => by
  cases r with
  | nil => cases e
  | cons a r =>
    cases e
    exact dkcd (g c pc a.toNat h (hr 0 a rfl))
theorem good_q1 {k : Nat} {f : Int → Instr} (g : ∀ c pc a, rdb c pc k → rdb c (pc + 1) a → Jvm.ClassFile.Decoder.instr pc c pc = .ok (f (Jvm.ClassFile.Reader.signed 8 a), pc + 2)) : ohgood k (ohq1 f) := fun c pc r y h hr e => by
  cases r with
  | nil => cases e
  | cons a r =>
    cases e
    exact dkcd (g c pc a.toNat h (hr 0 a rfl))
theorem good_o2 {k : Nat} {f : Nat → Instr} (g : ∀ c pc a b, rdb c pc k → rdb c (pc + 1) a → rdb c (pc + 1 + 1) b → Jvm.ClassFile.Decoder.instr pc c pc = .ok (f (a * 256 + b), pc + 3)) : ohgood k (oh2 f) := fun c pc r y h hr e => by
  cases r with
  | nil => cases e
  | cons a r =>
    cases r with
    | nil => cases e
    | cons b r =>
      cases e
      exact dkcd (g c pc a.toNat b.toNat h (hr 0 a rfl) (hr 1 b rfl))
theorem good_q2 {k : Nat} {f : Int → Instr} (g : ∀ c pc a b, rdb c pc k → rdb c (pc + 1) a → rdb c (pc + 1 + 1) b → Jvm.ClassFile.Decoder.instr pc c pc = .ok (f (Jvm.ClassFile.Reader.signed 16 (a * 256 + b)), pc + 3)) : ohgood k (ohq2 f) := fun c pc r y h hr e => by
  cases r with
  | nil => cases e
  | cons a r =>
    cases r with
    | nil => cases e
    | cons b r =>
      cases e
      exact dkcd (g c pc a.toNat b.toNat h (hr 0 a rfl) (hr 1 b rfl))
theorem good_ii {k : Nat} (g : ∀ c pc a b, rdb c pc k → rdb c (pc + 1) a → rdb c (pc + 1 + 1) b → Jvm.ClassFile.Decoder.instr pc c pc = .ok (.iinc a (Jvm.ClassFile.Reader.signed 8 b), pc + 3)) : ohgood k ohii := fun c pc r y h hr e => by
  cases r with
  | nil => cases e
  | cons a r =>
    cases r with
    | nil => cases e
    | cons b r =>
      cases e
      exact dkcd (g c pc a.toNat b.toNat h (hr 0 a rfl) (hr 1 b rfl))
theorem dko_42 : ohgood 42 (oh0 (.aload_n 0)) := good_o0 fun c pc h => by
  unfold Jvm.ClassFile.Decoder.instr
  refine Eq.trans (dkbd (rdb_u1 h)) ?_
  rfl
theorem dko_180 : ohgood 180 (oh2 (fun x => .getfield x)) := good_o2 fun c pc a b h h1 h2 => by
  unfold Jvm.ClassFile.Decoder.instr
  refine Eq.trans (dkbd (rdb_u1 h)) ?_
  exact dkbd (rdb_u2 h1 h2)
theorem dko_27 : ohgood 27 (oh0 (.iload_n 1)) := good_o0 fun c pc h => by
  unfold Jvm.ClassFile.Decoder.instr
  refine Eq.trans (dkbd (rdb_u1 h)) ?_
  rfl
theorem dko_3 : ohgood 3 (oh0 (.iconst 0)) := good_o0 fun c pc h => by
  unfold Jvm.ClassFile.Decoder.instr
  refine Eq.trans (dkbd (rdb_u1 h)) ?_
  rfl
theorem dko_182 : ohgood 182 (oh2 (fun x => .invokevirtual x)) := good_o2 fun c pc a b h h1 h2 => by
  unfold Jvm.ClassFile.Decoder.instr
  refine Eq.trans (dkbd (rdb_u1 h)) ?_
  exact dkbd (rdb_u2 h1 h2)
theorem dko_21 : ohgood 21 (oh1 (fun x => .iload x)) := good_o1 fun c pc a h h1 => by
  unfold Jvm.ClassFile.Decoder.instr
  refine Eq.trans (dkbd (rdb_u1 h)) ?_
  exact dkbd (rdb_u1 h1)
theorem dko_28 : ohgood 28 (oh0 (.iload_n 2)) := good_o0 fun c pc h => by
  unfold Jvm.ClassFile.Decoder.instr
  refine Eq.trans (dkbd (rdb_u1 h)) ?_
  rfl
theorem dko_29 : ohgood 29 (oh0 (.iload_n 3)) := good_o0 fun c pc h => by
  unfold Jvm.ClassFile.Decoder.instr
  refine Eq.trans (dkbd (rdb_u1 h)) ?_
  rfl
theorem dko_43 : ohgood 43 (oh0 (.aload_n 1)) := good_o0 fun c pc h => by
  unfold Jvm.ClassFile.Decoder.instr
  refine Eq.trans (dkbd (rdb_u1 h)) ?_
  rfl
theorem dko_4 : ohgood 4 (oh0 (.iconst 1)) := good_o0 fun c pc h => by
  unfold Jvm.ClassFile.Decoder.instr
  refine Eq.trans (dkbd (rdb_u1 h)) ?_
  rfl
theorem dko_167 : ohgood 167 (ohq2 (fun x => .goto x)) := good_q2 fun c pc a b h h1 h2 => by
  unfold Jvm.ClassFile.Decoder.instr
  refine Eq.trans (dkbd (rdb_u1 h)) ?_
  exact dkbd (rdb_s2 h1 h2)
theorem dko_46 : ohgood 46 (oh0 (.iaload)) := good_o0 fun c pc h => by
  unfold Jvm.ClassFile.Decoder.instr
  refine Eq.trans (dkbd (rdb_u1 h)) ?_
  rfl
theorem dko_172 : ohgood 172 (oh0 (.ireturn)) := good_o0 fun c pc h => by
  unfold Jvm.ClassFile.Decoder.instr
  refine Eq.trans (dkbd (rdb_u1 h)) ?_
  rfl
theorem dko_96 : ohgood 96 (oh0 (.iadd)) := good_o0 fun c pc h => by
  unfold Jvm.ClassFile.Decoder.instr
  refine Eq.trans (dkbd (rdb_u1 h)) ?_
  rfl
theorem dko_181 : ohgood 181 (oh2 (fun x => .putfield x)) := good_o2 fun c pc a b h h1 h2 => by
  unfold Jvm.ClassFile.Decoder.instr
  refine Eq.trans (dkbd (rdb_u1 h)) ?_
  exact dkbd (rdb_u2 h1 h2)
theorem dko_16 : ohgood 16 (ohq1 (fun x => .bipush x)) := good_q1 fun c pc a h h1 => by
  unfold Jvm.ClassFile.Decoder.instr
  refine Eq.trans (dkbd (rdb_u1 h)) ?_
  exact dkbd (rdb_s1 h1)
theorem dko_54 : ohgood 54 (oh1 (fun x => .istore x)) := good_o1 fun c pc a h h1 => by
  unfold Jvm.ClassFile.Decoder.instr
  refine Eq.trans (dkbd (rdb_u1 h)) ?_
  exact dkbd (rdb_u1 h1)
theorem dko_25 : ohgood 25 (oh1 (fun x => .aload x)) := good_o1 fun c pc a h h1 => by
  unfold Jvm.ClassFile.Decoder.instr
  refine Eq.trans (dkbd (rdb_u1 h)) ?_
  exact dkbd (rdb_u1 h1)
theorem dko_132 : ohgood 132 (ohii) := good_ii fun c pc a b h h1 h2 => by
  unfold Jvm.ClassFile.Decoder.instr
  refine Eq.trans (dkbd (rdb_u1 h)) ?_
  refine Eq.trans (dkbd (rdb_u1 h1)) ?_
  exact dkbd (rdb_s1 h2)
theorem dko_17 : ohgood 17 (ohq2 (fun x => .sipush x)) := good_q2 fun c pc a b h h1 h2 => by
  unfold Jvm.ClassFile.Decoder.instr
  refine Eq.trans (dkbd (rdb_u1 h)) ?_
  exact dkbd (rdb_s2 h1 h2)
theorem dko_1 : ohgood 1 (oh0 (.aconst_null)) := good_o0 fun c pc h => by
  unfold Jvm.ClassFile.Decoder.instr
  refine Eq.trans (dkbd (rdb_u1 h)) ?_
  rfl
theorem dko_2 : ohgood 2 (oh0 (.iconst (-1))) := good_o0 fun c pc h => by
  unfold Jvm.ClassFile.Decoder.instr
  refine Eq.trans (dkbd (rdb_u1 h)) ?_
  rfl
theorem dko_5 : ohgood 5 (oh0 (.iconst 2)) := good_o0 fun c pc h => by
  unfold Jvm.ClassFile.Decoder.instr
  refine Eq.trans (dkbd (rdb_u1 h)) ?_
  rfl
theorem dko_6 : ohgood 6 (oh0 (.iconst 3)) := good_o0 fun c pc h => by
  unfold Jvm.ClassFile.Decoder.instr
  refine Eq.trans (dkbd (rdb_u1 h)) ?_
  rfl
theorem dko_7 : ohgood 7 (oh0 (.iconst 4)) := good_o0 fun c pc h => by
  unfold Jvm.ClassFile.Decoder.instr
  refine Eq.trans (dkbd (rdb_u1 h)) ?_
  rfl
theorem dko_8 : ohgood 8 (oh0 (.iconst 5)) := good_o0 fun c pc h => by
  unfold Jvm.ClassFile.Decoder.instr
  refine Eq.trans (dkbd (rdb_u1 h)) ?_
  rfl
theorem dko_9 : ohgood 9 (oh0 (.lconst 0)) := good_o0 fun c pc h => by
  unfold Jvm.ClassFile.Decoder.instr
  refine Eq.trans (dkbd (rdb_u1 h)) ?_
  rfl
theorem dko_10 : ohgood 10 (oh0 (.lconst 1)) := good_o0 fun c pc h => by
  unfold Jvm.ClassFile.Decoder.instr
  refine Eq.trans (dkbd (rdb_u1 h)) ?_
  rfl
theorem dko_18 : ohgood 18 (oh1 (fun x => .ldc x)) := good_o1 fun c pc a h h1 => by
  unfold Jvm.ClassFile.Decoder.instr
  refine Eq.trans (dkbd (rdb_u1 h)) ?_
  exact dkbd (rdb_u1 h1)
theorem dko_19 : ohgood 19 (oh2 (fun x => .ldc_w x)) := good_o2 fun c pc a b h h1 h2 => by
  unfold Jvm.ClassFile.Decoder.instr
  refine Eq.trans (dkbd (rdb_u1 h)) ?_
  exact dkbd (rdb_u2 h1 h2)
theorem dko_22 : ohgood 22 (oh1 (fun x => .lload x)) := good_o1 fun c pc a h h1 => by
  unfold Jvm.ClassFile.Decoder.instr
  refine Eq.trans (dkbd (rdb_u1 h)) ?_
  exact dkbd (rdb_u1 h1)
theorem dko_26 : ohgood 26 (oh0 (.iload_n 0)) := good_o0 fun c pc h => by
  unfold Jvm.ClassFile.Decoder.instr
  refine Eq.trans (dkbd (rdb_u1 h)) ?_
  rfl
theorem dko_44 : ohgood 44 (oh0 (.aload_n 2)) := good_o0 fun c pc h => by
  unfold Jvm.ClassFile.Decoder.instr
  refine Eq.trans (dkbd (rdb_u1 h)) ?_
  rfl
theorem dko_45 : ohgood 45 (oh0 (.aload_n 3)) := good_o0 fun c pc h => by
  unfold Jvm.ClassFile.Decoder.instr
  refine Eq.trans (dkbd (rdb_u1 h)) ?_
  rfl
theorem dko_50 : ohgood 50 (oh0 (.aaload)) := good_o0 fun c pc h => by
  unfold Jvm.ClassFile.Decoder.instr
  refine Eq.trans (dkbd (rdb_u1 h)) ?_
  rfl
theorem dko_51 : ohgood 51 (oh0 (.baload)) := good_o0 fun c pc h => by
  unfold Jvm.ClassFile.Decoder.instr
  refine Eq.trans (dkbd (rdb_u1 h)) ?_
  rfl
theorem dko_55 : ohgood 55 (oh1 (fun x => .lstore x)) := good_o1 fun c pc a h h1 => by
  unfold Jvm.ClassFile.Decoder.instr
  refine Eq.trans (dkbd (rdb_u1 h)) ?_
  exact dkbd (rdb_u1 h1)
theorem dko_58 : ohgood 58 (oh1 (fun x => .astore x)) := good_o1 fun c pc a h h1 => by
  unfold Jvm.ClassFile.Decoder.instr
  refine Eq.trans (dkbd (rdb_u1 h)) ?_
  exact dkbd (rdb_u1 h1)
theorem dko_59 : ohgood 59 (oh0 (.istore_n 0)) := good_o0 fun c pc h => by
  unfold Jvm.ClassFile.Decoder.instr
  refine Eq.trans (dkbd (rdb_u1 h)) ?_
  rfl
theorem dko_60 : ohgood 60 (oh0 (.istore_n 1)) := good_o0 fun c pc h => by
  unfold Jvm.ClassFile.Decoder.instr
  refine Eq.trans (dkbd (rdb_u1 h)) ?_
  rfl
theorem dko_61 : ohgood 61 (oh0 (.istore_n 2)) := good_o0 fun c pc h => by
  unfold Jvm.ClassFile.Decoder.instr
  refine Eq.trans (dkbd (rdb_u1 h)) ?_
  rfl
theorem dko_62 : ohgood 62 (oh0 (.istore_n 3)) := good_o0 fun c pc h => by
  unfold Jvm.ClassFile.Decoder.instr
  refine Eq.trans (dkbd (rdb_u1 h)) ?_
  rfl
theorem dko_75 : ohgood 75 (oh0 (.astore_n 0)) := good_o0 fun c pc h => by
  unfold Jvm.ClassFile.Decoder.instr
  refine Eq.trans (dkbd (rdb_u1 h)) ?_
  rfl
theorem dko_76 : ohgood 76 (oh0 (.astore_n 1)) := good_o0 fun c pc h => by
  unfold Jvm.ClassFile.Decoder.instr
  refine Eq.trans (dkbd (rdb_u1 h)) ?_
  rfl
theorem dko_77 : ohgood 77 (oh0 (.astore_n 2)) := good_o0 fun c pc h => by
  unfold Jvm.ClassFile.Decoder.instr
  refine Eq.trans (dkbd (rdb_u1 h)) ?_
  rfl
theorem dko_78 : ohgood 78 (oh0 (.astore_n 3)) := good_o0 fun c pc h => by
  unfold Jvm.ClassFile.Decoder.instr
  refine Eq.trans (dkbd (rdb_u1 h)) ?_
  rfl
theorem dko_79 : ohgood 79 (oh0 (.iastore)) := good_o0 fun c pc h => by
  unfold Jvm.ClassFile.Decoder.instr
  refine Eq.trans (dkbd (rdb_u1 h)) ?_
  rfl
theorem dko_83 : ohgood 83 (oh0 (.aastore)) := good_o0 fun c pc h => by
  unfold Jvm.ClassFile.Decoder.instr
  refine Eq.trans (dkbd (rdb_u1 h)) ?_
  rfl
theorem dko_84 : ohgood 84 (oh0 (.bastore)) := good_o0 fun c pc h => by
  unfold Jvm.ClassFile.Decoder.instr
  refine Eq.trans (dkbd (rdb_u1 h)) ?_
  rfl
theorem dko_87 : ohgood 87 (oh0 (.pop)) := good_o0 fun c pc h => by
  unfold Jvm.ClassFile.Decoder.instr
  refine Eq.trans (dkbd (rdb_u1 h)) ?_
  rfl
theorem dko_89 : ohgood 89 (oh0 (.dup)) := good_o0 fun c pc h => by
  unfold Jvm.ClassFile.Decoder.instr
  refine Eq.trans (dkbd (rdb_u1 h)) ?_
  rfl
theorem dko_90 : ohgood 90 (oh0 (.dup_x1)) := good_o0 fun c pc h => by
  unfold Jvm.ClassFile.Decoder.instr
  refine Eq.trans (dkbd (rdb_u1 h)) ?_
  rfl
theorem dko_92 : ohgood 92 (oh0 (.dup2)) := good_o0 fun c pc h => by
  unfold Jvm.ClassFile.Decoder.instr
  refine Eq.trans (dkbd (rdb_u1 h)) ?_
  rfl
theorem dko_97 : ohgood 97 (oh0 (.ladd)) := good_o0 fun c pc h => by
  unfold Jvm.ClassFile.Decoder.instr
  refine Eq.trans (dkbd (rdb_u1 h)) ?_
  rfl
theorem dko_100 : ohgood 100 (oh0 (.isub)) := good_o0 fun c pc h => by
  unfold Jvm.ClassFile.Decoder.instr
  refine Eq.trans (dkbd (rdb_u1 h)) ?_
  rfl
theorem dko_104 : ohgood 104 (oh0 (.imul)) := good_o0 fun c pc h => by
  unfold Jvm.ClassFile.Decoder.instr
  refine Eq.trans (dkbd (rdb_u1 h)) ?_
  rfl
theorem dko_108 : ohgood 108 (oh0 (.idiv)) := good_o0 fun c pc h => by
  unfold Jvm.ClassFile.Decoder.instr
  refine Eq.trans (dkbd (rdb_u1 h)) ?_
  rfl
theorem dko_112 : ohgood 112 (oh0 (.irem)) := good_o0 fun c pc h => by
  unfold Jvm.ClassFile.Decoder.instr
  refine Eq.trans (dkbd (rdb_u1 h)) ?_
  rfl
theorem dko_116 : ohgood 116 (oh0 (.ineg)) := good_o0 fun c pc h => by
  unfold Jvm.ClassFile.Decoder.instr
  refine Eq.trans (dkbd (rdb_u1 h)) ?_
  rfl
theorem dko_120 : ohgood 120 (oh0 (.ishl)) := good_o0 fun c pc h => by
  unfold Jvm.ClassFile.Decoder.instr
  refine Eq.trans (dkbd (rdb_u1 h)) ?_
  rfl
theorem dko_122 : ohgood 122 (oh0 (.ishr)) := good_o0 fun c pc h => by
  unfold Jvm.ClassFile.Decoder.instr
  refine Eq.trans (dkbd (rdb_u1 h)) ?_
  rfl
theorem dko_124 : ohgood 124 (oh0 (.iushr)) := good_o0 fun c pc h => by
  unfold Jvm.ClassFile.Decoder.instr
  refine Eq.trans (dkbd (rdb_u1 h)) ?_
  rfl
theorem dko_126 : ohgood 126 (oh0 (.iand)) := good_o0 fun c pc h => by
  unfold Jvm.ClassFile.Decoder.instr
  refine Eq.trans (dkbd (rdb_u1 h)) ?_
  rfl
theorem dko_128 : ohgood 128 (oh0 (.ior)) := good_o0 fun c pc h => by
  unfold Jvm.ClassFile.Decoder.instr
  refine Eq.trans (dkbd (rdb_u1 h)) ?_
  rfl
theorem dko_130 : ohgood 130 (oh0 (.ixor)) := good_o0 fun c pc h => by
  unfold Jvm.ClassFile.Decoder.instr
  refine Eq.trans (dkbd (rdb_u1 h)) ?_
  rfl
theorem dko_133 : ohgood 133 (oh0 (.i2l)) := good_o0 fun c pc h => by
  unfold Jvm.ClassFile.Decoder.instr
  refine Eq.trans (dkbd (rdb_u1 h)) ?_
  rfl
theorem dko_136 : ohgood 136 (oh0 (.l2i)) := good_o0 fun c pc h => by
  unfold Jvm.ClassFile.Decoder.instr
  refine Eq.trans (dkbd (rdb_u1 h)) ?_
  rfl
theorem dko_148 : ohgood 148 (oh0 (.lcmp)) := good_o0 fun c pc h => by
  unfold Jvm.ClassFile.Decoder.instr
  refine Eq.trans (dkbd (rdb_u1 h)) ?_
  rfl
theorem dko_153 : ohgood 153 (ohq2 (fun x => .ifCond .eq x)) := good_q2 fun c pc a b h h1 h2 => by
  unfold Jvm.ClassFile.Decoder.instr
  refine Eq.trans (dkbd (rdb_u1 h)) ?_
  exact dkbd (rdb_s2 h1 h2)
theorem dko_154 : ohgood 154 (ohq2 (fun x => .ifCond .ne x)) := good_q2 fun c pc a b h h1 h2 => by
  unfold Jvm.ClassFile.Decoder.instr
  refine Eq.trans (dkbd (rdb_u1 h)) ?_
  exact dkbd (rdb_s2 h1 h2)
theorem dko_155 : ohgood 155 (ohq2 (fun x => .ifCond .lt x)) := good_q2 fun c pc a b h h1 h2 => by
  unfold Jvm.ClassFile.Decoder.instr
  refine Eq.trans (dkbd (rdb_u1 h)) ?_
  exact dkbd (rdb_s2 h1 h2)
theorem dko_156 : ohgood 156 (ohq2 (fun x => .ifCond .ge x)) := good_q2 fun c pc a b h h1 h2 => by
  unfold Jvm.ClassFile.Decoder.instr
  refine Eq.trans (dkbd (rdb_u1 h)) ?_
  exact dkbd (rdb_s2 h1 h2)
theorem dko_157 : ohgood 157 (ohq2 (fun x => .ifCond .gt x)) := good_q2 fun c pc a b h h1 h2 => by
  unfold Jvm.ClassFile.Decoder.instr
  refine Eq.trans (dkbd (rdb_u1 h)) ?_
  exact dkbd (rdb_s2 h1 h2)
theorem dko_158 : ohgood 158 (ohq2 (fun x => .ifCond .le x)) := good_q2 fun c pc a b h h1 h2 => by
  unfold Jvm.ClassFile.Decoder.instr
  refine Eq.trans (dkbd (rdb_u1 h)) ?_
  exact dkbd (rdb_s2 h1 h2)
theorem dko_159 : ohgood 159 (ohq2 (fun x => .if_icmp .eq x)) := good_q2 fun c pc a b h h1 h2 => by
  unfold Jvm.ClassFile.Decoder.instr
  refine Eq.trans (dkbd (rdb_u1 h)) ?_
  exact dkbd (rdb_s2 h1 h2)
theorem dko_160 : ohgood 160 (ohq2 (fun x => .if_icmp .ne x)) := good_q2 fun c pc a b h h1 h2 => by
  unfold Jvm.ClassFile.Decoder.instr
  refine Eq.trans (dkbd (rdb_u1 h)) ?_
  exact dkbd (rdb_s2 h1 h2)
theorem dko_161 : ohgood 161 (ohq2 (fun x => .if_icmp .lt x)) := good_q2 fun c pc a b h h1 h2 => by
  unfold Jvm.ClassFile.Decoder.instr
  refine Eq.trans (dkbd (rdb_u1 h)) ?_
  exact dkbd (rdb_s2 h1 h2)
theorem dko_162 : ohgood 162 (ohq2 (fun x => .if_icmp .ge x)) := good_q2 fun c pc a b h h1 h2 => by
  unfold Jvm.ClassFile.Decoder.instr
  refine Eq.trans (dkbd (rdb_u1 h)) ?_
  exact dkbd (rdb_s2 h1 h2)
theorem dko_163 : ohgood 163 (ohq2 (fun x => .if_icmp .gt x)) := good_q2 fun c pc a b h h1 h2 => by
  unfold Jvm.ClassFile.Decoder.instr
  refine Eq.trans (dkbd (rdb_u1 h)) ?_
  exact dkbd (rdb_s2 h1 h2)
theorem dko_164 : ohgood 164 (ohq2 (fun x => .if_icmp .le x)) := good_q2 fun c pc a b h h1 h2 => by
  unfold Jvm.ClassFile.Decoder.instr
  refine Eq.trans (dkbd (rdb_u1 h)) ?_
  exact dkbd (rdb_s2 h1 h2)
theorem dko_165 : ohgood 165 (ohq2 (fun x => .if_acmp .eq x)) := good_q2 fun c pc a b h h1 h2 => by
  unfold Jvm.ClassFile.Decoder.instr
  refine Eq.trans (dkbd (rdb_u1 h)) ?_
  exact dkbd (rdb_s2 h1 h2)
theorem dko_166 : ohgood 166 (ohq2 (fun x => .if_acmp .ne x)) := good_q2 fun c pc a b h h1 h2 => by
  unfold Jvm.ClassFile.Decoder.instr
  refine Eq.trans (dkbd (rdb_u1 h)) ?_
  exact dkbd (rdb_s2 h1 h2)
theorem dko_176 : ohgood 176 (oh0 (.areturn)) := good_o0 fun c pc h => by
  unfold Jvm.ClassFile.Decoder.instr
  refine Eq.trans (dkbd (rdb_u1 h)) ?_
  rfl
theorem dko_177 : ohgood 177 (oh0 (.return_)) := good_o0 fun c pc h => by
  unfold Jvm.ClassFile.Decoder.instr
  refine Eq.trans (dkbd (rdb_u1 h)) ?_
  rfl
theorem dko_178 : ohgood 178 (oh2 (fun x => .getstatic x)) := good_o2 fun c pc a b h h1 h2 => by
  unfold Jvm.ClassFile.Decoder.instr
  refine Eq.trans (dkbd (rdb_u1 h)) ?_
  exact dkbd (rdb_u2 h1 h2)
theorem dko_183 : ohgood 183 (oh2 (fun x => .invokespecial x)) := good_o2 fun c pc a b h h1 h2 => by
  unfold Jvm.ClassFile.Decoder.instr
  refine Eq.trans (dkbd (rdb_u1 h)) ?_
  exact dkbd (rdb_u2 h1 h2)
theorem dko_184 : ohgood 184 (oh2 (fun x => .invokestatic x)) := good_o2 fun c pc a b h h1 h2 => by
  unfold Jvm.ClassFile.Decoder.instr
  refine Eq.trans (dkbd (rdb_u1 h)) ?_
  exact dkbd (rdb_u2 h1 h2)
theorem dko_187 : ohgood 187 (oh2 (fun x => .new x)) := good_o2 fun c pc a b h h1 h2 => by
  unfold Jvm.ClassFile.Decoder.instr
  refine Eq.trans (dkbd (rdb_u1 h)) ?_
  exact dkbd (rdb_u2 h1 h2)
theorem dko_189 : ohgood 189 (oh2 (fun x => .anewarray x)) := good_o2 fun c pc a b h h1 h2 => by
  unfold Jvm.ClassFile.Decoder.instr
  refine Eq.trans (dkbd (rdb_u1 h)) ?_
  exact dkbd (rdb_u2 h1 h2)
theorem dko_190 : ohgood 190 (oh0 (.arraylength)) := good_o0 fun c pc h => by
  unfold Jvm.ClassFile.Decoder.instr
  refine Eq.trans (dkbd (rdb_u1 h)) ?_
  rfl
theorem dko_192 : ohgood 192 (oh2 (fun x => .checkcast x)) := good_o2 fun c pc a b h h1 h2 => by
  unfold Jvm.ClassFile.Decoder.instr
  refine Eq.trans (dkbd (rdb_u1 h)) ?_
  exact dkbd (rdb_u2 h1 h2)
theorem dko_198 : ohgood 198 (ohq2 (fun x => .ifnull x)) := good_q2 fun c pc a b h h1 h2 => by
  unfold Jvm.ClassFile.Decoder.instr
  refine Eq.trans (dkbd (rdb_u1 h)) ?_
  exact dkbd (rdb_s2 h1 h2)
theorem dko_199 : ohgood 199 (ohq2 (fun x => .ifnonnull x)) := good_q2 fun c pc a b h h1 h2 => by
  unfold Jvm.ClassFile.Decoder.instr
  refine Eq.trans (dkbd (rdb_u1 h)) ?_
  exact dkbd (rdb_s2 h1 h2)
def dktab : List (Nat × (List UInt8 → Option (Instr × Nat))) := [(42, oh0 (.aload_n 0)), (180, oh2 (fun x => .getfield x)), (27, oh0 (.iload_n 1)), (3, oh0 (.iconst 0)), (182, oh2 (fun x => .invokevirtual x)), (21, oh1 (fun x => .iload x)), (28, oh0 (.iload_n 2)), (29, oh0 (.iload_n 3)), (43, oh0 (.aload_n 1)), (4, oh0 (.iconst 1)), (167, ohq2 (fun x => .goto x)), (46, oh0 (.iaload)), (172, oh0 (.ireturn)), (96, oh0 (.iadd)), (181, oh2 (fun x => .putfield x)), (16, ohq1 (fun x => .bipush x)), (54, oh1 (fun x => .istore x)), (25, oh1 (fun x => .aload x)), (132, ohii), (17, ohq2 (fun x => .sipush x)), (1, oh0 (.aconst_null)), (2, oh0 (.iconst (-1))), (5, oh0 (.iconst 2)), (6, oh0 (.iconst 3)), (7, oh0 (.iconst 4)), (8, oh0 (.iconst 5)), (9, oh0 (.lconst 0)), (10, oh0 (.lconst 1)), (18, oh1 (fun x => .ldc x)), (19, oh2 (fun x => .ldc_w x)), (22, oh1 (fun x => .lload x)), (26, oh0 (.iload_n 0)), (44, oh0 (.aload_n 2)), (45, oh0 (.aload_n 3)), (50, oh0 (.aaload)), (51, oh0 (.baload)), (55, oh1 (fun x => .lstore x)), (58, oh1 (fun x => .astore x)), (59, oh0 (.istore_n 0)), (60, oh0 (.istore_n 1)), (61, oh0 (.istore_n 2)), (62, oh0 (.istore_n 3)), (75, oh0 (.astore_n 0)), (76, oh0 (.astore_n 1)), (77, oh0 (.astore_n 2)), (78, oh0 (.astore_n 3)), (79, oh0 (.iastore)), (83, oh0 (.aastore)), (84, oh0 (.bastore)), (87, oh0 (.pop)), (89, oh0 (.dup)), (90, oh0 (.dup_x1)), (92, oh0 (.dup2)), (97, oh0 (.ladd)), (100, oh0 (.isub)), (104, oh0 (.imul)), (108, oh0 (.idiv)), (112, oh0 (.irem)), (116, oh0 (.ineg)), (120, oh0 (.ishl)), (122, oh0 (.ishr)), (124, oh0 (.iushr)), (126, oh0 (.iand)), (128, oh0 (.ior)), (130, oh0 (.ixor)), (133, oh0 (.i2l)), (136, oh0 (.l2i)), (148, oh0 (.lcmp)), (153, ohq2 (fun x => .ifCond .eq x)), (154, ohq2 (fun x => .ifCond .ne x)), (155, ohq2 (fun x => .ifCond .lt x)), (156, ohq2 (fun x => .ifCond .ge x)), (157, ohq2 (fun x => .ifCond .gt x)), (158, ohq2 (fun x => .ifCond .le x)), (159, ohq2 (fun x => .if_icmp .eq x)), (160, ohq2 (fun x => .if_icmp .ne x)), (161, ohq2 (fun x => .if_icmp .lt x)), (162, ohq2 (fun x => .if_icmp .ge x)), (163, ohq2 (fun x => .if_icmp .gt x)), (164, ohq2 (fun x => .if_icmp .le x)), (165, ohq2 (fun x => .if_acmp .eq x)), (166, ohq2 (fun x => .if_acmp .ne x)), (176, oh0 (.areturn)), (177, oh0 (.return_)), (178, oh2 (fun x => .getstatic x)), (183, oh2 (fun x => .invokespecial x)), (184, oh2 (fun x => .invokestatic x)), (187, oh2 (fun x => .new x)), (189, oh2 (fun x => .anewarray x)), (190, oh0 (.arraylength)), (192, oh2 (fun x => .checkcast x)), (198, ohq2 (fun x => .ifnull x)), (199, ohq2 (fun x => .ifnonnull x))]
def dkall : List (Nat × (List UInt8 → Option (Instr × Nat))) → Prop
  | [] => True
  | x :: r => ohgood x.1 x.2 ∧ dkall r
theorem dktab_ok : dkall dktab := ⟨dko_42, dko_180, dko_27, dko_3, dko_182, dko_21, dko_28, dko_29, dko_43, dko_4, dko_167, dko_46, dko_172, dko_96, dko_181, dko_16, dko_54, dko_25, dko_132, dko_17, dko_1, dko_2, dko_5, dko_6, dko_7, dko_8, dko_9, dko_10, dko_18, dko_19, dko_22, dko_26, dko_44, dko_45, dko_50, dko_51, dko_55, dko_58, dko_59, dko_60, dko_61, dko_62, dko_75, dko_76, dko_77, dko_78, dko_79, dko_83, dko_84, dko_87, dko_89, dko_90, dko_92, dko_97, dko_100, dko_104, dko_108, dko_112, dko_116, dko_120, dko_122, dko_124, dko_126, dko_128, dko_130, dko_133, dko_136, dko_148, dko_153, dko_154, dko_155, dko_156, dko_157, dko_158, dko_159, dko_160, dko_161, dko_162, dko_163, dko_164, dko_165, dko_166, dko_176, dko_177, dko_178, dko_183, dko_184, dko_187, dko_189, dko_190, dko_192, dko_198, dko_199, trivial⟩
def dkfind (k : Nat) : List (Nat × (List UInt8 → Option (Instr × Nat))) → Option (List UInt8 → Option (Instr × Nat))
  | [] => none
  | x :: r => bif Nat.beq k x.1 then some x.2 else dkfind k r
theorem dkfind_ok {k : Nat} {s : List UInt8 → Option (Instr × Nat)} : ∀ {l : List (Nat × (List UInt8 → Option (Instr × Nat)))}, dkall l → dkfind k l = some s → ohgood k s
  | [], _, e => by cases e
  | x :: r, h, e => by
    have e2 : (bif Nat.beq k x.1 then some x.2 else dkfind k r) = some s := e
    cases q : Nat.beq k x.1 with
    | true =>
      rw [q] at e2
      cases e2
      rw [Nat.eq_of_beq_eq_true q]
      exact h.1
    | false =>
      rw [q] at e2
      exact dkfind_ok h.2 e2
def dkone (l : List UInt8) : Option (Instr × Nat) :=
  match l with
  | [] => none
  | a :: r => match dkfind a.toNat dktab with
    | none => none
    | some s => s r
def dkl : List UInt8 → Nat → List (Nat × Instr × Nat) → Bool
  | _, _, [] => true
  | l, pc, x :: r => (Nat.ble pc x.1 && decide (dkone (l.drop (x.1 - pc)) = some x.2)) && dkl (l.drop (x.1 - pc)) x.1 r
theorem rdb_of {c : ByteArray} {p : Nat} {b : UInt8} (h : c.data.toList[p]? = some b) : rdb c p b.toNat := by
  obtain ⟨⟨l⟩⟩ := c
  obtain ⟨h1, h2⟩ := List.getElem?_eq_some_iff.mp h
  exact ⟨h1, congrArg UInt8.toNat h2⟩
theorem dkone_ok {c : ByteArray} {p : Nat} {y : Instr × Nat} (h : dkone (c.data.toList.drop p) = some y) : decode c p = .ok y := by
  cases q : c.data.toList.drop p with
  | nil =>
    rw [q] at h
    cases h
  | cons a r =>
    rw [q] at h
    have ha : c.data.toList[p]? = some a := by
      have w := List.getElem?_drop (xs := c.data.toList) (i := p) (j := 0)
      rw [q] at w
      exact w.symm
    have hr : ∀ j b, r[j]? = some b → rdb c (p + 1 + j) b.toNat := fun j b e => rdb_of (by
      have w := List.getElem?_drop (xs := c.data.toList) (i := p) (j := j + 1)
      rw [q] at w
      rw [show p + 1 + j = p + (j + 1) by omega, ← w]
      exact e)
    have h2 : (match dkfind a.toNat dktab with | none => none | some s => s r) = some y := h
    cases q2 : dkfind a.toNat dktab with
    | none =>
      rw [q2] at h2
      cases h2
    | some s =>
      rw [q2] at h2
      exact dkfind_ok dktab_ok q2 c p r y (rdb_of ha) hr h2
theorem dkl_ok {c : ByteArray} : ∀ (rows : List (Nat × Instr × Nat)) (l : List UInt8) (pc : Nat), l = c.data.toList.drop pc → dkl l pc rows = true → dkp c rows
  | [], _, _, _, _ => trivial
  | x :: r, l, pc, e, h => by
    have g0 : ((Nat.ble pc x.1 && decide (dkone (l.drop (x.1 - pc)) = some x.2)) && dkl (l.drop (x.1 - pc)) x.1 r) = true := h
    rw [Bool.and_eq_true, Bool.and_eq_true] at g0
    obtain ⟨⟨g1, g2⟩, g3⟩ := g0
    have le : pc ≤ x.1 := Nat.le_of_ble_eq_true g1
    have ed : l.drop (x.1 - pc) = c.data.toList.drop x.1 := by
      rw [e, List.drop_drop, show pc + (x.1 - pc) = x.1 by omega]
    rw [ed] at g2 g3
    exact ⟨dkone_ok (of_decide_eq_true g2), dkl_ok r _ _ rfl g3⟩
theorem dkf {c : ByteArray} {rows : List (Nat × Instr × Nat)} (h : dkl c.data.toList 0 rows = true) : dkp c rows := dkl_ok rows _ 0 (List.drop_zero).symm h
